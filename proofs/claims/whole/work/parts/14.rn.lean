/-! THE ABSTRACT MACHINE WITHOUT FUEL: rn is what zrun answers with enough of it; an equation an instruction -/
theorem zrun_mono {ro : zR} : ∀ (n d mi pc : Nat) (ls : zL) (st : List Value) (σ : zW) (r : Option Value × zW), zrun ro n d mi pc ls st σ = some r → zrun ro (n + 1) d mi pc ls st σ = some r := by
  intro n
  induction n with
  | zero => intro d mi pc ls st σ r h; cases h
  | succ n ih =>
    intro d mi pc ls st σ r h
    rw [zrun] at h
    rw [zrun]
    split at h
    · cases h
    · rename_i q hq
      split at h
      · cases h
      · exact h
      · exact ih _ _ _ _ _ _ _ h
      · split at h
        · cases h
        · rename_i ov1 σ1 h1
          rw [ih _ _ _ _ _ _ _ h1]
          exact ih _ _ _ _ _ _ _ h
theorem zrun_monoK {ro : zR} {n d mi pc : Nat} {ls : zL} {st : List Value} {σ : zW} {r : Option Value × zW} (h : zrun ro n d mi pc ls st σ = some r) : ∀ k, zrun ro (n + k) d mi pc ls st σ = some r := by
  intro k
  induction k with
  | zero => exact h
  | succ k ih => exact zrun_mono _ _ _ _ _ _ _ _ ih

noncomputable def rn (ro : zR) (d mi pc : Nat) (ls : zL) (st : List Value) (σ : zW) : zO := @dite _ (∃ n, (zrun ro n d mi pc ls st σ).isSome = true) (Classical.propDecidable _) (fun h => zrun ro (Classical.choose h) d mi pc ls st σ) (fun _ => none)
theorem rn_of {ro : zR} {n d mi pc : Nat} {ls : zL} {st : List Value} {σ : zW} {r : Option Value × zW} (h : zrun ro n d mi pc ls st σ = some r) : rn ro d mi pc ls st σ = some r := by
  have hx : ∃ n, (zrun ro n d mi pc ls st σ).isSome = true := ⟨n, by rw [h]; rfl⟩
  unfold rn
  rw [dif_pos hx]
  have h1 := Classical.choose_spec hx
  obtain ⟨r', h2⟩ := Option.isSome_iff_exists.mp h1
  rw [h2]
  have e1 := zrun_monoK h2 n
  have e2 := zrun_monoK h (Classical.choose hx)
  rw [Nat.add_comm] at e2
  exact e1.symm.trans e2
theorem rn_to {ro : zR} {d mi pc : Nat} {ls : zL} {st : List Value} {σ : zW} {r : Option Value × zW} (h : rn ro d mi pc ls st σ = some r) : ∃ n, zrun ro n d mi pc ls st σ = some r := by
  unfold rn at h
  split at h
  · exact ⟨_, h⟩
  · cases h
noncomputable def rk (ro : zR) (d mi : Nat) (σ : zW) (a : zA) : zO := match a with
  | none => none
  | some (.inl ov) => some (ov, σ)
  | some (.inr (.inl (pc', ls', st', σ'))) => rn ro d mi pc' (zpr mi pc' ls') st' σ'
  | some (.inr (.inr (d', m', as, pc', ls', st'))) => match rn ro d' m' 0 (lv_args 0 as) [] σ with
    | none => none
    | some (ov, σ1) => rn ro d mi pc' (zpr mi pc' ls') (ov.toList ++ st') σ1
theorem rn_eq {ro : zR} {d mi pc : Nat} {q : Instr × Nat × List Int} (hq : zF mi pc = some q) (ls : zL) (st : List Value) (σ : zW) : rn ro d mi pc ls st σ = rk ro d mi σ (zact ro d mi pc q ls st σ) := by
  have e : ∀ r, rn ro d mi pc ls st σ = some r ↔ rk ro d mi σ (zact ro d mi pc q ls st σ) = some r := by
    intro r
    constructor
    · intro h
      obtain ⟨n, h⟩ := rn_to h
      cases n with
      | zero => cases h
      | succ n =>
        rw [zrun, hq] at h
        dsimp only at h
        unfold rk
        split at h
        · cases h
        · rename_i ov ha
          rw [ha]
          exact h
        · rename_i ha
          rw [ha]
          exact rn_of h
        · rename_i d' m' as pc' ls' st' ha
          rw [ha]
          dsimp only
          split at h
          · cases h
          · rename_i ov1 σ1 h1
            rw [rn_of h1]
            exact rn_of h
    · intro h
      unfold rk at h
      split at h
      · cases h
      · rename_i ov ha
        exact rn_of (n := 1) (by rw [zrun, hq]; dsimp only; rw [ha]; exact h)
      · rename_i ha
        obtain ⟨n, h⟩ := rn_to h
        exact rn_of (n := n + 1) (by rw [zrun, hq]; dsimp only; rw [ha]; exact h)
      · rename_i d' m' as pc' ls' st' ha
        split at h
        · cases h
        · rename_i ov1 σ1 h1
          obtain ⟨n1, h1⟩ := rn_to h1
          obtain ⟨n2, h⟩ := rn_to h
          refine rn_of (n := n1 + n2 + 1) ?_
          rw [zrun, hq]
          dsimp only
          rw [ha]
          dsimp only
          rw [zrun_monoK h1 n2]
          dsimp only
          rw [Nat.add_comm n1 n2]
          exact zrun_monoK h n1
  cases h : rk ro d mi σ (zact ro d mi pc q ls st σ) with
  | some r => exact (e r).mpr h
  | none =>
    cases h2 : rn ro d mi pc ls st σ with
    | none => rfl
    | some r => rw [(e r).mp h2] at h; cases h
