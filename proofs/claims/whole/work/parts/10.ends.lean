/-! RETURNS, CALLS, AND THE WHOLE: what the abstract machine runs, the real machine runs -/
/-- 'b': may it be a call? cells never grow fewer -/
def zq (b : Bool) (σ : zW) (a : zA) : Prop := match a with
  | none => True
  | some (.inl _) => False
  | some (.inr (.inl x)) => σ.length ≤ x.2.2.2.length ∧ zsl σ ≤ zsl x.2.2.2
  | some (.inr (.inr _)) => b = true
theorem zq_none {b : Bool} {σ : zW} : zq b σ none := trivial
theorem zq_J {b : Bool} {σ : zW} {pc : Nat} {ls : zL} {st : List Value} : zq b σ (aJ pc ls st σ) := ⟨Nat.le_refl _, Nat.le_refl _⟩
theorem zq_J2 {b : Bool} {σ σ' : zW} {pc : Nat} {ls : zL} {st : List Value} (h : σ.length ≤ σ'.length ∧ zsl σ ≤ zsl σ') : zq b σ (aJ pc ls st σ') := h
theorem zq_ite {b : Bool} {σ : zW} {P : Prop} [Decidable P] {x y : zA} (hx : zq b σ x) (hy : zq b σ y) : zq b σ (if P then x else y) := by
  split
  · exact hx
  · exact hy
theorem zq_I1 {b : Bool} {σ : zW} {st : List Value} {f : Int32 → List Value → zA} (h : ∀ x r, zq b σ (f x r)) : zq b σ (zI1 st f) := by
  unfold zI1
  split
  · exact h _ _
  · trivial
theorem zq_I2 {b : Bool} {σ : zW} {st : List Value} {f : Int32 → Int32 → List Value → zA} (h : ∀ x y r, zq b σ (f x y r)) : zq b σ (zI2 st f) := by
  unfold zI2
  split
  · exact h _ _ _
  · trivial
theorem zq_J1 {b : Bool} {σ : zW} {st : List Value} {f : Int64 → List Value → zA} (h : ∀ x r, zq b σ (f x r)) : zq b σ (zJ1 st f) := by
  unfold zJ1
  split
  · exact h _ _
  · trivial
theorem zq_JJ {b : Bool} {σ : zW} {st : List Value} {f : Int64 → Int64 → List Value → zA} (h : ∀ x y r, zq b σ (f x y r)) : zq b σ (zJ2 st f) := by
  unfold zJ2
  split
  · exact h _ _ _
  · trivial
theorem zq_P1 {b : Bool} {σ : zW} {st : List Value} {f : Nat → List Value → zA} (h : ∀ x r, zq b σ (f x r)) : zq b σ (zP1 st f) := by
  unfold zP1
  split
  · exact h _ _
  · trivial
theorem zq_LI {b : Bool} {σ : zW} {ls : zL} {i : Nat} {f : Int32 → zA} (h : ∀ x, zq b σ (f x)) : zq b σ (zLI ls i f) := by
  unfold zLI
  split
  · exact h _
  · trivial
theorem zq_LJ {b : Bool} {σ : zW} {ls : zL} {i : Nat} {f : Int64 → zA} (h : ∀ x, zq b σ (f x)) : zq b σ (zLJ ls i f) := by
  unfold zLJ
  split
  · exact h _
  · trivial
theorem zq_LP {b : Bool} {σ : zW} {ls : zL} {i : Nat} {f : Nat → zA} (h : ∀ x, zq b σ (f x)) : zq b σ (zLP ls i f) := by
  unfold zLP
  split
  · exact h _
  · trivial
theorem zq_T {b : Bool} {σ : zW} {pc : Nat} {off : Int} {f : Nat → zA} (h : ∀ x, zq b σ (f x)) : zq b σ (zT pc off f) := by
  unfold zT
  split
  · exact h _
  · trivial
theorem zq_B {b : Bool} {σ : zW} {P : Prop} [Decidable P] {x y : zA} (hx : zq b σ x) (hy : zq b σ y) : zq b σ (zB P x y) := zq_ite hx hy
theorem zq_of {b : Bool} {σ : zW} {a : zA} (h : ∀ r, a = some r → zq b σ (some r)) : zq b σ a := by
  cases a with
  | none => trivial
  | some r => exact h r rfl
theorem zq_get {b : Bool} {σ : zW} {ci k : Int} {st : List Value} {f : Value → List Value → zA} (h : ∀ v r, zq b σ (f v r)) : zq b σ (zget σ ci k st f) := by
  refine zq_of fun r hr => ?_
  obtain ⟨a, st', -, ⟨-, -, -, e⟩ | ⟨-, c, fs, -, -, -, e⟩⟩ := zget_inv hr <;> (rw [← e]; exact h _ _)
theorem zq_put {b : Bool} {σ : zW} {ci k : Int} {fin ok : Bool} {st : List Value} {f : zW → List Value → zA} (h : ∀ σ' r, σ.length ≤ σ'.length ∧ zsl σ ≤ zsl σ' → zq b σ (f σ' r)) : zq b σ (zput σ ci k fin ok st f) := by
  refine zq_of fun r hr => ?_
  obtain ⟨v, a, st', c, fs, -, e2, -, -, -, -, e⟩ := zput_inv hr
  rw [← e]
  exact h _ _ ⟨by rw [List.length_set]; exact Nat.le_refl _, by rw [zsl_set e2 (by simp [zsz])]; exact Nat.le_refl _⟩
theorem zq_ald {b : Bool} {ro : zR} {σ : zW} {a : Nat} {i : Int32} {f : Value → zA} (h : ∀ v, zq b σ (f v)) : zq b σ (zald ro σ a i f) := by
  refine zq_of fun r hr => ?_
  rcases zald_inv hr with ⟨n, g, -, -, e⟩ | ⟨n, g, -, -, -, e⟩ <;> (rw [← e]; exact h _)
theorem zq_bld {b : Bool} {ro : zR} {σ : zW} {a : Nat} {i : Int32} {f : Value → zA} (h : ∀ v, zq b σ (f v)) : zq b σ (zbld ro σ a i f) := by
  refine zq_of fun r hr => ?_
  rcases zbld_inv hr with ⟨n, g, -, -, e⟩ | ⟨n, g, -, -, -, e⟩ <;> (rw [← e]; exact h _)
theorem zq_jld {b : Bool} {σ : zW} {a : Nat} {i : Int32} {f : Value → zA} (h : ∀ v, zq b σ (f v)) : zq b σ (zjld σ a i f) := by
  refine zq_of fun r hr => ?_
  obtain ⟨n, g, -, -, e⟩ := zjld_inv hr
  rw [← e]
  exact h _
theorem zq_qld {b : Bool} {σ : zW} {a : Nat} {i : Int32} {f : Value → zA} (h : ∀ v, zq b σ (f v)) : zq b σ (zqld σ a i f) := by
  refine zq_of fun r hr => ?_
  obtain ⟨t, n, g, -, -, -, e⟩ := zqld_inv hr
  rw [← e]
  exact h _
theorem zq_len {b : Bool} {ro : zR} {σ : zW} {a : Nat} {f : Int32 → zA} (h : ∀ v, zq b σ (f v)) : zq b σ (zlen ro σ a f) := by
  refine zq_of fun r hr => ?_
  rcases zlen_inv hr with ⟨t, x, -, -, e⟩ | ⟨t, n, g, -, -, e⟩ <;> (rw [← e]; exact h _)
theorem zq_ast {b : Bool} {σ : zW} {a : Nat} {i x : Int32} {f : zW → zA} (h : ∀ σ', σ.length ≤ σ'.length ∧ zsl σ ≤ zsl σ' → zq b σ (f σ')) : zq b σ (zast σ a i x f) := by
  refine zq_of fun r hr => ?_
  obtain ⟨n, g, e2, -, e⟩ := zast_inv hr
  rw [← e]
  exact h _ ⟨by rw [List.length_set]; exact Nat.le_refl _, by rw [zsl_set e2 (by rfl)]; exact Nat.le_refl _⟩
theorem zq_bst {b : Bool} {σ : zW} {a : Nat} {i x : Int32} {f : zW → zA} (h : ∀ σ', σ.length ≤ σ'.length ∧ zsl σ ≤ zsl σ' → zq b σ (f σ')) : zq b σ (zbst σ a i x f) := by
  refine zq_of fun r hr => ?_
  obtain ⟨n, g, e2, -, e⟩ := zbst_inv hr
  rw [← e]
  exact h _ ⟨by rw [List.length_set]; exact Nat.le_refl _, by rw [zsl_set e2 (by rfl)]; exact Nat.le_refl _⟩
theorem zq_jst {b : Bool} {σ : zW} {a : Nat} {i : Int32} {x : Int64} {f : zW → zA} (h : ∀ σ', σ.length ≤ σ'.length ∧ zsl σ ≤ zsl σ' → zq b σ (f σ')) : zq b σ (zjst σ a i x f) := by
  refine zq_of fun r hr => ?_
  obtain ⟨n, g, e2, -, e⟩ := zjst_inv hr
  rw [← e]
  exact h _ ⟨by rw [List.length_set]; exact Nat.le_refl _, by rw [zsl_set e2 (by rfl)]; exact Nat.le_refl _⟩
theorem zq_qst {b : Bool} {σ : zW} {a : Nat} {i : Int32} {v : Nat} {f : zW → zA} (h : ∀ σ', σ.length ≤ σ'.length ∧ zsl σ ≤ zsl σ' → zq b σ (f σ')) : zq b σ (zqst σ a i v f) := by
  refine zq_of fun r hr => ?_
  obtain ⟨t, n, g, -, e2, -, -, -, e⟩ := zqst_inv hr
  rw [← e]
  exact h _ ⟨by rw [List.length_set]; exact Nat.le_refl _, by rw [zsl_set e2 (by rfl)]; exact Nat.le_refl _⟩
theorem zq_cpy {b : Bool} {ro : zR} {σ : zW} {st : List Value} {f : zW → List Value → zA} (h : ∀ σ' r, σ.length ≤ σ'.length ∧ zsl σ ≤ zsl σ' → zq b σ (f σ' r)) : zq b σ (zcpy σ ro st f) := by
  refine zq_of fun r hr => ?_
  obtain ⟨n, dp, bb, sp, a, st', m0, g, k0, hh, -, e2, -, -, -, -, -, -, -, e⟩ := zcpy_inv hr
  rw [← e]
  exact h _ _ ⟨by rw [List.length_set]; exact Nat.le_refl _, by rw [zsl_set e2 (by rfl)]; exact Nat.le_refl _⟩
theorem zle_push (σ : zW) (c : zC) : σ.length ≤ (σ ++ [c]).length ∧ zsl σ ≤ zsl (σ ++ [c]) := ⟨by rw [List.length_append]; omega, by rw [zsl_push]; omega⟩
theorem zq_nwa {b : Bool} {σ : zW} {st : List Value} {t : Nat} {f : List Value → zW → zA} (h : ∀ r σ', σ.length ≤ σ'.length ∧ zsl σ ≤ zsl σ' → zq b σ (f r σ')) : zq b σ (znwa σ st t f) := by
  refine zq_of fun r hr => ?_
  obtain ⟨n, r', -, -, -, -, e⟩ := znwa_inv hr
  rw [← e]
  exact h _ _ (zle_push σ _)
theorem zq_call {σ : zW} {d mi n pc : Nat} {ls : zL} {st : List Value} {ok : Nat → Bool} : zq true σ (zcall d mi n pc ls st ok) := by
  unfold zcall
  split
  · split
    · exact rfl
    · trivial
  · trivial
theorem zq_callS {σ : zW} {d mi n pc : Nat} {ls : zL} {st : List Value} : zq true σ (zcallS d mi n pc ls st) := by
  unfold zcallS
  split
  · exact rfl
  · trivial
def zki : Instr → Nat
  | .invokespecial _ | .invokestatic _ | .invokevirtual _ => 1
  | .ireturn | .lreturn | .areturn | .return_ => 2
  | _ => 0
set_option maxHeartbeats 4000000 in
set_option maxRecDepth 10000 in
theorem zact_q {ro : zR} {d mi pc : Nat} {q : Instr × Nat × List Int} {ls : zL} {st : List Value} {σ : zW} (hne : zki q.1 ≠ 2) : zq (zki q.1 == 1) σ (zact ro d mi pc q ls st σ) := by
  obtain ⟨ins, len, aux⟩ := q
  cases ins
  case ifCond c off => cases c <;> (unfold zact; dsimp only; exact zq_I1 fun _ _ => zq_T fun _ => zq_B zq_J zq_J)
  case if_icmp c off => cases c <;> (unfold zact; dsimp only; exact zq_I2 fun _ _ _ => zq_T fun _ => zq_B zq_J zq_J)
  case newarray t => cases t <;> (unfold zact; dsimp only; first | exact trivial | (split <;> first | exact trivial | exact zq_nwa fun _ _ h => zq_J2 h))
  case ireturn => exact absurd rfl hne
  case lreturn => exact absurd rfl hne
  case areturn => exact absurd rfl hne
  case return_ => exact absurd rfl hne
  all_goals (unfold zact; dsimp only; repeat' (first | exact trivial | exact zq_J | exact zq_none | (exact zq_J2 (by assumption)) | (exact zq_J2 (zle_push _ _)) | exact zq_call | exact zq_callS | refine zq_I1 fun _ _ => ?_ | refine zq_I2 fun _ _ _ => ?_ | refine zq_J1 fun _ _ => ?_ | refine zq_JJ fun _ _ _ => ?_ | refine zq_P1 fun _ _ => ?_ | refine zq_LI fun _ => ?_ | refine zq_LJ fun _ => ?_ | refine zq_LP fun _ => ?_ | refine zq_T fun _ => ?_ | refine zq_get fun _ _ => ?_ | refine zq_put fun _ _ _ => ?_ | refine zq_ald fun _ => ?_ | refine zq_bld fun _ => ?_ | refine zq_jld fun _ => ?_ | refine zq_qld fun _ => ?_ | refine zq_len fun _ => ?_ | refine zq_ast fun _ _ => ?_ | refine zq_bst fun _ _ => ?_ | refine zq_jst fun _ _ => ?_ | refine zq_qst fun _ _ => ?_ | refine zq_cpy fun _ _ _ => ?_ | refine zq_ite ?_ ?_ | split))
theorem zret_noJ {ro : zR} {d mi pc : Nat} {q : Instr × Nat × List Int} {ls : zL} {st : List Value} {σ : zW} {x} (hk : zki q.1 = 2) : ¬ zact ro d mi pc q ls st σ = some (.inr x) := by
  intro h
  obtain ⟨ins, len, aux⟩ := q
  cases ins
  case ireturn => unfold zact at h; dsimp only at h; split at h; · obtain ⟨-, h⟩ := ite_inv h; cases h
                  · cases h
  case lreturn => unfold zact at h; dsimp only at h; split at h <;> cases h
  case areturn => unfold zact at h; dsimp only at h; split at h <;> cases h
  case return_ => unfold zact at h; dsimp only at h; split at h <;> cases h
  all_goals (simp [zki] at hk)
theorem zrun_le {ro : zR} : ∀ (n d mi pc : Nat) (ls : zL) (st : List Value) (σ : zW) (ov : Option Value) (σ' : zW), zrun ro n d mi pc ls st σ = some (ov, σ') → σ.length ≤ σ'.length ∧ zsl σ ≤ zsl σ' := by
  intro n
  induction n with
  | zero => intro d mi pc ls st σ ov σ' h; cases h
  | succ n ih =>
    intro d mi pc ls st σ ov σ' h
    simp only [zrun] at h
    split at h
    · cases h
    · rename_i q hq
      split at h
      · cases h
      · cases h
        exact ⟨Nat.le_refl _, Nat.le_refl _⟩
      · rename_i pc' ls' st' σ1 ha
        have hk : zki q.1 ≠ 2 ∨ zki q.1 = 2 := by omega
        rcases hk with hk | hk
        · have h1 := zact_q (ro := ro) (d := d) (mi := mi) (pc := pc) (ls := ls) (st := st) (σ := σ) hk
          rw [ha] at h1
          have h2 := ih _ _ _ _ _ _ _ _ h
          have h3 : σ.length ≤ σ1.length ∧ zsl σ ≤ zsl σ1 := h1
          omega
        · exact absurd ha (zret_noJ hk)
      · rename_i d' m' as pc' ls' st' ha
        split at h
        · cases h
        · rename_i ov1 σ1 h1
          have h2 := ih _ _ _ _ _ _ _ _ h1
          have h3 := ih _ _ _ _ _ _ _ _ h
          omega

/-- what stands at a method's end -/
def zend (mi pc : Nat) (ov : Option Value) : Prop :=
  (ov = none ∧ mR mi = none ∧ decode (mB mi) pc = .ok (.return_, 1)) ∨ (∃ x t, ov = some (.int x) ∧ mR mi = some t ∧ zret t x = true ∧ decode (mB mi) pc = .ok (.ireturn, 1)) ∨
  (∃ x, ov = some (.long x) ∧ mR mi = some .long ∧ decode (mB mi) pc = .ok (.lreturn, 1)) ∨ (∃ v nm, ov = some v ∧ (v = .null ∨ ∃ k, v = .ref k) ∧ mR mi = some (.object nm) ∧ decode (mB mi) pc = .ok (.areturn, 1))
theorem zact_ret {ro : zR} {d mi pc : Nat} {q : Instr × Nat × List Int} {ls : zL} {st : List Value} {σ : zW} {ov : Option Value} (hq : zF mi pc = some q) (hmi : mi < 217) (h : zact ro d mi pc q ls st σ = some (.inl ov)) : zend mi pc ov ∧ st = ov.toList := by
  by_cases hk : zki q.1 = 2
  · have hr := zrow hq hmi
    obtain ⟨ins, len, aux⟩ := q
    cases ins
    case ireturn =>
      unfold zact at h
      dsimp only at h
      split at h
      · rename_i x t e
        obtain ⟨h1, h⟩ := ite_inv h
        cases h
        exact ⟨Or.inr (Or.inl ⟨x, t, rfl, e, h1, zdec hr (Nat.succ_ne_zero _)⟩), rfl⟩
      · cases h
    case lreturn =>
      unfold zact at h
      dsimp only at h
      split at h
      · rename_i x e
        cases h
        exact ⟨Or.inr (Or.inr (Or.inl ⟨x, rfl, e, zdec hr (Nat.succ_ne_zero _)⟩)), rfl⟩
      · cases h
    case areturn =>
      unfold zact at h
      dsimp only at h
      split at h
      · rename_i k nm e
        cases h
        exact ⟨Or.inr (Or.inr (Or.inr ⟨_, nm, rfl, Or.inr ⟨k, rfl⟩, e, zdec hr (Nat.succ_ne_zero _)⟩)), rfl⟩
      · rename_i nm e
        cases h
        exact ⟨Or.inr (Or.inr (Or.inr ⟨_, nm, rfl, Or.inl rfl, e, zdec hr (Nat.succ_ne_zero _)⟩)), rfl⟩
      · cases h
    case return_ =>
      unfold zact at h
      dsimp only at h
      split at h
      · rename_i e
        cases h
        exact ⟨Or.inl ⟨rfl, e, zdec hr (Nat.succ_ne_zero _)⟩, rfl⟩
      · cases h
    all_goals (simp [zki] at hk)
  · have h1 := zact_q (ro := ro) (d := d) (mi := mi) (pc := pc) (ls := ls) (st := st) (σ := σ) hk
    rw [h] at h1
    exact h1.elim

theorem zcl_of {σ : zW} {b : Nat} (h : zcl σ b < 13) : ∃ (fs : List Value) (q : vw_C), σ[b]? = some (.inr (zcl σ b, fs)) ∧ vwCl[zcl σ b]? = some q := by
  have h2 : ∃ fs, σ[b]? = some (.inr (zcl σ b, fs)) := by
    unfold zcl at h ⊢
    split at h
    · rename_i cc fs ee
      rw [ee]
      exact ⟨fs, rfl⟩
    · omega
  obtain ⟨fs, h2⟩ := h2
  exact ⟨fs, _, h2, List.getElem?_eq_getElem (by exact h)⟩
theorem zis_of {σ : zW} {ci b : Nat} (h : zis σ ci b = true) : ∃ fs, σ[b]? = some (.inr (ci, fs)) := by
  unfold zis at h
  split at h
  · rename_i cc fs ee
    rw [ee]
    exact ⟨fs, by rw [eq_of_beq h]⟩
  · cases h
theorem zvt_desc : zvt.all (fun r => (mN (r.getD 0 0)).desc == (mN (r.getD 2 0)).desc) = true := by decide +kernel
theorem zvt_ok {n mm b : Nat} {σ : zW} {row : List Nat}
    (h : zvt.all (fun r => match r with
    | [dm, ci, tm, wS, wT, wI, wC, wM, wD, wE] => !(dm == mm) || (zcw tm n wI wC && (match vwCl[ci]? with
      | some q => zg wS (.selects q.1 (mN dm) (mN tm))
      | none => false) && zg wT (.instanceMethod (mN tm)) && zg wM (.sameMethod (mN dm).cls (mN dm).cls (mN dm).name (mN dm).desc) && zg wD (.instanceMethod ⟨(mN dm).cls, (mN dm).name, (mN dm).desc⟩) && zg wE (.code ⟨(mN dm).cls, (mN dm).name, (mN dm).desc⟩ (mB dm) (mL dm) (mR dm)))
    | _ => false) = true) (hrow : zvrow mm (zcl σ b) = some row) :
    ∃ (fs : List Value) (q : vw_C), σ[b]? = some (.inr (zcl σ b, fs)) ∧ vwCl[zcl σ b]? = some q ∧ ∃ tm, row.getD 2 0 = tm ∧ (mN mm).desc = (mN tm).desc ∧ (∃ ini cw, zcw tm n ini cw = true) ∧ Cond.selects q.1 (mN mm) (mN tm) ∈ zG ∧ Cond.instanceMethod (mN tm) ∈ zG ∧ Cond.sameMethod (mN mm).cls (mN mm).cls (mN mm).name (mN mm).desc ∈ zG ∧ Cond.instanceMethod ⟨(mN mm).cls, (mN mm).name, (mN mm).desc⟩ ∈ zG ∧ Cond.code ⟨(mN mm).cls, (mN mm).name, (mN mm).desc⟩ (mB mm) (mL mm) (mR mm) ∈ zG := by
  unfold zvrow at hrow
  have h1 := List.mem_of_find?_eq_some hrow
  have h2 := List.find?_some hrow
  have h3 := List.all_eq_true.mp h row h1
  have h4 := List.all_eq_true.mp zvt_desc row h1
  simp only [Bool.and_eq_true, beq_iff_eq] at h2
  split at h3
  · rename_i dm ci tm wS wT wI wC wM wD wE
    have e1 : dm = mm := h2.1
    have e2 : ci = zcl σ b := h2.2
    subst e1
    simp only [beq_self_eq_true, Bool.not_true, Bool.false_or, Bool.and_eq_true] at h3
    obtain ⟨⟨⟨⟨⟨g1, g2⟩, g3⟩, g4⟩, g5⟩, g6⟩ := h3
    split at g2
    · rename_i q hq
      rw [e2] at hq
      have hlt : zcl σ b < 13 := (List.getElem?_eq_some_iff.mp hq).1
      obtain ⟨fs, q', f1, f2⟩ := zcl_of hlt
      rw [hq] at f2
      cases f2
      exact ⟨fs, q, f1, hq, tm, rfl, by simpa using h4, ⟨wI, wC, g1⟩, zg_in g2, zg_in g3, zg_in g4, zg_in g5, zg_in g6⟩
    · cases g2
  · cases h3
