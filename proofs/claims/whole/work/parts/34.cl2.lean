/-! A CLEARING'S TRIES, COPIES, BEGINNING over numbers -/
theorem pC_cU (X : Nat → Nat → Int32) (k i : Nat) (V : Nat → Int32) (x : Int32) : cU X k (upd V i x) = pC (cU X k V) k i x := by
  funext k' i'
  show (if k' = k then upd V i x else X k') i' = (if k' = k ∧ i' = i then x else (if k' = k then V else X k') i')
  by_cases e : k' = k
  · subst e
    rw [if_pos rfl, if_pos rfl]
    show (if i' = i then x else V i') = _
    simp only [true_and]
  · rw [if_neg e, if_neg (fun z => e z.1), if_neg e]
theorem cU_self' {X : Nat → Nat → Int32} {k : Nat} {V : Nat → Int32} (h : X k = V) : cU X k V = X := by
  rw [← h, cU_self]
section CL2
variable {ro : zR} {σ : zW} {o : Nat} {C : Nat → Nat → Int32} {a : Nat → Nat}
theorem jf_4 : ∀ j, j < 83 → 55 ≤ j → jf (j + 4) = jf j + 4 ∧ jf j < 28 ∧ kf (j + 4) = 9 ∧ kf j = 9 := by decide +kernel
theorem kf_55 : ∀ j, j < 55 → j ≠ 6 → kf j ≠ 9 ∧ ¬ (kf j = 0 ∧ jf j = 17) := by decide +kernel
theorem remN_k (C : Nat → Nat → Int32) (u : Nat) {k i : Nat} (h9 : k ≠ 9) (h : ¬ (k = 0 ∧ i = 17)) : remN C u k i = C k i := by
  have e : ∀ (D : Nat → Nat → Int32) (v : Nat), remC D v k i = D k i := by
    intro D v
    show (if k = 0 then upd (D 0) 17 (iZ ((v + 1 : Nat) : Int)) else if k = 9 then _ else D k) i = D k i
    by_cases e0 : k = 0
    · subst e0
      rw [if_pos rfl]
      exact if_neg fun z => h ⟨rfl, z⟩
    · rw [if_neg e0, if_neg h9]
  unfold remN
  split
  · rw [e]
    show (if k = 0 then upd (C 0) 17 7 else if k = 9 then _ else C k) i = C k i
    by_cases e0 : k = 0
    · subst e0
      rw [if_pos rfl]
      exact if_neg fun z => h ⟨rfl, z⟩
    · rw [if_neg e0, if_neg h9]
  · rw [e]
theorem remN_8 (C : Nat → Nat → Int32) {i : Nat} (h : i < 28) : remN C 8 9 i = C 9 (i + 4) := by
  show upd (upd (upd (upd (va_cpy (C 9) (C 9) 4 0 28) 28 (C 0 12)) 29 (C 0 13)) 30 (C 0 14)) 31 (C 0 15) i = C 9 (i + 4)
  simp only [upd_at]
  rw [if_neg (by omega), if_neg (by omega), if_neg (by omega), if_neg (by omega)]
  show (if 0 ≤ i ∧ i < 0 + 28 then C 9 (4 + (i - 0)) else C 9 i) = _
  rw [if_pos (by omega)]
  congr 1
  omega
theorem remA_o (h : a 6 ≠ 8) : remA a = nU (nU (nU (nU (nU a (56 + 4 * a 6) (a 2)) (57 + 4 * a 6) (a 3)) (55 + 4 * a 6) (a 1)) (58 + 4 * a 6) (a 7)) 6 (a 6 + 1) := by
  unfold remA
  rw [if_neg h]
  funext j
  simp only [nU_at]
  split
  · rfl
  · split
    · rfl
    · split
      · first | rfl | rw [if_neg (by omega)]
      · split
        · first | rfl | rw [if_neg (by omega)]
        · split
          · rfl
          · rfl
theorem rel_rem (R : Rel C a) (g : Good a) : Rel (remN C (a 6)) (remA a) := by
  have n6 := g.n6
  have l0 := remA_l g (j := 0) (by decide) (by decide)
  have l4 := remA_l g (j := 4) (by decide) (by decide)
  have l5 := remA_l g (j := 5) (by decide) (by decide)
  have l6 := remA_6 g
  by_cases e8 : a 6 = 8
  · intro j hj hl
    unfold live at hl
    rw [l0, l4, l5, l6, if_pos e8] at hl
    rw [e8]
    by_cases e6 : j = 6
    · subst e6
      rw [l6, if_pos e8]
      rfl
    · by_cases e : j < 55
      · rw [remA_l g e e6, remN_k C 8 (kf_55 j e e6).1 (kf_55 j e e6).2]
        exact R j hj (by unfold live; omega)
      · unfold remA
        rw [if_pos e8]
        by_cases e83 : j < 83
        · have q := jf_4 j e83 (by omega)
          rw [if_neg (by omega), if_neg (by omega), if_neg (by omega), if_neg (by omega), if_pos (by omega), q.2.2.2, remN_8 C q.2.1]
          have r := R (j + 4) (by omega) (by unfold live; omega)
          rwa [q.1, q.2.2.1] at r
        · rcases (show j = 83 ∨ j = 84 ∨ j = 85 ∨ j = 86 by omega) with rfl | rfl | rfl | rfl
          · exact R.c1
          · exact R.c2
          · exact R.c3
          · exact R.c7
  · rw [remA_o e8]
    unfold remN
    rw [if_neg e8]
    have k := kj_w (a 6) (by omega)
    have p1 := RelL.put R (j := 56 + 4 * a 6) (by omega) (a 2) k.2.1.1 k.2.1.2
    have p2 := RelL.put p1 (j := 57 + 4 * a 6) (by omega) (a 3) k.2.2.1.1 k.2.2.1.2
    have p3 := RelL.put p2 (j := 55 + 4 * a 6) (by omega) (a 1) k.1.1 k.1.2
    have p4 := RelL.put p3 (j := 58 + 4 * a 6) (by omega) (a 7) k.2.2.2.1 k.2.2.2.2
    have p5 := RelL.put p4 (j := 6) (by omega) (a 6 + 1) (k := 0) (i := 17) rfl rfl
    rw [← R.c1, ← R.c2, ← R.c3, ← R.c7] at p5
    have e : remC C (a 6) = pC (pC (pC (pC (pC C 9 (4 * a 6) (C 0 12)) 9 (4 * a 6 + 1) (C 0 13)) 9 (4 * a 6 + 2) (C 0 14)) 9 (4 * a 6 + 3) (C 0 15)) 0 17 (iZ ((a 6 + 1 : Nat) : Int)) := by
      unfold remC
      rw [pC_cU C 9, pC_cU C 9, pC_cU C 9, pC_cU C 9, cU_self C 9]
      rw [pC_cU _ 0]
      exact congrArg (fun X => pC X 0 17 (iZ ((a 6 + 1 : Nat) : Int))) (cU_self' (V := C 0) (funext fun i => rfl))
    rw [e]
    refine p5.mono fun j hj hl => ?_
    unfold live at hl ⊢
    rw [nU_n (by omega), nU_n (by omega), nU_n (by omega), nU_n (by omega), nU_n (by omega), nU_n (by omega), nU_n (by omega), nU_n (by omega), nU_n (by omega), nU_n (by omega), nU_n (by omega), nU_n (by omega), nU_n (by omega), nU_n (by omega), nU_n (by omega), nU_s] at hl
    omega
theorem c15 (R : Rel C a) (g : Good a) : C 0 15 = 0 ∨ C 0 15 = 1 := by
  have n7 := g.n7
  rw [R.c7]
  rcases (show a 7 = 0 ∨ a 7 = 1 by omega) with e | e <;> rw [e]
  · exact Or.inl rfl
  · exact Or.inr rfl
theorem z01 {x : Nat} (h : x ≤ 1) : iZ x = 0 ∨ iZ x = 1 := by
  rcases (show x = 0 ∨ x = 1 by omega) with e | e <;> rw [e]
  · exact Or.inl rfl
  · exact Or.inr rfl
theorem clT (h : ClAt σ o C) (R : Rel C a) (g : Good a) {l f : Nat} (hl : l ≤ 1) (hf : f ≤ 1) : ∃ C', rm ro 16 [.ref o, .int (iZ l), .int (iZ f)] σ = some (some (.int (iZ (oT a l f).1)), clW σ o C') ∧ Rel C' (oT a l f).2 := by
  have n0 := g.n0
  have n1 := g.n1
  have n7 := g.n7
  have e1 : iZ (a 1) + 1 = iZ ((a 1 + 1 : Nat) : Int) := by
    rw [iZ_1, iZ_add]
    congr 1
  rw [sp_tryNext h R.c6 g.n6 (c15 R g) _ (z01 hf), R.c0, R.c1, R.c7, iZ_sub]
  simp only [i_eqk 0 0 rfl (by omega) (show -2147483648 ≤ (f : Int) ∧ (f : Int) < 2147483648 by omega), i_eqk 0 0 rfl (by omega) (show -2147483648 ≤ (l : Int) ∧ (l : Int) < 2147483648 by omega), i_eqk 0 0 rfl (by omega) (show -2147483648 ≤ (a 7 : Int) ∧ (a 7 : Int) < 2147483648 by omega), i_ltk 1 1 rfl (by omega) (show -2147483648 ≤ (a 0 : Int) - (a 1 : Int) ∧ (a 0 : Int) - (a 1 : Int) < 2147483648 by omega), ne_eq]
  unfold oT
  by_cases q : f ≠ 0 ∧ l = 0
  · rw [if_pos q, if_pos (by omega)]
    refine ⟨C, ?_, R⟩
    rw [clW_self h]
    rfl
  · rw [if_neg q, if_neg (by omega)]
    by_cases q1 : a 7 ≠ 0 ∨ a 1 = a 0
    · rw [if_pos q1, if_pos (by omega)]
      refine ⟨C, ?_, R⟩
      rw [clW_self h]
      rfl
    · rw [if_neg q1, if_neg (by omega), e1, pC_cU, pC_cU, cU_self]
      refine ⟨_, rfl, ?_⟩
      have p1 := RelL.put (rel_rem R g) (j := 7) (by omega) f (k := 0) (i := 15) rfl rfl
      have p2 := RelL.put p1 (j := 1) (by omega) (a 1 + 1) (k := 0) (i := 14) rfl rfl
      exact p2.mono fun j hj hl => Or.inl (Or.inl (live_nU (live_nU hl (by decide) (by decide) (by decide) (by decide)) (by decide) (by decide) (by decide) (by decide)))
theorem clR (h : ClAt σ o C) (R : Rel C a) (g : Good a) : ∃ C', rm ro 17 [.ref o] σ = some (some (.int (iZ (oR a).1)), clW σ o C') ∧ Rel C' (oR a).2 := by
  have n11 := g.n11
  have n2 := g.n2
  have n3 := g.n3
  have n7 := g.n7
  have e1 : iZ (a 3) + 1 = iZ ((a 3 + 1 : Nat) : Int) := by
    rw [iZ_1, iZ_add]
    congr 1
  have e2 : (if iZ (a 2) + 1 < 5 then iZ (a 2) + 1 else 5) = iZ ((if a 2 < 5 then a 2 + 1 else 5 : Nat) : Int) := by
    rw [iZ_1, iZ_add]
    simp only [i_ltk 5 5 rfl (by omega) (show -2147483648 ≤ (a 2 : Int) + 1 ∧ (a 2 : Int) + 1 < 2147483648 by omega)]
    by_cases q : a 2 + 1 < 5
    · rw [if_pos (by omega), if_pos (by omega)]
      congr 1
    · rw [if_neg (by omega)]
      by_cases q4 : a 2 = 4
      · rw [q4]
        rfl
      · rw [if_neg (by omega)]
        rfl
  have c11 : C 1 3 = iZ (a 11) := R.g (i := 3) (by decide)
  rw [sp_getReady h R.c6 g.n6 (c15 R g), R.c2, R.c3, R.c7, c11, iZ_sub, e2, e1]
  simp only [i_eqk 0 0 rfl (by omega) (show -2147483648 ≤ (a 7 : Int) ∧ (a 7 : Int) < 2147483648 by omega), i_ltk 1 1 rfl (by omega) (show -2147483648 ≤ (a 11 : Int) - (a 3 : Int) ∧ (a 11 : Int) - (a 3 : Int) < 2147483648 by omega), ne_eq]
  unfold oR
  by_cases q1 : a 7 ≠ 0 ∨ a 11 ≤ a 3
  · rw [if_pos q1, if_pos (by omega)]
    refine ⟨C, ?_, R⟩
    rw [clW_self h]
    rfl
  · rw [if_neg q1, if_neg (by omega), pC_cU, pC_cU, cU_self]
    refine ⟨_, rfl, ?_⟩
    have p1 := RelL.put (rel_rem R g) (j := 2) (by omega) (if a 2 < 5 then a 2 + 1 else 5) (k := 0) (i := 12) rfl rfl
    have p2 := RelL.put p1 (j := 3) (by omega) (a 3 + 1) (k := 0) (i := 13) rfl rfl
    exact p2.mono fun j hj hl => Or.inl (Or.inl (live_nU (live_nU hl (by decide) (by decide) (by decide) (by decide)) (by decide) (by decide) (by decide) (by decide)))
theorem clU (h : ClAt σ o C) (R : Rel C a) (g : Good a) : ∃ C', rm ro 19 [.ref o] σ = some (some (.int (iZ (oU a).1)), clW σ o C') ∧ Rel C' (oU a).2 := by
  have n6 := g.n6
  rw [sp_stepBack h R.c6 n6]
  unfold oU
  by_cases q : a 6 = 0
  · rw [if_pos q, if_pos q]
    refine ⟨C, ?_, R⟩
    rw [clW_self h]
    rfl
  · rw [if_neg q, if_neg q]
    have w := R.w n6 (i := a 6 - 1) (by omega)
    have gw := g.w (i := a 6 - 1) (by omega)
    rw [show 55 + 4 * (a 6 - 1) = 51 + 4 * a 6 by omega, show 56 + 4 * (a 6 - 1) = 52 + 4 * a 6 by omega, show 57 + 4 * (a 6 - 1) = 53 + 4 * a 6 by omega, show 58 + 4 * (a 6 - 1) = 54 + 4 * a 6 by omega] at w gw
    have e3 : (if C 9 (4 * (a 6 - 1) + 3) = 1 then 1 else 0) = iZ (a (54 + 4 * a 6)) := by
      rw [w.2.2.2]
      rcases (show a (54 + 4 * a 6) = 0 ∨ a (54 + 4 * a 6) = 1 by omega) with e | e <;> rw [e] <;> rfl
    rw [e3, w.1, w.2.1, w.2.2.1, pC_cU, pC_cU, pC_cU, pC_cU, pC_cU, cU_self]
    refine ⟨_, rfl, ?_⟩
    have p1 := RelL.put R (j := 6) (by omega) (a 6 - 1) (k := 0) (i := 17) rfl rfl
    have p2 := RelL.put p1 (j := 2) (by omega) (a (52 + 4 * a 6)) (k := 0) (i := 12) rfl rfl
    have p3 := RelL.put p2 (j := 3) (by omega) (a (53 + 4 * a 6)) (k := 0) (i := 13) rfl rfl
    have p4 := RelL.put p3 (j := 1) (by omega) (a (51 + 4 * a 6)) (k := 0) (i := 14) rfl rfl
    have p5 := RelL.put p4 (j := 7) (by omega) (a (54 + 4 * a 6)) (k := 0) (i := 15) rfl rfl
    refine p5.mono fun j hj hl => ?_
    have h1 := live_nU hl (by decide) (by decide) (by decide) (by decide)
    have h2 := live_nU h1 (by decide) (by decide) (by decide) (by decide)
    have h3 := live_nU h2 (by decide) (by decide) (by decide) (by decide)
    have h4 := live_nU h3 (by decide) (by decide) (by decide) (by decide)
    unfold live at h4
    rw [show nU a 6 (a 6 - 1) 0 = a 0 from rfl, show nU a 6 (a 6 - 1) 4 = a 4 from rfl, show nU a 6 (a 6 - 1) 5 = a 5 from rfl, show nU a 6 (a 6 - 1) 6 = a 6 - 1 from rfl] at h4
    unfold live
    omega
/-- a copy -/
theorem kf_cN : ∀ j, j < 87 → 8 ≤ j → kf j ≠ 0 ∧ jf j < cN (kf j) := by decide +kernel
theorem rel_cp {D : Nat → Nat → Int32} (R : Rel D a) : Rel (cpC D C) a := by
  intro j hj hl
  have r := R j hj hl
  by_cases e : j < 8
  · rcases (show j = 0 ∨ j = 1 ∨ j = 2 ∨ j = 3 ∨ j = 4 ∨ j = 5 ∨ j = 6 ∨ j = 7 by omega) with rfl | rfl | rfl | rfl | rfl | rfl | rfl | rfl <;> exact r
  · have k := kf_cN j hj (by omega)
    rw [← r]
    unfold cpC
    rw [if_neg k.1]
    show (if 0 ≤ jf j ∧ jf j < 0 + cN (kf j) then D (kf j) (0 + (jf j - 0)) else C (kf j) (jf j)) = _
    rw [if_pos (by omega)]
    congr 1
    omega
/-- the book when nothing has been told -/
def aN : Nat → Nat := fun j => if j = 8 then 2 else if j = 10 then 1 else if j = 11 then 6 else if 12 ≤ j ∧ j < 18 then j - 10 else 0
theorem good_aN : Good aN := by
  refine ⟨fun j hj hl => ?_, by decide, fun m hm => absurd hm (Nat.not_lt_zero m), fun s hs => absurd hs (Nat.not_lt_zero s), fun u hu => absurd hu (Nat.not_lt_zero u)⟩
  have : ∀ j, j < 87 → aN j ≤ bnd j := by decide +kernel
  exact this j hj
theorem rel_an : Rel (anC C zs1) aN := by
  intro j hj hl
  unfold live at hl
  have h18 : j < 18 := by
    rw [show aN 0 = 0 from rfl, show aN 4 = 0 from rfl, show aN 5 = 0 from rfl, show aN 6 = 0 from rfl] at hl
    omega
  rcases (show j = 0 ∨ j = 1 ∨ j = 2 ∨ j = 3 ∨ j = 4 ∨ j = 5 ∨ j = 6 ∨ j = 7 ∨ j = 8 ∨ j = 9 ∨ j = 10 ∨ j = 11 ∨ j = 12 ∨ j = 13 ∨ j = 14 ∨ j = 15 ∨ j = 16 ∨ j = 17 by omega) with rfl | rfl | rfl | rfl | rfl | rfl | rfl | rfl | rfl | rfl | rfl | rfl | rfl | rfl | rfl | rfl | rfl | rfl <;> rfl
end CL2
