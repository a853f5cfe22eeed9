/-! WRITES TO A CLEARING -/
/-- C with its number fields, or one row, changed -/
def cU (C : Nat → Nat → Int32) (k : Nat) (V : Nat → Int32) : Nat → Nat → Int32 := fun j => if j = k then V else C j
theorem cU_s (C : Nat → Nat → Int32) (k : Nat) (V : Nat → Int32) : cU C k V k = V := if_pos rfl
theorem cU_n {C : Nat → Nat → Int32} {k j : Nat} {V : Nat → Int32} (h : j ≠ k) : cU C k V j = C j := if_neg h
section CLW
variable {ro : zR} {σ : zW} {o : Nat} {C : Nat → Nat → Int32}
theorem ClAt.w0 (h : ClAt σ o C) (V : Nat → Int32) : ClAt (σ.set o (clO o V)) o (cU C 0 V) := by
  refine ⟨?_, ?_, ?_, ?_, ?_, ?_, ?_, ?_, ?_, ?_⟩
  · rw [getset, if_pos rfl, h.a0]; rfl
  · rw [getset, if_neg (by omega), h.a1]; rfl
  · rw [getset, if_neg (by omega), h.a2]; rfl
  · rw [getset, if_neg (by omega), h.a3]; rfl
  · rw [getset, if_neg (by omega), h.a4]; rfl
  · rw [getset, if_neg (by omega), h.a5]; rfl
  · rw [getset, if_neg (by omega), h.a6]; rfl
  · rw [getset, if_neg (by omega), h.a7]; rfl
  · rw [getset, if_neg (by omega), h.a8]; rfl
  · rw [getset, if_neg (by omega), h.a9]; rfl
theorem ClAt.w1 (h : ClAt σ o C) (V : Nat → Int32) : ClAt (σ.set (o + 1) (ar 4 V)) o (cU C 1 V) := by
  refine ⟨?_, ?_, ?_, ?_, ?_, ?_, ?_, ?_, ?_, ?_⟩
  · rw [getset, if_neg (by omega), h.a0]; rfl
  · rw [getset, if_pos rfl, h.a1]; rfl
  · rw [getset, if_neg (by omega), h.a2]; rfl
  · rw [getset, if_neg (by omega), h.a3]; rfl
  · rw [getset, if_neg (by omega), h.a4]; rfl
  · rw [getset, if_neg (by omega), h.a5]; rfl
  · rw [getset, if_neg (by omega), h.a6]; rfl
  · rw [getset, if_neg (by omega), h.a7]; rfl
  · rw [getset, if_neg (by omega), h.a8]; rfl
  · rw [getset, if_neg (by omega), h.a9]; rfl
theorem ClAt.w2 (h : ClAt σ o C) (V : Nat → Int32) : ClAt (σ.set (o + 2) (ar 6 V)) o (cU C 2 V) := by
  refine ⟨?_, ?_, ?_, ?_, ?_, ?_, ?_, ?_, ?_, ?_⟩
  · rw [getset, if_neg (by omega), h.a0]; rfl
  · rw [getset, if_neg (by omega), h.a1]; rfl
  · rw [getset, if_pos rfl, h.a2]; rfl
  · rw [getset, if_neg (by omega), h.a3]; rfl
  · rw [getset, if_neg (by omega), h.a4]; rfl
  · rw [getset, if_neg (by omega), h.a5]; rfl
  · rw [getset, if_neg (by omega), h.a6]; rfl
  · rw [getset, if_neg (by omega), h.a7]; rfl
  · rw [getset, if_neg (by omega), h.a8]; rfl
  · rw [getset, if_neg (by omega), h.a9]; rfl
theorem ClAt.w3 (h : ClAt σ o C) (V : Nat → Int32) : ClAt (σ.set (o + 3) (ar 6 V)) o (cU C 3 V) := by
  refine ⟨?_, ?_, ?_, ?_, ?_, ?_, ?_, ?_, ?_, ?_⟩
  · rw [getset, if_neg (by omega), h.a0]; rfl
  · rw [getset, if_neg (by omega), h.a1]; rfl
  · rw [getset, if_neg (by omega), h.a2]; rfl
  · rw [getset, if_pos rfl, h.a3]; rfl
  · rw [getset, if_neg (by omega), h.a4]; rfl
  · rw [getset, if_neg (by omega), h.a5]; rfl
  · rw [getset, if_neg (by omega), h.a6]; rfl
  · rw [getset, if_neg (by omega), h.a7]; rfl
  · rw [getset, if_neg (by omega), h.a8]; rfl
  · rw [getset, if_neg (by omega), h.a9]; rfl
theorem ClAt.w4 (h : ClAt σ o C) (V : Nat → Int32) : ClAt (σ.set (o + 4) (ar 6 V)) o (cU C 4 V) := by
  refine ⟨?_, ?_, ?_, ?_, ?_, ?_, ?_, ?_, ?_, ?_⟩
  · rw [getset, if_neg (by omega), h.a0]; rfl
  · rw [getset, if_neg (by omega), h.a1]; rfl
  · rw [getset, if_neg (by omega), h.a2]; rfl
  · rw [getset, if_neg (by omega), h.a3]; rfl
  · rw [getset, if_pos rfl, h.a4]; rfl
  · rw [getset, if_neg (by omega), h.a5]; rfl
  · rw [getset, if_neg (by omega), h.a6]; rfl
  · rw [getset, if_neg (by omega), h.a7]; rfl
  · rw [getset, if_neg (by omega), h.a8]; rfl
  · rw [getset, if_neg (by omega), h.a9]; rfl
theorem ClAt.w5 (h : ClAt σ o C) (V : Nat → Int32) : ClAt (σ.set (o + 5) (ar 6 V)) o (cU C 5 V) := by
  refine ⟨?_, ?_, ?_, ?_, ?_, ?_, ?_, ?_, ?_, ?_⟩
  · rw [getset, if_neg (by omega), h.a0]; rfl
  · rw [getset, if_neg (by omega), h.a1]; rfl
  · rw [getset, if_neg (by omega), h.a2]; rfl
  · rw [getset, if_neg (by omega), h.a3]; rfl
  · rw [getset, if_neg (by omega), h.a4]; rfl
  · rw [getset, if_pos rfl, h.a5]; rfl
  · rw [getset, if_neg (by omega), h.a6]; rfl
  · rw [getset, if_neg (by omega), h.a7]; rfl
  · rw [getset, if_neg (by omega), h.a8]; rfl
  · rw [getset, if_neg (by omega), h.a9]; rfl
theorem ClAt.w6 (h : ClAt σ o C) (V : Nat → Int32) : ClAt (σ.set (o + 6) (ar 7 V)) o (cU C 6 V) := by
  refine ⟨?_, ?_, ?_, ?_, ?_, ?_, ?_, ?_, ?_, ?_⟩
  · rw [getset, if_neg (by omega), h.a0]; rfl
  · rw [getset, if_neg (by omega), h.a1]; rfl
  · rw [getset, if_neg (by omega), h.a2]; rfl
  · rw [getset, if_neg (by omega), h.a3]; rfl
  · rw [getset, if_neg (by omega), h.a4]; rfl
  · rw [getset, if_neg (by omega), h.a5]; rfl
  · rw [getset, if_pos rfl, h.a6]; rfl
  · rw [getset, if_neg (by omega), h.a7]; rfl
  · rw [getset, if_neg (by omega), h.a8]; rfl
  · rw [getset, if_neg (by omega), h.a9]; rfl
theorem ClAt.w7 (h : ClAt σ o C) (V : Nat → Int32) : ClAt (σ.set (o + 7) (ar 7 V)) o (cU C 7 V) := by
  refine ⟨?_, ?_, ?_, ?_, ?_, ?_, ?_, ?_, ?_, ?_⟩
  · rw [getset, if_neg (by omega), h.a0]; rfl
  · rw [getset, if_neg (by omega), h.a1]; rfl
  · rw [getset, if_neg (by omega), h.a2]; rfl
  · rw [getset, if_neg (by omega), h.a3]; rfl
  · rw [getset, if_neg (by omega), h.a4]; rfl
  · rw [getset, if_neg (by omega), h.a5]; rfl
  · rw [getset, if_neg (by omega), h.a6]; rfl
  · rw [getset, if_pos rfl, h.a7]; rfl
  · rw [getset, if_neg (by omega), h.a8]; rfl
  · rw [getset, if_neg (by omega), h.a9]; rfl
theorem ClAt.w8 (h : ClAt σ o C) (V : Nat → Int32) : ClAt (σ.set (o + 8) (ar 5 V)) o (cU C 8 V) := by
  refine ⟨?_, ?_, ?_, ?_, ?_, ?_, ?_, ?_, ?_, ?_⟩
  · rw [getset, if_neg (by omega), h.a0]; rfl
  · rw [getset, if_neg (by omega), h.a1]; rfl
  · rw [getset, if_neg (by omega), h.a2]; rfl
  · rw [getset, if_neg (by omega), h.a3]; rfl
  · rw [getset, if_neg (by omega), h.a4]; rfl
  · rw [getset, if_neg (by omega), h.a5]; rfl
  · rw [getset, if_neg (by omega), h.a6]; rfl
  · rw [getset, if_neg (by omega), h.a7]; rfl
  · rw [getset, if_pos rfl, h.a8]; rfl
  · rw [getset, if_neg (by omega), h.a9]; rfl
theorem ClAt.w9 (h : ClAt σ o C) (V : Nat → Int32) : ClAt (σ.set (o + 9) (ar 32 V)) o (cU C 9 V) := by
  refine ⟨?_, ?_, ?_, ?_, ?_, ?_, ?_, ?_, ?_, ?_⟩
  · rw [getset, if_neg (by omega), h.a0]; rfl
  · rw [getset, if_neg (by omega), h.a1]; rfl
  · rw [getset, if_neg (by omega), h.a2]; rfl
  · rw [getset, if_neg (by omega), h.a3]; rfl
  · rw [getset, if_neg (by omega), h.a4]; rfl
  · rw [getset, if_neg (by omega), h.a5]; rfl
  · rw [getset, if_neg (by omega), h.a6]; rfl
  · rw [getset, if_neg (by omega), h.a7]; rfl
  · rw [getset, if_neg (by omega), h.a8]; rfl
  · rw [getset, if_pos rfl, h.a9]; rfl
theorem sp_setCarry (h : ClAt σ o C) (r n : Int32) : rm ro 11 [.ref o, .int r, .int n] σ = if r < 0 ∨ n < 0 ∨ 10 < n ∨ 5 < r then some (some (.int (-2)), σ) else some (some (.int (C 2 r.toNatClampNeg)), σ.set (o + 2) (ar 6 (upd (C 2) r.toNatClampNeg n))) := by
  show rn ro 1 11 0 (lv_args 0 [.ref o, .int r, .int n]) [] σ = _
  simp only [q11_0, q11_1, q11_4, q11_5, q11_6, q11_9, q11_10, q11_13, q11_14, q11_17, q11_18, q11_20, q11_23, q11_25, q11_26, q11_27, q11_30, q11_31, q11_32, q11_33, q11_34, q11_37, q11_38, q11_39, q11_40, q11_41, kI_app, kJ_app, kP_app, kV_app, kS_app, kC_app, kN_app, kM_app, zsw_cons, zsw_nil, lv_args_I, lv_args_R, lv_args_L, lv_args_nil, zlook_cons, zrI_some, zrJ_some, zrP_some, zrC_some, zrA_rw, zrAS_rw, zrLen_rw, zst1_nil, zst1_cI, zst1_cR, zst1_cL, zrm1_nil, zrm1_cI, zrm1_cR, zrm1_cL, zst2_nil, zst2_cI, zst2_cR, zst2_cL, zrm2_nil, zrm2_cI, zrm2_cR, zrm2_cL, zkeep_nil, zkeep_cons, zsum_nil, zsum_I, zsum_R, zsum_L, zsum_N, toL_s, toL_n, List.cons_append, List.nil_append, List.mem_cons, List.not_mem_nil, reduceCtorEq, Nat.reduceAdd, Nat.reduceLT, Nat.reduceLeDiff, Nat.reduceEqDiff, Nat.zero_ne_one, Nat.one_ne_zero, Nat.add_zero, Nat.zero_add, or_false, false_or, or_true, true_or, and_true, true_and, and_self, ↓reduceIte, Nat.succ_ne_self, Nat.reduceGT, Nat.reduceSub, Nat.le_refl, Nat.zero_le, zis_O, cl_is, clG_0, clG_1, clG_2, clG_3, clG_4, clG_5, clG_6, clS_6, clG_7, clG_8, clG_9, clS_9, clG_10, clG_11, clS_11, clG_12, clS_12, clG_13, clS_13, clG_14, clS_14, clG_15, clS_15, clG_16, clG_17, clS_17, od_is, odG_0, odG_1, odS_1, odG_2, odG_3, odS_3, odG_4, re_is, reG_0, reS_0, reG_1, reG_2, reG_3, reS_3, reG_4, reS_4, reG_5, reS_5, reG_6, reS_6, wo_is, woG_0, woG_1, woG_2, woS_2, woG_3, lm_is, lmG_0, lmG_1, lmG_2, lmG_3, lmG_4, lmG_5, lmG_6, lmG_7, lmG_8, lmS_8, lmG_9, lmS_9, lmG_10, lmS_10, lmG_11, lmS_11, lmG_12, lmS_12, mo_is, moG_0, moG_1, moG_2, moG_3, moG_4, moG_5, moS_5, moG_6, moS_6, moG_7, moS_7, moG_8, moG_9, moS_9, moG_10, moS_10, moG_11, moS_11, moG_12, moS_12, moG_13, moS_13, moG_14, moG_15, moS_15, moG_16, moG_17, moS_17, moG_18, moG_19, moG_20, h.a0, h.a2]
  by_cases a : r < 0
  · simp only [a, true_or, if_true]
  · have e : (r < Int32.ofNat 6) ↔ ¬ 6 ≤ r.toNatClampNeg := lt_ofNat (by decide) a
    have e' : (5 < r) ↔ 6 ≤ r.toNatClampNeg := by
      constructor
      · intro z
        refine Decidable.byContradiction fun y => ?_
        have : r < Int32.ofNat 6 := e.mpr y
        have w1 := Int32.lt_iff_toInt_lt.mp this
        have w2 := Int32.lt_iff_toInt_lt.mp z
        have u1 : (Int32.ofNat 6).toInt = 6 := by decide
        have u2 : (5 : Int32).toInt = 5 := by decide
        omega
      · intro z
        have : ¬ r < Int32.ofNat 6 := fun y => e.mp y z
        rw [Int32.lt_iff_toInt_lt] at this ⊢
        have u1 : (Int32.ofNat 6).toInt = 6 := by decide
        have u2 : (5 : Int32).toInt = 5 := by decide
        omega
    simp only [a, false_or, if_false, e, e']
    by_cases b : 6 ≤ r.toNatClampNeg
    · simp only [b, not_true_eq_false, or_true, if_true, if_false]
    · simp only [b, not_false_eq_true, or_false, if_true, if_false]
      by_cases c : n < 0
      · simp only [c, true_or, if_true]
      · simp only [c, false_or, if_false]
end CLW
