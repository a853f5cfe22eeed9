/-! THE MODEL'S BOOK MADE EMPTY -/
section EMP
variable {ro : zR}
def eb1 (j : Nat) : Int32 := if j = 8 then 2 else if j = 10 then 1 else if j = 11 then 6 else 0
theorem f134b {L : Nat → Nat → Int64} : ∀ k r, r + k = 6 → ∀ A : Nat → Nat → Int32, (∀ j, j < 87 → A 63 j = if 12 ≤ j ∧ j < 12 + r then iZ (j - 10 : Nat) else eb1 j) → ∃ A', rn ro 1 134 48 [(0, .ref 62), (1, .int (iZ r))] [] (hp A L) = some (none, hp A' L) ∧ (∀ c, c ≠ 63 → A' c = A c) ∧ ∀ j, j < 87 → A' 63 j = iZ (aN j) := by
  intro k
  induction k with
  | zero =>
    intro r hr A h
    have e : r = 6 := by omega
    subst e
    refine ⟨A, ?_, fun c hc => rfl, fun j hj => ?_⟩
    · have c : 5 < iZ ((6 : Nat) : Int) := by decide
      rw [q134_48]
      simp only [q134_0, q134_1, q134_3, q134_5, q134_8, q134_9, q134_12, q134_13, q134_14, q134_15, q134_18, q134_21, q134_22, q134_25, q134_27, q134_28, q134_29, q134_30, q134_33, q134_35, q134_36, q134_37, q134_38, q134_41, q134_43, q134_45, q134_46, q134_47, q134_49, q134_50, q134_53, q134_54, q134_57, q134_59, q134_60, q134_61, q134_62, q134_63, q134_64, q134_65, q134_68, q134_71, kI_app, kJ_app, kP_app, kV_app, kS_app, kC_app, kN_app, kM_app, zsw_cons, zsw_nil, lv_args_I, lv_args_R, lv_args_L, lv_args_nil, zlook_cons, zrI_some, zrJ_some, zrP_some, zrC_some, zrA_rw, zrAS_rw, zrLen_rw, zst1_nil, zst1_cI, zst1_cR, zst1_cL, zrm1_nil, zrm1_cI, zrm1_cR, zrm1_cL, zst2_nil, zst2_cI, zst2_cR, zst2_cL, zrm2_nil, zrm2_cI, zrm2_cR, zrm2_cL, zkeep_nil, zkeep_cons, zsum_nil, zsum_I, zsum_R, zsum_L, zsum_N, toL_s, toL_n, List.cons_append, List.nil_append, List.mem_cons, List.not_mem_nil, reduceCtorEq, Nat.reduceAdd, Nat.reduceLT, Nat.reduceLeDiff, Nat.reduceEqDiff, Nat.zero_ne_one, Nat.one_ne_zero, Nat.add_zero, Nat.zero_add, or_false, false_or, or_true, true_or, and_true, true_and, and_self, ↓reduceIte, Nat.succ_ne_self, Nat.reduceGT, Nat.reduceSub, Nat.le_refl, Nat.zero_le, zis_O, cl_is, clG_0, clG_1, clG_2, clG_3, clG_4, clG_5, clG_6, clS_6, clG_7, clG_8, clG_9, clS_9, clG_10, clG_11, clS_11, clG_12, clS_12, clG_13, clS_13, clG_14, clS_14, clG_15, clS_15, clG_16, clG_17, clS_17, od_is, odG_0, odG_1, odS_1, odG_2, odG_3, odS_3, odG_4, re_is, reG_0, reS_0, reG_1, reG_2, reG_3, reS_3, reG_4, reS_4, reG_5, reS_5, reG_6, reS_6, wo_is, woG_0, woG_1, woG_2, woS_2, woG_3, lm_is, lmG_0, lmG_1, lmG_2, lmG_3, lmG_4, lmG_5, lmG_6, lmG_7, lmG_8, lmS_8, lmG_9, lmS_9, lmG_10, lmS_10, lmG_11, lmS_11, lmG_12, lmS_12, mo_is, moG_0, moG_1, moG_2, moG_3, moG_4, moG_5, moS_5, moG_6, moS_6, moG_7, moS_7, moG_8, moG_9, moS_9, moG_10, moS_10, moG_11, moS_11, moG_12, moS_12, moG_13, moS_13, moG_14, moG_15, moS_15, moG_16, moG_17, moS_17, moG_18, moG_19, moG_20, i32ne0, i32ne1, i32ne2, i32ne3, i32ne4, i32ne5, i32ne6, i32ne7, i32ne8, i32ne9, i32ne10, j64ne, Int32.reduceAdd, Int32.reduceSub, Int32.reduceMul, Int32.reduceLT, Int32.reduceOfNat, Int32.reduceToNatClampNeg, cU_at, Nat.reduceMul, Nat.reduceMod, c, if_true]
    · rw [h j hj]
      unfold aN eb1
      by_cases c : 12 ≤ j ∧ j < 18
      · rw [if_pos (by omega), if_neg (by omega), if_neg (by omega), if_neg (by omega), if_pos c]
      · rw [if_neg (by omega)]
        by_cases c8 : j = 8
        · rw [if_pos c8, if_pos c8]
          rfl
        · rw [if_neg c8, if_neg c8]
          by_cases c10 : j = 10
          · rw [if_pos c10, if_pos c10]
            rfl
          · rw [if_neg c10, if_neg c10]
            by_cases c11 : j = 11
            · rw [if_pos c11, if_pos c11]
              rfl
            · rw [if_neg c11, if_neg c11, if_neg c]
              rfl
  | succ k ih =>
    intro r hr A h
    have c : ¬ 5 < iZ (r : Int) := by
      rw [i_gtk 5 5 rfl (by omega) (by omega)]
      omega
    have e12 : 12 + iZ (r : Int) = iZ ((12 + r : Nat) : Int) := iZ_ap 12 12 r rfl
    have e2 : iZ (r : Int) + 2 = iZ ((r + 2 : Nat) : Int) := iZ_pa 2 2 r rfl
    obtain ⟨A', h1, h2, h3⟩ := ih (r + 1) (by omega) (cU A 63 (upd (A 63) (12 + r) (iZ ((r + 2 : Nat) : Int)))) (fun j hj => by
      show (if j = 12 + r then iZ ((r + 2 : Nat) : Int) else A 63 j) = _
      by_cases e : j = 12 + r
      · rw [if_pos e, if_pos (by omega)]
        congr 1
        omega
      · rw [if_neg e, h j hj]
        by_cases z : 12 ≤ j ∧ j < 12 + r
        · rw [if_pos z, if_pos (by omega)]
        · rw [if_neg z, if_neg (by omega)])
    refine ⟨A', ?_, fun c hc => (h2 c hc).trans (cU_n hc), h3⟩
    rw [← h1, q134_48]
    simp only [q134_0, q134_1, q134_3, q134_5, q134_8, q134_9, q134_12, q134_13, q134_14, q134_15, q134_18, q134_21, q134_22, q134_25, q134_27, q134_28, q134_29, q134_30, q134_33, q134_35, q134_36, q134_37, q134_38, q134_41, q134_43, q134_45, q134_46, q134_47, q134_49, q134_50, q134_53, q134_54, q134_57, q134_59, q134_60, q134_61, q134_62, q134_63, q134_64, q134_65, q134_68, q134_71, kI_app, kJ_app, kP_app, kV_app, kS_app, kC_app, kN_app, kM_app, zsw_cons, zsw_nil, lv_args_I, lv_args_R, lv_args_L, lv_args_nil, zlook_cons, zrI_some, zrJ_some, zrP_some, zrC_some, zrA_rw, zrAS_rw, zrLen_rw, zst1_nil, zst1_cI, zst1_cR, zst1_cL, zrm1_nil, zrm1_cI, zrm1_cR, zrm1_cL, zst2_nil, zst2_cI, zst2_cR, zst2_cL, zrm2_nil, zrm2_cI, zrm2_cR, zrm2_cL, zkeep_nil, zkeep_cons, zsum_nil, zsum_I, zsum_R, zsum_L, zsum_N, toL_s, toL_n, List.cons_append, List.nil_append, List.mem_cons, List.not_mem_nil, reduceCtorEq, Nat.reduceAdd, Nat.reduceLT, Nat.reduceLeDiff, Nat.reduceEqDiff, Nat.zero_ne_one, Nat.one_ne_zero, Nat.add_zero, Nat.zero_add, or_false, false_or, or_true, true_or, and_true, true_and, and_self, ↓reduceIte, Nat.succ_ne_self, Nat.reduceGT, Nat.reduceSub, Nat.le_refl, Nat.zero_le, zis_O, cl_is, clG_0, clG_1, clG_2, clG_3, clG_4, clG_5, clG_6, clS_6, clG_7, clG_8, clG_9, clS_9, clG_10, clG_11, clS_11, clG_12, clS_12, clG_13, clS_13, clG_14, clS_14, clG_15, clS_15, clG_16, clG_17, clS_17, od_is, odG_0, odG_1, odS_1, odG_2, odG_3, odS_3, odG_4, re_is, reG_0, reS_0, reG_1, reG_2, reG_3, reS_3, reG_4, reS_4, reG_5, reS_5, reG_6, reS_6, wo_is, woG_0, woG_1, woG_2, woS_2, woG_3, lm_is, lmG_0, lmG_1, lmG_2, lmG_3, lmG_4, lmG_5, lmG_6, lmG_7, lmG_8, lmS_8, lmG_9, lmS_9, lmG_10, lmS_10, lmG_11, lmS_11, lmG_12, lmS_12, mo_is, moG_0, moG_1, moG_2, moG_3, moG_4, moG_5, moS_5, moG_6, moS_6, moG_7, moS_7, moG_8, moG_9, moS_9, moG_10, moS_10, moG_11, moS_11, moG_12, moS_12, moG_13, moS_13, moG_14, moG_15, moS_15, moG_16, moG_17, moS_17, moG_18, moG_19, moG_20, i32ne0, i32ne1, i32ne2, i32ne3, i32ne4, i32ne5, i32ne6, i32ne7, i32ne8, i32ne9, i32ne10, j64ne, Int32.reduceAdd, Int32.reduceSub, Int32.reduceMul, Int32.reduceLT, Int32.reduceOfNat, Int32.reduceToNatClampNeg, cU_at, Nat.reduceMul, Nat.reduceMod, catR, catI, cV_self, cU_self, hg0, hg1, hg2, hg3, hg4, hg5, hg6, hg7, hg8, hg9, hg10, hg11, hg12, hg13, hg14, hg15, hg16, hg17, hg18, hg19, hg20, hg21, hg22, hg23, hg24, hg25, hg26, hg27, hg28, hg29, hg30, hg31, hg32, hg33, hg34, hg35, hg36, hg37, hg38, hg39, hg40, hg41, hg42, hg43, hg44, hg45, hg46, hg47, hg48, hg49, hg50, hg51, hg52, hg53, hg54, hg55, hg56, hg57, hg58, hg59, hg60, hg61, hg62, hg63, hg64, hg65, hg66, hg67, hg68, hg69, hg70, hg71, hg72, hg73, hg1001, hg1002, hg1003, hg1000, hg2000, hs0, hs8, hs9, hs10, hs11, hs12, hs13, hs14, hs15, hs16, hs17, hs18, hs19, hs20, hs21, hs22, hs23, hs24, hs25, hs26, hs27, hs29, hs30, hs31, hs32, hs33, hs34, hs35, hs36, hs37, hs38, hs39, hs40, hs41, hs42, hs43, hs44, hs45, hs46, hs47, hs48, hs49, hs50, hs51, hs52, hs53, hs54, hs55, hs56, hs57, hs59, hs60, hs61, hs62, hs63, hs64, hs65, hs66, hs67, hs68, hs69, hs70, hs71, hs72, hs73, hw8, hw18, hw29, hw39, c, if_false, e12, e2, ixo (show 12 + r < 87 ∧ 87 < 2147483648 by omega), iZ_ix (show 12 + r < 2147483648 by omega), iZ_suc]
theorem f134a {L : Nat → Nat → Int64} : ∀ k i, i + k = 87 → ∀ A : Nat → Nat → Int32, (∀ j, j < i → A 63 j = 0) → ∃ A', rn ro 1 134 2 [(0, .ref 62), (1, .int (iZ i))] [] (hp A L) = some (none, hp A' L) ∧ (∀ c, c ≠ 63 → A' c = A c) ∧ ∀ j, j < 87 → A' 63 j = iZ (aN j) := by
  intro k
  induction k with
  | zero =>
    intro i hi A h
    have e : i = 87 := by omega
    subst e
    have c : ¬ iZ ((87 : Nat) : Int) < 87 := by decide
    obtain ⟨A', h1, h2, h3⟩ := f134b (ro := ro) (L := L) 6 0 rfl (cU (cU (cU A 63 (upd (A 63) 8 2)) 63 (upd (upd (A 63) 8 2) 10 1)) 63 (upd (upd (upd (A 63) 8 2) 10 1) 11 6)) (fun j hj => by
      show (if j = 11 then 6 else if j = 10 then 1 else if j = 8 then 2 else A 63 j) = _
      rw [if_neg (show ¬ (12 ≤ j ∧ j < 12 + 0) by omega), h j hj]
      unfold eb1
      by_cases c8 : j = 8
      · rw [c8]
        rfl
      · rw [if_neg c8, if_neg c8]
        by_cases c10 : j = 10
        · rw [c10]
          rfl
        · rw [if_neg c10, if_neg c10])
    refine ⟨A', ?_, fun c hc => (h2 c hc).trans ((cU_n hc).trans ((cU_n hc).trans (cU_n hc))), h3⟩
    rw [← h1, q134_2, show iZ ((0 : Nat) : Int) = 0 from rfl]
    simp only [q134_0, q134_1, q134_3, q134_5, q134_8, q134_9, q134_12, q134_13, q134_14, q134_15, q134_18, q134_21, q134_22, q134_25, q134_27, q134_28, q134_29, q134_30, q134_33, q134_35, q134_36, q134_37, q134_38, q134_41, q134_43, q134_45, q134_46, q134_47, q134_49, q134_50, q134_53, q134_54, q134_57, q134_59, q134_60, q134_61, q134_62, q134_63, q134_64, q134_65, q134_68, q134_71, kI_app, kJ_app, kP_app, kV_app, kS_app, kC_app, kN_app, kM_app, zsw_cons, zsw_nil, lv_args_I, lv_args_R, lv_args_L, lv_args_nil, zlook_cons, zrI_some, zrJ_some, zrP_some, zrC_some, zrA_rw, zrAS_rw, zrLen_rw, zst1_nil, zst1_cI, zst1_cR, zst1_cL, zrm1_nil, zrm1_cI, zrm1_cR, zrm1_cL, zst2_nil, zst2_cI, zst2_cR, zst2_cL, zrm2_nil, zrm2_cI, zrm2_cR, zrm2_cL, zkeep_nil, zkeep_cons, zsum_nil, zsum_I, zsum_R, zsum_L, zsum_N, toL_s, toL_n, List.cons_append, List.nil_append, List.mem_cons, List.not_mem_nil, reduceCtorEq, Nat.reduceAdd, Nat.reduceLT, Nat.reduceLeDiff, Nat.reduceEqDiff, Nat.zero_ne_one, Nat.one_ne_zero, Nat.add_zero, Nat.zero_add, or_false, false_or, or_true, true_or, and_true, true_and, and_self, ↓reduceIte, Nat.succ_ne_self, Nat.reduceGT, Nat.reduceSub, Nat.le_refl, Nat.zero_le, zis_O, cl_is, clG_0, clG_1, clG_2, clG_3, clG_4, clG_5, clG_6, clS_6, clG_7, clG_8, clG_9, clS_9, clG_10, clG_11, clS_11, clG_12, clS_12, clG_13, clS_13, clG_14, clS_14, clG_15, clS_15, clG_16, clG_17, clS_17, od_is, odG_0, odG_1, odS_1, odG_2, odG_3, odS_3, odG_4, re_is, reG_0, reS_0, reG_1, reG_2, reG_3, reS_3, reG_4, reS_4, reG_5, reS_5, reG_6, reS_6, wo_is, woG_0, woG_1, woG_2, woS_2, woG_3, lm_is, lmG_0, lmG_1, lmG_2, lmG_3, lmG_4, lmG_5, lmG_6, lmG_7, lmG_8, lmS_8, lmG_9, lmS_9, lmG_10, lmS_10, lmG_11, lmS_11, lmG_12, lmS_12, mo_is, moG_0, moG_1, moG_2, moG_3, moG_4, moG_5, moS_5, moG_6, moS_6, moG_7, moS_7, moG_8, moG_9, moS_9, moG_10, moS_10, moG_11, moS_11, moG_12, moS_12, moG_13, moS_13, moG_14, moG_15, moS_15, moG_16, moG_17, moS_17, moG_18, moG_19, moG_20, i32ne0, i32ne1, i32ne2, i32ne3, i32ne4, i32ne5, i32ne6, i32ne7, i32ne8, i32ne9, i32ne10, j64ne, Int32.reduceAdd, Int32.reduceSub, Int32.reduceMul, Int32.reduceLT, Int32.reduceOfNat, Int32.reduceToNatClampNeg, cU_at, Nat.reduceMul, Nat.reduceMod, catR, catI, cV_self, cU_self, hg0, hg1, hg2, hg3, hg4, hg5, hg6, hg7, hg8, hg9, hg10, hg11, hg12, hg13, hg14, hg15, hg16, hg17, hg18, hg19, hg20, hg21, hg22, hg23, hg24, hg25, hg26, hg27, hg28, hg29, hg30, hg31, hg32, hg33, hg34, hg35, hg36, hg37, hg38, hg39, hg40, hg41, hg42, hg43, hg44, hg45, hg46, hg47, hg48, hg49, hg50, hg51, hg52, hg53, hg54, hg55, hg56, hg57, hg58, hg59, hg60, hg61, hg62, hg63, hg64, hg65, hg66, hg67, hg68, hg69, hg70, hg71, hg72, hg73, hg1001, hg1002, hg1003, hg1000, hg2000, hs0, hs8, hs9, hs10, hs11, hs12, hs13, hs14, hs15, hs16, hs17, hs18, hs19, hs20, hs21, hs22, hs23, hs24, hs25, hs26, hs27, hs29, hs30, hs31, hs32, hs33, hs34, hs35, hs36, hs37, hs38, hs39, hs40, hs41, hs42, hs43, hs44, hs45, hs46, hs47, hs48, hs49, hs50, hs51, hs52, hs53, hs54, hs55, hs56, hs57, hs59, hs60, hs61, hs62, hs63, hs64, hs65, hs66, hs67, hs68, hs69, hs70, hs71, hs72, hs73, hw8, hw18, hw29, hw39, c, if_false]
  | succ k ih =>
    intro i hi A h
    have c : iZ (i : Int) < 87 := by
      rw [i_ltk 87 87 rfl (by omega) (by omega)]
      omega
    obtain ⟨A', h1, h2, h3⟩ := ih (i + 1) (by omega) (cU A 63 (upd (A 63) i 0)) (fun j hj => by
      show (if j = i then 0 else A 63 j) = _
      by_cases e : j = i
      · rw [if_pos e]
      · rw [if_neg e]
        exact h j (by omega))
    refine ⟨A', ?_, fun c hc => (h2 c hc).trans (cU_n hc), h3⟩
    rw [← h1, q134_2]
    simp only [q134_0, q134_1, q134_3, q134_5, q134_8, q134_9, q134_12, q134_13, q134_14, q134_15, q134_18, q134_21, q134_22, q134_25, q134_27, q134_28, q134_29, q134_30, q134_33, q134_35, q134_36, q134_37, q134_38, q134_41, q134_43, q134_45, q134_46, q134_47, q134_49, q134_50, q134_53, q134_54, q134_57, q134_59, q134_60, q134_61, q134_62, q134_63, q134_64, q134_65, q134_68, q134_71, kI_app, kJ_app, kP_app, kV_app, kS_app, kC_app, kN_app, kM_app, zsw_cons, zsw_nil, lv_args_I, lv_args_R, lv_args_L, lv_args_nil, zlook_cons, zrI_some, zrJ_some, zrP_some, zrC_some, zrA_rw, zrAS_rw, zrLen_rw, zst1_nil, zst1_cI, zst1_cR, zst1_cL, zrm1_nil, zrm1_cI, zrm1_cR, zrm1_cL, zst2_nil, zst2_cI, zst2_cR, zst2_cL, zrm2_nil, zrm2_cI, zrm2_cR, zrm2_cL, zkeep_nil, zkeep_cons, zsum_nil, zsum_I, zsum_R, zsum_L, zsum_N, toL_s, toL_n, List.cons_append, List.nil_append, List.mem_cons, List.not_mem_nil, reduceCtorEq, Nat.reduceAdd, Nat.reduceLT, Nat.reduceLeDiff, Nat.reduceEqDiff, Nat.zero_ne_one, Nat.one_ne_zero, Nat.add_zero, Nat.zero_add, or_false, false_or, or_true, true_or, and_true, true_and, and_self, ↓reduceIte, Nat.succ_ne_self, Nat.reduceGT, Nat.reduceSub, Nat.le_refl, Nat.zero_le, zis_O, cl_is, clG_0, clG_1, clG_2, clG_3, clG_4, clG_5, clG_6, clS_6, clG_7, clG_8, clG_9, clS_9, clG_10, clG_11, clS_11, clG_12, clS_12, clG_13, clS_13, clG_14, clS_14, clG_15, clS_15, clG_16, clG_17, clS_17, od_is, odG_0, odG_1, odS_1, odG_2, odG_3, odS_3, odG_4, re_is, reG_0, reS_0, reG_1, reG_2, reG_3, reS_3, reG_4, reS_4, reG_5, reS_5, reG_6, reS_6, wo_is, woG_0, woG_1, woG_2, woS_2, woG_3, lm_is, lmG_0, lmG_1, lmG_2, lmG_3, lmG_4, lmG_5, lmG_6, lmG_7, lmG_8, lmS_8, lmG_9, lmS_9, lmG_10, lmS_10, lmG_11, lmS_11, lmG_12, lmS_12, mo_is, moG_0, moG_1, moG_2, moG_3, moG_4, moG_5, moS_5, moG_6, moS_6, moG_7, moS_7, moG_8, moG_9, moS_9, moG_10, moS_10, moG_11, moS_11, moG_12, moS_12, moG_13, moS_13, moG_14, moG_15, moS_15, moG_16, moG_17, moS_17, moG_18, moG_19, moG_20, i32ne0, i32ne1, i32ne2, i32ne3, i32ne4, i32ne5, i32ne6, i32ne7, i32ne8, i32ne9, i32ne10, j64ne, Int32.reduceAdd, Int32.reduceSub, Int32.reduceMul, Int32.reduceLT, Int32.reduceOfNat, Int32.reduceToNatClampNeg, cU_at, Nat.reduceMul, Nat.reduceMod, catR, catI, cV_self, cU_self, hg0, hg1, hg2, hg3, hg4, hg5, hg6, hg7, hg8, hg9, hg10, hg11, hg12, hg13, hg14, hg15, hg16, hg17, hg18, hg19, hg20, hg21, hg22, hg23, hg24, hg25, hg26, hg27, hg28, hg29, hg30, hg31, hg32, hg33, hg34, hg35, hg36, hg37, hg38, hg39, hg40, hg41, hg42, hg43, hg44, hg45, hg46, hg47, hg48, hg49, hg50, hg51, hg52, hg53, hg54, hg55, hg56, hg57, hg58, hg59, hg60, hg61, hg62, hg63, hg64, hg65, hg66, hg67, hg68, hg69, hg70, hg71, hg72, hg73, hg1001, hg1002, hg1003, hg1000, hg2000, hs0, hs8, hs9, hs10, hs11, hs12, hs13, hs14, hs15, hs16, hs17, hs18, hs19, hs20, hs21, hs22, hs23, hs24, hs25, hs26, hs27, hs29, hs30, hs31, hs32, hs33, hs34, hs35, hs36, hs37, hs38, hs39, hs40, hs41, hs42, hs43, hs44, hs45, hs46, hs47, hs48, hs49, hs50, hs51, hs52, hs53, hs54, hs55, hs56, hs57, hs59, hs60, hs61, hs62, hs63, hs64, hs65, hs66, hs67, hs68, hs69, hs70, hs71, hs72, hs73, hw8, hw18, hw29, hw39, c, if_true, ixo (show i < 87 ∧ 87 < 2147483648 by omega), iZ_ix (show i < 2147483648 by omega), iZ_suc]
theorem sp_134 (A : Nat → Nat → Int32) (L : Nat → Nat → Int64) : ∃ A', rm ro 134 [.ref 62] (hp A L) = some (none, hp A' L) ∧ (∀ c, c ≠ 63 → A' c = A c) ∧ ∀ j, j < 87 → A' 63 j = iZ (aN j) := by
  obtain ⟨A', h1, h2, h3⟩ := f134a (ro := ro) (L := L) 87 0 rfl A (fun j hj => absurd hj (Nat.not_lt_zero j))
  refine ⟨A', ?_, h2, h3⟩
  rw [← h1]
  show rn ro 1 134 0 (lv_args 0 [.ref 62]) [] (hp A L) = _
  simp only [q134_0, q134_1, q134_3, q134_5, q134_8, q134_9, q134_12, q134_13, q134_14, q134_15, q134_18, q134_21, q134_22, q134_25, q134_27, q134_28, q134_29, q134_30, q134_33, q134_35, q134_36, q134_37, q134_38, q134_41, q134_43, q134_45, q134_46, q134_47, q134_49, q134_50, q134_53, q134_54, q134_57, q134_59, q134_60, q134_61, q134_62, q134_63, q134_64, q134_65, q134_68, q134_71, kI_app, kJ_app, kP_app, kV_app, kS_app, kC_app, kN_app, kM_app, zsw_cons, zsw_nil, lv_args_I, lv_args_R, lv_args_L, lv_args_nil, zlook_cons, zrI_some, zrJ_some, zrP_some, zrC_some, zrA_rw, zrAS_rw, zrLen_rw, zst1_nil, zst1_cI, zst1_cR, zst1_cL, zrm1_nil, zrm1_cI, zrm1_cR, zrm1_cL, zst2_nil, zst2_cI, zst2_cR, zst2_cL, zrm2_nil, zrm2_cI, zrm2_cR, zrm2_cL, zkeep_nil, zkeep_cons, zsum_nil, zsum_I, zsum_R, zsum_L, zsum_N, toL_s, toL_n, List.cons_append, List.nil_append, List.mem_cons, List.not_mem_nil, reduceCtorEq, Nat.reduceAdd, Nat.reduceLT, Nat.reduceLeDiff, Nat.reduceEqDiff, Nat.zero_ne_one, Nat.one_ne_zero, Nat.add_zero, Nat.zero_add, or_false, false_or, or_true, true_or, and_true, true_and, and_self, ↓reduceIte, Nat.succ_ne_self, Nat.reduceGT, Nat.reduceSub, Nat.le_refl, Nat.zero_le, zis_O, cl_is, clG_0, clG_1, clG_2, clG_3, clG_4, clG_5, clG_6, clS_6, clG_7, clG_8, clG_9, clS_9, clG_10, clG_11, clS_11, clG_12, clS_12, clG_13, clS_13, clG_14, clS_14, clG_15, clS_15, clG_16, clG_17, clS_17, od_is, odG_0, odG_1, odS_1, odG_2, odG_3, odS_3, odG_4, re_is, reG_0, reS_0, reG_1, reG_2, reG_3, reS_3, reG_4, reS_4, reG_5, reS_5, reG_6, reS_6, wo_is, woG_0, woG_1, woG_2, woS_2, woG_3, lm_is, lmG_0, lmG_1, lmG_2, lmG_3, lmG_4, lmG_5, lmG_6, lmG_7, lmG_8, lmS_8, lmG_9, lmS_9, lmG_10, lmS_10, lmG_11, lmS_11, lmG_12, lmS_12, mo_is, moG_0, moG_1, moG_2, moG_3, moG_4, moG_5, moS_5, moG_6, moS_6, moG_7, moS_7, moG_8, moG_9, moS_9, moG_10, moS_10, moG_11, moS_11, moG_12, moS_12, moG_13, moS_13, moG_14, moG_15, moS_15, moG_16, moG_17, moS_17, moG_18, moG_19, moG_20, i32ne0, i32ne1, i32ne2, i32ne3, i32ne4, i32ne5, i32ne6, i32ne7, i32ne8, i32ne9, i32ne10, j64ne, Int32.reduceAdd, Int32.reduceSub, Int32.reduceMul, Int32.reduceLT, Int32.reduceOfNat, Int32.reduceToNatClampNeg, cU_at, Nat.reduceMul, Nat.reduceMod, catR, catI, cV_self, cU_self, hg0, hg1, hg2, hg3, hg4, hg5, hg6, hg7, hg8, hg9, hg10, hg11, hg12, hg13, hg14, hg15, hg16, hg17, hg18, hg19, hg20, hg21, hg22, hg23, hg24, hg25, hg26, hg27, hg28, hg29, hg30, hg31, hg32, hg33, hg34, hg35, hg36, hg37, hg38, hg39, hg40, hg41, hg42, hg43, hg44, hg45, hg46, hg47, hg48, hg49, hg50, hg51, hg52, hg53, hg54, hg55, hg56, hg57, hg58, hg59, hg60, hg61, hg62, hg63, hg64, hg65, hg66, hg67, hg68, hg69, hg70, hg71, hg72, hg73, hg1001, hg1002, hg1003, hg1000, hg2000, hs0, hs8, hs9, hs10, hs11, hs12, hs13, hs14, hs15, hs16, hs17, hs18, hs19, hs20, hs21, hs22, hs23, hs24, hs25, hs26, hs27, hs29, hs30, hs31, hs32, hs33, hs34, hs35, hs36, hs37, hs38, hs39, hs40, hs41, hs42, hs43, hs44, hs45, hs46, hs47, hs48, hs49, hs50, hs51, hs52, hs53, hs54, hs55, hs56, hs57, hs59, hs60, hs61, hs62, hs63, hs64, hs65, hs66, hs67, hs68, hs69, hs70, hs71, hs72, hs73, hw8, hw18, hw29, hw39]
  rfl
end EMP
