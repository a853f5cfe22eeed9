/-! THE DIGEST -/
section DIG
variable {ro : zR} {A : Nat → Nat → Int32} {L : Nat → Nat → Int64} {s : Nat → Nat → Nat}
theorem dg_congr {h : Int64} {f g : Nat → Int32} : ∀ {n : Nat}, (∀ k, k < n → f k = g k) → dg h f n = dg h g n
  | 0, _ => rfl
  | n + 1, e => by
    show 31 * dg h f n + (f n).toInt64 = 31 * dg h g n + (g n).toInt64
    rw [dg_congr (n := n) fun k hk => e k (by omega), e n (by omega)]
theorem dg_app (h : Int64) (f g : Nat → Int32) (m : Nat) : ∀ n : Nat, dg (dg h f m) g n = dg h (fun k => if k < m then f k else g (k - m)) (m + n)
  | 0 => by
    show dg h f m = _
    exact dg_congr fun k hk => (if_pos hk).symm
  | n + 1 => by
    show 31 * dg (dg h f m) g n + (g n).toInt64 = 31 * dg h (fun k => if k < m then f k else g (k - m)) (m + n) + (if m + n < m then f (m + n) else g (m + n - m)).toInt64
    rw [dg_app h f g m n, if_neg (by omega), Nat.add_sub_cancel_left]
theorem dM_dg (h : Int64) (C : Nat → Nat → Int32) (F : Nat → Int32) : ∀ n : Nat, (∀ m, m < n → C 3 m = F (3 * m) ∧ C 4 m = F (3 * m + 1) ∧ C 5 m = F (3 * m + 2)) → dM h C n = dg h F (3 * n)
  | 0, _ => rfl
  | n + 1, e => by
    have i := dM_dg h C F n fun m hm => e m (by omega)
    have l := e n (by omega)
    show 31 * (31 * (31 * dM h C n + (C 3 n).toInt64) + (C 4 n).toInt64) + (C 5 n).toInt64 = 31 * (31 * (31 * dg h F (3 * n) + (F (3 * n)).toInt64) + (F (3 * n + 1)).toInt64) + (F (3 * n + 2)).toInt64
    rw [i, l.1, l.2.1, l.2.2]
theorem dS_dg (h : Int64) (C : Nat → Nat → Int32) (F : Nat → Int32) : ∀ n : Nat, (∀ m, m < n → C 6 m = F (2 * m) ∧ C 7 m = F (2 * m + 1)) → dS h C n = dg h F (2 * n)
  | 0, _ => rfl
  | n + 1, e => by
    have i := dS_dg h C F n fun m hm => e m (by omega)
    have l := e n (by omega)
    show 31 * (31 * dS h C n + (C 6 n).toInt64) + (C 7 n).toInt64 = 31 * (31 * dg h F (2 * n) + (F (2 * n)).toInt64) + (F (2 * n + 1)).toInt64
    rw [i, l.1, l.2]
theorem cop_120 (q : SInv s) : COp ro 120 [] (.long (dgD s)) s s := by
  intro A L h
  have R := h.1
  have n0 := q.1.n0
  have n4 := q.1.n4
  have n5 := q.1.n5
  have h' := hc8 A L
  have d : ∀ H : Int64, rm ro 31 [.ref 8, .long H] (hp A L) = some (some (.long (dg (dg (dg (dg H (fun k => iZ (s 0 (8 + k))) 10) (fun k => iZ (s 0 (18 + k))) (3 * s 0 0)) (fun k => iZ (s 0 (36 + k))) (2 * s 0 4)) (fun k => iZ (s 0 (50 + k))) (s 0 5))), hp A L) := by
    intro H
    have e := sp_digestOn (ro := ro) (hc8 A L) (n := s 0 0) (s := s 0 4) (t := s 0 5) ⟨R.c0, n0⟩ ⟨R.c4, n4⟩ ⟨R.c5, n5⟩ H
    rw [e]
    have e1 : dg (dg H (A (8 + 1)) 4) (A (8 + 2)) 6 = dg H (fun k => iZ (s 0 (8 + k))) 10 := by
      rw [dg_app]
      refine dg_congr fun k hk => ?_
      by_cases c : k < 4
      · rw [if_pos c]
        exact R.g c
      · rw [if_neg c]
        have r := R.c (i := k - 4) (by omega)
        rw [show 12 + (k - 4) = 8 + k by omega] at r
        exact r
    have e2 := dM_dg (dg H (fun k => iZ (s 0 (8 + k))) 10) (fun k => A (8 + k)) (fun k => iZ (s 0 (18 + k))) (s 0 0) fun m hm => by
      have r := R.m n0 hm
      refine ⟨r.1, ?_, ?_⟩
      · rw [show 18 + (3 * m + 1) = 19 + 3 * m by omega]
        exact r.2.1
      · rw [show 18 + (3 * m + 2) = 20 + 3 * m by omega]
        exact r.2.2
    have e3 := dS_dg (dg (dg H (fun k => iZ (s 0 (8 + k))) 10) (fun k => iZ (s 0 (18 + k))) (3 * s 0 0)) (fun k => A (8 + k)) (fun k => iZ (s 0 (36 + k))) (s 0 4) fun m hm => by
      have r := R.s n4 hm
      refine ⟨r.1, ?_⟩
      rw [show 36 + (2 * m + 1) = 37 + 2 * m by omega]
      exact r.2
    have e4 : dg (dg (dg (dg H (fun k => iZ (s 0 (8 + k))) 10) (fun k => iZ (s 0 (18 + k))) (3 * s 0 0)) (fun k => iZ (s 0 (36 + k))) (2 * s 0 4)) (A (8 + 8)) (s 0 5) = dg (dg (dg (dg H (fun k => iZ (s 0 (8 + k))) 10) (fun k => iZ (s 0 (18 + k))) (3 * s 0 0)) (fun k => iZ (s 0 (36 + k))) (2 * s 0 4)) (fun k => iZ (s 0 (50 + k))) (s 0 5) := dg_congr fun k hk => R.p n5 hk
    rw [e1, e2, e3, e4]
  have lp : ∀ k i : Nat, k + i = 9 → rn ro 4 120 6 [(0, .ref 0), (1, .long (dg 881 (fun w => iZ (amN s w)) i)), (3, .int (iZ i))] [] (hp A L) = some (some (.long (dgD s)), hp A L) := by
    intro k
    induction k with
    | zero =>
      intro i hi
      have e : i = 9 := by omega
      subst e
      have c : 8 < iZ ((9 : Nat) : Int) := by decide
      rw [q120_6]
      simp only [q120_0, q120_3, q120_4, q120_5, q120_7, q120_9, q120_12, q120_15, q120_16, q120_17, q120_18, q120_20, q120_23, q120_24, q120_27, q120_30, q120_33, q120_34, q120_37, q120_38, q120_41, q120_42, q120_43, q120_44, q120_47, q120_50, q120_51, q120_54, q120_55, q120_58, q120_59, q120_62, q120_63, q120_64, q120_65, q120_68, q120_69, q120_70, q120_73, q120_74, q120_75, q120_76, q120_79, q120_80, zrk_30, zrk_31, kI_app, kJ_app, kP_app, kV_app, kS_app, kC_app, kN_app, kM_app, zsw_cons, zsw_nil, lv_args_I, lv_args_R, lv_args_L, lv_args_nil, zlook_cons, zrI_some, zrJ_some, zrP_some, zrC_some, zrA_rw, zrAS_rw, zrLen_rw, zst1_nil, zst1_cI, zst1_cR, zst1_cL, zrm1_nil, zrm1_cI, zrm1_cR, zrm1_cL, zst2_nil, zst2_cI, zst2_cR, zst2_cL, zrm2_nil, zrm2_cI, zrm2_cR, zrm2_cL, zkeep_nil, zkeep_cons, zsum_nil, zsum_I, zsum_R, zsum_L, zsum_N, toL_s, toL_n, List.cons_append, List.nil_append, List.mem_cons, List.not_mem_nil, reduceCtorEq, Nat.reduceAdd, Nat.reduceLT, Nat.reduceLeDiff, Nat.reduceEqDiff, Nat.zero_ne_one, Nat.one_ne_zero, Nat.add_zero, Nat.zero_add, or_false, false_or, or_true, true_or, and_true, true_and, and_self, ↓reduceIte, Nat.succ_ne_self, Nat.reduceGT, Nat.reduceSub, Nat.le_refl, Nat.zero_le, zis_O, cl_is, clG_0, clG_1, clG_2, clG_3, clG_4, clG_5, clG_6, clS_6, clG_7, clG_8, clG_9, clS_9, clG_10, clG_11, clS_11, clG_12, clS_12, clG_13, clS_13, clG_14, clS_14, clG_15, clS_15, clG_16, clG_17, clS_17, od_is, odG_0, odG_1, odS_1, odG_2, odG_3, odS_3, odG_4, re_is, reG_0, reS_0, reG_1, reG_2, reG_3, reS_3, reG_4, reS_4, reG_5, reS_5, reG_6, reS_6, wo_is, woG_0, woG_1, woG_2, woS_2, woG_3, lm_is, lmG_0, lmG_1, lmG_2, lmG_3, lmG_4, lmG_5, lmG_6, lmG_7, lmG_8, lmS_8, lmG_9, lmS_9, lmG_10, lmS_10, lmG_11, lmS_11, lmG_12, lmS_12, mo_is, moG_0, moG_1, moG_2, moG_3, moG_4, moG_5, moS_5, moG_6, moS_6, moG_7, moS_7, moG_8, moG_9, moS_9, moG_10, moS_10, moG_11, moS_11, moG_12, moS_12, moG_13, moS_13, moG_14, moG_15, moS_15, moG_16, moG_17, moS_17, moG_18, moG_19, moG_20, i32ne0, i32ne1, i32ne2, i32ne3, i32ne4, i32ne5, i32ne6, i32ne7, i32ne8, i32ne9, i32ne10, j64ne, Int32.reduceAdd, Int32.reduceSub, Int32.reduceMul, Int32.reduceLT, Int32.reduceOfNat, Int32.reduceToNatClampNeg, cU_at, Nat.reduceMul, Nat.reduceMod, catR, catI, cV_self, cU_self, hg0, hg1, hg2, hg3, hg4, hg5, hg6, hg7, hg8, hg9, hg10, hg11, hg12, hg13, hg14, hg15, hg16, hg17, hg18, hg19, hg20, hg21, hg22, hg23, hg24, hg25, hg26, hg27, hg28, hg29, hg30, hg31, hg32, hg33, hg34, hg35, hg36, hg37, hg38, hg39, hg40, hg41, hg42, hg43, hg44, hg45, hg46, hg47, hg48, hg49, hg50, hg51, hg52, hg53, hg54, hg55, hg56, hg57, hg58, hg59, hg60, hg61, hg62, hg63, hg64, hg65, hg66, hg67, hg68, hg69, hg70, hg71, hg72, hg73, hg1001, hg1002, hg1003, hg1000, hg2000, hs0, hs8, hs9, hs10, hs11, hs12, hs13, hs14, hs15, hs16, hs17, hs18, hs19, hs20, hs21, hs22, hs23, hs24, hs25, hs26, hs27, hs29, hs30, hs31, hs32, hs33, hs34, hs35, hs36, hs37, hs38, hs39, hs40, hs41, hs42, hs43, hs44, hs45, hs46, hs47, hs48, hs49, hs50, hs51, hs52, hs53, hs54, hs55, hs56, hs57, hs59, hs60, hs61, hs62, hs63, hs64, hs65, hs66, hs67, hs68, hs69, hs70, hs71, hs72, hs73, hw8, hw18, hw29, hw39, c, d]
      rw [h.2.2.1.1, h.2.2.1.2]
      rfl
    | succ k ih =>
      intro i hi
      have c : ¬ 8 < iZ i := by
        rw [i_gtk 8 8 rfl (by omega) (by omega)]
        omega
      rw [← ih (i + 1) (by omega), q120_6]
      by_cases c7 : i = 7
      · subst c7
        have c8 : (iZ ((7 : Nat) : Int) = 7) = True := by decide
        simp only [q120_0, q120_3, q120_4, q120_5, q120_7, q120_9, q120_12, q120_15, q120_16, q120_17, q120_18, q120_20, q120_23, q120_24, q120_27, q120_30, q120_33, q120_34, q120_37, q120_38, q120_41, q120_42, q120_43, q120_44, q120_47, q120_50, q120_51, q120_54, q120_55, q120_58, q120_59, q120_62, q120_63, q120_64, q120_65, q120_68, q120_69, q120_70, q120_73, q120_74, q120_75, q120_76, q120_79, q120_80, zrk_30, zrk_31, kI_app, kJ_app, kP_app, kV_app, kS_app, kC_app, kN_app, kM_app, zsw_cons, zsw_nil, lv_args_I, lv_args_R, lv_args_L, lv_args_nil, zlook_cons, zrI_some, zrJ_some, zrP_some, zrC_some, zrA_rw, zrAS_rw, zrLen_rw, zst1_nil, zst1_cI, zst1_cR, zst1_cL, zrm1_nil, zrm1_cI, zrm1_cR, zrm1_cL, zst2_nil, zst2_cI, zst2_cR, zst2_cL, zrm2_nil, zrm2_cI, zrm2_cR, zrm2_cL, zkeep_nil, zkeep_cons, zsum_nil, zsum_I, zsum_R, zsum_L, zsum_N, toL_s, toL_n, List.cons_append, List.nil_append, List.mem_cons, List.not_mem_nil, reduceCtorEq, Nat.reduceAdd, Nat.reduceLT, Nat.reduceLeDiff, Nat.reduceEqDiff, Nat.zero_ne_one, Nat.one_ne_zero, Nat.add_zero, Nat.zero_add, or_false, false_or, or_true, true_or, and_true, true_and, and_self, ↓reduceIte, Nat.succ_ne_self, Nat.reduceGT, Nat.reduceSub, Nat.le_refl, Nat.zero_le, zis_O, cl_is, clG_0, clG_1, clG_2, clG_3, clG_4, clG_5, clG_6, clS_6, clG_7, clG_8, clG_9, clS_9, clG_10, clG_11, clS_11, clG_12, clS_12, clG_13, clS_13, clG_14, clS_14, clG_15, clS_15, clG_16, clG_17, clS_17, od_is, odG_0, odG_1, odS_1, odG_2, odG_3, odS_3, odG_4, re_is, reG_0, reS_0, reG_1, reG_2, reG_3, reS_3, reG_4, reS_4, reG_5, reS_5, reG_6, reS_6, wo_is, woG_0, woG_1, woG_2, woS_2, woG_3, lm_is, lmG_0, lmG_1, lmG_2, lmG_3, lmG_4, lmG_5, lmG_6, lmG_7, lmG_8, lmS_8, lmG_9, lmS_9, lmG_10, lmS_10, lmG_11, lmS_11, lmG_12, lmS_12, mo_is, moG_0, moG_1, moG_2, moG_3, moG_4, moG_5, moS_5, moG_6, moS_6, moG_7, moS_7, moG_8, moG_9, moS_9, moG_10, moS_10, moG_11, moS_11, moG_12, moS_12, moG_13, moS_13, moG_14, moG_15, moS_15, moG_16, moG_17, moS_17, moG_18, moG_19, moG_20, i32ne0, i32ne1, i32ne2, i32ne3, i32ne4, i32ne5, i32ne6, i32ne7, i32ne8, i32ne9, i32ne10, j64ne, Int32.reduceAdd, Int32.reduceSub, Int32.reduceMul, Int32.reduceLT, Int32.reduceOfNat, Int32.reduceToNatClampNeg, cU_at, Nat.reduceMul, Nat.reduceMod, catR, catI, cV_self, cU_self, hg0, hg1, hg2, hg3, hg4, hg5, hg6, hg7, hg8, hg9, hg10, hg11, hg12, hg13, hg14, hg15, hg16, hg17, hg18, hg19, hg20, hg21, hg22, hg23, hg24, hg25, hg26, hg27, hg28, hg29, hg30, hg31, hg32, hg33, hg34, hg35, hg36, hg37, hg38, hg39, hg40, hg41, hg42, hg43, hg44, hg45, hg46, hg47, hg48, hg49, hg50, hg51, hg52, hg53, hg54, hg55, hg56, hg57, hg58, hg59, hg60, hg61, hg62, hg63, hg64, hg65, hg66, hg67, hg68, hg69, hg70, hg71, hg72, hg73, hg1001, hg1002, hg1003, hg1000, hg2000, hs0, hs8, hs9, hs10, hs11, hs12, hs13, hs14, hs15, hs16, hs17, hs18, hs19, hs20, hs21, hs22, hs23, hs24, hs25, hs26, hs27, hs29, hs30, hs31, hs32, hs33, hs34, hs35, hs36, hs37, hs38, hs39, hs40, hs41, hs42, hs43, hs44, hs45, hs46, hs47, hs48, hs49, hs50, hs51, hs52, hs53, hs54, hs55, hs56, hs57, hs59, hs60, hs61, hs62, hs63, hs64, hs65, hs66, hs67, hs68, hs69, hs70, hs71, hs72, hs73, hw8, hw18, hw29, hw39, c, c8, if_true, iZ_suc, h.2.2.2.1.1]
        rfl
      · have c8 : ¬ iZ i = 7 := by
          rw [i_eqk 7 7 rfl (by omega) (by omega)]
          omega
        have e := sp_amount (ro := ro) (hc8 A L) (c15 h.1 q.1) (w := i) (by omega)
        simp only [q120_0, q120_3, q120_4, q120_5, q120_7, q120_9, q120_12, q120_15, q120_16, q120_17, q120_18, q120_20, q120_23, q120_24, q120_27, q120_30, q120_33, q120_34, q120_37, q120_38, q120_41, q120_42, q120_43, q120_44, q120_47, q120_50, q120_51, q120_54, q120_55, q120_58, q120_59, q120_62, q120_63, q120_64, q120_65, q120_68, q120_69, q120_70, q120_73, q120_74, q120_75, q120_76, q120_79, q120_80, zrk_30, zrk_31, kI_app, kJ_app, kP_app, kV_app, kS_app, kC_app, kN_app, kM_app, zsw_cons, zsw_nil, lv_args_I, lv_args_R, lv_args_L, lv_args_nil, zlook_cons, zrI_some, zrJ_some, zrP_some, zrC_some, zrA_rw, zrAS_rw, zrLen_rw, zst1_nil, zst1_cI, zst1_cR, zst1_cL, zrm1_nil, zrm1_cI, zrm1_cR, zrm1_cL, zst2_nil, zst2_cI, zst2_cR, zst2_cL, zrm2_nil, zrm2_cI, zrm2_cR, zrm2_cL, zkeep_nil, zkeep_cons, zsum_nil, zsum_I, zsum_R, zsum_L, zsum_N, toL_s, toL_n, List.cons_append, List.nil_append, List.mem_cons, List.not_mem_nil, reduceCtorEq, Nat.reduceAdd, Nat.reduceLT, Nat.reduceLeDiff, Nat.reduceEqDiff, Nat.zero_ne_one, Nat.one_ne_zero, Nat.add_zero, Nat.zero_add, or_false, false_or, or_true, true_or, and_true, true_and, and_self, ↓reduceIte, Nat.succ_ne_self, Nat.reduceGT, Nat.reduceSub, Nat.le_refl, Nat.zero_le, zis_O, cl_is, clG_0, clG_1, clG_2, clG_3, clG_4, clG_5, clG_6, clS_6, clG_7, clG_8, clG_9, clS_9, clG_10, clG_11, clS_11, clG_12, clS_12, clG_13, clS_13, clG_14, clS_14, clG_15, clS_15, clG_16, clG_17, clS_17, od_is, odG_0, odG_1, odS_1, odG_2, odG_3, odS_3, odG_4, re_is, reG_0, reS_0, reG_1, reG_2, reG_3, reS_3, reG_4, reS_4, reG_5, reS_5, reG_6, reS_6, wo_is, woG_0, woG_1, woG_2, woS_2, woG_3, lm_is, lmG_0, lmG_1, lmG_2, lmG_3, lmG_4, lmG_5, lmG_6, lmG_7, lmG_8, lmS_8, lmG_9, lmS_9, lmG_10, lmS_10, lmG_11, lmS_11, lmG_12, lmS_12, mo_is, moG_0, moG_1, moG_2, moG_3, moG_4, moG_5, moS_5, moG_6, moS_6, moG_7, moS_7, moG_8, moG_9, moS_9, moG_10, moS_10, moG_11, moS_11, moG_12, moS_12, moG_13, moS_13, moG_14, moG_15, moS_15, moG_16, moG_17, moS_17, moG_18, moG_19, moG_20, i32ne0, i32ne1, i32ne2, i32ne3, i32ne4, i32ne5, i32ne6, i32ne7, i32ne8, i32ne9, i32ne10, j64ne, Int32.reduceAdd, Int32.reduceSub, Int32.reduceMul, Int32.reduceLT, Int32.reduceOfNat, Int32.reduceToNatClampNeg, cU_at, Nat.reduceMul, Nat.reduceMod, catR, catI, cV_self, cU_self, hg0, hg1, hg2, hg3, hg4, hg5, hg6, hg7, hg8, hg9, hg10, hg11, hg12, hg13, hg14, hg15, hg16, hg17, hg18, hg19, hg20, hg21, hg22, hg23, hg24, hg25, hg26, hg27, hg28, hg29, hg30, hg31, hg32, hg33, hg34, hg35, hg36, hg37, hg38, hg39, hg40, hg41, hg42, hg43, hg44, hg45, hg46, hg47, hg48, hg49, hg50, hg51, hg52, hg53, hg54, hg55, hg56, hg57, hg58, hg59, hg60, hg61, hg62, hg63, hg64, hg65, hg66, hg67, hg68, hg69, hg70, hg71, hg72, hg73, hg1001, hg1002, hg1003, hg1000, hg2000, hs0, hs8, hs9, hs10, hs11, hs12, hs13, hs14, hs15, hs16, hs17, hs18, hs19, hs20, hs21, hs22, hs23, hs24, hs25, hs26, hs27, hs29, hs30, hs31, hs32, hs33, hs34, hs35, hs36, hs37, hs38, hs39, hs40, hs41, hs42, hs43, hs44, hs45, hs46, hs47, hs48, hs49, hs50, hs51, hs52, hs53, hs54, hs55, hs56, hs57, hs59, hs60, hs61, hs62, hs63, hs64, hs65, hs66, hs67, hs68, hs69, hs70, hs71, hs72, hs73, hw8, hw18, hw29, hw39, c, c8, if_false, e, iZ_suc]
        rw [show amt (A (8 + 0)) i = iZ (amN s i) from amt_N h (by omega) c7]
        rfl
  refine ⟨A, L, ?_, h, fun k hk => ⟨rfl, rfl⟩⟩
  have e := lp 9 0 rfl
  show rn ro 4 120 0 (lv_args 0 [.ref 0]) [] (hp A L) = _
  simp only [q120_0, q120_3, q120_4, q120_5, q120_7, q120_9, q120_12, q120_15, q120_16, q120_17, q120_18, q120_20, q120_23, q120_24, q120_27, q120_30, q120_33, q120_34, q120_37, q120_38, q120_41, q120_42, q120_43, q120_44, q120_47, q120_50, q120_51, q120_54, q120_55, q120_58, q120_59, q120_62, q120_63, q120_64, q120_65, q120_68, q120_69, q120_70, q120_73, q120_74, q120_75, q120_76, q120_79, q120_80, zrk_30, zrk_31, kI_app, kJ_app, kP_app, kV_app, kS_app, kC_app, kN_app, kM_app, zsw_cons, zsw_nil, lv_args_I, lv_args_R, lv_args_L, lv_args_nil, zlook_cons, zrI_some, zrJ_some, zrP_some, zrC_some, zrA_rw, zrAS_rw, zrLen_rw, zst1_nil, zst1_cI, zst1_cR, zst1_cL, zrm1_nil, zrm1_cI, zrm1_cR, zrm1_cL, zst2_nil, zst2_cI, zst2_cR, zst2_cL, zrm2_nil, zrm2_cI, zrm2_cR, zrm2_cL, zkeep_nil, zkeep_cons, zsum_nil, zsum_I, zsum_R, zsum_L, zsum_N, toL_s, toL_n, List.cons_append, List.nil_append, List.mem_cons, List.not_mem_nil, reduceCtorEq, Nat.reduceAdd, Nat.reduceLT, Nat.reduceLeDiff, Nat.reduceEqDiff, Nat.zero_ne_one, Nat.one_ne_zero, Nat.add_zero, Nat.zero_add, or_false, false_or, or_true, true_or, and_true, true_and, and_self, ↓reduceIte, Nat.succ_ne_self, Nat.reduceGT, Nat.reduceSub, Nat.le_refl, Nat.zero_le, zis_O, cl_is, clG_0, clG_1, clG_2, clG_3, clG_4, clG_5, clG_6, clS_6, clG_7, clG_8, clG_9, clS_9, clG_10, clG_11, clS_11, clG_12, clS_12, clG_13, clS_13, clG_14, clS_14, clG_15, clS_15, clG_16, clG_17, clS_17, od_is, odG_0, odG_1, odS_1, odG_2, odG_3, odS_3, odG_4, re_is, reG_0, reS_0, reG_1, reG_2, reG_3, reS_3, reG_4, reS_4, reG_5, reS_5, reG_6, reS_6, wo_is, woG_0, woG_1, woG_2, woS_2, woG_3, lm_is, lmG_0, lmG_1, lmG_2, lmG_3, lmG_4, lmG_5, lmG_6, lmG_7, lmG_8, lmS_8, lmG_9, lmS_9, lmG_10, lmS_10, lmG_11, lmS_11, lmG_12, lmS_12, mo_is, moG_0, moG_1, moG_2, moG_3, moG_4, moG_5, moS_5, moG_6, moS_6, moG_7, moS_7, moG_8, moG_9, moS_9, moG_10, moS_10, moG_11, moS_11, moG_12, moS_12, moG_13, moS_13, moG_14, moG_15, moS_15, moG_16, moG_17, moS_17, moG_18, moG_19, moG_20, i32ne0, i32ne1, i32ne2, i32ne3, i32ne4, i32ne5, i32ne6, i32ne7, i32ne8, i32ne9, i32ne10, j64ne, Int32.reduceAdd, Int32.reduceSub, Int32.reduceMul, Int32.reduceLT, Int32.reduceOfNat, Int32.reduceToNatClampNeg, cU_at, Nat.reduceMul, Nat.reduceMod, catR, catI, cV_self, cU_self, hg0, hg1, hg2, hg3, hg4, hg5, hg6, hg7, hg8, hg9, hg10, hg11, hg12, hg13, hg14, hg15, hg16, hg17, hg18, hg19, hg20, hg21, hg22, hg23, hg24, hg25, hg26, hg27, hg28, hg29, hg30, hg31, hg32, hg33, hg34, hg35, hg36, hg37, hg38, hg39, hg40, hg41, hg42, hg43, hg44, hg45, hg46, hg47, hg48, hg49, hg50, hg51, hg52, hg53, hg54, hg55, hg56, hg57, hg58, hg59, hg60, hg61, hg62, hg63, hg64, hg65, hg66, hg67, hg68, hg69, hg70, hg71, hg72, hg73, hg1001, hg1002, hg1003, hg1000, hg2000, hs0, hs8, hs9, hs10, hs11, hs12, hs13, hs14, hs15, hs16, hs17, hs18, hs19, hs20, hs21, hs22, hs23, hs24, hs25, hs26, hs27, hs29, hs30, hs31, hs32, hs33, hs34, hs35, hs36, hs37, hs38, hs39, hs40, hs41, hs42, hs43, hs44, hs45, hs46, hs47, hs48, hs49, hs50, hs51, hs52, hs53, hs54, hs55, hs56, hs57, hs59, hs60, hs61, hs62, hs63, hs64, hs65, hs66, hs67, hs68, hs69, hs70, hs71, hs72, hs73, hw8, hw18, hw29, hw39]
  exact e
end DIG
