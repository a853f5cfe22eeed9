/-! BOTH -/
section BOT
variable {ro : zR} {A : Nat → Nat → Int32} {L : Nat → Nat → Int64} {s : Nat → Nat → Nat}
theorem prN_le (g : Good (s 0)) (hK : s 0 1 + 1 < s 0 0) : prN (s 0) ≤ 1000 := by
  have n2 := g.n2
  have cle := g.c (i := s 0 2) (by omega)
  exact Nat.mul_le_mul (show 100 - (10 - lgN (s 0) (s 0 1) (s 0 3) (s 0 8 - s 0 9)) * (10 - lgN (s 0) (s 0 1 + 1) (s 0 3) (s 0 8 - s 0 9)) ≤ 100 by omega) cle
theorem sp_48 (h : CInv A L s) (q : SInv s) (hK : s 0 1 + 1 < s 0 0) : rm ro 48 [.ref 8] (hp A L) = some (some (.int (iZ (boN (s 0)))), hp A L) := by
  have n0 := q.1.n0
  have n2 := q.1.n2
  have c1 : A 8 14 = iZ (s 0 1) := h.1.c1
  have c2 : A 8 12 = iZ (s 0 2) := h.1.c2
  have cn := carry_now (ro := ro) h q
  have ln := clLn (ro := ro) (hc8 A L) (hk A L) h.1 q.1 (m := s 0 1) (by omega)
  have ln1 := clLn (ro := ro) (hc8 A L) (hk A L) h.1 q.1 (m := s 0 1 + 1) hK
  have of2 := sp_40 (ro := ro) h q (b := 2) (k := s 0 0 - s 0 1 - 2) (by omega)
  have of0 := sp_40 (ro := ro) h q (b := 0) (k := s 0 0 - s 0 1) (by omega)
  rw [show iZ ((2 : Nat) : Int) = 2 from rfl] at of2
  rw [show iZ ((0 : Nat) : Int) = 0 from rfl, show s 0 1 + 0 = s 0 1 from rfl] at of0
  have lle := lgN_le q.1 (m := s 0 1) (t := s 0 3) (w := s 0 8 - s 0 9) (by omega)
  have lle1 := lgN_le q.1 (m := s 0 1 + 1) (t := s 0 3) (w := s 0 8 - s 0 9) hK
  have ple := prN_le q.1 hK
  have s1 := sc_s (s 0 0 - s 0 1 - 2) (by omega)
  have s2 := sc_s (s 0 0 - s 0 1 - 2 + 1) (by omega)
  rw [show s 0 0 - s 0 1 - 2 + 1 + 1 = s 0 0 - s 0 1 by omega] at s2
  have sp := sc_p (s 0 0 - s 0 1) (by omega)
  have b := scpf_le q.1 (t := s 0 3) n2 (k := s 0 0 - s 0 1 - 2) (f := s 0 1 + 2) (by omega)
  have b0 := scpf_le q.1 (t := s 0 3) n2 (k := s 0 0 - s 0 1) (f := s 0 1) (by omega)
  have e1 : 10 - iZ (lgN (s 0) (s 0 1) (s 0 3) (s 0 8 - s 0 9)) = iZ ((10 - lgN (s 0) (s 0 1) (s 0 3) (s 0 8 - s 0 9) : Nat) : Int) := by
    rw [show (10 : Int32) = iZ 10 from rfl, iZ_sub]
    congr 1
    omega
  have e2 : 10 - iZ (lgN (s 0) (s 0 1 + 1) (s 0 3) (s 0 8 - s 0 9)) = iZ ((10 - lgN (s 0) (s 0 1 + 1) (s 0 3) (s 0 8 - s 0 9) : Nat) : Int) := by
    rw [show (10 : Int32) = iZ 10 from rfl, iZ_sub]
    congr 1
    omega
  unfold boN
  rw [← sg_scale (S := sc (s 0 0 - s 0 1)) sp]
  unfold prN at ple ⊢
  generalize pf (s 0) (s 0 3) (s 0 2) (s 0 1 + 2) (s 0 0 - s 0 1 - 2) = O at *
  generalize pf (s 0) (s 0 3) (s 0 2) (s 0 1) (s 0 0 - s 0 1) = O0 at *
  generalize lgN (s 0) (s 0 1) (s 0 3) (s 0 8 - s 0 9) = l1 at *
  generalize lgN (s 0) (s 0 1 + 1) (s 0 3) (s 0 8 - s 0 9) = l2 at *
  have hb : (10 - l1) * (10 - l2) ≤ 100 := Nat.mul_le_mul (show 10 - l1 ≤ 10 by omega) (show 10 - l2 ≤ 10 by omega)
  have e3 : iZ ((10 - l1 : Nat) : Int) * iZ ((10 - l2 : Nat) : Int) = iZ (((10 - l1) * (10 - l2) : Nat) : Int) := by rw [iZ_mul, ← Int.natCast_mul]
  generalize (10 - l1) * (10 - l2) = D at *
  have e4 : 100 - iZ (D : Int) = iZ ((100 - D : Nat) : Int) := by
    rw [show (100 : Int32) = iZ 100 from rfl, iZ_sub]
    congr 1
    omega
  have e5 : 1000 - iZ ((100 - D : Nat) : Int) * iZ (s 0 (12 + s 0 2)) = iZ ((1000 - (100 - D) * s 0 (12 + s 0 2) : Nat) : Int) := by
    rw [iZ_mul, ← Int.natCast_mul, show (1000 : Int32) = iZ 1000 from rfl, iZ_sub]
    congr 1
    omega
  generalize (100 - D) * s 0 (12 + s 0 2) = P at *
  generalize sc (s 0 0 - s 0 1) = S at *
  rw [s1, s2] at of2 b
  have b2 : 10000 * (S * O) ≤ 100000000000000 := by
    rw [show 10000 * (S * O) = 100 * (100 * S) * O by rw [← Nat.mul_assoc, ← Nat.mul_assoc]]
    exact b
  have d1 : jZ ((100 * (100 * S) * O : Nat) : Int) / 1000 = jZ ((10 * (S * O) : Nat) : Int) := by
    rw [show 100 * (100 * S) * O = 1000 * (10 * (S * O)) by rw [← Nat.mul_assoc, ← Nat.mul_assoc, ← Nat.mul_assoc], show (1000 : Int64) = jZ ((1000 : Nat) : Int) from rfl, jZ_divN (by omega) (by decide), Nat.mul_div_cancel_left _ (by decide)]
  have l1 : (iZ ((1000 - P : Nat) : Int)).toInt64 = jZ ((1000 - P : Nat) : Int) := iZ_l (by omega)
  have m1 : jZ ((10 * (S * O) : Nat) : Int) * jZ ((1000 - P : Nat) : Int) = jZ ((S * (10 * (O * (1000 - P))) : Nat) : Int) := by
    rw [jZ_mul, ← Int.natCast_mul]
    congr 2
    rw [Nat.mul_assoc 10, Nat.mul_assoc S, Nat.mul_left_comm]
  have u1 : S * (10 * (O * (1000 - P))) ≤ 100000000000000 := by
    have : S * O * (1000 - P) ≤ S * O * 1000 := Nat.mul_le_mul_left _ (by omega)
    rw [show S * (10 * (O * (1000 - P))) = 10 * (S * O * (1000 - P)) by rw [Nat.mul_left_comm, Nat.mul_assoc S]]
    omega
  have cz := cmp_Z (ro := ro) (σ := hp A L) (x := S * O0) (y := S * (10 * (O * (1000 - P)))) (by omega) (by omega)
  show rn ro 7 48 0 (lv_args 0 [.ref 8]) [] (hp A L) = _
  simp only [q48_0, q48_2, q48_3, q48_4, q48_7, q48_10, q48_11, q48_13, q48_14, q48_15, q48_18, q48_19, q48_20, q48_23, q48_24, q48_25, q48_26, q48_29, q48_31, q48_32, q48_33, q48_34, q48_35, q48_38, q48_41, q48_42, q48_43, q48_44, q48_45, q48_46, q48_49, q48_52, q48_53, q48_54, q48_55, q48_56, q48_57, q48_58, q48_59, q48_62, q48_63, q48_66, zrk_126, zrk_24, zrk_26, zrk_40, kI_app, kJ_app, kP_app, kV_app, kS_app, kC_app, kN_app, kM_app, zsw_cons, zsw_nil, lv_args_I, lv_args_R, lv_args_L, lv_args_nil, zlook_cons, zrI_some, zrJ_some, zrP_some, zrC_some, zrA_rw, zrAS_rw, zrLen_rw, zst1_nil, zst1_cI, zst1_cR, zst1_cL, zrm1_nil, zrm1_cI, zrm1_cR, zrm1_cL, zst2_nil, zst2_cI, zst2_cR, zst2_cL, zrm2_nil, zrm2_cI, zrm2_cR, zrm2_cL, zkeep_nil, zkeep_cons, zsum_nil, zsum_I, zsum_R, zsum_L, zsum_N, toL_s, toL_n, List.cons_append, List.nil_append, List.mem_cons, List.not_mem_nil, reduceCtorEq, Nat.reduceAdd, Nat.reduceLT, Nat.reduceLeDiff, Nat.reduceEqDiff, Nat.zero_ne_one, Nat.one_ne_zero, Nat.add_zero, Nat.zero_add, or_false, false_or, or_true, true_or, and_true, true_and, and_self, ↓reduceIte, Nat.succ_ne_self, Nat.reduceGT, Nat.reduceSub, Nat.le_refl, Nat.zero_le, zis_O, cl_is, clG_0, clG_1, clG_2, clG_3, clG_4, clG_5, clG_6, clS_6, clG_7, clG_8, clG_9, clS_9, clG_10, clG_11, clS_11, clG_12, clS_12, clG_13, clS_13, clG_14, clS_14, clG_15, clS_15, clG_16, clG_17, clS_17, od_is, odG_0, odG_1, odS_1, odG_2, odG_3, odS_3, odG_4, re_is, reG_0, reS_0, reG_1, reG_2, reG_3, reS_3, reG_4, reS_4, reG_5, reS_5, reG_6, reS_6, wo_is, woG_0, woG_1, woG_2, woS_2, woG_3, lm_is, lmG_0, lmG_1, lmG_2, lmG_3, lmG_4, lmG_5, lmG_6, lmG_7, lmG_8, lmS_8, lmG_9, lmS_9, lmG_10, lmS_10, lmG_11, lmS_11, lmG_12, lmS_12, mo_is, moG_0, moG_1, moG_2, moG_3, moG_4, moG_5, moS_5, moG_6, moS_6, moG_7, moS_7, moG_8, moG_9, moS_9, moG_10, moS_10, moG_11, moS_11, moG_12, moS_12, moG_13, moS_13, moG_14, moG_15, moS_15, moG_16, moG_17, moS_17, moG_18, moG_19, moG_20, i32ne0, i32ne1, i32ne2, i32ne3, i32ne4, i32ne5, i32ne6, i32ne7, i32ne8, i32ne9, i32ne10, j64ne, Int32.reduceAdd, Int32.reduceSub, Int32.reduceMul, Int32.reduceLT, Int32.reduceOfNat, Int32.reduceToNatClampNeg, cU_at, Nat.reduceMul, Nat.reduceMod, catR, catI, cV_self, cU_self, hg0, hg1, hg2, hg3, hg4, hg5, hg6, hg7, hg8, hg9, hg10, hg11, hg12, hg13, hg14, hg15, hg16, hg17, hg18, hg19, hg20, hg21, hg22, hg23, hg24, hg25, hg26, hg27, hg28, hg29, hg30, hg31, hg32, hg33, hg34, hg35, hg36, hg37, hg38, hg39, hg40, hg41, hg42, hg43, hg44, hg45, hg46, hg47, hg48, hg49, hg50, hg51, hg52, hg53, hg54, hg55, hg56, hg57, hg58, hg59, hg60, hg61, hg62, hg63, hg64, hg65, hg66, hg67, hg68, hg69, hg70, hg71, hg72, hg73, hg1001, hg1002, hg1003, hg1000, hg2000, hs0, hs8, hs9, hs10, hs11, hs12, hs13, hs14, hs15, hs16, hs17, hs18, hs19, hs20, hs21, hs22, hs23, hs24, hs25, hs26, hs27, hs29, hs30, hs31, hs32, hs33, hs34, hs35, hs36, hs37, hs38, hs39, hs40, hs41, hs42, hs43, hs44, hs45, hs46, hs47, hs48, hs49, hs50, hs51, hs52, hs53, hs54, hs55, hs56, hs57, hs59, hs60, hs61, hs62, hs63, hs64, hs65, hs66, hs67, hs68, hs69, hs70, hs71, hs72, hs73, hw8, hw18, hw29, hw39, c1, c2, cn, ln, iZ_suc, ln1, of2, of0, e1, e2, e3, e4, e5, d1, l1, m1, cz]
theorem cop_105 (q : SInv s) : COp ro 105 [] (.int (iZ (oBo s))) s (cntI s (if s 0 0 - s 0 1 < 2 then -3 else 0)) := by
  intro A L h
  have n0 := q.1.n0
  have eN := sp_counted (ro := ro) A L (x := -3) (by omega)
  rw [← iZ_m3] at eN
  have lf := left_Z (ro := ro) h q
  have cl : (iZ ((s 0 0 - s 0 1 : Nat) : Int) < 2) = (s 0 0 - s 0 1 < 2) := by
    rw [i_ltk 2 2 rfl (by omega) (by omega)]
    exact propext ⟨fun z => by omega, fun z => by omega⟩
  unfold oBo
  by_cases c : s 0 0 - s 0 1 < 2
  · rw [if_pos c, if_pos c]
    refine ⟨_, L, ?_, h.cnt (-3), fun k hk => ⟨cntA_n _ _ (by omega), rfl⟩⟩
    show rn ro 8 105 0 (lv_args 0 [.ref 0]) [] (hp A L) = _
    simp only [q105_0, q105_1, q105_4, q105_7, q105_8, q105_11, q105_12, q105_14, q105_17, q105_20, q105_21, q105_24, q105_27, zrk_121, zrk_22, zrk_48, kI_app, kJ_app, kP_app, kV_app, kS_app, kC_app, kN_app, kM_app, zsw_cons, zsw_nil, lv_args_I, lv_args_R, lv_args_L, lv_args_nil, zlook_cons, zrI_some, zrJ_some, zrP_some, zrC_some, zrA_rw, zrAS_rw, zrLen_rw, zst1_nil, zst1_cI, zst1_cR, zst1_cL, zrm1_nil, zrm1_cI, zrm1_cR, zrm1_cL, zst2_nil, zst2_cI, zst2_cR, zst2_cL, zrm2_nil, zrm2_cI, zrm2_cR, zrm2_cL, zkeep_nil, zkeep_cons, zsum_nil, zsum_I, zsum_R, zsum_L, zsum_N, toL_s, toL_n, List.cons_append, List.nil_append, List.mem_cons, List.not_mem_nil, reduceCtorEq, Nat.reduceAdd, Nat.reduceLT, Nat.reduceLeDiff, Nat.reduceEqDiff, Nat.zero_ne_one, Nat.one_ne_zero, Nat.add_zero, Nat.zero_add, or_false, false_or, or_true, true_or, and_true, true_and, and_self, ↓reduceIte, Nat.succ_ne_self, Nat.reduceGT, Nat.reduceSub, Nat.le_refl, Nat.zero_le, zis_O, cl_is, clG_0, clG_1, clG_2, clG_3, clG_4, clG_5, clG_6, clS_6, clG_7, clG_8, clG_9, clS_9, clG_10, clG_11, clS_11, clG_12, clS_12, clG_13, clS_13, clG_14, clS_14, clG_15, clS_15, clG_16, clG_17, clS_17, od_is, odG_0, odG_1, odS_1, odG_2, odG_3, odS_3, odG_4, re_is, reG_0, reS_0, reG_1, reG_2, reG_3, reS_3, reG_4, reS_4, reG_5, reS_5, reG_6, reS_6, wo_is, woG_0, woG_1, woG_2, woS_2, woG_3, lm_is, lmG_0, lmG_1, lmG_2, lmG_3, lmG_4, lmG_5, lmG_6, lmG_7, lmG_8, lmS_8, lmG_9, lmS_9, lmG_10, lmS_10, lmG_11, lmS_11, lmG_12, lmS_12, mo_is, moG_0, moG_1, moG_2, moG_3, moG_4, moG_5, moS_5, moG_6, moS_6, moG_7, moS_7, moG_8, moG_9, moS_9, moG_10, moS_10, moG_11, moS_11, moG_12, moS_12, moG_13, moS_13, moG_14, moG_15, moS_15, moG_16, moG_17, moS_17, moG_18, moG_19, moG_20, i32ne0, i32ne1, i32ne2, i32ne3, i32ne4, i32ne5, i32ne6, i32ne7, i32ne8, i32ne9, i32ne10, j64ne, Int32.reduceAdd, Int32.reduceSub, Int32.reduceMul, Int32.reduceLT, Int32.reduceOfNat, Int32.reduceToNatClampNeg, cU_at, Nat.reduceMul, Nat.reduceMod, catR, catI, cV_self, cU_self, hg0, hg1, hg2, hg3, hg4, hg5, hg6, hg7, hg8, hg9, hg10, hg11, hg12, hg13, hg14, hg15, hg16, hg17, hg18, hg19, hg20, hg21, hg22, hg23, hg24, hg25, hg26, hg27, hg28, hg29, hg30, hg31, hg32, hg33, hg34, hg35, hg36, hg37, hg38, hg39, hg40, hg41, hg42, hg43, hg44, hg45, hg46, hg47, hg48, hg49, hg50, hg51, hg52, hg53, hg54, hg55, hg56, hg57, hg58, hg59, hg60, hg61, hg62, hg63, hg64, hg65, hg66, hg67, hg68, hg69, hg70, hg71, hg72, hg73, hg1001, hg1002, hg1003, hg1000, hg2000, hs0, hs8, hs9, hs10, hs11, hs12, hs13, hs14, hs15, hs16, hs17, hs18, hs19, hs20, hs21, hs22, hs23, hs24, hs25, hs26, hs27, hs29, hs30, hs31, hs32, hs33, hs34, hs35, hs36, hs37, hs38, hs39, hs40, hs41, hs42, hs43, hs44, hs45, hs46, hs47, hs48, hs49, hs50, hs51, hs52, hs53, hs54, hs55, hs56, hs57, hs59, hs60, hs61, hs62, hs63, hs64, hs65, hs66, hs67, hs68, hs69, hs70, hs71, hs72, hs73, hw8, hw18, hw29, hw39, lf, cl, c, if_true, eN]
    rfl
  · rw [if_neg c, if_neg c]
    have e := sp_48 (ro := ro) h q (by omega)
    refine ⟨A, L, ?_, h.cnt 0, fun k hk => ⟨rfl, rfl⟩⟩
    show rn ro 8 105 0 (lv_args 0 [.ref 0]) [] (hp A L) = _
    simp only [q105_0, q105_1, q105_4, q105_7, q105_8, q105_11, q105_12, q105_14, q105_17, q105_20, q105_21, q105_24, q105_27, zrk_121, zrk_22, zrk_48, kI_app, kJ_app, kP_app, kV_app, kS_app, kC_app, kN_app, kM_app, zsw_cons, zsw_nil, lv_args_I, lv_args_R, lv_args_L, lv_args_nil, zlook_cons, zrI_some, zrJ_some, zrP_some, zrC_some, zrA_rw, zrAS_rw, zrLen_rw, zst1_nil, zst1_cI, zst1_cR, zst1_cL, zrm1_nil, zrm1_cI, zrm1_cR, zrm1_cL, zst2_nil, zst2_cI, zst2_cR, zst2_cL, zrm2_nil, zrm2_cI, zrm2_cR, zrm2_cL, zkeep_nil, zkeep_cons, zsum_nil, zsum_I, zsum_R, zsum_L, zsum_N, toL_s, toL_n, List.cons_append, List.nil_append, List.mem_cons, List.not_mem_nil, reduceCtorEq, Nat.reduceAdd, Nat.reduceLT, Nat.reduceLeDiff, Nat.reduceEqDiff, Nat.zero_ne_one, Nat.one_ne_zero, Nat.add_zero, Nat.zero_add, or_false, false_or, or_true, true_or, and_true, true_and, and_self, ↓reduceIte, Nat.succ_ne_self, Nat.reduceGT, Nat.reduceSub, Nat.le_refl, Nat.zero_le, zis_O, cl_is, clG_0, clG_1, clG_2, clG_3, clG_4, clG_5, clG_6, clS_6, clG_7, clG_8, clG_9, clS_9, clG_10, clG_11, clS_11, clG_12, clS_12, clG_13, clS_13, clG_14, clS_14, clG_15, clS_15, clG_16, clG_17, clS_17, od_is, odG_0, odG_1, odS_1, odG_2, odG_3, odS_3, odG_4, re_is, reG_0, reS_0, reG_1, reG_2, reG_3, reS_3, reG_4, reS_4, reG_5, reS_5, reG_6, reS_6, wo_is, woG_0, woG_1, woG_2, woS_2, woG_3, lm_is, lmG_0, lmG_1, lmG_2, lmG_3, lmG_4, lmG_5, lmG_6, lmG_7, lmG_8, lmS_8, lmG_9, lmS_9, lmG_10, lmS_10, lmG_11, lmS_11, lmG_12, lmS_12, mo_is, moG_0, moG_1, moG_2, moG_3, moG_4, moG_5, moS_5, moG_6, moS_6, moG_7, moS_7, moG_8, moG_9, moS_9, moG_10, moS_10, moG_11, moS_11, moG_12, moS_12, moG_13, moS_13, moG_14, moG_15, moS_15, moG_16, moG_17, moS_17, moG_18, moG_19, moG_20, i32ne0, i32ne1, i32ne2, i32ne3, i32ne4, i32ne5, i32ne6, i32ne7, i32ne8, i32ne9, i32ne10, j64ne, Int32.reduceAdd, Int32.reduceSub, Int32.reduceMul, Int32.reduceLT, Int32.reduceOfNat, Int32.reduceToNatClampNeg, cU_at, Nat.reduceMul, Nat.reduceMod, catR, catI, cV_self, cU_self, hg0, hg1, hg2, hg3, hg4, hg5, hg6, hg7, hg8, hg9, hg10, hg11, hg12, hg13, hg14, hg15, hg16, hg17, hg18, hg19, hg20, hg21, hg22, hg23, hg24, hg25, hg26, hg27, hg28, hg29, hg30, hg31, hg32, hg33, hg34, hg35, hg36, hg37, hg38, hg39, hg40, hg41, hg42, hg43, hg44, hg45, hg46, hg47, hg48, hg49, hg50, hg51, hg52, hg53, hg54, hg55, hg56, hg57, hg58, hg59, hg60, hg61, hg62, hg63, hg64, hg65, hg66, hg67, hg68, hg69, hg70, hg71, hg72, hg73, hg1001, hg1002, hg1003, hg1000, hg2000, hs0, hs8, hs9, hs10, hs11, hs12, hs13, hs14, hs15, hs16, hs17, hs18, hs19, hs20, hs21, hs22, hs23, hs24, hs25, hs26, hs27, hs29, hs30, hs31, hs32, hs33, hs34, hs35, hs36, hs37, hs38, hs39, hs40, hs41, hs42, hs43, hs44, hs45, hs46, hs47, hs48, hs49, hs50, hs51, hs52, hs53, hs54, hs55, hs56, hs57, hs59, hs60, hs61, hs62, hs63, hs64, hs65, hs66, hs67, hs68, hs69, hs70, hs71, hs72, hs73, hw8, hw18, hw29, hw39, lf, cl, c, if_false, e]
theorem mop_180 (q : SInv s) : MOp ro 180 [] (.int (iZ (oBo s))) s (cntI s (if s 0 0 - s 0 1 < 2 then -3 else 0)) := by
  intro A L h
  have n0 := q.1.n0
  have n1 := q.1.n1
  have n2 := q.1.n2
  have n3 := q.1.n3
  have hq : A 62 5 = 0 ∨ A 62 5 = 1 := Or.inl h.q
  have h0 := h.1 0 (by decide)
  have h1 := h.1 1 (by decide)
  have h2 := h.1 2 (by decide)
  have h3 := h.1 3 (by decide)
  have ce : (iZ (s 0 0) - iZ (s 0 1) < 2) = (s 0 0 - s 0 1 < 2) := by
    rw [iZ_sub, i_ltk 2 2 rfl (by omega) (by omega)]
    exact propext ⟨fun z => by omega, fun z => by omega⟩
  unfold oBo
  by_cases c : s 0 0 - s 0 1 < 2
  · rw [if_pos c, if_pos c]
    refine ⟨_, L, ?_, h.ref (i := 1) (by decide) rfl, fun k hk => ⟨refA_n _ _ (by omega), rfl⟩⟩
    show rn ro 5 180 0 (lv_args 0 [.ref 62]) [] (hp A L) = _
    simp only [q180_0, q180_1, q180_4, q180_5, q180_6, q180_7, q180_8, q180_11, q180_12, q180_13, q180_14, q180_15, q180_16, q180_19, q180_20, q180_23, q180_24, q180_25, q180_28, q180_29, q180_30, q180_31, q180_32, q180_33, q180_34, q180_35, q180_36, q180_39, q180_40, q180_41, q180_42, q180_45, q180_46, q180_49, q180_50, q180_53, q180_54, q180_55, q180_56, q180_57, q180_58, q180_59, q180_62, q180_64, q180_67, q180_70, q180_71, q180_72, q180_73, q180_76, q180_77, q180_78, q180_81, q180_82, q180_83, q180_84, q180_85, q180_86, q180_89, q180_90, q180_91, q180_92, q180_93, q180_94, q180_97, q180_98, q180_99, q180_101, q180_103, q180_105, q180_106, q180_109, q180_111, q180_112, q180_113, q180_114, q180_115, q180_117, q180_120, q180_122, q180_123, q180_124, q180_125, q180_126, q180_129, q180_130, q180_131, q180_132, q180_135, q180_138, zrk_137, zrk_158, zrk_167, zrk_169, zrk_177, zrk_178, kI_app, kJ_app, kP_app, kV_app, kS_app, kC_app, kN_app, kM_app, zsw_cons, zsw_nil, lv_args_I, lv_args_R, lv_args_L, lv_args_nil, zlook_cons, zrI_some, zrJ_some, zrP_some, zrC_some, zrA_rw, zrAS_rw, zrLen_rw, zst1_nil, zst1_cI, zst1_cR, zst1_cL, zrm1_nil, zrm1_cI, zrm1_cR, zrm1_cL, zst2_nil, zst2_cI, zst2_cR, zst2_cL, zrm2_nil, zrm2_cI, zrm2_cR, zrm2_cL, zkeep_nil, zkeep_cons, zsum_nil, zsum_I, zsum_R, zsum_L, zsum_N, toL_s, toL_n, List.cons_append, List.nil_append, List.mem_cons, List.not_mem_nil, reduceCtorEq, Nat.reduceAdd, Nat.reduceLT, Nat.reduceLeDiff, Nat.reduceEqDiff, Nat.zero_ne_one, Nat.one_ne_zero, Nat.add_zero, Nat.zero_add, or_false, false_or, or_true, true_or, and_true, true_and, and_self, ↓reduceIte, Nat.succ_ne_self, Nat.reduceGT, Nat.reduceSub, Nat.le_refl, Nat.zero_le, zis_O, cl_is, clG_0, clG_1, clG_2, clG_3, clG_4, clG_5, clG_6, clS_6, clG_7, clG_8, clG_9, clS_9, clG_10, clG_11, clS_11, clG_12, clS_12, clG_13, clS_13, clG_14, clS_14, clG_15, clS_15, clG_16, clG_17, clS_17, od_is, odG_0, odG_1, odS_1, odG_2, odG_3, odS_3, odG_4, re_is, reG_0, reS_0, reG_1, reG_2, reG_3, reS_3, reG_4, reS_4, reG_5, reS_5, reG_6, reS_6, wo_is, woG_0, woG_1, woG_2, woS_2, woG_3, lm_is, lmG_0, lmG_1, lmG_2, lmG_3, lmG_4, lmG_5, lmG_6, lmG_7, lmG_8, lmS_8, lmG_9, lmS_9, lmG_10, lmS_10, lmG_11, lmS_11, lmG_12, lmS_12, mo_is, moG_0, moG_1, moG_2, moG_3, moG_4, moG_5, moS_5, moG_6, moS_6, moG_7, moS_7, moG_8, moG_9, moS_9, moG_10, moS_10, moG_11, moS_11, moG_12, moS_12, moG_13, moS_13, moG_14, moG_15, moS_15, moG_16, moG_17, moS_17, moG_18, moG_19, moG_20, i32ne0, i32ne1, i32ne2, i32ne3, i32ne4, i32ne5, i32ne6, i32ne7, i32ne8, i32ne9, i32ne10, j64ne, Int32.reduceAdd, Int32.reduceSub, Int32.reduceMul, Int32.reduceLT, Int32.reduceOfNat, Int32.reduceToNatClampNeg, cU_at, Nat.reduceMul, Nat.reduceMod, catR, catI, cV_self, cU_self, hg0, hg1, hg2, hg3, hg4, hg5, hg6, hg7, hg8, hg9, hg10, hg11, hg12, hg13, hg14, hg15, hg16, hg17, hg18, hg19, hg20, hg21, hg22, hg23, hg24, hg25, hg26, hg27, hg28, hg29, hg30, hg31, hg32, hg33, hg34, hg35, hg36, hg37, hg38, hg39, hg40, hg41, hg42, hg43, hg44, hg45, hg46, hg47, hg48, hg49, hg50, hg51, hg52, hg53, hg54, hg55, hg56, hg57, hg58, hg59, hg60, hg61, hg62, hg63, hg64, hg65, hg66, hg67, hg68, hg69, hg70, hg71, hg72, hg73, hg1001, hg1002, hg1003, hg1000, hg2000, hs0, hs8, hs9, hs10, hs11, hs12, hs13, hs14, hs15, hs16, hs17, hs18, hs19, hs20, hs21, hs22, hs23, hs24, hs25, hs26, hs27, hs29, hs30, hs31, hs32, hs33, hs34, hs35, hs36, hs37, hs38, hs39, hs40, hs41, hs42, hs43, hs44, hs45, hs46, hs47, hs48, hs49, hs50, hs51, hs52, hs53, hs54, hs55, hs56, hs57, hs59, hs60, hs61, hs62, hs63, hs64, hs65, hs66, hs67, hs68, hs69, hs70, hs71, hs72, hs73, hw8, hw18, hw29, hw39, h0, h1, ce, c, if_true, sp_no hq]
    rfl
  · rw [if_neg c, if_neg c]
    have hK : s 0 1 + 1 < s 0 0 := by omega
    refine ⟨A, L, ?_, h.cnt0 (by omega), fun k hk => ⟨rfl, rfl⟩⟩
    have lle := lgN_le q.1 (m := s 0 1) (t := s 0 3) (w := s 0 8 - s 0 9) (by omega)
    have lle1 := lgN_le q.1 (m := s 0 1 + 1) (t := s 0 3) (w := s 0 8 - s 0 9) hK
    have cle := q.1.c (i := s 0 2) (by omega)
    have ple := prN_le q.1 hK
    have l := sp_lights (ro := ro) (L := L) h.1 q.1 (m := s 0 1) (t := s 0 3) (by omega) (by omega)
    have l1 := sp_lights (ro := ro) (L := L) h.1 q.1 (m := s 0 1 + 1) (t := s 0 3) hK (by omega)
    have cn := carryN (ro := ro) h q
    have st2 := sp_strikesAll (ro := ro) (L := L) h.1 q.1 (f := s 0 1 + 2) (t := s 0 3) (r := s 0 2) n2 (by omega) (k := s 0 0 - s 0 1 - 2) (by omega)
    have st0 := sp_strikesAll (ro := ro) (L := L) h.1 q.1 (f := s 0 1) (t := s 0 3) (r := s 0 2) n2 (by omega) (k := s 0 0 - s 0 1) (by omega)
    have a2 : iZ (s 0 1) + 2 = iZ ((s 0 1 + 2 : Nat) : Int) := iZ_pa 2 2 _ rfl
    have pw := fun σ => pw100 (ro := ro) (σ := σ) (s 0 0 - s 0 1 - 2) (x := iZ (s 0 0) - 2 - iZ (s 0 1)) (by
      rw [show (2 : Int32) = iZ 2 from rfl, iZ_sub, iZ_sub]
      congr 1
      omega) (by omega)
    have sp2 := sA_pf q.1 (t := s 0 3) n2 (s 0 0 - s 0 1 - 2) (s 0 1 + 2) (by omega)
    have sp0 := sA_pf q.1 (t := s 0 3) n2 (s 0 0 - s 0 1) (s 0 1) (by omega)
    have pl := p100_le (k := s 0 0 - s 0 1 - 2) (by omega)
    have pk : 100 ^ (s 0 0 - s 0 1) = 10000 * 100 ^ (s 0 0 - s 0 1 - 2) := by
      obtain ⟨k, hk⟩ : ∃ k, s 0 0 - s 0 1 = k + 2 := ⟨s 0 0 - s 0 1 - 2, by omega⟩
      rw [hk, Nat.add_sub_cancel, Nat.pow_add, Nat.mul_comm]
    rw [pk] at sp0
    unfold boN
    unfold prN at ple ⊢
    generalize sA (s 0) (s 0 3) (s 0 2) (s 0 1 + 2) (s 0 0 - s 0 1 - 2) = R at *
    generalize sA (s 0) (s 0 3) (s 0 2) (s 0 1) (s 0 0 - s 0 1) = R0 at *
    generalize pf (s 0) (s 0 3) (s 0 2) (s 0 1 + 2) (s 0 0 - s 0 1 - 2) = O at *
    generalize pf (s 0) (s 0 3) (s 0 2) (s 0 1) (s 0 0 - s 0 1) = O0 at *
    generalize 100 ^ (s 0 0 - s 0 1 - 2) = W at *
    generalize lgN (s 0) (s 0 1) (s 0 3) (s 0 8 - s 0 9) = x1 at *
    generalize lgN (s 0) (s 0 1 + 1) (s 0 3) (s 0 8 - s 0 9) = x2 at *
    generalize s 0 (12 + s 0 2) = C at *
    have mm : ∀ x y : Nat, jZ (x : Int) * jZ (y : Int) = jZ ((x * y : Nat) : Int) := fun x y => by rw [jZ_mul, ← Int.natCast_mul]
    have aa : ∀ x y : Nat, jZ (x : Int) + jZ (y : Int) = jZ ((x + y : Nat) : Int) := fun x y => by rw [jZ_add, ← Int.natCast_add]
    have j100 : (100 : Int64) = jZ ((100 : Nat) : Int) := rfl
    have j10 : (10 : Int64) = jZ ((10 : Nat) : Int) := rfl
    have j1000 : (1000 : Int64) = jZ ((1000 : Nat) : Int) := rfl
    have t1 : (iZ (x1 : Int)).toInt64 = jZ (x1 : Int) := iZ_l (by omega)
    have t2 : (iZ (x2 : Int)).toInt64 = jZ (x2 : Int) := iZ_l (by omega)
    have t3 : (iZ (C : Int)).toInt64 = jZ (C : Int) := iZ_l (by omega)
    have b1 : jZ ((10 : Nat) : Int) - jZ (x1 : Int) = jZ ((10 - x1 : Nat) : Int) := by
      rw [jZ_sub]
      congr 1
      omega
    have b2 : jZ ((10 : Nat) : Int) - jZ (x2 : Int) = jZ ((10 - x2 : Nat) : Int) := by
      rw [jZ_sub]
      congr 1
      omega
    have hb : (10 - x1) * (10 - x2) ≤ 100 := Nat.mul_le_mul (show 10 - x1 ≤ 10 by omega) (show 10 - x2 ≤ 10 by omega)
    have b3 : jZ ((100 : Nat) : Int) - jZ (((10 - x1) * (10 - x2) : Nat) : Int) = jZ ((100 - (10 - x1) * (10 - x2) : Nat) : Int) := by
      rw [jZ_sub]
      congr 1
      omega
    generalize hD : (10 - x1) * (10 - x2) = D at hb b3 ple ⊢
    have b4 : jZ ((1000 : Nat) : Int) - jZ (((100 - D) * C : Nat) : Int) = jZ ((1000 - (100 - D) * C : Nat) : Int) := by
      rw [jZ_sub]
      congr 1
      omega
    have m5 : jZ ((100 - D : Nat) : Int) * jZ (C : Int) = jZ (((100 - D) * C : Nat) : Int) := mm _ _
    generalize hP : (100 - D) * C = P at ple b4 m5 ⊢
    have one : 10 * (P * W + (1000 - P) * R) + 10 * (O * (1000 - P)) = 10000 * W := by
      rw [← Nat.mul_add, Nat.mul_comm O, Nat.add_assoc, ← Nat.mul_add, sp2, ← Nat.add_mul, Nat.add_sub_of_le ple, ← Nat.mul_assoc]
    have cz := cmd_Z (ro := ro) (σ := hp A L) (x := 10 * (P * W + (1000 - P) * R)) (y := R0) (by omega) (by omega)
    rw [sg_compl one sp0] at cz
    show rn ro 5 180 0 (lv_args 0 [.ref 62]) [] (hp A L) = _
    simp only [q180_0, q180_1, q180_4, q180_5, q180_6, q180_7, q180_8, q180_11, q180_12, q180_13, q180_14, q180_15, q180_16, q180_19, q180_20, q180_23, q180_24, q180_25, q180_28, q180_29, q180_30, q180_31, q180_32, q180_33, q180_34, q180_35, q180_36, q180_39, q180_40, q180_41, q180_42, q180_45, q180_46, q180_49, q180_50, q180_53, q180_54, q180_55, q180_56, q180_57, q180_58, q180_59, q180_62, q180_64, q180_67, q180_70, q180_71, q180_72, q180_73, q180_76, q180_77, q180_78, q180_81, q180_82, q180_83, q180_84, q180_85, q180_86, q180_89, q180_90, q180_91, q180_92, q180_93, q180_94, q180_97, q180_98, q180_99, q180_101, q180_103, q180_105, q180_106, q180_109, q180_111, q180_112, q180_113, q180_114, q180_115, q180_117, q180_120, q180_122, q180_123, q180_124, q180_125, q180_126, q180_129, q180_130, q180_131, q180_132, q180_135, q180_138, zrk_137, zrk_158, zrk_167, zrk_169, zrk_177, zrk_178, kI_app, kJ_app, kP_app, kV_app, kS_app, kC_app, kN_app, kM_app, zsw_cons, zsw_nil, lv_args_I, lv_args_R, lv_args_L, lv_args_nil, zlook_cons, zrI_some, zrJ_some, zrP_some, zrC_some, zrA_rw, zrAS_rw, zrLen_rw, zst1_nil, zst1_cI, zst1_cR, zst1_cL, zrm1_nil, zrm1_cI, zrm1_cR, zrm1_cL, zst2_nil, zst2_cI, zst2_cR, zst2_cL, zrm2_nil, zrm2_cI, zrm2_cR, zrm2_cL, zkeep_nil, zkeep_cons, zsum_nil, zsum_I, zsum_R, zsum_L, zsum_N, toL_s, toL_n, List.cons_append, List.nil_append, List.mem_cons, List.not_mem_nil, reduceCtorEq, Nat.reduceAdd, Nat.reduceLT, Nat.reduceLeDiff, Nat.reduceEqDiff, Nat.zero_ne_one, Nat.one_ne_zero, Nat.add_zero, Nat.zero_add, or_false, false_or, or_true, true_or, and_true, true_and, and_self, ↓reduceIte, Nat.succ_ne_self, Nat.reduceGT, Nat.reduceSub, Nat.le_refl, Nat.zero_le, zis_O, cl_is, clG_0, clG_1, clG_2, clG_3, clG_4, clG_5, clG_6, clS_6, clG_7, clG_8, clG_9, clS_9, clG_10, clG_11, clS_11, clG_12, clS_12, clG_13, clS_13, clG_14, clS_14, clG_15, clS_15, clG_16, clG_17, clS_17, od_is, odG_0, odG_1, odS_1, odG_2, odG_3, odS_3, odG_4, re_is, reG_0, reS_0, reG_1, reG_2, reG_3, reS_3, reG_4, reS_4, reG_5, reS_5, reG_6, reS_6, wo_is, woG_0, woG_1, woG_2, woS_2, woG_3, lm_is, lmG_0, lmG_1, lmG_2, lmG_3, lmG_4, lmG_5, lmG_6, lmG_7, lmG_8, lmS_8, lmG_9, lmS_9, lmG_10, lmS_10, lmG_11, lmS_11, lmG_12, lmS_12, mo_is, moG_0, moG_1, moG_2, moG_3, moG_4, moG_5, moS_5, moG_6, moS_6, moG_7, moS_7, moG_8, moG_9, moS_9, moG_10, moS_10, moG_11, moS_11, moG_12, moS_12, moG_13, moS_13, moG_14, moG_15, moS_15, moG_16, moG_17, moS_17, moG_18, moG_19, moG_20, i32ne0, i32ne1, i32ne2, i32ne3, i32ne4, i32ne5, i32ne6, i32ne7, i32ne8, i32ne9, i32ne10, j64ne, Int32.reduceAdd, Int32.reduceSub, Int32.reduceMul, Int32.reduceLT, Int32.reduceOfNat, Int32.reduceToNatClampNeg, cU_at, Nat.reduceMul, Nat.reduceMod, catR, catI, cV_self, cU_self, hg0, hg1, hg2, hg3, hg4, hg5, hg6, hg7, hg8, hg9, hg10, hg11, hg12, hg13, hg14, hg15, hg16, hg17, hg18, hg19, hg20, hg21, hg22, hg23, hg24, hg25, hg26, hg27, hg28, hg29, hg30, hg31, hg32, hg33, hg34, hg35, hg36, hg37, hg38, hg39, hg40, hg41, hg42, hg43, hg44, hg45, hg46, hg47, hg48, hg49, hg50, hg51, hg52, hg53, hg54, hg55, hg56, hg57, hg58, hg59, hg60, hg61, hg62, hg63, hg64, hg65, hg66, hg67, hg68, hg69, hg70, hg71, hg72, hg73, hg1001, hg1002, hg1003, hg1000, hg2000, hs0, hs8, hs9, hs10, hs11, hs12, hs13, hs14, hs15, hs16, hs17, hs18, hs19, hs20, hs21, hs22, hs23, hs24, hs25, hs26, hs27, hs29, hs30, hs31, hs32, hs33, hs34, hs35, hs36, hs37, hs38, hs39, hs40, hs41, hs42, hs43, hs44, hs45, hs46, hs47, hs48, hs49, hs50, hs51, hs52, hs53, hs54, hs55, hs56, hs57, hs59, hs60, hs61, hs62, hs63, hs64, hs65, hs66, hs67, hs68, hs69, hs70, hs71, hs72, hs73, hw8, hw18, hw29, hw39, h0, h1, h2, h3, ce, c, if_false, iZ_suc, a2, st2, pw, l, l1, cn, j100, j10, j1000, t1, t2, t3, b1, b2, mm, hD, b3, hP, b4, aa, st0, cz]
end BOT
