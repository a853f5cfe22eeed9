/-! SPLIT, BOTH, CANDLE -/
def sgN (x y : Nat) : Int := if x = y then 0 else if y < x then 1 else -1
def spN (a : Nat → Nat) : Int := sgN (100 * (pf a (a 3) (a 2) (a 1 + 1) (a 0 - a 1 - 1) * (100 - pN a (a 1) (a 3) (a 2)))) (pf a (a 3) (a 2) (a 1 + 1) (a 0 - a 1 - 1) * (100 - lgN a (a 1) (a 3) (a 8 - a 9) / 2 * a (12 + a 2)) * (100 - lgN a (a 1) (a 3) (a 8 - a 9) / 2 * a (12 + a 2)))
def prN (a : Nat → Nat) : Nat := (100 - (10 - lgN a (a 1) (a 3) (a 8 - a 9)) * (10 - lgN a (a 1 + 1) (a 3) (a 8 - a 9))) * a (12 + a 2)
def boN (a : Nat → Nat) : Int := sgN (pf a (a 3) (a 2) (a 1) (a 0 - a 1)) (10 * (pf a (a 3) (a 2) (a 1 + 2) (a 0 - a 1 - 2) * (1000 - prN a)))
def oSp (s : Nat → Nat → Nat) : Int := if s 0 0 - s 0 1 < 1 then -3 else spN (s 0)
def oBo (s : Nat → Nat → Nat) : Int := if s 0 0 - s 0 1 < 2 then -3 else boN (s 0)
theorem sg_scale {S x y : Nat} (h : 0 < S) : sgN (S * x) (S * y) = sgN x y := by
  unfold sgN
  by_cases c : x = y
  · rw [if_pos c, if_pos (by rw [c])]
  · rw [if_neg c, if_neg (fun z => c (Nat.eq_of_mul_eq_mul_left h z))]
    by_cases d : y < x
    · rw [if_pos d, if_pos (Nat.mul_lt_mul_of_pos_left d h)]
    · rw [if_neg d, if_neg (fun z => d (Nat.lt_of_mul_lt_mul_left z))]
theorem sg_compl {x y u v T : Nat} (h1 : u + y = T) (h2 : v + x = T) : sgN u v = sgN x y := by
  unfold sgN
  by_cases c : x = y
  · rw [if_pos c, if_pos (by omega)]
  · rw [if_neg c, if_neg (by omega)]
    by_cases d : y < x
    · rw [if_pos d, if_pos (by omega)]
    · rw [if_neg d, if_neg (by omega)]
section SPL
variable {ro : zR} {A : Nat → Nat → Int32} {L : Nat → Nat → Int64} {s : Nat → Nat → Nat}
theorem cmp_Z {σ : zW} {x y : Nat} (hx : x < 9223372036854775808) (hy : y < 9223372036854775808) : rm ro 126 [.long (jZ x), .long (jZ y)] σ = some (some (.int (iZ (sgN x y))), σ) := by
  rw [sp_compare]
  simp only [jZ_eq (show (-9223372036854775808 ≤ (x : Int) ∧ (x : Int) < 9223372036854775808) ∧ -9223372036854775808 ≤ (y : Int) ∧ (y : Int) < 9223372036854775808 by omega), jZ_lt (show (-9223372036854775808 ≤ (y : Int) ∧ (y : Int) < 9223372036854775808) ∧ -9223372036854775808 ≤ (x : Int) ∧ (x : Int) < 9223372036854775808 by omega)]
  unfold sgN
  by_cases c : x = y
  · rw [if_pos c, if_pos (by omega)]
    rfl
  · rw [if_neg c, if_neg (by omega)]
    by_cases d : y < x
    · rw [if_pos d, if_pos (by omega)]
      rfl
    · rw [if_neg d, if_neg (by omega)]
      rfl
theorem cmd_Z {σ : zW} {x y : Nat} (hx : x < 9223372036854775808) (hy : y < 9223372036854775808) : rm ro 177 [.long (jZ x), .long (jZ y)] σ = some (some (.int (iZ (sgN x y))), σ) := by
  show rn ro 1 177 0 (lv_args 0 [.long (jZ x), .long (jZ y)]) [] σ = _
  simp only [q177_0, q177_1, q177_2, q177_3, q177_6, q177_7, q177_10, q177_11, q177_12, q177_13, q177_16, q177_17, q177_20, q177_21, kI_app, kJ_app, kP_app, kV_app, kS_app, kC_app, kN_app, kM_app, zsw_cons, zsw_nil, lv_args_I, lv_args_R, lv_args_L, lv_args_nil, zlook_cons, zrI_some, zrJ_some, zrP_some, zrC_some, zrA_rw, zrAS_rw, zrLen_rw, zst1_nil, zst1_cI, zst1_cR, zst1_cL, zrm1_nil, zrm1_cI, zrm1_cR, zrm1_cL, zst2_nil, zst2_cI, zst2_cR, zst2_cL, zrm2_nil, zrm2_cI, zrm2_cR, zrm2_cL, zkeep_nil, zkeep_cons, zsum_nil, zsum_I, zsum_R, zsum_L, zsum_N, toL_s, toL_n, List.cons_append, List.nil_append, List.mem_cons, List.not_mem_nil, reduceCtorEq, Nat.reduceAdd, Nat.reduceLT, Nat.reduceLeDiff, Nat.reduceEqDiff, Nat.zero_ne_one, Nat.one_ne_zero, Nat.add_zero, Nat.zero_add, or_false, false_or, or_true, true_or, and_true, true_and, and_self, ↓reduceIte, Nat.succ_ne_self, Nat.reduceGT, Nat.reduceSub, Nat.le_refl, Nat.zero_le, lg_cmp_p, lg_cmp_0, jZ_eq (show (-9223372036854775808 ≤ (x : Int) ∧ (x : Int) < 9223372036854775808) ∧ -9223372036854775808 ≤ (y : Int) ∧ (y : Int) < 9223372036854775808 by omega), jZ_lt (show (-9223372036854775808 ≤ (y : Int) ∧ (y : Int) < 9223372036854775808) ∧ -9223372036854775808 ≤ (x : Int) ∧ (x : Int) < 9223372036854775808 by omega)]
  unfold sgN
  by_cases c : x = y
  · rw [if_neg (by omega), if_pos (by omega), if_pos c]
    rfl
  · by_cases d : y < x
    · rw [if_pos (by omega), if_neg c, if_pos d]
      rfl
    · rw [if_neg (by omega), if_neg (by omega), if_neg c, if_neg d]
      rfl
theorem sp_40 (h : CInv A L s) (q : SInv s) {b k : Nat} (hb : s 0 1 + b + k = s 0 0) : rm ro 40 [.ref 8, .int (iZ b)] (hp A L) = some (some (.long (jZ ((sc k * pf (s 0) (s 0 3) (s 0 2) (s 0 1 + b) k : Nat) : Int))), hp A L) := by
  have n2 := q.1.n2
  have n3 := q.1.n3
  have c1 : A 8 14 = iZ (s 0 1) := h.1.c1
  have c2 : A 8 12 = iZ (s 0 2) := h.1.c2
  have c3 : A 8 13 = iZ (s 0 3) := h.1.c3
  have a1 : iZ (s 0 1) + iZ b = iZ ((s 0 1 + b : Nat) : Int) := by
    rw [iZ_add]
    congr 1
  have f := sp_allFail (ro := ro) (hc8 A L) (hk A L) h.1 q.1 (f := s 0 1 + b) (t := s 0 3) (r := s 0 2) n2 (by omega) hb
  show rn ro 6 40 0 (lv_args 0 [.ref 8, .int (iZ b)]) [] (hp A L) = _
  simp only [q40_0, q40_1, q40_2, q40_5, q40_6, q40_7, q40_8, q40_11, q40_12, q40_15, q40_18, zrk_39, kI_app, kJ_app, kP_app, kV_app, kS_app, kC_app, kN_app, kM_app, zsw_cons, zsw_nil, lv_args_I, lv_args_R, lv_args_L, lv_args_nil, zlook_cons, zrI_some, zrJ_some, zrP_some, zrC_some, zrA_rw, zrAS_rw, zrLen_rw, zst1_nil, zst1_cI, zst1_cR, zst1_cL, zrm1_nil, zrm1_cI, zrm1_cR, zrm1_cL, zst2_nil, zst2_cI, zst2_cR, zst2_cL, zrm2_nil, zrm2_cI, zrm2_cR, zrm2_cL, zkeep_nil, zkeep_cons, zsum_nil, zsum_I, zsum_R, zsum_L, zsum_N, toL_s, toL_n, List.cons_append, List.nil_append, List.mem_cons, List.not_mem_nil, reduceCtorEq, Nat.reduceAdd, Nat.reduceLT, Nat.reduceLeDiff, Nat.reduceEqDiff, Nat.zero_ne_one, Nat.one_ne_zero, Nat.add_zero, Nat.zero_add, or_false, false_or, or_true, true_or, and_true, true_and, and_self, ↓reduceIte, Nat.succ_ne_self, Nat.reduceGT, Nat.reduceSub, Nat.le_refl, Nat.zero_le, zis_O, cl_is, clG_0, clG_1, clG_2, clG_3, clG_4, clG_5, clG_6, clS_6, clG_7, clG_8, clG_9, clS_9, clG_10, clG_11, clS_11, clG_12, clS_12, clG_13, clS_13, clG_14, clS_14, clG_15, clS_15, clG_16, clG_17, clS_17, od_is, odG_0, odG_1, odS_1, odG_2, odG_3, odS_3, odG_4, re_is, reG_0, reS_0, reG_1, reG_2, reG_3, reS_3, reG_4, reS_4, reG_5, reS_5, reG_6, reS_6, wo_is, woG_0, woG_1, woG_2, woS_2, woG_3, lm_is, lmG_0, lmG_1, lmG_2, lmG_3, lmG_4, lmG_5, lmG_6, lmG_7, lmG_8, lmS_8, lmG_9, lmS_9, lmG_10, lmS_10, lmG_11, lmS_11, lmG_12, lmS_12, mo_is, moG_0, moG_1, moG_2, moG_3, moG_4, moG_5, moS_5, moG_6, moS_6, moG_7, moS_7, moG_8, moG_9, moS_9, moG_10, moS_10, moG_11, moS_11, moG_12, moS_12, moG_13, moS_13, moG_14, moG_15, moS_15, moG_16, moG_17, moS_17, moG_18, moG_19, moG_20, i32ne0, i32ne1, i32ne2, i32ne3, i32ne4, i32ne5, i32ne6, i32ne7, i32ne8, i32ne9, i32ne10, j64ne, Int32.reduceAdd, Int32.reduceSub, Int32.reduceMul, Int32.reduceLT, Int32.reduceOfNat, Int32.reduceToNatClampNeg, cU_at, Nat.reduceMul, Nat.reduceMod, catR, catI, cV_self, cU_self, hg0, hg1, hg2, hg3, hg4, hg5, hg6, hg7, hg8, hg9, hg10, hg11, hg12, hg13, hg14, hg15, hg16, hg17, hg18, hg19, hg20, hg21, hg22, hg23, hg24, hg25, hg26, hg27, hg28, hg29, hg30, hg31, hg32, hg33, hg34, hg35, hg36, hg37, hg38, hg39, hg40, hg41, hg42, hg43, hg44, hg45, hg46, hg47, hg48, hg49, hg50, hg51, hg52, hg53, hg54, hg55, hg56, hg57, hg58, hg59, hg60, hg61, hg62, hg63, hg64, hg65, hg66, hg67, hg68, hg69, hg70, hg71, hg72, hg73, hg1001, hg1002, hg1003, hg1000, hg2000, hs0, hs8, hs9, hs10, hs11, hs12, hs13, hs14, hs15, hs16, hs17, hs18, hs19, hs20, hs21, hs22, hs23, hs24, hs25, hs26, hs27, hs29, hs30, hs31, hs32, hs33, hs34, hs35, hs36, hs37, hs38, hs39, hs40, hs41, hs42, hs43, hs44, hs45, hs46, hs47, hs48, hs49, hs50, hs51, hs52, hs53, hs54, hs55, hs56, hs57, hs59, hs60, hs61, hs62, hs63, hs64, hs65, hs66, hs67, hs68, hs69, hs70, hs71, hs72, hs73, hw8, hw18, hw29, hw39, c1, c2, c3, a1, f]
theorem carry_now (h : CInv A L s) (q : SInv s) : rm ro 24 [.ref 8, .int (iZ (s 0 2))] (hp A L) = some (some (.int (iZ (s 0 (12 + s 0 2)))), hp A L) := by
  have n2 := q.1.n2
  rw [sp_carryAt (hc8 A L), zat_i (by omega)]
  rw [show A (8 + 2) (s 0 2) = iZ (s 0 (12 + s 0 2)) from h.1.c (by omega)]
theorem left_Z (h : CInv A L s) (q : SInv s) : rm ro 22 [.ref 8] (hp A L) = some (some (.int (iZ ((s 0 0 - s 0 1 : Nat) : Int))), hp A L) := by
  have n1 := q.1.n1
  rw [sp_left (hc8 A L), show A (8 + 0) 6 = iZ (s 0 0) from h.1.c0, show A (8 + 0) 14 = iZ (s 0 1) from h.1.c1, iZ_sub, show (s 0 0 : Int) - (s 0 1 : Int) = ((s 0 0 - s 0 1 : Nat) : Int) by omega]
theorem half_le {l c : Nat} (hl : l ≤ 10) (hc : c ≤ 10) : l / 2 * c ≤ 50 := Nat.mul_le_mul (show l / 2 ≤ 5 by omega) hc
theorem sp_47 (h : CInv A L s) (q : SInv s) (hK : s 0 1 < s 0 0) : rm ro 47 [.ref 8] (hp A L) = some (some (.int (iZ (spN (s 0)))), hp A L) := by
  have n0 := q.1.n0
  have n2 := q.1.n2
  have c1 : A 8 14 = iZ (s 0 1) := h.1.c1
  have c2 : A 8 12 = iZ (s 0 2) := h.1.c2
  have cn := carry_now (ro := ro) h q
  have ln := clLn (ro := ro) (hc8 A L) (hk A L) h.1 q.1 (m := s 0 1) hK
  have of := sp_40 (ro := ro) h q (b := 1) (k := s 0 0 - s 0 1 - 1) (by omega)
  rw [show iZ ((1 : Nat) : Int) = 1 from rfl] at of
  have lle := lgN_le q.1 (m := s 0 1) (t := s 0 3) (w := s 0 8 - s 0 9) hK
  have cle := q.1.c (i := s 0 2) (by omega)
  have ple := pN_le q.1 (m := s 0 1) (t := s 0 3) hK n2
  have hle := half_le lle cle
  have s1 := sc_s (s 0 0 - s 0 1 - 1) (by omega)
  have s2 := sc_s (s 0 0 - s 0 1 - 1 + 1) (by omega)
  have sp := sc_p (s 0 0 - s 0 1 - 1 + 1 + 1) (by omega)
  have b := scpf_le q.1 (t := s 0 3) n2 (k := s 0 0 - s 0 1 - 1) (f := s 0 1 + 1) (by omega)
  have ep : 100 - iZ (lgN (s 0) (s 0 1) (s 0 3) (s 0 8 - s 0 9)) * iZ (s 0 (12 + s 0 2)) = iZ ((100 - pN (s 0) (s 0 1) (s 0 3) (s 0 2) : Nat) : Int) := by
    rw [iZ_mul, ← Int.natCast_mul, show (100 : Int32) = iZ 100 from rfl, iZ_sub]
    congr 1
    unfold pN at ple ⊢
    omega
  have eh : 100 - iZ (lgN (s 0) (s 0 1) (s 0 3) (s 0 8 - s 0 9)) / 2 * iZ (s 0 (12 + s 0 2)) = iZ ((100 - lgN (s 0) (s 0 1) (s 0 3) (s 0 8 - s 0 9) / 2 * s 0 (12 + s 0 2) : Nat) : Int) := by
    rw [half_Z (by omega), iZ_mul, ← Int.natCast_mul, show (100 : Int32) = iZ 100 from rfl, iZ_sub]
    congr 1
    omega
  unfold spN
  rw [← sg_scale (S := sc (s 0 0 - s 0 1 - 1 + 1 + 1)) sp]
  generalize pf (s 0) (s 0 3) (s 0 2) (s 0 1 + 1) (s 0 0 - s 0 1 - 1) = O at *
  generalize lgN (s 0) (s 0 1) (s 0 3) (s 0 8 - s 0 9) / 2 * s 0 (12 + s 0 2) = H at *
  generalize pN (s 0) (s 0 1) (s 0 3) (s 0 2) = P at *
  generalize sc (s 0 0 - s 0 1 - 1 + 1 + 1) = S at *
  rw [s1, s2] at of b
  have b0 : 10000 * (S * O) ≤ 100000000000000 := by
    rw [show 10000 * (S * O) = 100 * (100 * S) * O by rw [← Nat.mul_assoc, ← Nat.mul_assoc]]
    exact b
  have d1 : jZ ((100 * (100 * S) * O : Nat) : Int) / 100 = jZ ((100 * (S * O) : Nat) : Int) := by
    rw [show (100 : Int64) = jZ ((100 : Nat) : Int) from rfl, jZ_divN (by omega) (by decide), Nat.mul_assoc, Nat.mul_div_cancel_left _ (by decide), Nat.mul_assoc]
  have l1 : (iZ ((100 - P : Nat) : Int)).toInt64 = jZ ((100 - P : Nat) : Int) := iZ_l (by omega)
  have l2 : (iZ ((100 - H : Nat) : Int)).toInt64 = jZ ((100 - H : Nat) : Int) := iZ_l (by omega)
  have m1 : jZ ((100 * (S * O) : Nat) : Int) * jZ ((100 - P : Nat) : Int) = jZ ((S * (100 * (O * (100 - P))) : Nat) : Int) := by
    rw [jZ_mul, ← Int.natCast_mul]
    congr 2
    rw [Nat.mul_assoc 100, Nat.mul_assoc S, Nat.mul_left_comm]
  have hx : S * O * (100 - H) ≤ S * O * 100 := Nat.mul_le_mul_left _ (by omega)
  have d2 : jZ ((100 * (S * O) : Nat) : Int) * jZ ((100 - H : Nat) : Int) / 100 = jZ ((S * O * (100 - H) : Nat) : Int) := by
    rw [jZ_mul, ← Int.natCast_mul, show (100 : Int64) = jZ ((100 : Nat) : Int) from rfl, jZ_divN (by rw [Nat.mul_assoc]; omega) (by decide), Nat.mul_assoc, Nat.mul_div_cancel_left _ (by decide)]
  have m2 : jZ ((S * O * (100 - H) : Nat) : Int) * jZ ((100 - H : Nat) : Int) = jZ ((S * (O * (100 - H) * (100 - H)) : Nat) : Int) := by
    rw [jZ_mul, ← Int.natCast_mul]
    congr 2
    rw [Nat.mul_assoc S, Nat.mul_assoc S]
  have u1 : S * (100 * (O * (100 - P))) ≤ 100000000000000 := by
    have : S * O * (100 - P) ≤ S * O * 100 := Nat.mul_le_mul_left _ (by omega)
    rw [show S * (100 * (O * (100 - P))) = 100 * (S * O * (100 - P)) by rw [Nat.mul_left_comm, Nat.mul_assoc S]]
    omega
  have u2 : S * (O * (100 - H) * (100 - H)) ≤ 100000000000000 := by
    have : S * O * (100 - H) * (100 - H) ≤ S * O * (100 - H) * 100 := Nat.mul_le_mul_left _ (by omega)
    rw [← Nat.mul_assoc, ← Nat.mul_assoc]
    omega
  have cz := cmp_Z (ro := ro) (σ := hp A L) (x := S * (100 * (O * (100 - P)))) (y := S * (O * (100 - H) * (100 - H))) (by omega) (by omega)
  show rn ro 7 47 0 (lv_args 0 [.ref 8]) [] (hp A L) = _
  simp only [q47_0, q47_1, q47_2, q47_5, q47_8, q47_9, q47_10, q47_11, q47_14, q47_17, q47_18, q47_19, q47_20, q47_23, q47_24, q47_25, q47_28, q47_29, q47_31, q47_32, q47_33, q47_34, q47_35, q47_36, q47_37, q47_39, q47_41, q47_42, q47_43, q47_44, q47_45, q47_46, q47_47, q47_49, q47_50, q47_53, q47_54, q47_56, q47_57, q47_58, q47_61, q47_62, q47_64, q47_65, q47_66, q47_68, q47_70, q47_72, q47_75, zrk_126, zrk_24, zrk_26, zrk_40, kI_app, kJ_app, kP_app, kV_app, kS_app, kC_app, kN_app, kM_app, zsw_cons, zsw_nil, lv_args_I, lv_args_R, lv_args_L, lv_args_nil, zlook_cons, zrI_some, zrJ_some, zrP_some, zrC_some, zrA_rw, zrAS_rw, zrLen_rw, zst1_nil, zst1_cI, zst1_cR, zst1_cL, zrm1_nil, zrm1_cI, zrm1_cR, zrm1_cL, zst2_nil, zst2_cI, zst2_cR, zst2_cL, zrm2_nil, zrm2_cI, zrm2_cR, zrm2_cL, zkeep_nil, zkeep_cons, zsum_nil, zsum_I, zsum_R, zsum_L, zsum_N, toL_s, toL_n, List.cons_append, List.nil_append, List.mem_cons, List.not_mem_nil, reduceCtorEq, Nat.reduceAdd, Nat.reduceLT, Nat.reduceLeDiff, Nat.reduceEqDiff, Nat.zero_ne_one, Nat.one_ne_zero, Nat.add_zero, Nat.zero_add, or_false, false_or, or_true, true_or, and_true, true_and, and_self, ↓reduceIte, Nat.succ_ne_self, Nat.reduceGT, Nat.reduceSub, Nat.le_refl, Nat.zero_le, zis_O, cl_is, clG_0, clG_1, clG_2, clG_3, clG_4, clG_5, clG_6, clS_6, clG_7, clG_8, clG_9, clS_9, clG_10, clG_11, clS_11, clG_12, clS_12, clG_13, clS_13, clG_14, clS_14, clG_15, clS_15, clG_16, clG_17, clS_17, od_is, odG_0, odG_1, odS_1, odG_2, odG_3, odS_3, odG_4, re_is, reG_0, reS_0, reG_1, reG_2, reG_3, reS_3, reG_4, reS_4, reG_5, reS_5, reG_6, reS_6, wo_is, woG_0, woG_1, woG_2, woS_2, woG_3, lm_is, lmG_0, lmG_1, lmG_2, lmG_3, lmG_4, lmG_5, lmG_6, lmG_7, lmG_8, lmS_8, lmG_9, lmS_9, lmG_10, lmS_10, lmG_11, lmS_11, lmG_12, lmS_12, mo_is, moG_0, moG_1, moG_2, moG_3, moG_4, moG_5, moS_5, moG_6, moS_6, moG_7, moS_7, moG_8, moG_9, moS_9, moG_10, moS_10, moG_11, moS_11, moG_12, moS_12, moG_13, moS_13, moG_14, moG_15, moS_15, moG_16, moG_17, moS_17, moG_18, moG_19, moG_20, i32ne0, i32ne1, i32ne2, i32ne3, i32ne4, i32ne5, i32ne6, i32ne7, i32ne8, i32ne9, i32ne10, j64ne, Int32.reduceAdd, Int32.reduceSub, Int32.reduceMul, Int32.reduceLT, Int32.reduceOfNat, Int32.reduceToNatClampNeg, cU_at, Nat.reduceMul, Nat.reduceMod, catR, catI, cV_self, cU_self, hg0, hg1, hg2, hg3, hg4, hg5, hg6, hg7, hg8, hg9, hg10, hg11, hg12, hg13, hg14, hg15, hg16, hg17, hg18, hg19, hg20, hg21, hg22, hg23, hg24, hg25, hg26, hg27, hg28, hg29, hg30, hg31, hg32, hg33, hg34, hg35, hg36, hg37, hg38, hg39, hg40, hg41, hg42, hg43, hg44, hg45, hg46, hg47, hg48, hg49, hg50, hg51, hg52, hg53, hg54, hg55, hg56, hg57, hg58, hg59, hg60, hg61, hg62, hg63, hg64, hg65, hg66, hg67, hg68, hg69, hg70, hg71, hg72, hg73, hg1001, hg1002, hg1003, hg1000, hg2000, hs0, hs8, hs9, hs10, hs11, hs12, hs13, hs14, hs15, hs16, hs17, hs18, hs19, hs20, hs21, hs22, hs23, hs24, hs25, hs26, hs27, hs29, hs30, hs31, hs32, hs33, hs34, hs35, hs36, hs37, hs38, hs39, hs40, hs41, hs42, hs43, hs44, hs45, hs46, hs47, hs48, hs49, hs50, hs51, hs52, hs53, hs54, hs55, hs56, hs57, hs59, hs60, hs61, hs62, hs63, hs64, hs65, hs66, hs67, hs68, hs69, hs70, hs71, hs72, hs73, hw8, hw18, hw29, hw39, c1, c2, cn, ln, of, ep, eh, d1, l1, l2, m1, d2, m2, cz]
theorem cop_104 (q : SInv s) : COp ro 104 [] (.int (iZ (oSp s))) s (cntI s (if s 0 0 - s 0 1 < 1 then -3 else 0)) := by
  intro A L h
  have n0 := q.1.n0
  have eN := sp_counted (ro := ro) A L (x := -3) (by omega)
  rw [← iZ_m3] at eN
  have lf := left_Z (ro := ro) h q
  have cl : (iZ ((s 0 0 - s 0 1 : Nat) : Int) < 1) = (s 0 0 - s 0 1 < 1) := by
    rw [i_ltk 1 1 rfl (by omega) (by omega)]
    exact propext ⟨fun z => by omega, fun z => by omega⟩
  unfold oSp
  by_cases c : s 0 0 - s 0 1 < 1
  · rw [if_pos c, if_pos c]
    refine ⟨_, L, ?_, h.cnt (-3), fun k hk => ⟨cntA_n _ _ (by omega), rfl⟩⟩
    show rn ro 8 104 0 (lv_args 0 [.ref 0]) [] (hp A L) = _
    simp only [q104_0, q104_1, q104_4, q104_7, q104_8, q104_11, q104_12, q104_14, q104_17, q104_20, q104_21, q104_24, q104_27, zrk_121, zrk_22, zrk_47, kI_app, kJ_app, kP_app, kV_app, kS_app, kC_app, kN_app, kM_app, zsw_cons, zsw_nil, lv_args_I, lv_args_R, lv_args_L, lv_args_nil, zlook_cons, zrI_some, zrJ_some, zrP_some, zrC_some, zrA_rw, zrAS_rw, zrLen_rw, zst1_nil, zst1_cI, zst1_cR, zst1_cL, zrm1_nil, zrm1_cI, zrm1_cR, zrm1_cL, zst2_nil, zst2_cI, zst2_cR, zst2_cL, zrm2_nil, zrm2_cI, zrm2_cR, zrm2_cL, zkeep_nil, zkeep_cons, zsum_nil, zsum_I, zsum_R, zsum_L, zsum_N, toL_s, toL_n, List.cons_append, List.nil_append, List.mem_cons, List.not_mem_nil, reduceCtorEq, Nat.reduceAdd, Nat.reduceLT, Nat.reduceLeDiff, Nat.reduceEqDiff, Nat.zero_ne_one, Nat.one_ne_zero, Nat.add_zero, Nat.zero_add, or_false, false_or, or_true, true_or, and_true, true_and, and_self, ↓reduceIte, Nat.succ_ne_self, Nat.reduceGT, Nat.reduceSub, Nat.le_refl, Nat.zero_le, zis_O, cl_is, clG_0, clG_1, clG_2, clG_3, clG_4, clG_5, clG_6, clS_6, clG_7, clG_8, clG_9, clS_9, clG_10, clG_11, clS_11, clG_12, clS_12, clG_13, clS_13, clG_14, clS_14, clG_15, clS_15, clG_16, clG_17, clS_17, od_is, odG_0, odG_1, odS_1, odG_2, odG_3, odS_3, odG_4, re_is, reG_0, reS_0, reG_1, reG_2, reG_3, reS_3, reG_4, reS_4, reG_5, reS_5, reG_6, reS_6, wo_is, woG_0, woG_1, woG_2, woS_2, woG_3, lm_is, lmG_0, lmG_1, lmG_2, lmG_3, lmG_4, lmG_5, lmG_6, lmG_7, lmG_8, lmS_8, lmG_9, lmS_9, lmG_10, lmS_10, lmG_11, lmS_11, lmG_12, lmS_12, mo_is, moG_0, moG_1, moG_2, moG_3, moG_4, moG_5, moS_5, moG_6, moS_6, moG_7, moS_7, moG_8, moG_9, moS_9, moG_10, moS_10, moG_11, moS_11, moG_12, moS_12, moG_13, moS_13, moG_14, moG_15, moS_15, moG_16, moG_17, moS_17, moG_18, moG_19, moG_20, i32ne0, i32ne1, i32ne2, i32ne3, i32ne4, i32ne5, i32ne6, i32ne7, i32ne8, i32ne9, i32ne10, j64ne, Int32.reduceAdd, Int32.reduceSub, Int32.reduceMul, Int32.reduceLT, Int32.reduceOfNat, Int32.reduceToNatClampNeg, cU_at, Nat.reduceMul, Nat.reduceMod, catR, catI, cV_self, cU_self, hg0, hg1, hg2, hg3, hg4, hg5, hg6, hg7, hg8, hg9, hg10, hg11, hg12, hg13, hg14, hg15, hg16, hg17, hg18, hg19, hg20, hg21, hg22, hg23, hg24, hg25, hg26, hg27, hg28, hg29, hg30, hg31, hg32, hg33, hg34, hg35, hg36, hg37, hg38, hg39, hg40, hg41, hg42, hg43, hg44, hg45, hg46, hg47, hg48, hg49, hg50, hg51, hg52, hg53, hg54, hg55, hg56, hg57, hg58, hg59, hg60, hg61, hg62, hg63, hg64, hg65, hg66, hg67, hg68, hg69, hg70, hg71, hg72, hg73, hg1001, hg1002, hg1003, hg1000, hg2000, hs0, hs8, hs9, hs10, hs11, hs12, hs13, hs14, hs15, hs16, hs17, hs18, hs19, hs20, hs21, hs22, hs23, hs24, hs25, hs26, hs27, hs29, hs30, hs31, hs32, hs33, hs34, hs35, hs36, hs37, hs38, hs39, hs40, hs41, hs42, hs43, hs44, hs45, hs46, hs47, hs48, hs49, hs50, hs51, hs52, hs53, hs54, hs55, hs56, hs57, hs59, hs60, hs61, hs62, hs63, hs64, hs65, hs66, hs67, hs68, hs69, hs70, hs71, hs72, hs73, hw8, hw18, hw29, hw39, lf, cl, c, if_true, eN]
    rfl
  · rw [if_neg c, if_neg c]
    have e := sp_47 (ro := ro) h q (by omega)
    refine ⟨A, L, ?_, h.cnt 0, fun k hk => ⟨rfl, rfl⟩⟩
    show rn ro 8 104 0 (lv_args 0 [.ref 0]) [] (hp A L) = _
    simp only [q104_0, q104_1, q104_4, q104_7, q104_8, q104_11, q104_12, q104_14, q104_17, q104_20, q104_21, q104_24, q104_27, zrk_121, zrk_22, zrk_47, kI_app, kJ_app, kP_app, kV_app, kS_app, kC_app, kN_app, kM_app, zsw_cons, zsw_nil, lv_args_I, lv_args_R, lv_args_L, lv_args_nil, zlook_cons, zrI_some, zrJ_some, zrP_some, zrC_some, zrA_rw, zrAS_rw, zrLen_rw, zst1_nil, zst1_cI, zst1_cR, zst1_cL, zrm1_nil, zrm1_cI, zrm1_cR, zrm1_cL, zst2_nil, zst2_cI, zst2_cR, zst2_cL, zrm2_nil, zrm2_cI, zrm2_cR, zrm2_cL, zkeep_nil, zkeep_cons, zsum_nil, zsum_I, zsum_R, zsum_L, zsum_N, toL_s, toL_n, List.cons_append, List.nil_append, List.mem_cons, List.not_mem_nil, reduceCtorEq, Nat.reduceAdd, Nat.reduceLT, Nat.reduceLeDiff, Nat.reduceEqDiff, Nat.zero_ne_one, Nat.one_ne_zero, Nat.add_zero, Nat.zero_add, or_false, false_or, or_true, true_or, and_true, true_and, and_self, ↓reduceIte, Nat.succ_ne_self, Nat.reduceGT, Nat.reduceSub, Nat.le_refl, Nat.zero_le, zis_O, cl_is, clG_0, clG_1, clG_2, clG_3, clG_4, clG_5, clG_6, clS_6, clG_7, clG_8, clG_9, clS_9, clG_10, clG_11, clS_11, clG_12, clS_12, clG_13, clS_13, clG_14, clS_14, clG_15, clS_15, clG_16, clG_17, clS_17, od_is, odG_0, odG_1, odS_1, odG_2, odG_3, odS_3, odG_4, re_is, reG_0, reS_0, reG_1, reG_2, reG_3, reS_3, reG_4, reS_4, reG_5, reS_5, reG_6, reS_6, wo_is, woG_0, woG_1, woG_2, woS_2, woG_3, lm_is, lmG_0, lmG_1, lmG_2, lmG_3, lmG_4, lmG_5, lmG_6, lmG_7, lmG_8, lmS_8, lmG_9, lmS_9, lmG_10, lmS_10, lmG_11, lmS_11, lmG_12, lmS_12, mo_is, moG_0, moG_1, moG_2, moG_3, moG_4, moG_5, moS_5, moG_6, moS_6, moG_7, moS_7, moG_8, moG_9, moS_9, moG_10, moS_10, moG_11, moS_11, moG_12, moS_12, moG_13, moS_13, moG_14, moG_15, moS_15, moG_16, moG_17, moS_17, moG_18, moG_19, moG_20, i32ne0, i32ne1, i32ne2, i32ne3, i32ne4, i32ne5, i32ne6, i32ne7, i32ne8, i32ne9, i32ne10, j64ne, Int32.reduceAdd, Int32.reduceSub, Int32.reduceMul, Int32.reduceLT, Int32.reduceOfNat, Int32.reduceToNatClampNeg, cU_at, Nat.reduceMul, Nat.reduceMod, catR, catI, cV_self, cU_self, hg0, hg1, hg2, hg3, hg4, hg5, hg6, hg7, hg8, hg9, hg10, hg11, hg12, hg13, hg14, hg15, hg16, hg17, hg18, hg19, hg20, hg21, hg22, hg23, hg24, hg25, hg26, hg27, hg28, hg29, hg30, hg31, hg32, hg33, hg34, hg35, hg36, hg37, hg38, hg39, hg40, hg41, hg42, hg43, hg44, hg45, hg46, hg47, hg48, hg49, hg50, hg51, hg52, hg53, hg54, hg55, hg56, hg57, hg58, hg59, hg60, hg61, hg62, hg63, hg64, hg65, hg66, hg67, hg68, hg69, hg70, hg71, hg72, hg73, hg1001, hg1002, hg1003, hg1000, hg2000, hs0, hs8, hs9, hs10, hs11, hs12, hs13, hs14, hs15, hs16, hs17, hs18, hs19, hs20, hs21, hs22, hs23, hs24, hs25, hs26, hs27, hs29, hs30, hs31, hs32, hs33, hs34, hs35, hs36, hs37, hs38, hs39, hs40, hs41, hs42, hs43, hs44, hs45, hs46, hs47, hs48, hs49, hs50, hs51, hs52, hs53, hs54, hs55, hs56, hs57, hs59, hs60, hs61, hs62, hs63, hs64, hs65, hs66, hs67, hs68, hs69, hs70, hs71, hs72, hs73, hw8, hw18, hw29, hw39, lf, cl, c, if_false, e]
theorem carryN (h : MInv A L s) (q : SInv s) : rm ro 178 [.ref 62] (hp A L) = some (some (.int (iZ (s 0 (12 + s 0 2)))), hp A L) := by
  have n2 := q.1.n2
  have h2 := h.1 2 (by decide)
  have hc := h.1 (12 + s 0 2) (by omega)
  have e12 : 12 + iZ (s 0 2) = iZ ((12 + s 0 2 : Nat) : Int) := iZ_ap 12 12 _ rfl
  show rn ro 1 178 0 (lv_args 0 [.ref 62]) [] (hp A L) = _
  simp only [q178_0, q178_1, q178_4, q178_6, q178_7, q178_10, q178_11, q178_12, q178_13, q178_14, kI_app, kJ_app, kP_app, kV_app, kS_app, kC_app, kN_app, kM_app, zsw_cons, zsw_nil, lv_args_I, lv_args_R, lv_args_L, lv_args_nil, zlook_cons, zrI_some, zrJ_some, zrP_some, zrC_some, zrA_rw, zrAS_rw, zrLen_rw, zst1_nil, zst1_cI, zst1_cR, zst1_cL, zrm1_nil, zrm1_cI, zrm1_cR, zrm1_cL, zst2_nil, zst2_cI, zst2_cR, zst2_cL, zrm2_nil, zrm2_cI, zrm2_cR, zrm2_cL, zkeep_nil, zkeep_cons, zsum_nil, zsum_I, zsum_R, zsum_L, zsum_N, toL_s, toL_n, List.cons_append, List.nil_append, List.mem_cons, List.not_mem_nil, reduceCtorEq, Nat.reduceAdd, Nat.reduceLT, Nat.reduceLeDiff, Nat.reduceEqDiff, Nat.zero_ne_one, Nat.one_ne_zero, Nat.add_zero, Nat.zero_add, or_false, false_or, or_true, true_or, and_true, true_and, and_self, ↓reduceIte, Nat.succ_ne_self, Nat.reduceGT, Nat.reduceSub, Nat.le_refl, Nat.zero_le, zis_O, cl_is, clG_0, clG_1, clG_2, clG_3, clG_4, clG_5, clG_6, clS_6, clG_7, clG_8, clG_9, clS_9, clG_10, clG_11, clS_11, clG_12, clS_12, clG_13, clS_13, clG_14, clS_14, clG_15, clS_15, clG_16, clG_17, clS_17, od_is, odG_0, odG_1, odS_1, odG_2, odG_3, odS_3, odG_4, re_is, reG_0, reS_0, reG_1, reG_2, reG_3, reS_3, reG_4, reS_4, reG_5, reS_5, reG_6, reS_6, wo_is, woG_0, woG_1, woG_2, woS_2, woG_3, lm_is, lmG_0, lmG_1, lmG_2, lmG_3, lmG_4, lmG_5, lmG_6, lmG_7, lmG_8, lmS_8, lmG_9, lmS_9, lmG_10, lmS_10, lmG_11, lmS_11, lmG_12, lmS_12, mo_is, moG_0, moG_1, moG_2, moG_3, moG_4, moG_5, moS_5, moG_6, moS_6, moG_7, moS_7, moG_8, moG_9, moS_9, moG_10, moS_10, moG_11, moS_11, moG_12, moS_12, moG_13, moS_13, moG_14, moG_15, moS_15, moG_16, moG_17, moS_17, moG_18, moG_19, moG_20, i32ne0, i32ne1, i32ne2, i32ne3, i32ne4, i32ne5, i32ne6, i32ne7, i32ne8, i32ne9, i32ne10, j64ne, Int32.reduceAdd, Int32.reduceSub, Int32.reduceMul, Int32.reduceLT, Int32.reduceOfNat, Int32.reduceToNatClampNeg, cU_at, Nat.reduceMul, Nat.reduceMod, catR, catI, cV_self, cU_self, hg0, hg1, hg2, hg3, hg4, hg5, hg6, hg7, hg8, hg9, hg10, hg11, hg12, hg13, hg14, hg15, hg16, hg17, hg18, hg19, hg20, hg21, hg22, hg23, hg24, hg25, hg26, hg27, hg28, hg29, hg30, hg31, hg32, hg33, hg34, hg35, hg36, hg37, hg38, hg39, hg40, hg41, hg42, hg43, hg44, hg45, hg46, hg47, hg48, hg49, hg50, hg51, hg52, hg53, hg54, hg55, hg56, hg57, hg58, hg59, hg60, hg61, hg62, hg63, hg64, hg65, hg66, hg67, hg68, hg69, hg70, hg71, hg72, hg73, hg1001, hg1002, hg1003, hg1000, hg2000, hs0, hs8, hs9, hs10, hs11, hs12, hs13, hs14, hs15, hs16, hs17, hs18, hs19, hs20, hs21, hs22, hs23, hs24, hs25, hs26, hs27, hs29, hs30, hs31, hs32, hs33, hs34, hs35, hs36, hs37, hs38, hs39, hs40, hs41, hs42, hs43, hs44, hs45, hs46, hs47, hs48, hs49, hs50, hs51, hs52, hs53, hs54, hs55, hs56, hs57, hs59, hs60, hs61, hs62, hs63, hs64, hs65, hs66, hs67, hs68, hs69, hs70, hs71, hs72, hs73, hw8, hw18, hw29, hw39, h2, e12, ixo (show 12 + s 0 2 < 87 ∧ 87 < 2147483648 by omega), iZ_ix (show 12 + s 0 2 < 2147483648 by omega), hc]
theorem pw100 {σ : zW} {x : Int32} (k : Nat) (e : x = iZ k) (hk : k ≤ 6) : rm ro 167 [.long (jZ ((100 : Nat) : Int)), .int x] σ = some (some (.long (jZ ((100 ^ k : Nat) : Int))), σ) := by
  have r := sp_power (ro := ro) (σ := σ) 100 k (by omega)
  rw [e]
  exact r
theorem mop_179 (q : SInv s) : MOp ro 179 [] (.int (iZ (oSp s))) s (cntI s (if s 0 0 - s 0 1 < 1 then -3 else 0)) := by
  intro A L h
  have n0 := q.1.n0
  have n1 := q.1.n1
  have n2 := q.1.n2
  have n3 := q.1.n3
  have hq : A 62 5 = 0 ∨ A 62 5 = 1 := Or.inl h.q
  have h0 := h.1 0 (by decide)
  have h1 := h.1 1 (by decide)
  have h2 := h.1 2 (by decide)
  have h3 := h.1 3 (by decide)
  have ce : (iZ (s 0 1) = iZ (s 0 0)) = (s 0 0 - s 0 1 < 1) := by
    rw [iZ_eq (by omega)]
    exact propext ⟨fun z => by omega, fun z => by omega⟩
  unfold oSp
  by_cases c : s 0 0 - s 0 1 < 1
  · rw [if_pos c, if_pos c]
    refine ⟨_, L, ?_, h.ref (i := 1) (by decide) rfl, fun k hk => ⟨refA_n _ _ (by omega), rfl⟩⟩
    show rn ro 5 179 0 (lv_args 0 [.ref 62]) [] (hp A L) = _
    simp only [q179_0, q179_1, q179_4, q179_5, q179_6, q179_7, q179_8, q179_9, q179_12, q179_13, q179_14, q179_17, q179_18, q179_21, q179_22, q179_23, q179_26, q179_27, q179_28, q179_29, q179_30, q179_31, q179_32, q179_33, q179_34, q179_37, q179_38, q179_39, q179_40, q179_43, q179_44, q179_47, q179_48, q179_51, q179_52, q179_53, q179_54, q179_55, q179_56, q179_57, q179_60, q179_62, q179_63, q179_64, q179_65, q179_68, q179_69, q179_70, q179_71, q179_74, q179_75, q179_76, q179_78, q179_80, q179_82, q179_83, q179_86, q179_88, q179_89, q179_90, q179_91, q179_92, q179_94, q179_96, q179_99, q179_100, q179_102, q179_103, q179_106, q179_108, q179_109, q179_111, q179_112, q179_113, q179_115, q179_117, q179_120, q179_121, q179_122, q179_123, q179_126, q179_127, q179_128, q179_129, q179_132, q179_133, q179_136, zrk_137, zrk_158, zrk_167, zrk_169, zrk_177, zrk_178, kI_app, kJ_app, kP_app, kV_app, kS_app, kC_app, kN_app, kM_app, zsw_cons, zsw_nil, lv_args_I, lv_args_R, lv_args_L, lv_args_nil, zlook_cons, zrI_some, zrJ_some, zrP_some, zrC_some, zrA_rw, zrAS_rw, zrLen_rw, zst1_nil, zst1_cI, zst1_cR, zst1_cL, zrm1_nil, zrm1_cI, zrm1_cR, zrm1_cL, zst2_nil, zst2_cI, zst2_cR, zst2_cL, zrm2_nil, zrm2_cI, zrm2_cR, zrm2_cL, zkeep_nil, zkeep_cons, zsum_nil, zsum_I, zsum_R, zsum_L, zsum_N, toL_s, toL_n, List.cons_append, List.nil_append, List.mem_cons, List.not_mem_nil, reduceCtorEq, Nat.reduceAdd, Nat.reduceLT, Nat.reduceLeDiff, Nat.reduceEqDiff, Nat.zero_ne_one, Nat.one_ne_zero, Nat.add_zero, Nat.zero_add, or_false, false_or, or_true, true_or, and_true, true_and, and_self, ↓reduceIte, Nat.succ_ne_self, Nat.reduceGT, Nat.reduceSub, Nat.le_refl, Nat.zero_le, zis_O, cl_is, clG_0, clG_1, clG_2, clG_3, clG_4, clG_5, clG_6, clS_6, clG_7, clG_8, clG_9, clS_9, clG_10, clG_11, clS_11, clG_12, clS_12, clG_13, clS_13, clG_14, clS_14, clG_15, clS_15, clG_16, clG_17, clS_17, od_is, odG_0, odG_1, odS_1, odG_2, odG_3, odS_3, odG_4, re_is, reG_0, reS_0, reG_1, reG_2, reG_3, reS_3, reG_4, reS_4, reG_5, reS_5, reG_6, reS_6, wo_is, woG_0, woG_1, woG_2, woS_2, woG_3, lm_is, lmG_0, lmG_1, lmG_2, lmG_3, lmG_4, lmG_5, lmG_6, lmG_7, lmG_8, lmS_8, lmG_9, lmS_9, lmG_10, lmS_10, lmG_11, lmS_11, lmG_12, lmS_12, mo_is, moG_0, moG_1, moG_2, moG_3, moG_4, moG_5, moS_5, moG_6, moS_6, moG_7, moS_7, moG_8, moG_9, moS_9, moG_10, moS_10, moG_11, moS_11, moG_12, moS_12, moG_13, moS_13, moG_14, moG_15, moS_15, moG_16, moG_17, moS_17, moG_18, moG_19, moG_20, i32ne0, i32ne1, i32ne2, i32ne3, i32ne4, i32ne5, i32ne6, i32ne7, i32ne8, i32ne9, i32ne10, j64ne, Int32.reduceAdd, Int32.reduceSub, Int32.reduceMul, Int32.reduceLT, Int32.reduceOfNat, Int32.reduceToNatClampNeg, cU_at, Nat.reduceMul, Nat.reduceMod, catR, catI, cV_self, cU_self, hg0, hg1, hg2, hg3, hg4, hg5, hg6, hg7, hg8, hg9, hg10, hg11, hg12, hg13, hg14, hg15, hg16, hg17, hg18, hg19, hg20, hg21, hg22, hg23, hg24, hg25, hg26, hg27, hg28, hg29, hg30, hg31, hg32, hg33, hg34, hg35, hg36, hg37, hg38, hg39, hg40, hg41, hg42, hg43, hg44, hg45, hg46, hg47, hg48, hg49, hg50, hg51, hg52, hg53, hg54, hg55, hg56, hg57, hg58, hg59, hg60, hg61, hg62, hg63, hg64, hg65, hg66, hg67, hg68, hg69, hg70, hg71, hg72, hg73, hg1001, hg1002, hg1003, hg1000, hg2000, hs0, hs8, hs9, hs10, hs11, hs12, hs13, hs14, hs15, hs16, hs17, hs18, hs19, hs20, hs21, hs22, hs23, hs24, hs25, hs26, hs27, hs29, hs30, hs31, hs32, hs33, hs34, hs35, hs36, hs37, hs38, hs39, hs40, hs41, hs42, hs43, hs44, hs45, hs46, hs47, hs48, hs49, hs50, hs51, hs52, hs53, hs54, hs55, hs56, hs57, hs59, hs60, hs61, hs62, hs63, hs64, hs65, hs66, hs67, hs68, hs69, hs70, hs71, hs72, hs73, hw8, hw18, hw29, hw39, h0, h1, ce, c, if_true, sp_no hq]
    rfl
  · rw [if_neg c, if_neg c]
    have hK : s 0 1 < s 0 0 := by omega
    refine ⟨A, L, ?_, h.cnt0 (by omega), fun k hk => ⟨rfl, rfl⟩⟩
    have lle := lgN_le q.1 (m := s 0 1) (t := s 0 3) (w := s 0 8 - s 0 9) hK
    have cle := q.1.c (i := s 0 2) (by omega)
    have ple := pN_le q.1 (m := s 0 1) (t := s 0 3) hK n2
    have hle := half_le lle cle
    have l := sp_lights (ro := ro) (L := L) h.1 q.1 (m := s 0 1) (t := s 0 3) hK (by omega)
    have cn := carryN (ro := ro) h q
    have st1 := sp_strikesAll (ro := ro) (L := L) h.1 q.1 (f := s 0 1 + 1) (t := s 0 3) (r := s 0 2) n2 (by omega) (k := s 0 0 - s 0 1 - 1) (by omega)
    have st0 := sp_strikesAll (ro := ro) (L := L) h.1 q.1 (f := s 0 1) (t := s 0 3) (r := s 0 2) n2 (by omega) (k := s 0 0 - s 0 1) (by omega)
    have pw := fun σ => pw100 (ro := ro) (σ := σ) (s 0 0 - s 0 1 - 1) (x := iZ (s 0 0) - 1 - iZ (s 0 1)) (by
      rw [iZ_1, iZ_sub, iZ_sub]
      congr 1
      omega) (by omega)
    have sp1 := sA_pf q.1 (t := s 0 3) n2 (s 0 0 - s 0 1 - 1) (s 0 1 + 1) (by omega)
    have sp0 := sA_pf q.1 (t := s 0 3) n2 (s 0 0 - s 0 1) (s 0 1) (by omega)
    have pl := p100_le (k := s 0 0 - s 0 1 - 1) (by omega)
    obtain ⟨k, hk⟩ : ∃ k, s 0 0 - s 0 1 = k + 1 := ⟨s 0 0 - s 0 1 - 1, by omega⟩
    have hk1 : s 0 0 - s 0 1 - 1 = k := by omega
    have pfk : pf (s 0) (s 0 3) (s 0 2) (s 0 1) (s 0 0 - s 0 1) = (100 - pN (s 0) (s 0 1) (s 0 3) (s 0 2)) * pf (s 0) (s 0 3) (s 0 2) (s 0 1 + 1) (s 0 0 - s 0 1 - 1) := by
      rw [hk1, hk]
      rfl
    have pk : 100 ^ (s 0 0 - s 0 1) = 100 * 100 ^ (s 0 0 - s 0 1 - 1) := by
      rw [hk1, hk, Nat.pow_succ, Nat.mul_comm]
    rw [pfk, pk] at sp0
    unfold spN
    generalize sA (s 0) (s 0 3) (s 0 2) (s 0 1 + 1) (s 0 0 - s 0 1 - 1) = R at *
    generalize sA (s 0) (s 0 3) (s 0 2) (s 0 1) (s 0 0 - s 0 1) = R0 at *
    generalize pf (s 0) (s 0 3) (s 0 2) (s 0 1 + 1) (s 0 0 - s 0 1 - 1) = O at *
    generalize pN (s 0) (s 0 1) (s 0 3) (s 0 2) = P at *
    generalize 100 ^ (s 0 0 - s 0 1 - 1) = W at *
    have eh : iZ (lgN (s 0) (s 0 1) (s 0 3) (s 0 8 - s 0 9)) / 2 * iZ (s 0 (12 + s 0 2)) = iZ ((lgN (s 0) (s 0 1) (s 0 3) (s 0 8 - s 0 9) / 2 * s 0 (12 + s 0 2) : Nat) : Int) := by rw [half_Z (by omega), iZ_mul, ← Int.natCast_mul]
    generalize lgN (s 0) (s 0 1) (s 0 3) (s 0 8 - s 0 9) / 2 * s 0 (12 + s 0 2) = H at *
    have el : (iZ (H : Int)).toInt64 = jZ (H : Int) := iZ_l (by omega)
    have j100 : (100 : Int64) = jZ ((100 : Nat) : Int) := rfl
    have sb : jZ ((100 : Nat) : Int) - jZ (H : Int) = jZ ((100 - H : Nat) : Int) := by
      rw [jZ_sub]
      congr 1
      omega
    have mm : ∀ x y : Nat, jZ (x : Int) * jZ (y : Int) = jZ ((x * y : Nat) : Int) := fun x y => by rw [jZ_mul, ← Int.natCast_mul]
    have aa : ∀ x y : Nat, jZ (x : Int) + jZ (y : Int) = jZ ((x + y : Nat) : Int) := fun x y => by rw [jZ_add, ← Int.natCast_add]
    have one : H * W + (100 - H) * R + (100 - H) * O = 100 * W := by
      rw [Nat.add_assoc, ← Nat.mul_add, sp1, ← Nat.add_mul, Nat.add_sub_of_le (by omega)]
    have two : H * 100 * W + (100 - H) * (H * W + (100 - H) * R) + O * (100 - H) * (100 - H) = 10000 * W := by
      rw [show O * (100 - H) * (100 - H) = (100 - H) * ((100 - H) * O) by rw [Nat.mul_comm O, Nat.mul_comm], Nat.add_assoc, ← Nat.mul_add, one, Nat.mul_assoc H, ← Nat.add_mul, Nat.add_sub_of_le (by omega), ← Nat.mul_assoc]
    have zero : 100 * R0 + 100 * (O * (100 - P)) = 10000 * W := by
      rw [← Nat.mul_add, Nat.mul_comm O, sp0, ← Nat.mul_assoc]
    have cz := cmd_Z (ro := ro) (σ := hp A L) (x := H * 100 * W + (100 - H) * (H * W + (100 - H) * R)) (y := 100 * R0) (by omega) (by omega)
    rw [sg_compl two zero] at cz
    show rn ro 5 179 0 (lv_args 0 [.ref 62]) [] (hp A L) = _
    simp only [q179_0, q179_1, q179_4, q179_5, q179_6, q179_7, q179_8, q179_9, q179_12, q179_13, q179_14, q179_17, q179_18, q179_21, q179_22, q179_23, q179_26, q179_27, q179_28, q179_29, q179_30, q179_31, q179_32, q179_33, q179_34, q179_37, q179_38, q179_39, q179_40, q179_43, q179_44, q179_47, q179_48, q179_51, q179_52, q179_53, q179_54, q179_55, q179_56, q179_57, q179_60, q179_62, q179_63, q179_64, q179_65, q179_68, q179_69, q179_70, q179_71, q179_74, q179_75, q179_76, q179_78, q179_80, q179_82, q179_83, q179_86, q179_88, q179_89, q179_90, q179_91, q179_92, q179_94, q179_96, q179_99, q179_100, q179_102, q179_103, q179_106, q179_108, q179_109, q179_111, q179_112, q179_113, q179_115, q179_117, q179_120, q179_121, q179_122, q179_123, q179_126, q179_127, q179_128, q179_129, q179_132, q179_133, q179_136, zrk_137, zrk_158, zrk_167, zrk_169, zrk_177, zrk_178, kI_app, kJ_app, kP_app, kV_app, kS_app, kC_app, kN_app, kM_app, zsw_cons, zsw_nil, lv_args_I, lv_args_R, lv_args_L, lv_args_nil, zlook_cons, zrI_some, zrJ_some, zrP_some, zrC_some, zrA_rw, zrAS_rw, zrLen_rw, zst1_nil, zst1_cI, zst1_cR, zst1_cL, zrm1_nil, zrm1_cI, zrm1_cR, zrm1_cL, zst2_nil, zst2_cI, zst2_cR, zst2_cL, zrm2_nil, zrm2_cI, zrm2_cR, zrm2_cL, zkeep_nil, zkeep_cons, zsum_nil, zsum_I, zsum_R, zsum_L, zsum_N, toL_s, toL_n, List.cons_append, List.nil_append, List.mem_cons, List.not_mem_nil, reduceCtorEq, Nat.reduceAdd, Nat.reduceLT, Nat.reduceLeDiff, Nat.reduceEqDiff, Nat.zero_ne_one, Nat.one_ne_zero, Nat.add_zero, Nat.zero_add, or_false, false_or, or_true, true_or, and_true, true_and, and_self, ↓reduceIte, Nat.succ_ne_self, Nat.reduceGT, Nat.reduceSub, Nat.le_refl, Nat.zero_le, zis_O, cl_is, clG_0, clG_1, clG_2, clG_3, clG_4, clG_5, clG_6, clS_6, clG_7, clG_8, clG_9, clS_9, clG_10, clG_11, clS_11, clG_12, clS_12, clG_13, clS_13, clG_14, clS_14, clG_15, clS_15, clG_16, clG_17, clS_17, od_is, odG_0, odG_1, odS_1, odG_2, odG_3, odS_3, odG_4, re_is, reG_0, reS_0, reG_1, reG_2, reG_3, reS_3, reG_4, reS_4, reG_5, reS_5, reG_6, reS_6, wo_is, woG_0, woG_1, woG_2, woS_2, woG_3, lm_is, lmG_0, lmG_1, lmG_2, lmG_3, lmG_4, lmG_5, lmG_6, lmG_7, lmG_8, lmS_8, lmG_9, lmS_9, lmG_10, lmS_10, lmG_11, lmS_11, lmG_12, lmS_12, mo_is, moG_0, moG_1, moG_2, moG_3, moG_4, moG_5, moS_5, moG_6, moS_6, moG_7, moS_7, moG_8, moG_9, moS_9, moG_10, moS_10, moG_11, moS_11, moG_12, moS_12, moG_13, moS_13, moG_14, moG_15, moS_15, moG_16, moG_17, moS_17, moG_18, moG_19, moG_20, i32ne0, i32ne1, i32ne2, i32ne3, i32ne4, i32ne5, i32ne6, i32ne7, i32ne8, i32ne9, i32ne10, j64ne, Int32.reduceAdd, Int32.reduceSub, Int32.reduceMul, Int32.reduceLT, Int32.reduceOfNat, Int32.reduceToNatClampNeg, cU_at, Nat.reduceMul, Nat.reduceMod, catR, catI, cV_self, cU_self, hg0, hg1, hg2, hg3, hg4, hg5, hg6, hg7, hg8, hg9, hg10, hg11, hg12, hg13, hg14, hg15, hg16, hg17, hg18, hg19, hg20, hg21, hg22, hg23, hg24, hg25, hg26, hg27, hg28, hg29, hg30, hg31, hg32, hg33, hg34, hg35, hg36, hg37, hg38, hg39, hg40, hg41, hg42, hg43, hg44, hg45, hg46, hg47, hg48, hg49, hg50, hg51, hg52, hg53, hg54, hg55, hg56, hg57, hg58, hg59, hg60, hg61, hg62, hg63, hg64, hg65, hg66, hg67, hg68, hg69, hg70, hg71, hg72, hg73, hg1001, hg1002, hg1003, hg1000, hg2000, hs0, hs8, hs9, hs10, hs11, hs12, hs13, hs14, hs15, hs16, hs17, hs18, hs19, hs20, hs21, hs22, hs23, hs24, hs25, hs26, hs27, hs29, hs30, hs31, hs32, hs33, hs34, hs35, hs36, hs37, hs38, hs39, hs40, hs41, hs42, hs43, hs44, hs45, hs46, hs47, hs48, hs49, hs50, hs51, hs52, hs53, hs54, hs55, hs56, hs57, hs59, hs60, hs61, hs62, hs63, hs64, hs65, hs66, hs67, hs68, hs69, hs70, hs71, hs72, hs73, hw8, hw18, hw29, hw39, h0, h1, h2, h3, ce, c, if_false, iZ_suc, st1, pw, l, cn, eh, el, j100, sb, mm, aa, st0, cz]
end SPL
