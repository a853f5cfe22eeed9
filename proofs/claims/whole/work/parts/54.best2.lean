/-! THE BEST CHANCE: the class -/
def bGN (a : Nat → Nat) : Nat := bG a (a 0 - a 1) (mnM a) (a 2) (a 3)
def bDN (a : Nat → Nat) : Nat := bD a (a 0 - a 1) (mnM a) (a 2) (a 3)
section BE2
variable {ro : zR} {A : Nat → Nat → Int32} {L : Nat → Nat → Int64} {s : Nat → Nat → Nat}
theorem bGN_le (g : Good (s 0)) : bGN (s 0) ≤ 100 ^ (s 0 0 - s 0 1) := bG_le g _ (by omega) _ _ _ g.n2
theorem f43o (q : SInv s) : ∀ d k : Nat, ∀ (A : Nat → Nat → Int32) (L : Nat → Nat → Int64), CInv A L s → k + d = s 0 0 - s 0 1 → (∀ x, x ≤ mnM (s 0) → chOk L (s 0) k x) → A 50 1 = iZ (bD (s 0) k (mnM (s 0)) (s 0 2) (s 0 3)) → ∃ A' L', rn ro 6 43 50 [(0, .ref 50), (1, .ref 8), (2, .int (iZ (mnM (s 0)))), (3, .int (iZ (((s 0 0 - k : Nat) : Int) - 1)))] [] (hp A L) = some (some (.long (jZ ((sc (s 0 0 - s 0 1) * bGN (s 0) : Nat) : Int))), hp A' L') ∧ A' 50 1 = iZ (bDN (s 0)) ∧ (∀ i, i ≠ 50 → A' i = A i) ∧ ∀ i, i ≠ 53 → L' i = L i := by
  have n0 := q.1.n0
  have n1 := q.1.n1
  have n2 := q.1.n2
  have n11 := q.1.n11
  have hM : mnM (s 0) ≤ 12 := by
    unfold mnM
    omega
  intro d
  induction d with
  | zero =>
    intro k A L h hk hx hd
    have ek : k = s 0 0 - s 0 1 := by omega
    have c1 : A 8 14 = iZ (s 0 1) := h.1.c1
    have c : iZ (((s 0 0 - k : Nat) : Int) - 1) < iZ (s 0 1) := by
      rw [iZ_lt (by omega)]
      omega
    refine ⟨A, L, ?_, ?_, fun _ _ => rfl, fun _ _ => rfl⟩
    · have v := hx 0 (Nat.zero_le _)
      have s45 := sp_45 (ro := ro) A L (g := 0) (by decide)
      rw [show iZ ((0 : Nat) : Int) = 0 from rfl, v] at s45
      rw [q43_50]
      simp only [q43_0, q43_1, q43_2, q43_5, q43_6, q43_9, q43_10, q43_11, q43_12, q43_15, q43_18, q43_19, q43_20, q43_21, q43_22, q43_23, q43_26, q43_27, q43_28, q43_29, q43_32, q43_35, q43_38, q43_39, q43_40, q43_43, q43_44, q43_47, q43_48, q43_49, q43_51, q43_52, q43_55, q43_58, q43_59, q43_61, q43_63, q43_66, q43_67, q43_68, q43_69, q43_71, q43_73, q43_74, q43_77, q43_78, q43_81, q43_82, q43_85, q43_88, q43_91, q43_94, q43_97, q43_98, q43_99, q43_102, zrk_23, zrk_44, zrk_45, zrk_46, kI_app, kJ_app, kP_app, kV_app, kS_app, kC_app, kN_app, kM_app, zsw_cons, zsw_nil, lv_args_I, lv_args_R, lv_args_L, lv_args_nil, zlook_cons, zrI_some, zrJ_some, zrP_some, zrC_some, zrA_rw, zrAS_rw, zrLen_rw, zst1_nil, zst1_cI, zst1_cR, zst1_cL, zrm1_nil, zrm1_cI, zrm1_cR, zrm1_cL, zst2_nil, zst2_cI, zst2_cR, zst2_cL, zrm2_nil, zrm2_cI, zrm2_cR, zrm2_cL, zkeep_nil, zkeep_cons, zsum_nil, zsum_I, zsum_R, zsum_L, zsum_N, toL_s, toL_n, List.cons_append, List.nil_append, List.mem_cons, List.not_mem_nil, reduceCtorEq, Nat.reduceAdd, Nat.reduceLT, Nat.reduceLeDiff, Nat.reduceEqDiff, Nat.zero_ne_one, Nat.one_ne_zero, Nat.add_zero, Nat.zero_add, or_false, false_or, or_true, true_or, and_true, true_and, and_self, ↓reduceIte, Nat.succ_ne_self, Nat.reduceGT, Nat.reduceSub, Nat.le_refl, Nat.zero_le, zis_O, cl_is, clG_0, clG_1, clG_2, clG_3, clG_4, clG_5, clG_6, clS_6, clG_7, clG_8, clG_9, clS_9, clG_10, clG_11, clS_11, clG_12, clS_12, clG_13, clS_13, clG_14, clS_14, clG_15, clS_15, clG_16, clG_17, clS_17, od_is, odG_0, odG_1, odS_1, odG_2, odG_3, odS_3, odG_4, re_is, reG_0, reS_0, reG_1, reG_2, reG_3, reS_3, reG_4, reS_4, reG_5, reS_5, reG_6, reS_6, wo_is, woG_0, woG_1, woG_2, woS_2, woG_3, lm_is, lmG_0, lmG_1, lmG_2, lmG_3, lmG_4, lmG_5, lmG_6, lmG_7, lmG_8, lmS_8, lmG_9, lmS_9, lmG_10, lmS_10, lmG_11, lmS_11, lmG_12, lmS_12, mo_is, moG_0, moG_1, moG_2, moG_3, moG_4, moG_5, moS_5, moG_6, moS_6, moG_7, moS_7, moG_8, moG_9, moS_9, moG_10, moS_10, moG_11, moS_11, moG_12, moS_12, moG_13, moS_13, moG_14, moG_15, moS_15, moG_16, moG_17, moS_17, moG_18, moG_19, moG_20, i32ne0, i32ne1, i32ne2, i32ne3, i32ne4, i32ne5, i32ne6, i32ne7, i32ne8, i32ne9, i32ne10, j64ne, Int32.reduceAdd, Int32.reduceSub, Int32.reduceMul, Int32.reduceLT, Int32.reduceOfNat, Int32.reduceToNatClampNeg, cU_at, Nat.reduceMul, Nat.reduceMod, catR, catI, cV_self, cU_self, hg0, hg1, hg2, hg3, hg4, hg5, hg6, hg7, hg8, hg9, hg10, hg11, hg12, hg13, hg14, hg15, hg16, hg17, hg18, hg19, hg20, hg21, hg22, hg23, hg24, hg25, hg26, hg27, hg28, hg29, hg30, hg31, hg32, hg33, hg34, hg35, hg36, hg37, hg38, hg39, hg40, hg41, hg42, hg43, hg44, hg45, hg46, hg47, hg48, hg49, hg50, hg51, hg52, hg53, hg54, hg55, hg56, hg57, hg58, hg59, hg60, hg61, hg62, hg63, hg64, hg65, hg66, hg67, hg68, hg69, hg70, hg71, hg72, hg73, hg1001, hg1002, hg1003, hg1000, hg2000, hs0, hs8, hs9, hs10, hs11, hs12, hs13, hs14, hs15, hs16, hs17, hs18, hs19, hs20, hs21, hs22, hs23, hs24, hs25, hs26, hs27, hs29, hs30, hs31, hs32, hs33, hs34, hs35, hs36, hs37, hs38, hs39, hs40, hs41, hs42, hs43, hs44, hs45, hs46, hs47, hs48, hs49, hs50, hs51, hs52, hs53, hs54, hs55, hs56, hs57, hs59, hs60, hs61, hs62, hs63, hs64, hs65, hs66, hs67, hs68, hs69, hs70, hs71, hs72, hs73, hw8, hw18, hw29, hw39, c1, c, if_true, s45]
      subst ek
      show some (some (Value.long (jZ ((sc (s 0 0 - s 0 1) * bG (s 0) (s 0 0 - s 0 1) (mnM (s 0)) (min 5 (s 0 2)) (s 0 3) : Nat) : Int))), hp A L) = _
      rw [show min 5 (s 0 2) = s 0 2 by omega]
      rfl
    · rw [hd, ek]
      rfl
  | succ d ih =>
    intro k A L h hk hx hd
    have c1 : A 8 14 = iZ (s 0 1) := h.1.c1
    obtain ⟨m, hm⟩ : ∃ m, s 0 0 - k = m + 1 := ⟨s 0 0 - k - 1, by omega⟩
    have em : iZ (((s 0 0 - k : Nat) : Int) - 1) = iZ (m : Int) := by
      congr 1
      omega
    have c : ¬ iZ (m : Int) < iZ (s 0 1) := by
      rw [iZ_lt (by omega)]
      omega
    obtain ⟨A1, L1, e1, e2, e3, e4, e5⟩ := f43i (ro := ro) q (m := m) (k := k) (by omega) (mnM (s 0) + 1) A L h (Nat.le_refl _) (fun x hx2 => hx x (by omega)) (fun x h1 h2 => absurd h2 (by omega)) (fun z => absurd z (by omega))
    rw [show ((mnM (s 0) + 1 : Nat) : Int) - 1 = (mnM (s 0) : Int) by omega] at e1
    have h1 : CInv A1 L1 s := h.scr (fun i hi => e4 i (by omega)) (e5 0 (by decide))
    obtain ⟨A', L', i1, i2, i3, i4⟩ := ih (k + 1) A1 L1 h1 (by omega) e2 e3
    refine ⟨A', L', ?_, i2, fun i hi => (i3 i hi).trans (e4 i hi), fun i hi => (i4 i hi).trans (e5 i hi)⟩
    have ei : iZ (m : Int) + -1 = iZ (((s 0 0 - (k + 1) : Nat) : Int) - 1) := by
      rw [iZ_m1, iZ_add]
      congr 1
      omega
    rw [← i1, q43_50, em]
    simp only [q43_0, q43_1, q43_2, q43_5, q43_6, q43_9, q43_10, q43_11, q43_12, q43_15, q43_18, q43_19, q43_20, q43_21, q43_22, q43_23, q43_26, q43_27, q43_28, q43_29, q43_32, q43_35, q43_38, q43_39, q43_40, q43_43, q43_44, q43_47, q43_48, q43_49, q43_51, q43_52, q43_55, q43_58, q43_59, q43_63, q43_66, q43_67, q43_68, q43_69, q43_71, q43_73, q43_74, q43_77, q43_78, q43_81, q43_82, q43_85, q43_88, q43_91, q43_94, q43_97, q43_98, q43_99, q43_102, zrk_23, zrk_44, zrk_45, zrk_46, kI_app, kJ_app, kP_app, kV_app, kS_app, kC_app, kN_app, kM_app, zsw_cons, zsw_nil, lv_args_I, lv_args_R, lv_args_L, lv_args_nil, zlook_cons, zrI_some, zrJ_some, zrP_some, zrC_some, zrA_rw, zrAS_rw, zrLen_rw, zst1_nil, zst1_cI, zst1_cR, zst1_cL, zrm1_nil, zrm1_cI, zrm1_cR, zrm1_cL, zst2_nil, zst2_cI, zst2_cR, zst2_cL, zrm2_nil, zrm2_cI, zrm2_cR, zrm2_cL, zkeep_nil, zkeep_cons, zsum_nil, zsum_I, zsum_R, zsum_L, zsum_N, toL_s, toL_n, List.cons_append, List.nil_append, List.mem_cons, List.not_mem_nil, reduceCtorEq, Nat.reduceAdd, Nat.reduceLT, Nat.reduceLeDiff, Nat.reduceEqDiff, Nat.zero_ne_one, Nat.one_ne_zero, Nat.add_zero, Nat.zero_add, or_false, false_or, or_true, true_or, and_true, true_and, and_self, ↓reduceIte, Nat.succ_ne_self, Nat.reduceGT, Nat.reduceSub, Nat.le_refl, Nat.zero_le, zis_O, cl_is, clG_0, clG_1, clG_2, clG_3, clG_4, clG_5, clG_6, clS_6, clG_7, clG_8, clG_9, clS_9, clG_10, clG_11, clS_11, clG_12, clS_12, clG_13, clS_13, clG_14, clS_14, clG_15, clS_15, clG_16, clG_17, clS_17, od_is, odG_0, odG_1, odS_1, odG_2, odG_3, odS_3, odG_4, re_is, reG_0, reS_0, reG_1, reG_2, reG_3, reS_3, reG_4, reS_4, reG_5, reS_5, reG_6, reS_6, wo_is, woG_0, woG_1, woG_2, woS_2, woG_3, lm_is, lmG_0, lmG_1, lmG_2, lmG_3, lmG_4, lmG_5, lmG_6, lmG_7, lmG_8, lmS_8, lmG_9, lmS_9, lmG_10, lmS_10, lmG_11, lmS_11, lmG_12, lmS_12, mo_is, moG_0, moG_1, moG_2, moG_3, moG_4, moG_5, moS_5, moG_6, moS_6, moG_7, moS_7, moG_8, moG_9, moS_9, moG_10, moS_10, moG_11, moS_11, moG_12, moS_12, moG_13, moS_13, moG_14, moG_15, moS_15, moG_16, moG_17, moS_17, moG_18, moG_19, moG_20, i32ne0, i32ne1, i32ne2, i32ne3, i32ne4, i32ne5, i32ne6, i32ne7, i32ne8, i32ne9, i32ne10, j64ne, Int32.reduceAdd, Int32.reduceSub, Int32.reduceMul, Int32.reduceLT, Int32.reduceOfNat, Int32.reduceToNatClampNeg, cU_at, Nat.reduceMul, Nat.reduceMod, catR, catI, cV_self, cU_self, hg0, hg1, hg2, hg3, hg4, hg5, hg6, hg7, hg8, hg9, hg10, hg11, hg12, hg13, hg14, hg15, hg16, hg17, hg18, hg19, hg20, hg21, hg22, hg23, hg24, hg25, hg26, hg27, hg28, hg29, hg30, hg31, hg32, hg33, hg34, hg35, hg36, hg37, hg38, hg39, hg40, hg41, hg42, hg43, hg44, hg45, hg46, hg47, hg48, hg49, hg50, hg51, hg52, hg53, hg54, hg55, hg56, hg57, hg58, hg59, hg60, hg61, hg62, hg63, hg64, hg65, hg66, hg67, hg68, hg69, hg70, hg71, hg72, hg73, hg1001, hg1002, hg1003, hg1000, hg2000, hs0, hs8, hs9, hs10, hs11, hs12, hs13, hs14, hs15, hs16, hs17, hs18, hs19, hs20, hs21, hs22, hs23, hs24, hs25, hs26, hs27, hs29, hs30, hs31, hs32, hs33, hs34, hs35, hs36, hs37, hs38, hs39, hs40, hs41, hs42, hs43, hs44, hs45, hs46, hs47, hs48, hs49, hs50, hs51, hs52, hs53, hs54, hs55, hs56, hs57, hs59, hs60, hs61, hs62, hs63, hs64, hs65, hs66, hs67, hs68, hs69, hs70, hs71, hs72, hs73, hw8, hw18, hw29, hw39, c1, c, if_false, e1, ei]
theorem sp_43 (h : CInv A L s) (q : SInv s) : ∃ A' L', rm ro 43 [.ref 50, .ref 8] (hp A L) = some (some (.long (jZ ((sc (s 0 0 - s 0 1) * bGN (s 0) : Nat) : Int))), hp A' L') ∧ A' 50 1 = iZ (bDN (s 0)) ∧ (∀ i, i ≠ 50 → A' i = A i) ∧ ∀ i, i ≠ 53 → L' i = L i := by
  have n0 := q.1.n0
  have n3 := q.1.n3
  have n11 := q.1.n11
  have hM : mnM (s 0) ≤ 12 := by
    unfold mnM
    omega
  obtain ⟨L1, a1, a2, a3⟩ := f43a (ro := ro) (A := A) (mnM (s 0) + 1) 0 (mnM (s 0)) L hM (by omega) (fun x hx => absurd hx (Nat.not_lt_zero x))
  have h1 : CInv (cU A 50 (upd (A 50) 1 0)) L1 s := h.scr (fun i hi => cU_n (by omega)) (a3 0 (by decide))
  obtain ⟨A', L', i1, i2, i3, i4⟩ := f43o (ro := ro) q (s 0 0 - s 0 1) 0 (cU A 50 (upd (A 50) 1 0)) L1 h1 (by omega) (fun x hx => by
    show L1 53 x = _
    rw [a2 x hx]
    rfl) rfl
  refine ⟨A', L', ?_, i2, fun i hi => (i3 i hi).trans (cU_n hi), fun i hi => (i4 i hi).trans (a3 i hi)⟩
  have c0 : A 8 6 = iZ (s 0 0) := h.1.c0
  have e23 := sp_minutesLeft (ro := ro) (hc8 A L)
  rw [show A (8 + 1) 3 = iZ (s 0 11) from h.1.g (i := 3) (by decide), show A (8 + 0) 13 = iZ (s 0 3) from h.1.c3, iZ_sub] at e23
  have e1 : (if (12 : Int32) < iZ ((s 0 11 : Int) - (s 0 3 : Int)) then 12 else iZ ((s 0 11 : Int) - (s 0 3 : Int))) = iZ ((s 0 11 : Int) - (s 0 3 : Int)) := by
    rw [if_neg]
    rw [i_gtk 12 12 rfl (by omega) (by omega)]
    omega
  have e2 : (if (0 : Int32) < iZ ((s 0 11 : Int) - (s 0 3 : Int)) then iZ ((s 0 11 : Int) - (s 0 3 : Int)) else 0) = iZ (mnM (s 0) : Int) := by
    rw [mx32 (by omega)]
    unfold mnM
    congr 1
    omega
  have em : iZ (s 0 0) - 1 = iZ (((s 0 0 - 0 : Nat) : Int) - 1) := by
    rw [iZ_1, iZ_sub]
    rfl
  rw [show iZ ((0 : Nat) : Int) = 0 from rfl] at a1
  show rn ro 6 43 0 (lv_args 0 [.ref 50, .ref 8]) [] (hp A L) = _
  have st : rn ro 6 43 0 (lv_args 0 [.ref 50, .ref 8]) [] (hp A L) = rn ro 6 43 21 [(0, .ref 50), (1, .ref 8), (2, .int (iZ (mnM (s 0)))), (3, .int 0)] [] (hp A L) := by
    simp only [q43_0, q43_1, q43_2, q43_5, q43_6, q43_9, q43_10, q43_11, q43_12, q43_15, q43_18, q43_19, q43_20, q43_22, q43_23, q43_26, q43_27, q43_28, q43_29, q43_32, q43_35, q43_38, q43_39, q43_40, q43_43, q43_44, q43_47, q43_48, q43_49, q43_50, q43_51, q43_52, q43_55, q43_58, q43_59, q43_61, q43_63, q43_66, q43_67, q43_68, q43_69, q43_71, q43_73, q43_74, q43_77, q43_78, q43_81, q43_82, q43_85, q43_88, q43_91, q43_94, q43_97, q43_98, q43_99, q43_102, zrk_23, zrk_44, zrk_45, zrk_46, kI_app, kJ_app, kP_app, kV_app, kS_app, kC_app, kN_app, kM_app, zsw_cons, zsw_nil, lv_args_I, lv_args_R, lv_args_L, lv_args_nil, zlook_cons, zrI_some, zrJ_some, zrP_some, zrC_some, zrA_rw, zrAS_rw, zrLen_rw, zst1_nil, zst1_cI, zst1_cR, zst1_cL, zrm1_nil, zrm1_cI, zrm1_cR, zrm1_cL, zst2_nil, zst2_cI, zst2_cR, zst2_cL, zrm2_nil, zrm2_cI, zrm2_cR, zrm2_cL, zkeep_nil, zkeep_cons, zsum_nil, zsum_I, zsum_R, zsum_L, zsum_N, toL_s, toL_n, List.cons_append, List.nil_append, List.mem_cons, List.not_mem_nil, reduceCtorEq, Nat.reduceAdd, Nat.reduceLT, Nat.reduceLeDiff, Nat.reduceEqDiff, Nat.zero_ne_one, Nat.one_ne_zero, Nat.add_zero, Nat.zero_add, or_false, false_or, or_true, true_or, and_true, true_and, and_self, ↓reduceIte, Nat.succ_ne_self, Nat.reduceGT, Nat.reduceSub, Nat.le_refl, Nat.zero_le, zis_O, cl_is, clG_0, clG_1, clG_2, clG_3, clG_4, clG_5, clG_6, clS_6, clG_7, clG_8, clG_9, clS_9, clG_10, clG_11, clS_11, clG_12, clS_12, clG_13, clS_13, clG_14, clS_14, clG_15, clS_15, clG_16, clG_17, clS_17, od_is, odG_0, odG_1, odS_1, odG_2, odG_3, odS_3, odG_4, re_is, reG_0, reS_0, reG_1, reG_2, reG_3, reS_3, reG_4, reS_4, reG_5, reS_5, reG_6, reS_6, wo_is, woG_0, woG_1, woG_2, woS_2, woG_3, lm_is, lmG_0, lmG_1, lmG_2, lmG_3, lmG_4, lmG_5, lmG_6, lmG_7, lmG_8, lmS_8, lmG_9, lmS_9, lmG_10, lmS_10, lmG_11, lmS_11, lmG_12, lmS_12, mo_is, moG_0, moG_1, moG_2, moG_3, moG_4, moG_5, moS_5, moG_6, moS_6, moG_7, moS_7, moG_8, moG_9, moS_9, moG_10, moS_10, moG_11, moS_11, moG_12, moS_12, moG_13, moS_13, moG_14, moG_15, moS_15, moG_16, moG_17, moS_17, moG_18, moG_19, moG_20, i32ne0, i32ne1, i32ne2, i32ne3, i32ne4, i32ne5, i32ne6, i32ne7, i32ne8, i32ne9, i32ne10, j64ne, Int32.reduceAdd, Int32.reduceSub, Int32.reduceMul, Int32.reduceLT, Int32.reduceOfNat, Int32.reduceToNatClampNeg, cU_at, Nat.reduceMul, Nat.reduceMod, catR, catI, cV_self, cU_self, hg0, hg1, hg2, hg3, hg4, hg5, hg6, hg7, hg8, hg9, hg10, hg11, hg12, hg13, hg14, hg15, hg16, hg17, hg18, hg19, hg20, hg21, hg22, hg23, hg24, hg25, hg26, hg27, hg28, hg29, hg30, hg31, hg32, hg33, hg34, hg35, hg36, hg37, hg38, hg39, hg40, hg41, hg42, hg43, hg44, hg45, hg46, hg47, hg48, hg49, hg50, hg51, hg52, hg53, hg54, hg55, hg56, hg57, hg58, hg59, hg60, hg61, hg62, hg63, hg64, hg65, hg66, hg67, hg68, hg69, hg70, hg71, hg72, hg73, hg1001, hg1002, hg1003, hg1000, hg2000, hs0, hs8, hs9, hs10, hs11, hs12, hs13, hs14, hs15, hs16, hs17, hs18, hs19, hs20, hs21, hs22, hs23, hs24, hs25, hs26, hs27, hs29, hs30, hs31, hs32, hs33, hs34, hs35, hs36, hs37, hs38, hs39, hs40, hs41, hs42, hs43, hs44, hs45, hs46, hs47, hs48, hs49, hs50, hs51, hs52, hs53, hs54, hs55, hs56, hs57, hs59, hs60, hs61, hs62, hs63, hs64, hs65, hs66, hs67, hs68, hs69, hs70, hs71, hs72, hs73, hw8, hw18, hw29, hw39, e23, e1, e2]
  rw [st, a1, ← i1]
  simp only [q43_0, q43_1, q43_2, q43_5, q43_6, q43_9, q43_10, q43_11, q43_12, q43_15, q43_18, q43_19, q43_20, q43_21, q43_22, q43_23, q43_26, q43_27, q43_28, q43_29, q43_32, q43_35, q43_38, q43_39, q43_40, q43_43, q43_44, q43_47, q43_48, q43_49, q43_51, q43_52, q43_55, q43_58, q43_59, q43_61, q43_63, q43_66, q43_67, q43_68, q43_69, q43_71, q43_73, q43_74, q43_77, q43_78, q43_81, q43_82, q43_85, q43_88, q43_91, q43_94, q43_97, q43_98, q43_99, q43_102, zrk_23, zrk_44, zrk_45, zrk_46, kI_app, kJ_app, kP_app, kV_app, kS_app, kC_app, kN_app, kM_app, zsw_cons, zsw_nil, lv_args_I, lv_args_R, lv_args_L, lv_args_nil, zlook_cons, zrI_some, zrJ_some, zrP_some, zrC_some, zrA_rw, zrAS_rw, zrLen_rw, zst1_nil, zst1_cI, zst1_cR, zst1_cL, zrm1_nil, zrm1_cI, zrm1_cR, zrm1_cL, zst2_nil, zst2_cI, zst2_cR, zst2_cL, zrm2_nil, zrm2_cI, zrm2_cR, zrm2_cL, zkeep_nil, zkeep_cons, zsum_nil, zsum_I, zsum_R, zsum_L, zsum_N, toL_s, toL_n, List.cons_append, List.nil_append, List.mem_cons, List.not_mem_nil, reduceCtorEq, Nat.reduceAdd, Nat.reduceLT, Nat.reduceLeDiff, Nat.reduceEqDiff, Nat.zero_ne_one, Nat.one_ne_zero, Nat.add_zero, Nat.zero_add, or_false, false_or, or_true, true_or, and_true, true_and, and_self, ↓reduceIte, Nat.succ_ne_self, Nat.reduceGT, Nat.reduceSub, Nat.le_refl, Nat.zero_le, zis_O, cl_is, clG_0, clG_1, clG_2, clG_3, clG_4, clG_5, clG_6, clS_6, clG_7, clG_8, clG_9, clS_9, clG_10, clG_11, clS_11, clG_12, clS_12, clG_13, clS_13, clG_14, clS_14, clG_15, clS_15, clG_16, clG_17, clS_17, od_is, odG_0, odG_1, odS_1, odG_2, odG_3, odS_3, odG_4, re_is, reG_0, reS_0, reG_1, reG_2, reG_3, reS_3, reG_4, reS_4, reG_5, reS_5, reG_6, reS_6, wo_is, woG_0, woG_1, woG_2, woS_2, woG_3, lm_is, lmG_0, lmG_1, lmG_2, lmG_3, lmG_4, lmG_5, lmG_6, lmG_7, lmG_8, lmS_8, lmG_9, lmS_9, lmG_10, lmS_10, lmG_11, lmS_11, lmG_12, lmS_12, mo_is, moG_0, moG_1, moG_2, moG_3, moG_4, moG_5, moS_5, moG_6, moS_6, moG_7, moS_7, moG_8, moG_9, moS_9, moG_10, moS_10, moG_11, moS_11, moG_12, moS_12, moG_13, moS_13, moG_14, moG_15, moS_15, moG_16, moG_17, moS_17, moG_18, moG_19, moG_20, i32ne0, i32ne1, i32ne2, i32ne3, i32ne4, i32ne5, i32ne6, i32ne7, i32ne8, i32ne9, i32ne10, j64ne, Int32.reduceAdd, Int32.reduceSub, Int32.reduceMul, Int32.reduceLT, Int32.reduceOfNat, Int32.reduceToNatClampNeg, cU_at, Nat.reduceMul, Nat.reduceMod, catR, catI, cV_self, cU_self, hg0, hg1, hg2, hg3, hg4, hg5, hg6, hg7, hg8, hg9, hg10, hg11, hg12, hg13, hg14, hg15, hg16, hg17, hg18, hg19, hg20, hg21, hg22, hg23, hg24, hg25, hg26, hg27, hg28, hg29, hg30, hg31, hg32, hg33, hg34, hg35, hg36, hg37, hg38, hg39, hg40, hg41, hg42, hg43, hg44, hg45, hg46, hg47, hg48, hg49, hg50, hg51, hg52, hg53, hg54, hg55, hg56, hg57, hg58, hg59, hg60, hg61, hg62, hg63, hg64, hg65, hg66, hg67, hg68, hg69, hg70, hg71, hg72, hg73, hg1001, hg1002, hg1003, hg1000, hg2000, hs0, hs8, hs9, hs10, hs11, hs12, hs13, hs14, hs15, hs16, hs17, hs18, hs19, hs20, hs21, hs22, hs23, hs24, hs25, hs26, hs27, hs29, hs30, hs31, hs32, hs33, hs34, hs35, hs36, hs37, hs38, hs39, hs40, hs41, hs42, hs43, hs44, hs45, hs46, hs47, hs48, hs49, hs50, hs51, hs52, hs53, hs54, hs55, hs56, hs57, hs59, hs60, hs61, hs62, hs63, hs64, hs65, hs66, hs67, hs68, hs69, hs70, hs71, hs72, hs73, hw8, hw18, hw29, hw39, c0, em]
theorem cop_101 (q : SInv s) : COp ro 101 [] (.int (iZ (bDN (s 0)))) s (frU s (bGN (s 0)) (100 ^ (s 0 0 - s 0 1))) := by
  intro A L h
  have n0 := q.1.n0
  obtain ⟨A1, L1, e1, e2, e3, e4⟩ := sp_43 (ro := ro) h q
  have h1 : CInv A1 L1 s := h.scr (fun i hi => e3 i (by omega)) (e4 0 (by decide))
  have m := sc_m (s 0 0 - s 0 1) (by omega)
  have xm : sc (s 0 0 - s 0 1) * bGN (s 0) ≤ 100000000000000 := by
    rw [← m]
    exact Nat.mul_le_mul_left _ (bGN_le q.1)
  have f := sp_setFr (ro := ro) (A := A1) (L := L1) (x := sc (s 0 0 - s 0 1) * bGN (s 0)) xm
  refine ⟨A1, frL L1 (sc (s 0 0 - s 0 1) * bGN (s 0)) 100000000000000, ?_, ?_, fun k hk => ⟨e3 k (by omega), (frL_n _ _ _ (by omega)).trans (e4 k (by omega))⟩⟩
  · show rn ro 7 101 0 (lv_args 0 [.ref 0]) [] (hp A L) = _
    simp only [q101_0, q101_1, q101_2, q101_5, q101_6, q101_9, q101_12, q101_15, q101_16, q101_19, q101_22, zrk_124, zrk_43, kI_app, kJ_app, kP_app, kV_app, kS_app, kC_app, kN_app, kM_app, zsw_cons, zsw_nil, lv_args_I, lv_args_R, lv_args_L, lv_args_nil, zlook_cons, zrI_some, zrJ_some, zrP_some, zrC_some, zrA_rw, zrAS_rw, zrLen_rw, zst1_nil, zst1_cI, zst1_cR, zst1_cL, zrm1_nil, zrm1_cI, zrm1_cR, zrm1_cL, zst2_nil, zst2_cI, zst2_cR, zst2_cL, zrm2_nil, zrm2_cI, zrm2_cR, zrm2_cL, zkeep_nil, zkeep_cons, zsum_nil, zsum_I, zsum_R, zsum_L, zsum_N, toL_s, toL_n, List.cons_append, List.nil_append, List.mem_cons, List.not_mem_nil, reduceCtorEq, Nat.reduceAdd, Nat.reduceLT, Nat.reduceLeDiff, Nat.reduceEqDiff, Nat.zero_ne_one, Nat.one_ne_zero, Nat.add_zero, Nat.zero_add, or_false, false_or, or_true, true_or, and_true, true_and, and_self, ↓reduceIte, Nat.succ_ne_self, Nat.reduceGT, Nat.reduceSub, Nat.le_refl, Nat.zero_le, zis_O, cl_is, clG_0, clG_1, clG_2, clG_3, clG_4, clG_5, clG_6, clS_6, clG_7, clG_8, clG_9, clS_9, clG_10, clG_11, clS_11, clG_12, clS_12, clG_13, clS_13, clG_14, clS_14, clG_15, clS_15, clG_16, clG_17, clS_17, od_is, odG_0, odG_1, odS_1, odG_2, odG_3, odS_3, odG_4, re_is, reG_0, reS_0, reG_1, reG_2, reG_3, reS_3, reG_4, reS_4, reG_5, reS_5, reG_6, reS_6, wo_is, woG_0, woG_1, woG_2, woS_2, woG_3, lm_is, lmG_0, lmG_1, lmG_2, lmG_3, lmG_4, lmG_5, lmG_6, lmG_7, lmG_8, lmS_8, lmG_9, lmS_9, lmG_10, lmS_10, lmG_11, lmS_11, lmG_12, lmS_12, mo_is, moG_0, moG_1, moG_2, moG_3, moG_4, moG_5, moS_5, moG_6, moS_6, moG_7, moS_7, moG_8, moG_9, moS_9, moG_10, moS_10, moG_11, moS_11, moG_12, moS_12, moG_13, moS_13, moG_14, moG_15, moS_15, moG_16, moG_17, moS_17, moG_18, moG_19, moG_20, i32ne0, i32ne1, i32ne2, i32ne3, i32ne4, i32ne5, i32ne6, i32ne7, i32ne8, i32ne9, i32ne10, j64ne, Int32.reduceAdd, Int32.reduceSub, Int32.reduceMul, Int32.reduceLT, Int32.reduceOfNat, Int32.reduceToNatClampNeg, cU_at, Nat.reduceMul, Nat.reduceMod, catR, catI, cV_self, cU_self, hg0, hg1, hg2, hg3, hg4, hg5, hg6, hg7, hg8, hg9, hg10, hg11, hg12, hg13, hg14, hg15, hg16, hg17, hg18, hg19, hg20, hg21, hg22, hg23, hg24, hg25, hg26, hg27, hg28, hg29, hg30, hg31, hg32, hg33, hg34, hg35, hg36, hg37, hg38, hg39, hg40, hg41, hg42, hg43, hg44, hg45, hg46, hg47, hg48, hg49, hg50, hg51, hg52, hg53, hg54, hg55, hg56, hg57, hg58, hg59, hg60, hg61, hg62, hg63, hg64, hg65, hg66, hg67, hg68, hg69, hg70, hg71, hg72, hg73, hg1001, hg1002, hg1003, hg1000, hg2000, hs0, hs8, hs9, hs10, hs11, hs12, hs13, hs14, hs15, hs16, hs17, hs18, hs19, hs20, hs21, hs22, hs23, hs24, hs25, hs26, hs27, hs29, hs30, hs31, hs32, hs33, hs34, hs35, hs36, hs37, hs38, hs39, hs40, hs41, hs42, hs43, hs44, hs45, hs46, hs47, hs48, hs49, hs50, hs51, hs52, hs53, hs54, hs55, hs56, hs57, hs59, hs60, hs61, hs62, hs63, hs64, hs65, hs66, hs67, hs68, hs69, hs70, hs71, hs72, hs73, hw8, hw18, hw29, hw39, e1, f, e2]
  · rw [← frU_eq (s := s) (x := sc (s 0 0 - s 0 1) * bGN (s 0)) (y := 100000000000000) (by rw [Nat.mul_right_comm, m, Nat.mul_comm]) (by decide) (Nat.pow_pos (by decide))]
    exact h1.fr _ _
def waN (a : Nat → Nat) (m g c : Nat) : Int := sgN (g * c ^ m * 100 ^ (a 0 - a 1)) (bGN a * 10 ^ (m + 1))
def oWa (s : Nat → Nat → Nat) (m g c : Int) : Int := if (0 ≤ m ∧ m ≤ 5) ∧ (0 ≤ g ∧ g ≤ 10) ∧ 0 ≤ c ∧ c ≤ 10 then waN (s 0) m.toNat g.toNat c.toNat else -2
theorem sp_50 {σ : zW} {m g c : Nat} (hm : m ≤ 5) (hg : g ≤ 10) (hc : c ≤ 10) : rm ro 50 [.int (iZ m), .int (iZ g), .int (iZ c)] σ = some (some (.long (jZ ((tn (m + 1) * (g * c ^ m) : Nat) : Int))), σ) ∧ tn (m + 1) * (g * c ^ m) ≤ 100000000000000 := by
  have cl : ∀ i, c ^ i ≤ 10 ^ i := fun i => Nat.pow_le_pow_left hc i
  have bd : ∀ i, i ≤ 5 → tn (i + 1) * (g * c ^ i) ≤ 100000000000000 := by
    intro i hi
    rw [← tn_m (i + 1) (by omega), Nat.pow_succ, Nat.mul_comm (10 ^ i)]
    exact Nat.mul_le_mul_left _ (Nat.mul_le_mul hg (cl i))
  have lp : ∀ j i : Nat, j + i = m → rn ro 1 50 10 [(0, .int (iZ m)), (2, .int (iZ c)), (3, .long (jZ ((tn (i + 1) * (g * c ^ i) : Nat) : Int))), (5, .int (iZ i))] [] σ = some (some (.long (jZ ((tn (m + 1) * (g * c ^ m) : Nat) : Int))), σ) := by
    intro j
    induction j with
    | zero =>
      intro i hi
      have e : i = m := by omega
      subst e
      rw [q50_10]
      simp only [q50_0, q50_3, q50_4, q50_5, q50_6, q50_7, q50_8, q50_12, q50_13, q50_16, q50_17, q50_20, q50_21, q50_22, q50_23, q50_24, q50_25, q50_28, q50_31, q50_32, kI_app, kJ_app, kP_app, kV_app, kS_app, kC_app, kN_app, kM_app, zsw_cons, zsw_nil, lv_args_I, lv_args_R, lv_args_L, lv_args_nil, zlook_cons, zrI_some, zrJ_some, zrP_some, zrC_some, zrA_rw, zrAS_rw, zrLen_rw, zst1_nil, zst1_cI, zst1_cR, zst1_cL, zrm1_nil, zrm1_cI, zrm1_cR, zrm1_cL, zst2_nil, zst2_cI, zst2_cR, zst2_cL, zrm2_nil, zrm2_cI, zrm2_cR, zrm2_cL, zkeep_nil, zkeep_cons, zsum_nil, zsum_I, zsum_R, zsum_L, zsum_N, toL_s, toL_n, List.cons_append, List.nil_append, List.mem_cons, List.not_mem_nil, reduceCtorEq, Nat.reduceAdd, Nat.reduceLT, Nat.reduceLeDiff, Nat.reduceEqDiff, Nat.zero_ne_one, Nat.one_ne_zero, Nat.add_zero, Nat.zero_add, or_false, false_or, or_true, true_or, and_true, true_and, and_self, ↓reduceIte, Nat.succ_ne_self, Nat.reduceGT, Nat.reduceSub, Nat.le_refl, Nat.zero_le, zis_O, cl_is, clG_0, clG_1, clG_2, clG_3, clG_4, clG_5, clG_6, clS_6, clG_7, clG_8, clG_9, clS_9, clG_10, clG_11, clS_11, clG_12, clS_12, clG_13, clS_13, clG_14, clS_14, clG_15, clS_15, clG_16, clG_17, clS_17, od_is, odG_0, odG_1, odS_1, odG_2, odG_3, odS_3, odG_4, re_is, reG_0, reS_0, reG_1, reG_2, reG_3, reS_3, reG_4, reS_4, reG_5, reS_5, reG_6, reS_6, wo_is, woG_0, woG_1, woG_2, woS_2, woG_3, lm_is, lmG_0, lmG_1, lmG_2, lmG_3, lmG_4, lmG_5, lmG_6, lmG_7, lmG_8, lmS_8, lmG_9, lmS_9, lmG_10, lmS_10, lmG_11, lmS_11, lmG_12, lmS_12, mo_is, moG_0, moG_1, moG_2, moG_3, moG_4, moG_5, moS_5, moG_6, moS_6, moG_7, moS_7, moG_8, moG_9, moS_9, moG_10, moS_10, moG_11, moS_11, moG_12, moS_12, moG_13, moS_13, moG_14, moG_15, moS_15, moG_16, moG_17, moS_17, moG_18, moG_19, moG_20, i32ne0, i32ne1, i32ne2, i32ne3, i32ne4, i32ne5, i32ne6, i32ne7, i32ne8, i32ne9, i32ne10, j64ne, Int32.reduceAdd, Int32.reduceSub, Int32.reduceMul, Int32.reduceLT, Int32.reduceOfNat, Int32.reduceToNatClampNeg, cU_at, Nat.reduceMul, Nat.reduceMod, Int32.lt_irrefl, if_false]
    | succ j ih =>
      intro i hi
      have e : iZ i < iZ m := by
        rw [iZ_lt (by omega)]
        omega
      have b := bd i (by omega)
      have d : jZ ((tn (i + 1) * (g * c ^ i) : Nat) : Int) / 10 = jZ ((tn (i + 1 + 1) * (g * c ^ i) : Nat) : Int) := by
        rw [show (10 : Int64) = jZ ((10 : Nat) : Int) from rfl, jZ_divN (by omega) (by decide), tn_s (i + 1) (by omega), Nat.mul_assoc, Nat.mul_div_cancel_left _ (by decide)]
      have el : (iZ (c : Int)).toInt64 = jZ (c : Int) := iZ_l (by omega)
      have em : jZ ((tn (i + 1 + 1) * (g * c ^ i) : Nat) : Int) * jZ (c : Int) = jZ ((tn (i + 1 + 1) * (g * c ^ (i + 1)) : Nat) : Int) := by rw [jZ_mul, ← Int.natCast_mul, Nat.pow_succ, Nat.mul_assoc, Nat.mul_assoc]
      rw [← ih (i + 1) (by omega), q50_10]
      simp only [q50_0, q50_3, q50_4, q50_5, q50_6, q50_7, q50_8, q50_12, q50_13, q50_16, q50_17, q50_20, q50_21, q50_22, q50_23, q50_24, q50_25, q50_28, q50_31, q50_32, kI_app, kJ_app, kP_app, kV_app, kS_app, kC_app, kN_app, kM_app, zsw_cons, zsw_nil, lv_args_I, lv_args_R, lv_args_L, lv_args_nil, zlook_cons, zrI_some, zrJ_some, zrP_some, zrC_some, zrA_rw, zrAS_rw, zrLen_rw, zst1_nil, zst1_cI, zst1_cR, zst1_cL, zrm1_nil, zrm1_cI, zrm1_cR, zrm1_cL, zst2_nil, zst2_cI, zst2_cR, zst2_cL, zrm2_nil, zrm2_cI, zrm2_cR, zrm2_cL, zkeep_nil, zkeep_cons, zsum_nil, zsum_I, zsum_R, zsum_L, zsum_N, toL_s, toL_n, List.cons_append, List.nil_append, List.mem_cons, List.not_mem_nil, reduceCtorEq, Nat.reduceAdd, Nat.reduceLT, Nat.reduceLeDiff, Nat.reduceEqDiff, Nat.zero_ne_one, Nat.one_ne_zero, Nat.add_zero, Nat.zero_add, or_false, false_or, or_true, true_or, and_true, true_and, and_self, ↓reduceIte, Nat.succ_ne_self, Nat.reduceGT, Nat.reduceSub, Nat.le_refl, Nat.zero_le, zis_O, cl_is, clG_0, clG_1, clG_2, clG_3, clG_4, clG_5, clG_6, clS_6, clG_7, clG_8, clG_9, clS_9, clG_10, clG_11, clS_11, clG_12, clS_12, clG_13, clS_13, clG_14, clS_14, clG_15, clS_15, clG_16, clG_17, clS_17, od_is, odG_0, odG_1, odS_1, odG_2, odG_3, odS_3, odG_4, re_is, reG_0, reS_0, reG_1, reG_2, reG_3, reS_3, reG_4, reS_4, reG_5, reS_5, reG_6, reS_6, wo_is, woG_0, woG_1, woG_2, woS_2, woG_3, lm_is, lmG_0, lmG_1, lmG_2, lmG_3, lmG_4, lmG_5, lmG_6, lmG_7, lmG_8, lmS_8, lmG_9, lmS_9, lmG_10, lmS_10, lmG_11, lmS_11, lmG_12, lmS_12, mo_is, moG_0, moG_1, moG_2, moG_3, moG_4, moG_5, moS_5, moG_6, moS_6, moG_7, moS_7, moG_8, moG_9, moS_9, moG_10, moS_10, moG_11, moS_11, moG_12, moS_12, moG_13, moS_13, moG_14, moG_15, moS_15, moG_16, moG_17, moS_17, moG_18, moG_19, moG_20, i32ne0, i32ne1, i32ne2, i32ne3, i32ne4, i32ne5, i32ne6, i32ne7, i32ne8, i32ne9, i32ne10, j64ne, Int32.reduceAdd, Int32.reduceSub, Int32.reduceMul, Int32.reduceLT, Int32.reduceOfNat, Int32.reduceToNatClampNeg, cU_at, Nat.reduceMul, Nat.reduceMod, e, if_true, d, el, em, iZ_suc]
  refine ⟨?_, bd m hm⟩
  have el : (iZ (g : Int)).toInt64 = jZ (g : Int) := iZ_l (by omega)
  have e0 : 10000000000000 * jZ (g : Int) = jZ ((tn (0 + 1) * (g * c ^ 0) : Nat) : Int) := by
    rw [show (10000000000000 : Int64) = jZ ((10000000000000 : Nat) : Int) from rfl, jZ_mul, ← Int.natCast_mul, Nat.pow_zero, Nat.mul_one]
    rfl
  have e := lp m 0 (by omega)
  show rn ro 1 50 0 (lv_args 0 [.int (iZ m), .int (iZ g), .int (iZ c)]) [] σ = _
  simp only [q50_0, q50_3, q50_4, q50_5, q50_6, q50_7, q50_8, q50_12, q50_13, q50_16, q50_17, q50_20, q50_21, q50_22, q50_23, q50_24, q50_25, q50_28, q50_31, q50_32, kI_app, kJ_app, kP_app, kV_app, kS_app, kC_app, kN_app, kM_app, zsw_cons, zsw_nil, lv_args_I, lv_args_R, lv_args_L, lv_args_nil, zlook_cons, zrI_some, zrJ_some, zrP_some, zrC_some, zrA_rw, zrAS_rw, zrLen_rw, zst1_nil, zst1_cI, zst1_cR, zst1_cL, zrm1_nil, zrm1_cI, zrm1_cR, zrm1_cL, zst2_nil, zst2_cI, zst2_cR, zst2_cL, zrm2_nil, zrm2_cI, zrm2_cR, zrm2_cL, zkeep_nil, zkeep_cons, zsum_nil, zsum_I, zsum_R, zsum_L, zsum_N, toL_s, toL_n, List.cons_append, List.nil_append, List.mem_cons, List.not_mem_nil, reduceCtorEq, Nat.reduceAdd, Nat.reduceLT, Nat.reduceLeDiff, Nat.reduceEqDiff, Nat.zero_ne_one, Nat.one_ne_zero, Nat.add_zero, Nat.zero_add, or_false, false_or, or_true, true_or, and_true, true_and, and_self, ↓reduceIte, Nat.succ_ne_self, Nat.reduceGT, Nat.reduceSub, Nat.le_refl, Nat.zero_le, zis_O, cl_is, clG_0, clG_1, clG_2, clG_3, clG_4, clG_5, clG_6, clS_6, clG_7, clG_8, clG_9, clS_9, clG_10, clG_11, clS_11, clG_12, clS_12, clG_13, clS_13, clG_14, clS_14, clG_15, clS_15, clG_16, clG_17, clS_17, od_is, odG_0, odG_1, odS_1, odG_2, odG_3, odS_3, odG_4, re_is, reG_0, reS_0, reG_1, reG_2, reG_3, reS_3, reG_4, reS_4, reG_5, reS_5, reG_6, reS_6, wo_is, woG_0, woG_1, woG_2, woS_2, woG_3, lm_is, lmG_0, lmG_1, lmG_2, lmG_3, lmG_4, lmG_5, lmG_6, lmG_7, lmG_8, lmS_8, lmG_9, lmS_9, lmG_10, lmS_10, lmG_11, lmS_11, lmG_12, lmS_12, mo_is, moG_0, moG_1, moG_2, moG_3, moG_4, moG_5, moS_5, moG_6, moS_6, moG_7, moS_7, moG_8, moG_9, moS_9, moG_10, moS_10, moG_11, moS_11, moG_12, moS_12, moG_13, moS_13, moG_14, moG_15, moS_15, moG_16, moG_17, moS_17, moG_18, moG_19, moG_20, i32ne0, i32ne1, i32ne2, i32ne3, i32ne4, i32ne5, i32ne6, i32ne7, i32ne8, i32ne9, i32ne10, j64ne, Int32.reduceAdd, Int32.reduceSub, Int32.reduceMul, Int32.reduceLT, Int32.reduceOfNat, Int32.reduceToNatClampNeg, cU_at, Nat.reduceMul, Nat.reduceMod, el, e0]
  exact e
theorem cop_107 (q : SInv s) {m g c : Int} (hm : -2147483648 ≤ m ∧ m < 2147483648) (hg : -2147483648 ≤ g ∧ g < 2147483648) (hc : -2147483648 ≤ c ∧ c < 2147483648) : COp ro 107 [.int (iZ m), .int (iZ g), .int (iZ c)] (.int (iZ (oWa s m g c))) s (cntI s (if (0 ≤ m ∧ m ≤ 5) ∧ (0 ≤ g ∧ g ≤ 10) ∧ 0 ≤ c ∧ c ≤ 10 then 0 else -2)) := by
  intro A L h
  have n0 := q.1.n0
  have eB := sp_counted (ro := ro) A L (x := -2) (by omega)
  rw [← iZ_m2] at eB
  unfold oWa
  by_cases d : (0 ≤ m ∧ m ≤ 5) ∧ (0 ≤ g ∧ g ≤ 10) ∧ 0 ≤ c ∧ c ≤ 10
  · rw [if_pos d, if_pos d]
    obtain ⟨A1, L1, e1, e2, e3, e4⟩ := sp_43 (ro := ro) h q
    have h1 : CInv A1 L1 s := h.scr (fun i hi => e3 i (by omega)) (e4 0 (by decide))
    have su := sp_50 (ro := ro) (σ := hp A L) (m := m.toNat) (g := g.toNat) (c := c.toNat) (by omega) (by omega) (by omega)
    rw [← i_tn d.1.1, ← i_tn d.2.1.1, ← i_tn d.2.2.1] at su
    have sm := sc_m (s 0 0 - s 0 1) (by omega)
    have tm := tn_m (m.toNat + 1) (by omega)
    have xm : sc (s 0 0 - s 0 1) * bGN (s 0) ≤ 100000000000000 := by
      rw [← sm]
      exact Nat.mul_le_mul_left _ (bGN_le q.1)
    have cz := cmp_Z (ro := ro) (σ := hp A1 L1) (x := tn (m.toNat + 1) * (g.toNat * c.toNat ^ m.toNat)) (y := sc (s 0 0 - s 0 1) * bGN (s 0)) (by omega) (by omega)
    have es : sgN (tn (m.toNat + 1) * (g.toNat * c.toNat ^ m.toNat)) (sc (s 0 0 - s 0 1) * bGN (s 0)) = waN (s 0) m.toNat g.toNat c.toNat := by
      unfold waN
      have p : 0 < 100 ^ (s 0 0 - s 0 1) * 10 ^ (m.toNat + 1) := Nat.mul_pos (Nat.pow_pos (by decide)) (Nat.pow_pos (by decide))
      refine (sg_scale p).symm.trans (Eq.trans ?_ (sg_scale (S := 100000000000000) (by decide)))
      congr 1
      · rw [← tm]
        simp only [Nat.mul_assoc, Nat.mul_comm, Nat.mul_left_comm]
      · rw [← sm]
        simp only [Nat.mul_assoc, Nat.mul_comm, Nat.mul_left_comm]
    rw [es] at cz
    refine ⟨A1, L1, ?_, h1.cnt 0, fun k hk => ⟨e3 k (by omega), e4 k (by omega)⟩⟩
    show rn ro 7 107 0 (lv_args 0 [.ref 0, .int (iZ m), .int (iZ g), .int (iZ c)]) [] (hp A L) = _
    simp only [q107_0, q107_1, q107_4, q107_5, q107_6, q107_9, q107_10, q107_13, q107_14, q107_16, q107_19, q107_20, q107_23, q107_24, q107_26, q107_29, q107_30, q107_32, q107_35, q107_36, q107_37, q107_38, q107_39, q107_42, q107_43, q107_46, q107_47, q107_50, q107_53, q107_56, zrk_121, zrk_126, zrk_43, zrk_50, kI_app, kJ_app, kP_app, kV_app, kS_app, kC_app, kN_app, kM_app, zsw_cons, zsw_nil, lv_args_I, lv_args_R, lv_args_L, lv_args_nil, zlook_cons, zrI_some, zrJ_some, zrP_some, zrC_some, zrA_rw, zrAS_rw, zrLen_rw, zst1_nil, zst1_cI, zst1_cR, zst1_cL, zrm1_nil, zrm1_cI, zrm1_cR, zrm1_cL, zst2_nil, zst2_cI, zst2_cR, zst2_cL, zrm2_nil, zrm2_cI, zrm2_cR, zrm2_cL, zkeep_nil, zkeep_cons, zsum_nil, zsum_I, zsum_R, zsum_L, zsum_N, toL_s, toL_n, List.cons_append, List.nil_append, List.mem_cons, List.not_mem_nil, reduceCtorEq, Nat.reduceAdd, Nat.reduceLT, Nat.reduceLeDiff, Nat.reduceEqDiff, Nat.zero_ne_one, Nat.one_ne_zero, Nat.add_zero, Nat.zero_add, or_false, false_or, or_true, true_or, and_true, true_and, and_self, ↓reduceIte, Nat.succ_ne_self, Nat.reduceGT, Nat.reduceSub, Nat.le_refl, Nat.zero_le, zis_O, cl_is, clG_0, clG_1, clG_2, clG_3, clG_4, clG_5, clG_6, clS_6, clG_7, clG_8, clG_9, clS_9, clG_10, clG_11, clS_11, clG_12, clS_12, clG_13, clS_13, clG_14, clS_14, clG_15, clS_15, clG_16, clG_17, clS_17, od_is, odG_0, odG_1, odS_1, odG_2, odG_3, odS_3, odG_4, re_is, reG_0, reS_0, reG_1, reG_2, reG_3, reS_3, reG_4, reS_4, reG_5, reS_5, reG_6, reS_6, wo_is, woG_0, woG_1, woG_2, woS_2, woG_3, lm_is, lmG_0, lmG_1, lmG_2, lmG_3, lmG_4, lmG_5, lmG_6, lmG_7, lmG_8, lmS_8, lmG_9, lmS_9, lmG_10, lmS_10, lmG_11, lmS_11, lmG_12, lmS_12, mo_is, moG_0, moG_1, moG_2, moG_3, moG_4, moG_5, moS_5, moG_6, moS_6, moG_7, moS_7, moG_8, moG_9, moS_9, moG_10, moS_10, moG_11, moS_11, moG_12, moS_12, moG_13, moS_13, moG_14, moG_15, moS_15, moG_16, moG_17, moS_17, moG_18, moG_19, moG_20, i32ne0, i32ne1, i32ne2, i32ne3, i32ne4, i32ne5, i32ne6, i32ne7, i32ne8, i32ne9, i32ne10, j64ne, Int32.reduceAdd, Int32.reduceSub, Int32.reduceMul, Int32.reduceLT, Int32.reduceOfNat, Int32.reduceToNatClampNeg, cU_at, Nat.reduceMul, Nat.reduceMod, catR, catI, cV_self, cU_self, hg0, hg1, hg2, hg3, hg4, hg5, hg6, hg7, hg8, hg9, hg10, hg11, hg12, hg13, hg14, hg15, hg16, hg17, hg18, hg19, hg20, hg21, hg22, hg23, hg24, hg25, hg26, hg27, hg28, hg29, hg30, hg31, hg32, hg33, hg34, hg35, hg36, hg37, hg38, hg39, hg40, hg41, hg42, hg43, hg44, hg45, hg46, hg47, hg48, hg49, hg50, hg51, hg52, hg53, hg54, hg55, hg56, hg57, hg58, hg59, hg60, hg61, hg62, hg63, hg64, hg65, hg66, hg67, hg68, hg69, hg70, hg71, hg72, hg73, hg1001, hg1002, hg1003, hg1000, hg2000, hs0, hs8, hs9, hs10, hs11, hs12, hs13, hs14, hs15, hs16, hs17, hs18, hs19, hs20, hs21, hs22, hs23, hs24, hs25, hs26, hs27, hs29, hs30, hs31, hs32, hs33, hs34, hs35, hs36, hs37, hs38, hs39, hs40, hs41, hs42, hs43, hs44, hs45, hs46, hs47, hs48, hs49, hs50, hs51, hs52, hs53, hs54, hs55, hs56, hs57, hs59, hs60, hs61, hs62, hs63, hs64, hs65, hs66, hs67, hs68, hs69, hs70, hs71, hs72, hs73, hw8, hw18, hw29, hw39, i_lt0 hm, i_gtk 5 5 rfl (by omega) hm, i_lt0 hg, i_gtk 10 10 rfl (by omega) hg, i_lt0 hc, i_gtk 10 10 rfl (by omega) hc, show ¬ m < 0 by omega, show ¬ 5 < m by omega, show ¬ g < 0 by omega, show ¬ 10 < g by omega, show ¬ c < 0 by omega, show ¬ 10 < c by omega, if_false, su.1, e1, cz]
  · rw [if_neg d, if_neg d]
    refine ⟨_, L, ?_, h.cnt (-2), fun k hk => ⟨cntA_n _ _ (by omega), rfl⟩⟩
    show rn ro 7 107 0 (lv_args 0 [.ref 0, .int (iZ m), .int (iZ g), .int (iZ c)]) [] (hp A L) = _
    simp only [q107_0, q107_1, q107_4, q107_5, q107_6, q107_9, q107_10, q107_13, q107_14, q107_16, q107_19, q107_20, q107_23, q107_24, q107_26, q107_29, q107_30, q107_32, q107_35, q107_36, q107_37, q107_38, q107_39, q107_42, q107_43, q107_46, q107_47, q107_50, q107_53, q107_56, zrk_121, zrk_126, zrk_43, zrk_50, kI_app, kJ_app, kP_app, kV_app, kS_app, kC_app, kN_app, kM_app, zsw_cons, zsw_nil, lv_args_I, lv_args_R, lv_args_L, lv_args_nil, zlook_cons, zrI_some, zrJ_some, zrP_some, zrC_some, zrA_rw, zrAS_rw, zrLen_rw, zst1_nil, zst1_cI, zst1_cR, zst1_cL, zrm1_nil, zrm1_cI, zrm1_cR, zrm1_cL, zst2_nil, zst2_cI, zst2_cR, zst2_cL, zrm2_nil, zrm2_cI, zrm2_cR, zrm2_cL, zkeep_nil, zkeep_cons, zsum_nil, zsum_I, zsum_R, zsum_L, zsum_N, toL_s, toL_n, List.cons_append, List.nil_append, List.mem_cons, List.not_mem_nil, reduceCtorEq, Nat.reduceAdd, Nat.reduceLT, Nat.reduceLeDiff, Nat.reduceEqDiff, Nat.zero_ne_one, Nat.one_ne_zero, Nat.add_zero, Nat.zero_add, or_false, false_or, or_true, true_or, and_true, true_and, and_self, ↓reduceIte, Nat.succ_ne_self, Nat.reduceGT, Nat.reduceSub, Nat.le_refl, Nat.zero_le, zis_O, cl_is, clG_0, clG_1, clG_2, clG_3, clG_4, clG_5, clG_6, clS_6, clG_7, clG_8, clG_9, clS_9, clG_10, clG_11, clS_11, clG_12, clS_12, clG_13, clS_13, clG_14, clS_14, clG_15, clS_15, clG_16, clG_17, clS_17, od_is, odG_0, odG_1, odS_1, odG_2, odG_3, odS_3, odG_4, re_is, reG_0, reS_0, reG_1, reG_2, reG_3, reS_3, reG_4, reS_4, reG_5, reS_5, reG_6, reS_6, wo_is, woG_0, woG_1, woG_2, woS_2, woG_3, lm_is, lmG_0, lmG_1, lmG_2, lmG_3, lmG_4, lmG_5, lmG_6, lmG_7, lmG_8, lmS_8, lmG_9, lmS_9, lmG_10, lmS_10, lmG_11, lmS_11, lmG_12, lmS_12, mo_is, moG_0, moG_1, moG_2, moG_3, moG_4, moG_5, moS_5, moG_6, moS_6, moG_7, moS_7, moG_8, moG_9, moS_9, moG_10, moS_10, moG_11, moS_11, moG_12, moS_12, moG_13, moS_13, moG_14, moG_15, moS_15, moG_16, moG_17, moS_17, moG_18, moG_19, moG_20, i32ne0, i32ne1, i32ne2, i32ne3, i32ne4, i32ne5, i32ne6, i32ne7, i32ne8, i32ne9, i32ne10, j64ne, Int32.reduceAdd, Int32.reduceSub, Int32.reduceMul, Int32.reduceLT, Int32.reduceOfNat, Int32.reduceToNatClampNeg, cU_at, Nat.reduceMul, Nat.reduceMod, catR, catI, cV_self, cU_self, hg0, hg1, hg2, hg3, hg4, hg5, hg6, hg7, hg8, hg9, hg10, hg11, hg12, hg13, hg14, hg15, hg16, hg17, hg18, hg19, hg20, hg21, hg22, hg23, hg24, hg25, hg26, hg27, hg28, hg29, hg30, hg31, hg32, hg33, hg34, hg35, hg36, hg37, hg38, hg39, hg40, hg41, hg42, hg43, hg44, hg45, hg46, hg47, hg48, hg49, hg50, hg51, hg52, hg53, hg54, hg55, hg56, hg57, hg58, hg59, hg60, hg61, hg62, hg63, hg64, hg65, hg66, hg67, hg68, hg69, hg70, hg71, hg72, hg73, hg1001, hg1002, hg1003, hg1000, hg2000, hs0, hs8, hs9, hs10, hs11, hs12, hs13, hs14, hs15, hs16, hs17, hs18, hs19, hs20, hs21, hs22, hs23, hs24, hs25, hs26, hs27, hs29, hs30, hs31, hs32, hs33, hs34, hs35, hs36, hs37, hs38, hs39, hs40, hs41, hs42, hs43, hs44, hs45, hs46, hs47, hs48, hs49, hs50, hs51, hs52, hs53, hs54, hs55, hs56, hs57, hs59, hs60, hs61, hs62, hs63, hs64, hs65, hs66, hs67, hs68, hs69, hs70, hs71, hs72, hs73, hw8, hw18, hw29, hw39, i_lt0 hm, i_gtk 5 5 rfl (by omega) hm, i_lt0 hg, i_gtk 10 10 rfl (by omega) hg, i_lt0 hc, i_gtk 10 10 rfl (by omega) hc, eB]
    by_cases d1 : m < 0
    · rw [if_pos d1]
      rfl
    rw [if_neg d1]
    by_cases d2 : 5 < m
    · rw [if_pos d2]
      rfl
    rw [if_neg d2]
    by_cases d3 : g < 0
    · rw [if_pos d3]
      rfl
    rw [if_neg d3]
    by_cases d4 : 10 < g
    · rw [if_pos d4]
      rfl
    rw [if_neg d4]
    by_cases d5 : c < 0
    · rw [if_pos d5]
      rfl
    rw [if_neg d5, if_pos (by omega)]
    rfl
end BE2
