/-! READ: the call of the class -/
def rdS (s : Nat → Nat → Nat) (M : Nat) : Nat → Nat → Nat := if tK (s 4) (s 3 0) (ips (s 4) (s 3 0) M) = 0 ∧ (dr (s 4) (s 3 0) M).1 = -1 then sU s 0 (dr (s 4) (s 3 0) M).2 else s
section CR2
variable {N : Nat} {xs : Nat → Int32} {vf : Bool} {s : Nat → Nat → Nat}
theorem CInv.rd {A A' : Nat → Nat → Int32} {L : Nat → Nat → Int64} (h : CInv A L s) (e : ∀ k, (k < 18 ∨ (29 ≤ k ∧ k < 50) ∨ k = 60) → A' k = A k) (e59 : A' 59 0 = A 59 0) : CInv A' L s := by
  obtain ⟨h0, h1, h2, h3, h4, h5, h6⟩ := h
  refine ⟨RelL.congr h0 fun k hk => e (8 + k) (by omega), ?_, h2, ⟨e59.trans h3.1, ?_⟩, ?_, fun z => RelL.congr (h5 z) fun k hk => e (29 + k) (by omega), fun z => RelL.congr (h6 z) fun k hk => e (39 + k) (by omega)⟩
  · rw [e 0 (by omega)]
    exact h1
  · rw [e 60 (by omega)]
    exact h3.2
  · rw [e 49 (by omega)]
    exact h4
theorem rdA_neg {t : Nat → Nat} {n M : Nat} (h : ¬ (tK t n (ips t n M) = 0 ∧ (dr t n M).1 = -1)) : rdA t n M < 0 := by
  have r := dr_ran (t := t) (n := n) M
  unfold rdA
  split
  · rename_i c
    rw [if_neg (fun y => h ⟨c, y⟩)]
    omega
  · omega
theorem rdA_ran {t : Nat → Nat} {n M : Nat} (hn : n ≤ 150) (hM : M ≤ 30) (hok : ∀ i, i < M → iok t n (ips t n i)) : -2000 ≤ rdA t n M ∧ rdA t n M ≤ 2000 := by
  have r := dr_ran (t := t) (n := n) M
  have ipl := (ips_le M hok).2
  have b := (tB_le (t := t) (Ep_le (t := t) ipl (ir t n (ips t n M)))).2
  unfold rdA
  split
  · split <;> omega
  · omega
theorem cop_95 (q : SInv s) {M : Nat} (hM : M ≤ 30) (hok : ∀ i, i < M → iok (s 4) (s 3 0) (ips (s 4) (s 3 0) i)) (hno : ¬ iok (s 4) (s 3 0) (ips (s 4) (s 3 0) M)) : COp (zro N xs vf) 95 [] (.int (iZ (rdA (s 4) (s 3 0) M))) s (rdS s M) := by
  intro A L h
  have hn := q.2.1.1
  have r8 := sp_startAnew (ro := zro N xs vf) (hc18 A L) (hg1001 A L) (show (zro N xs vf).1 1001 = some (0, 4, zs1) from rfl)
  rw [hw18] at r8
  obtain ⟨A1, hA1⟩ : ∃ A1, A1 = cW A 18 (anC (fun k => A (18 + k)) zs1) := ⟨_, rfl⟩
  rw [← hA1] at r8
  have o1 : ∀ k, ¬ (18 ≤ k ∧ k < 28) → A1 k = A k := fun k hk => by
    rw [hA1, cW_out A 18 _ (by omega)]
  have R1 : Rel (fun k => A1 (18 + k)) aN := by
    rw [hA1]
    exact RelL.congr (rel_an (C := fun k => A (18 + k))) (fun k hk => cW_in A 18 _ hk)
  have h59 := h.2.2.2.1
  have T1 : RTx (cU A1 59 (upd (A1 59) 3 0)) (s 4) (s 3 0) := by
    refine ⟨?_, hn, fun i hi => ⟨?_, q.2.1.2 i hi⟩⟩
    · show A1 59 0 = _
      rw [o1 59 (by omega)]
      exact h59.1
    · show A1 60 i = _
      rw [o1 60 (by omega)]
      exact h59.2 i hi
  obtain ⟨A2, e1, e2, e3⟩ := sp_62 (ro := zro N xs vf) (L := L) T1 (p := 0) (Nat.zero_le _) rfl
  have T2 := T1.to e2 (e3.1.trans T1.1.symm)
  have R2 : Rel (fun k => A2 (18 + k)) aN := RelL.congr R1 (fun k hk => (e2 (18 + k) (by omega)).trans (cU_n (by omega)))
  obtain ⟨A3, f1, f2, f3, f4⟩ := f59 (N := N) (xs := xs) (vf := vf) (L := L) hn hM hok hno M 0 (by omega) A2 T2 e3 R2
  rw [show iZ ((0 : Nat) : Int) = 0 from rfl, show iZ (dr (s 4) (s 3 0) 0).1 = -1 from rfl] at f1
  have r59 : rm (zro N xs vf) 59 [.ref 59, .ref 18] (hp A1 L) = some (some (.int (iZ (rdA (s 4) (s 3 0) M))), hp A3 L) := by
    rw [← f1]
    show rn (zro N xs vf) 8 59 0 (lv_args 0 [.ref 59, .ref 18]) [] (hp A1 L) = _
    simp only [q59_0, q59_1, q59_2, q59_5, q59_6, q59_7, q59_8, q59_9, q59_10, q59_13, q59_14, q59_18, q59_21, q59_24, q59_25, q59_28, q59_29, q59_32, q59_33, q59_36, q59_37, q59_40, q59_41, q59_44, q59_47, q59_48, q59_50, q59_52, q59_53, q59_56, q59_57, q59_60, q59_62, q59_65, q59_68, q59_71, q59_72, q59_75, q59_76, q59_79, q59_81, q59_82, q59_85, q59_86, q59_87, q59_88, q59_89, q59_92, q59_93, q59_94, q59_96, q59_99, q59_102, q59_103, q59_104, q59_107, q59_108, q59_111, q59_114, q59_117, q59_118, q59_119, q59_122, q59_123, q59_126, q59_129, q59_130, q59_131, zrk_127, zrk_60, zrk_61, zrk_62, zrk_65, kI_app, kJ_app, kP_app, kV_app, kS_app, kC_app, kN_app, kM_app, zsw_cons, zsw_nil, lv_args_I, lv_args_R, lv_args_L, lv_args_nil, zlook_cons, zrI_some, zrJ_some, zrP_some, zrC_some, zrA_rw, zrAS_rw, zrLen_rw, zst1_nil, zst1_cI, zst1_cR, zst1_cL, zrm1_nil, zrm1_cI, zrm1_cR, zrm1_cL, zst2_nil, zst2_cI, zst2_cR, zst2_cL, zrm2_nil, zrm2_cI, zrm2_cR, zrm2_cL, zkeep_nil, zkeep_cons, zsum_nil, zsum_I, zsum_R, zsum_L, zsum_N, toL_s, toL_n, List.cons_append, List.nil_append, List.mem_cons, List.not_mem_nil, reduceCtorEq, Nat.reduceAdd, Nat.reduceLT, Nat.reduceLeDiff, Nat.reduceEqDiff, Nat.zero_ne_one, Nat.one_ne_zero, Nat.add_zero, Nat.zero_add, or_false, false_or, or_true, true_or, and_true, true_and, and_self, ↓reduceIte, Nat.succ_ne_self, Nat.reduceGT, Nat.reduceSub, Nat.le_refl, Nat.zero_le, zis_O, cl_is, clG_0, clG_1, clG_2, clG_3, clG_4, clG_5, clG_6, clS_6, clG_7, clG_8, clG_9, clS_9, clG_10, clG_11, clS_11, clG_12, clS_12, clG_13, clS_13, clG_14, clS_14, clG_15, clS_15, clG_16, clG_17, clS_17, od_is, odG_0, odG_1, odS_1, odG_2, odG_3, odS_3, odG_4, re_is, reG_0, reS_0, reG_1, reG_2, reG_3, reS_3, reG_4, reS_4, reG_5, reS_5, reG_6, reS_6, wo_is, woG_0, woG_1, woG_2, woS_2, woG_3, lm_is, lmG_0, lmG_1, lmG_2, lmG_3, lmG_4, lmG_5, lmG_6, lmG_7, lmG_8, lmS_8, lmG_9, lmS_9, lmG_10, lmS_10, lmG_11, lmS_11, lmG_12, lmS_12, mo_is, moG_0, moG_1, moG_2, moG_3, moG_4, moG_5, moS_5, moG_6, moS_6, moG_7, moS_7, moG_8, moG_9, moS_9, moG_10, moS_10, moG_11, moS_11, moG_12, moS_12, moG_13, moS_13, moG_14, moG_15, moS_15, moG_16, moG_17, moS_17, moG_18, moG_19, moG_20, i32ne0, i32ne1, i32ne2, i32ne3, i32ne4, i32ne5, i32ne6, i32ne7, i32ne8, i32ne9, i32ne10, j64ne, Int32.reduceAdd, Int32.reduceSub, Int32.reduceMul, Int32.reduceLT, Int32.reduceOfNat, Int32.reduceToNatClampNeg, cU_at, Nat.reduceMul, Nat.reduceMod, catR, catI, cV_self, cU_self, hg0, hg1, hg2, hg3, hg4, hg5, hg6, hg7, hg8, hg9, hg10, hg11, hg12, hg13, hg14, hg15, hg16, hg17, hg18, hg19, hg20, hg21, hg22, hg23, hg24, hg25, hg26, hg27, hg28, hg29, hg30, hg31, hg32, hg33, hg34, hg35, hg36, hg37, hg38, hg39, hg40, hg41, hg42, hg43, hg44, hg45, hg46, hg47, hg48, hg49, hg50, hg51, hg52, hg53, hg54, hg55, hg56, hg57, hg58, hg59, hg60, hg61, hg62, hg63, hg64, hg65, hg66, hg67, hg68, hg69, hg70, hg71, hg72, hg73, hg1001, hg1002, hg1003, hg1000, hg2000, hs0, hs8, hs9, hs10, hs11, hs12, hs13, hs14, hs15, hs16, hs17, hs18, hs19, hs20, hs21, hs22, hs23, hs24, hs25, hs26, hs27, hs29, hs30, hs31, hs32, hs33, hs34, hs35, hs36, hs37, hs38, hs39, hs40, hs41, hs42, hs43, hs44, hs45, hs46, hs47, hs48, hs49, hs50, hs51, hs52, hs53, hs54, hs55, hs56, hs57, hs59, hs60, hs61, hs62, hs63, hs64, hs65, hs66, hs67, hs68, hs69, hs70, hs71, hs72, hs73, hw8, hw18, hw29, hw39, e1]
  have od : ∀ k, k ≠ 59 → k ≠ 61 → ¬ (18 ≤ k ∧ k < 28) → A3 k = A k := fun k h1 h2 h3 => (f2 k h1 h2 h3).trans ((e2 k h1).trans ((cU_n h1).trans (o1 k h3)))
  have e590 : A3 59 0 = A 59 0 := by
    rw [f3, e3.1, h59.1]
  have I3 : CInv A3 L s := h.rd (fun k hk => od k (by omega) (by omega) (by omega)) e590
  have rr := rdA_ran hn hM hok
  have cn := i_lt0 (show -2147483648 ≤ rdA (s 4) (s 3 0) M ∧ rdA (s 4) (s 3 0) M < 2147483648 by omega)
  unfold rdS
  by_cases z : tK (s 4) (s 3 0) (ips (s 4) (s 3 0) M) = 0 ∧ (dr (s 4) (s 3 0) M).1 = -1
  · have ea : rdA (s 4) (s 3 0) M = M := by
      unfold rdA
      rw [if_pos z.1, if_pos z.2]
    have nn : ¬ rdA (s 4) (s 3 0) M < 0 := by omega
    have R3 := f4 (by omega)
    rw [if_pos z]
    have g := good_dr (t := s 4) (n := s 3 0) M
    have cp := sp_copy_8_18 (ro := zro N xs vf) A3 L (c15 R3 g)
    refine ⟨_, L, ?_, I3.now (rel_cp (C := fun k => A3 (8 + k)) R3), fun k hk => ⟨(cW_out A3 8 _ (by omega)).trans (od k (by omega) (by omega) (by omega)), rfl⟩⟩
    show rn (zro N xs vf) 9 95 0 (lv_args 0 [.ref 0]) [] (hp A L) = _
    simp only [q95_0, q95_1, q95_4, q95_7, q95_8, q95_11, q95_12, q95_15, q95_18, q95_19, q95_20, q95_23, q95_24, q95_27, q95_28, q95_31, q95_34, q95_35, zrk_59, zrk_8, zrk_9, kI_app, kJ_app, kP_app, kV_app, kS_app, kC_app, kN_app, kM_app, zsw_cons, zsw_nil, lv_args_I, lv_args_R, lv_args_L, lv_args_nil, zlook_cons, zrI_some, zrJ_some, zrP_some, zrC_some, zrA_rw, zrAS_rw, zrLen_rw, zst1_nil, zst1_cI, zst1_cR, zst1_cL, zrm1_nil, zrm1_cI, zrm1_cR, zrm1_cL, zst2_nil, zst2_cI, zst2_cR, zst2_cL, zrm2_nil, zrm2_cI, zrm2_cR, zrm2_cL, zkeep_nil, zkeep_cons, zsum_nil, zsum_I, zsum_R, zsum_L, zsum_N, toL_s, toL_n, List.cons_append, List.nil_append, List.mem_cons, List.not_mem_nil, reduceCtorEq, Nat.reduceAdd, Nat.reduceLT, Nat.reduceLeDiff, Nat.reduceEqDiff, Nat.zero_ne_one, Nat.one_ne_zero, Nat.add_zero, Nat.zero_add, or_false, false_or, or_true, true_or, and_true, true_and, and_self, ↓reduceIte, Nat.succ_ne_self, Nat.reduceGT, Nat.reduceSub, Nat.le_refl, Nat.zero_le, zis_O, cl_is, clG_0, clG_1, clG_2, clG_3, clG_4, clG_5, clG_6, clS_6, clG_7, clG_8, clG_9, clS_9, clG_10, clG_11, clS_11, clG_12, clS_12, clG_13, clS_13, clG_14, clS_14, clG_15, clS_15, clG_16, clG_17, clS_17, od_is, odG_0, odG_1, odS_1, odG_2, odG_3, odS_3, odG_4, re_is, reG_0, reS_0, reG_1, reG_2, reG_3, reS_3, reG_4, reS_4, reG_5, reS_5, reG_6, reS_6, wo_is, woG_0, woG_1, woG_2, woS_2, woG_3, lm_is, lmG_0, lmG_1, lmG_2, lmG_3, lmG_4, lmG_5, lmG_6, lmG_7, lmG_8, lmS_8, lmG_9, lmS_9, lmG_10, lmS_10, lmG_11, lmS_11, lmG_12, lmS_12, mo_is, moG_0, moG_1, moG_2, moG_3, moG_4, moG_5, moS_5, moG_6, moS_6, moG_7, moS_7, moG_8, moG_9, moS_9, moG_10, moS_10, moG_11, moS_11, moG_12, moS_12, moG_13, moS_13, moG_14, moG_15, moS_15, moG_16, moG_17, moS_17, moG_18, moG_19, moG_20, i32ne0, i32ne1, i32ne2, i32ne3, i32ne4, i32ne5, i32ne6, i32ne7, i32ne8, i32ne9, i32ne10, j64ne, Int32.reduceAdd, Int32.reduceSub, Int32.reduceMul, Int32.reduceLT, Int32.reduceOfNat, Int32.reduceToNatClampNeg, cU_at, Nat.reduceMul, Nat.reduceMod, catR, catI, cV_self, cU_self, hg0, hg1, hg2, hg3, hg4, hg5, hg6, hg7, hg8, hg9, hg10, hg11, hg12, hg13, hg14, hg15, hg16, hg17, hg18, hg19, hg20, hg21, hg22, hg23, hg24, hg25, hg26, hg27, hg28, hg29, hg30, hg31, hg32, hg33, hg34, hg35, hg36, hg37, hg38, hg39, hg40, hg41, hg42, hg43, hg44, hg45, hg46, hg47, hg48, hg49, hg50, hg51, hg52, hg53, hg54, hg55, hg56, hg57, hg58, hg59, hg60, hg61, hg62, hg63, hg64, hg65, hg66, hg67, hg68, hg69, hg70, hg71, hg72, hg73, hg1001, hg1002, hg1003, hg1000, hg2000, hs0, hs8, hs9, hs10, hs11, hs12, hs13, hs14, hs15, hs16, hs17, hs18, hs19, hs20, hs21, hs22, hs23, hs24, hs25, hs26, hs27, hs29, hs30, hs31, hs32, hs33, hs34, hs35, hs36, hs37, hs38, hs39, hs40, hs41, hs42, hs43, hs44, hs45, hs46, hs47, hs48, hs49, hs50, hs51, hs52, hs53, hs54, hs55, hs56, hs57, hs59, hs60, hs61, hs62, hs63, hs64, hs65, hs66, hs67, hs68, hs69, hs70, hs71, hs72, hs73, hw8, hw18, hw29, hw39, r8, r59, cn, nn, if_false, cp]
  · have ng := rdA_neg z
    rw [if_neg z]
    refine ⟨A3, L, ?_, I3, fun k hk => ⟨od k (by omega) (by omega) (by omega), rfl⟩⟩
    show rn (zro N xs vf) 9 95 0 (lv_args 0 [.ref 0]) [] (hp A L) = _
    simp only [q95_0, q95_1, q95_4, q95_7, q95_8, q95_11, q95_12, q95_15, q95_18, q95_19, q95_20, q95_23, q95_24, q95_27, q95_28, q95_31, q95_34, q95_35, zrk_59, zrk_8, zrk_9, kI_app, kJ_app, kP_app, kV_app, kS_app, kC_app, kN_app, kM_app, zsw_cons, zsw_nil, lv_args_I, lv_args_R, lv_args_L, lv_args_nil, zlook_cons, zrI_some, zrJ_some, zrP_some, zrC_some, zrA_rw, zrAS_rw, zrLen_rw, zst1_nil, zst1_cI, zst1_cR, zst1_cL, zrm1_nil, zrm1_cI, zrm1_cR, zrm1_cL, zst2_nil, zst2_cI, zst2_cR, zst2_cL, zrm2_nil, zrm2_cI, zrm2_cR, zrm2_cL, zkeep_nil, zkeep_cons, zsum_nil, zsum_I, zsum_R, zsum_L, zsum_N, toL_s, toL_n, List.cons_append, List.nil_append, List.mem_cons, List.not_mem_nil, reduceCtorEq, Nat.reduceAdd, Nat.reduceLT, Nat.reduceLeDiff, Nat.reduceEqDiff, Nat.zero_ne_one, Nat.one_ne_zero, Nat.add_zero, Nat.zero_add, or_false, false_or, or_true, true_or, and_true, true_and, and_self, ↓reduceIte, Nat.succ_ne_self, Nat.reduceGT, Nat.reduceSub, Nat.le_refl, Nat.zero_le, zis_O, cl_is, clG_0, clG_1, clG_2, clG_3, clG_4, clG_5, clG_6, clS_6, clG_7, clG_8, clG_9, clS_9, clG_10, clG_11, clS_11, clG_12, clS_12, clG_13, clS_13, clG_14, clS_14, clG_15, clS_15, clG_16, clG_17, clS_17, od_is, odG_0, odG_1, odS_1, odG_2, odG_3, odS_3, odG_4, re_is, reG_0, reS_0, reG_1, reG_2, reG_3, reS_3, reG_4, reS_4, reG_5, reS_5, reG_6, reS_6, wo_is, woG_0, woG_1, woG_2, woS_2, woG_3, lm_is, lmG_0, lmG_1, lmG_2, lmG_3, lmG_4, lmG_5, lmG_6, lmG_7, lmG_8, lmS_8, lmG_9, lmS_9, lmG_10, lmS_10, lmG_11, lmS_11, lmG_12, lmS_12, mo_is, moG_0, moG_1, moG_2, moG_3, moG_4, moG_5, moS_5, moG_6, moS_6, moG_7, moS_7, moG_8, moG_9, moS_9, moG_10, moS_10, moG_11, moS_11, moG_12, moS_12, moG_13, moS_13, moG_14, moG_15, moS_15, moG_16, moG_17, moS_17, moG_18, moG_19, moG_20, i32ne0, i32ne1, i32ne2, i32ne3, i32ne4, i32ne5, i32ne6, i32ne7, i32ne8, i32ne9, i32ne10, j64ne, Int32.reduceAdd, Int32.reduceSub, Int32.reduceMul, Int32.reduceLT, Int32.reduceOfNat, Int32.reduceToNatClampNeg, cU_at, Nat.reduceMul, Nat.reduceMod, catR, catI, cV_self, cU_self, hg0, hg1, hg2, hg3, hg4, hg5, hg6, hg7, hg8, hg9, hg10, hg11, hg12, hg13, hg14, hg15, hg16, hg17, hg18, hg19, hg20, hg21, hg22, hg23, hg24, hg25, hg26, hg27, hg28, hg29, hg30, hg31, hg32, hg33, hg34, hg35, hg36, hg37, hg38, hg39, hg40, hg41, hg42, hg43, hg44, hg45, hg46, hg47, hg48, hg49, hg50, hg51, hg52, hg53, hg54, hg55, hg56, hg57, hg58, hg59, hg60, hg61, hg62, hg63, hg64, hg65, hg66, hg67, hg68, hg69, hg70, hg71, hg72, hg73, hg1001, hg1002, hg1003, hg1000, hg2000, hs0, hs8, hs9, hs10, hs11, hs12, hs13, hs14, hs15, hs16, hs17, hs18, hs19, hs20, hs21, hs22, hs23, hs24, hs25, hs26, hs27, hs29, hs30, hs31, hs32, hs33, hs34, hs35, hs36, hs37, hs38, hs39, hs40, hs41, hs42, hs43, hs44, hs45, hs46, hs47, hs48, hs49, hs50, hs51, hs52, hs53, hs54, hs55, hs56, hs57, hs59, hs60, hs61, hs62, hs63, hs64, hs65, hs66, hs67, hs68, hs69, hs70, hs71, hs72, hs73, hw8, hw18, hw29, hw39, r8, r59, cn, ng, if_true]
end CR2
