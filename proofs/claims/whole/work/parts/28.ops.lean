/-! THE REST OF A CLEARING'S WRITES -/
section OPS
variable {ro : zR} {σ : zW} {o : Nat} {C : Nat → Nat → Int32}
theorem rk_cpy {d mi a b m k pc : Nat} {g f : Nat → Int32} {n sp dp : Int32} {ls : zL} (hb : σ[b]? = some (ar m g)) (ha : σ[a]? = some (ar k f)) (h : ¬ sp < 0 ∧ ¬ dp < 0 ∧ ¬ n < 0 ∧ sp.toNatClampNeg + n.toNatClampNeg ≤ k ∧ dp.toNatClampNeg + n.toNatClampNeg ≤ m) : rk ro d mi σ (zcpy σ ro [.int n, .int dp, .ref b, .int sp, .ref a] fun σ' r => aJ pc ls r σ') = rn ro d mi pc (zpr mi pc ls) [] (σ.set b (ar m (va_cpy f g sp.toNatClampNeg dp.toNatClampNeg n.toNatClampNeg))) := by
  unfold zcpy
  simp only [hb, ha]
  rw [if_pos ⟨h.1, h.2.1, h.2.2.1, h.2.2.2.1, h.2.2.2.2, Nat.zero_le 8⟩]
  rfl
theorem rk_cpyR {d mi a b m k pc : Nat} {g f : Nat → Int32} {n sp dp : Int32} {ls : zL} (hb : σ[b]? = some (ar m g)) (ha : σ[a]? = none) (hr : ro.1 a = some (0, k, f)) (h0 : 1000 ≤ a) (h : ¬ sp < 0 ∧ ¬ dp < 0 ∧ ¬ n < 0 ∧ sp.toNatClampNeg + n.toNatClampNeg ≤ k ∧ dp.toNatClampNeg + n.toNatClampNeg ≤ m) : rk ro d mi σ (zcpy σ ro [.int n, .int dp, .ref b, .int sp, .ref a] fun σ' r => aJ pc ls r σ') = rn ro d mi pc (zpr mi pc ls) [] (σ.set b (ar m (va_cpy f g sp.toNatClampNeg dp.toNatClampNeg n.toNatClampNeg))) := by
  unfold zcpy
  simp only [hb, ha, hr]
  rw [if_pos ⟨h0, h.1, h.2.1, h.2.2.1, h.2.2.2.1, h.2.2.2.2, Nat.zero_le 8⟩]
  rfl
theorem zpr_129_14 (ls : zL) : zpr 129 14 ls = ls := rfl
theorem zpr_18_29 (ls : zL) : zpr 18 29 ls = ls := rfl
theorem i32_n {n : Nat} (hn : n < 2 ^ 31) : ¬ (0 : Int32) < 0 ∧ ¬ (0 : Int32) < 0 ∧ ¬ Int32.ofNat n < 0 ∧ (0 : Int32).toNatClampNeg + (Int32.ofNat n).toNatClampNeg ≤ n ∧ (0 : Int32).toNatClampNeg + (Int32.ofNat n).toNatClampNeg ≤ n := by
  rw [Int32.toNatClampNeg_ofNat_of_lt hn]
  refine ⟨by decide, by decide, nI_pos hn, ?_, ?_⟩ <;> exact Nat.le_of_eq (Nat.zero_add n)
theorem sp_copyRow {s t n : Nat} {f g : Nat → Int32} (hs : σ[s]? = some (ar n f)) (ht : σ[t]? = some (ar n g)) (hn : n < 2 ^ 31) : rm ro 129 [.ref s, .ref t] σ = some (none, σ.set t (ar n (va_cpy f g 0 0 n))) := by
  show rn ro 1 129 0 (lv_args 0 [.ref s, .ref t]) [] σ = _
  simp only [q129_0, q129_1, q129_2, q129_3, q129_4, q129_5, q129_6, q129_7, q129_8, q129_11, q129_14, kI_app, kJ_app, kP_app, kV_app, kS_app, kC_app, kN_app, kM_app, zsw_cons, zsw_nil, lv_args_I, lv_args_R, lv_args_L, lv_args_nil, zlook_cons, zrI_some, zrJ_some, zrP_some, zrC_some, zrA_rw, zrAS_rw, zrLen_rw, zst1_nil, zst1_cI, zst1_cR, zst1_cL, zrm1_nil, zrm1_cI, zrm1_cR, zrm1_cL, zst2_nil, zst2_cI, zst2_cR, zst2_cL, zrm2_nil, zrm2_cI, zrm2_cR, zrm2_cL, zkeep_nil, zkeep_cons, zsum_nil, zsum_I, zsum_R, zsum_L, zsum_N, toL_s, toL_n, List.cons_append, List.nil_append, List.mem_cons, List.not_mem_nil, reduceCtorEq, Nat.reduceAdd, Nat.reduceLT, Nat.reduceLeDiff, Nat.reduceEqDiff, Nat.zero_ne_one, Nat.one_ne_zero, Nat.add_zero, Nat.zero_add, or_false, false_or, or_true, true_or, and_true, true_and, and_self, ↓reduceIte, Nat.succ_ne_self, Nat.reduceGT, Nat.reduceSub, Nat.le_refl, Nat.zero_le, hs, ht, ite_self, rk_cpy ht hs (i32_n hn), Int32.toNatClampNeg_ofNat_of_lt hn, zpr_129_14]
  rfl
theorem sp_copyRowR {s t n : Nat} {f g : Nat → Int32} (hs : σ[s]? = none) (hr : ro.1 s = some (0, n, f)) (h0 : 1000 ≤ s) (ht : σ[t]? = some (ar n g)) (hn : n < 2 ^ 31) : rm ro 129 [.ref s, .ref t] σ = some (none, σ.set t (ar n (va_cpy f g 0 0 n))) := by
  show rn ro 1 129 0 (lv_args 0 [.ref s, .ref t]) [] σ = _
  simp only [q129_0, q129_1, q129_2, q129_3, q129_4, q129_5, q129_6, q129_7, q129_8, q129_11, q129_14, kI_app, kJ_app, kP_app, kV_app, kS_app, kC_app, kN_app, kM_app, zsw_cons, zsw_nil, lv_args_I, lv_args_R, lv_args_L, lv_args_nil, zlook_cons, zrI_some, zrJ_some, zrP_some, zrC_some, zrA_rw, zrAS_rw, zrLen_rw, zst1_nil, zst1_cI, zst1_cR, zst1_cL, zrm1_nil, zrm1_cI, zrm1_cR, zrm1_cL, zst2_nil, zst2_cI, zst2_cR, zst2_cL, zrm2_nil, zrm2_cI, zrm2_cR, zrm2_cL, zkeep_nil, zkeep_cons, zsum_nil, zsum_I, zsum_R, zsum_L, zsum_N, toL_s, toL_n, List.cons_append, List.nil_append, List.mem_cons, List.not_mem_nil, reduceCtorEq, Nat.reduceAdd, Nat.reduceLT, Nat.reduceLeDiff, Nat.reduceEqDiff, Nat.zero_ne_one, Nat.one_ne_zero, Nat.add_zero, Nat.zero_add, or_false, false_or, or_true, true_or, and_true, true_and, and_self, ↓reduceIte, Nat.succ_ne_self, Nat.reduceGT, Nat.reduceSub, Nat.le_refl, Nat.zero_le, hs, ht, zrLen_ro hr h0, ite_self, rk_cpyR ht hs hr h0 (i32_n hn), Int32.toNatClampNeg_ofNat_of_lt hn, zpr_129_14]
  rfl
/-- what is remembered of a try, when v are kept -/
def remC (C : Nat → Nat → Int32) (v : Nat) : Nat → Nat → Int32 := cU (cU C 9 (upd (upd (upd (upd (C 9) (4 * v) (C 0 12)) (4 * v + 1) (C 0 13)) (4 * v + 2) (C 0 14)) (4 * v + 3) (C 0 15))) 0 (upd (C 0) 17 (iZ ((v + 1 : Nat) : Int)))
/-- the oldest of eight gives way -/
def shC (C : Nat → Nat → Int32) : Nat → Nat → Int32 := cU (cU C 9 (va_cpy (C 9) (C 9) 4 0 28)) 0 (upd (C 0) 17 7)
theorem z10 : ((1 : Int32) = 0) = False := by decide
theorem f01 {x : Int32} (h : x = 0 ∨ x = 1) : (if x = 0 then (0 : Int32) else 1) = x := by
  rcases h with rfl | rfl <;> rfl
theorem rem_tail (h : ClAt σ o C) {v : Nat} (hu : C 0 17 = iZ v) (h8 : v < 8) (hf : C 0 15 = 0 ∨ C 0 15 = 1) : rn ro 2 18 35 [(0, .ref o)] [] σ = some (none, clW σ o (remC C v)) := by
  have p9 : ∀ (V : Nat → Int32) (i x : Int32), rm ro 128 [.ref (o + 9), .int i, .int x] (σ.set (o + 9) (ar 32 V)) = some (none, σ.set (o + 9) (ar 32 (zup 32 V i x))) := by
    intro V i x
    rw [sp_putA (h.w9 V).a9 (by decide), List.set_set]
    rfl
  have m4 : iZ v * 4 = iZ ((4 * v : Nat) : Int) := by
    rw [show (4 : Int32) = iZ 4 from rfl, iZ_mul]
    congr 1
    omega
  have a1 : iZ ((4 * v : Nat) : Int) + 1 = iZ ((4 * v + 1 : Nat) : Int) := by
    rw [iZ_1, iZ_add]
    congr 1
  have a2 : iZ ((4 * v : Nat) : Int) + 2 = iZ ((4 * v + 2 : Nat) : Int) := by
    rw [show (2 : Int32) = iZ 2 from rfl, iZ_add]
    congr 1
  have a3 : iZ ((4 * v : Nat) : Int) + 3 = iZ ((4 * v + 3 : Nat) : Int) := by
    rw [show (3 : Int32) = iZ 3 from rfl, iZ_add]
    congr 1
  have a4 : iZ v + 1 = iZ ((v + 1 : Nat) : Int) := by
    rw [iZ_1, iZ_add]
    congr 1
  rcases hf with hf | hf
  · simp only [q18_0, q18_1, q18_4, q18_6, q18_9, q18_10, q18_13, q18_14, q18_15, q18_18, q18_19, q18_20, q18_23, q18_24, q18_25, q18_26, q18_29, q18_30, q18_32, q18_35, q18_36, q18_39, q18_40, q18_41, q18_42, q18_43, q18_46, q18_47, q18_48, q18_51, q18_54, q18_55, q18_58, q18_59, q18_60, q18_61, q18_62, q18_65, q18_68, q18_69, q18_72, q18_73, q18_74, q18_75, q18_76, q18_79, q18_82, q18_83, q18_86, q18_87, q18_88, q18_89, q18_90, q18_93, q18_96, q18_97, q18_100, q18_101, q18_104, q18_105, q18_106, q18_109, q18_110, q18_111, q18_114, zrk_128, kI_app, kJ_app, kP_app, kV_app, kS_app, kC_app, kN_app, kM_app, zsw_cons, zsw_nil, lv_args_I, lv_args_R, lv_args_L, lv_args_nil, zlook_cons, zrI_some, zrJ_some, zrP_some, zrC_some, zrA_rw, zrAS_rw, zrLen_rw, zst1_nil, zst1_cI, zst1_cR, zst1_cL, zrm1_nil, zrm1_cI, zrm1_cR, zrm1_cL, zst2_nil, zst2_cI, zst2_cR, zst2_cL, zrm2_nil, zrm2_cI, zrm2_cR, zrm2_cL, zkeep_nil, zkeep_cons, zsum_nil, zsum_I, zsum_R, zsum_L, zsum_N, toL_s, toL_n, List.cons_append, List.nil_append, List.mem_cons, List.not_mem_nil, reduceCtorEq, Nat.reduceAdd, Nat.reduceLT, Nat.reduceLeDiff, Nat.reduceEqDiff, Nat.zero_ne_one, Nat.one_ne_zero, Nat.add_zero, Nat.zero_add, or_false, false_or, or_true, true_or, and_true, true_and, and_self, ↓reduceIte, Nat.succ_ne_self, Nat.reduceGT, Nat.reduceSub, Nat.le_refl, Nat.zero_le, zis_O, cl_is, clG_0, clG_1, clG_2, clG_3, clG_4, clG_5, clG_6, clS_6, clG_7, clG_8, clG_9, clS_9, clG_10, clG_11, clS_11, clG_12, clS_12, clG_13, clS_13, clG_14, clS_14, clG_15, clS_15, clG_16, clG_17, clS_17, od_is, odG_0, odG_1, odS_1, odG_2, odG_3, odS_3, odG_4, re_is, reG_0, reS_0, reG_1, reG_2, reG_3, reS_3, reG_4, reS_4, reG_5, reS_5, reG_6, reS_6, wo_is, woG_0, woG_1, woG_2, woS_2, woG_3, lm_is, lmG_0, lmG_1, lmG_2, lmG_3, lmG_4, lmG_5, lmG_6, lmG_7, lmG_8, lmS_8, lmG_9, lmS_9, lmG_10, lmS_10, lmG_11, lmS_11, lmG_12, lmS_12, mo_is, moG_0, moG_1, moG_2, moG_3, moG_4, moG_5, moS_5, moG_6, moS_6, moG_7, moS_7, moG_8, moG_9, moS_9, moG_10, moS_10, moG_11, moS_11, moG_12, moS_12, moG_13, moS_13, moG_14, moG_15, moS_15, moG_16, moG_17, moS_17, moG_18, moG_19, moG_20, i32ne0, i32ne1, i32ne2, i32ne3, i32ne4, i32ne5, i32ne6, i32ne7, i32ne8, i32ne9, i32ne10, j64ne, Int32.reduceAdd, Int32.reduceSub, Int32.reduceMul, Int32.reduceLT, Int32.reduceOfNat, Int32.reduceToNatClampNeg, cU_at, Nat.reduceMul, Nat.reduceMod, h.a0, h.a9, hu, sp_putA h.a9 (by decide), p9, fun V => (h.w9 V).a0, hf, m4, a1, a2, a3, a4, zup_i (show 4 * v < 32 ∧ 32 < 2147483648 by omega), zup_i (show 4 * v + 1 < 32 ∧ 32 < 2147483648 by omega), zup_i (show 4 * v + 2 < 32 ∧ 32 < 2147483648 by omega), zup_i (show 4 * v + 3 < 32 ∧ 32 < 2147483648 by omega), catR, catI]
    rw [clW_w0 (h.w9 _), clW_s9, remC, hf]
  · simp only [q18_0, q18_1, q18_4, q18_6, q18_9, q18_10, q18_13, q18_14, q18_15, q18_18, q18_19, q18_20, q18_23, q18_24, q18_25, q18_26, q18_29, q18_30, q18_32, q18_35, q18_36, q18_39, q18_40, q18_41, q18_42, q18_43, q18_46, q18_47, q18_48, q18_51, q18_54, q18_55, q18_58, q18_59, q18_60, q18_61, q18_62, q18_65, q18_68, q18_69, q18_72, q18_73, q18_74, q18_75, q18_76, q18_79, q18_82, q18_83, q18_86, q18_87, q18_88, q18_89, q18_90, q18_93, q18_96, q18_97, q18_100, q18_101, q18_104, q18_105, q18_106, q18_109, q18_110, q18_111, q18_114, zrk_128, kI_app, kJ_app, kP_app, kV_app, kS_app, kC_app, kN_app, kM_app, zsw_cons, zsw_nil, lv_args_I, lv_args_R, lv_args_L, lv_args_nil, zlook_cons, zrI_some, zrJ_some, zrP_some, zrC_some, zrA_rw, zrAS_rw, zrLen_rw, zst1_nil, zst1_cI, zst1_cR, zst1_cL, zrm1_nil, zrm1_cI, zrm1_cR, zrm1_cL, zst2_nil, zst2_cI, zst2_cR, zst2_cL, zrm2_nil, zrm2_cI, zrm2_cR, zrm2_cL, zkeep_nil, zkeep_cons, zsum_nil, zsum_I, zsum_R, zsum_L, zsum_N, toL_s, toL_n, List.cons_append, List.nil_append, List.mem_cons, List.not_mem_nil, reduceCtorEq, Nat.reduceAdd, Nat.reduceLT, Nat.reduceLeDiff, Nat.reduceEqDiff, Nat.zero_ne_one, Nat.one_ne_zero, Nat.add_zero, Nat.zero_add, or_false, false_or, or_true, true_or, and_true, true_and, and_self, ↓reduceIte, Nat.succ_ne_self, Nat.reduceGT, Nat.reduceSub, Nat.le_refl, Nat.zero_le, zis_O, cl_is, clG_0, clG_1, clG_2, clG_3, clG_4, clG_5, clG_6, clS_6, clG_7, clG_8, clG_9, clS_9, clG_10, clG_11, clS_11, clG_12, clS_12, clG_13, clS_13, clG_14, clS_14, clG_15, clS_15, clG_16, clG_17, clS_17, od_is, odG_0, odG_1, odS_1, odG_2, odG_3, odS_3, odG_4, re_is, reG_0, reS_0, reG_1, reG_2, reG_3, reS_3, reG_4, reS_4, reG_5, reS_5, reG_6, reS_6, wo_is, woG_0, woG_1, woG_2, woS_2, woG_3, lm_is, lmG_0, lmG_1, lmG_2, lmG_3, lmG_4, lmG_5, lmG_6, lmG_7, lmG_8, lmS_8, lmG_9, lmS_9, lmG_10, lmS_10, lmG_11, lmS_11, lmG_12, lmS_12, mo_is, moG_0, moG_1, moG_2, moG_3, moG_4, moG_5, moS_5, moG_6, moS_6, moG_7, moS_7, moG_8, moG_9, moS_9, moG_10, moS_10, moG_11, moS_11, moG_12, moS_12, moG_13, moS_13, moG_14, moG_15, moS_15, moG_16, moG_17, moS_17, moG_18, moG_19, moG_20, i32ne0, i32ne1, i32ne2, i32ne3, i32ne4, i32ne5, i32ne6, i32ne7, i32ne8, i32ne9, i32ne10, j64ne, Int32.reduceAdd, Int32.reduceSub, Int32.reduceMul, Int32.reduceLT, Int32.reduceOfNat, Int32.reduceToNatClampNeg, cU_at, Nat.reduceMul, Nat.reduceMod, h.a0, h.a9, hu, sp_putA h.a9 (by decide), p9, fun V => (h.w9 V).a0, hf, m4, a1, a2, a3, a4, zup_i (show 4 * v < 32 ∧ 32 < 2147483648 by omega), zup_i (show 4 * v + 1 < 32 ∧ 32 < 2147483648 by omega), zup_i (show 4 * v + 2 < 32 ∧ 32 < 2147483648 by omega), zup_i (show 4 * v + 3 < 32 ∧ 32 < 2147483648 by omega), catR, catI, z10, if_false]
    rw [clW_w0 (h.w9 _), clW_s9, remC, hf]
theorem sp_remember (h : ClAt σ o C) {v : Nat} (hu : C 0 17 = iZ v) (h8 : v < 8) (hf : C 0 15 = 0 ∨ C 0 15 = 1) : rm ro 18 [.ref o] σ = some (none, clW σ o (remC C v)) := by
  show rn ro 2 18 0 (lv_args 0 [.ref o]) [] σ = _
  have e : C 0 17 < 8 := by
    rw [hu, show (8 : Int32) = iZ 8 from rfl, iZ_lt (by omega)]
    omega
  simp only [q18_0, q18_1, q18_4, q18_6, q18_9, q18_10, q18_13, q18_14, q18_15, q18_18, q18_19, q18_20, q18_23, q18_24, q18_25, q18_26, q18_29, q18_30, q18_32, q18_36, q18_39, q18_40, q18_41, q18_42, q18_43, q18_46, q18_47, q18_48, q18_51, q18_54, q18_55, q18_58, q18_59, q18_60, q18_61, q18_62, q18_65, q18_68, q18_69, q18_72, q18_73, q18_74, q18_75, q18_76, q18_79, q18_82, q18_83, q18_86, q18_87, q18_88, q18_89, q18_90, q18_93, q18_96, q18_97, q18_100, q18_101, q18_104, q18_105, q18_106, q18_109, q18_110, q18_111, q18_114, zrk_128, kI_app, kJ_app, kP_app, kV_app, kS_app, kC_app, kN_app, kM_app, zsw_cons, zsw_nil, lv_args_I, lv_args_R, lv_args_L, lv_args_nil, zlook_cons, zrI_some, zrJ_some, zrP_some, zrC_some, zrA_rw, zrAS_rw, zrLen_rw, zst1_nil, zst1_cI, zst1_cR, zst1_cL, zrm1_nil, zrm1_cI, zrm1_cR, zrm1_cL, zst2_nil, zst2_cI, zst2_cR, zst2_cL, zrm2_nil, zrm2_cI, zrm2_cR, zrm2_cL, zkeep_nil, zkeep_cons, zsum_nil, zsum_I, zsum_R, zsum_L, zsum_N, toL_s, toL_n, List.cons_append, List.nil_append, List.mem_cons, List.not_mem_nil, reduceCtorEq, Nat.reduceAdd, Nat.reduceLT, Nat.reduceLeDiff, Nat.reduceEqDiff, Nat.zero_ne_one, Nat.one_ne_zero, Nat.add_zero, Nat.zero_add, or_false, false_or, or_true, true_or, and_true, true_and, and_self, ↓reduceIte, Nat.succ_ne_self, Nat.reduceGT, Nat.reduceSub, Nat.le_refl, Nat.zero_le, zis_O, cl_is, clG_0, clG_1, clG_2, clG_3, clG_4, clG_5, clG_6, clS_6, clG_7, clG_8, clG_9, clS_9, clG_10, clG_11, clS_11, clG_12, clS_12, clG_13, clS_13, clG_14, clS_14, clG_15, clS_15, clG_16, clG_17, clS_17, od_is, odG_0, odG_1, odS_1, odG_2, odG_3, odS_3, odG_4, re_is, reG_0, reS_0, reG_1, reG_2, reG_3, reS_3, reG_4, reS_4, reG_5, reS_5, reG_6, reS_6, wo_is, woG_0, woG_1, woG_2, woS_2, woG_3, lm_is, lmG_0, lmG_1, lmG_2, lmG_3, lmG_4, lmG_5, lmG_6, lmG_7, lmG_8, lmS_8, lmG_9, lmS_9, lmG_10, lmS_10, lmG_11, lmS_11, lmG_12, lmS_12, mo_is, moG_0, moG_1, moG_2, moG_3, moG_4, moG_5, moS_5, moG_6, moS_6, moG_7, moS_7, moG_8, moG_9, moS_9, moG_10, moS_10, moG_11, moS_11, moG_12, moS_12, moG_13, moS_13, moG_14, moG_15, moS_15, moG_16, moG_17, moS_17, moG_18, moG_19, moG_20, i32ne0, i32ne1, i32ne2, i32ne3, i32ne4, i32ne5, i32ne6, i32ne7, i32ne8, i32ne9, i32ne10, j64ne, Int32.reduceAdd, Int32.reduceSub, Int32.reduceMul, Int32.reduceLT, Int32.reduceOfNat, Int32.reduceToNatClampNeg, cU_at, Nat.reduceMul, Nat.reduceMod, h.a0, e, rem_tail h hu h8 hf]
theorem sp_remember8 (h : ClAt σ o C) (hu : C 0 17 = iZ 8) (hf : C 0 15 = 0 ∨ C 0 15 = 1) : rm ro 18 [.ref o] σ = some (none, clW σ o (remC (shC C) 7)) := by
  show rn ro 2 18 0 (lv_args 0 [.ref o]) [] σ = _
  have e : ¬ C 0 17 < 8 := by
    rw [hu, show (8 : Int32) = iZ 8 from rfl, iZ_lt (by omega)]
    omega
  have r := rem_tail (ro := ro) ((h.w9 (va_cpy (C 9) (C 9) 4 0 28)).w0 (upd (C 0) 17 7)) (v := 7) rfl (by decide) hf
  rw [clW_s0, clW_s9] at r
  simp only [q18_0, q18_1, q18_4, q18_6, q18_9, q18_10, q18_13, q18_14, q18_15, q18_18, q18_19, q18_20, q18_23, q18_24, q18_25, q18_26, q18_29, q18_30, q18_32, q18_36, q18_39, q18_40, q18_41, q18_42, q18_43, q18_46, q18_47, q18_48, q18_51, q18_54, q18_55, q18_58, q18_59, q18_60, q18_61, q18_62, q18_65, q18_68, q18_69, q18_72, q18_73, q18_74, q18_75, q18_76, q18_79, q18_82, q18_83, q18_86, q18_87, q18_88, q18_89, q18_90, q18_93, q18_96, q18_97, q18_100, q18_101, q18_104, q18_105, q18_106, q18_109, q18_110, q18_111, q18_114, zrk_128, kI_app, kJ_app, kP_app, kV_app, kS_app, kC_app, kN_app, kM_app, zsw_cons, zsw_nil, lv_args_I, lv_args_R, lv_args_L, lv_args_nil, zlook_cons, zrI_some, zrJ_some, zrP_some, zrC_some, zrA_rw, zrAS_rw, zrLen_rw, zst1_nil, zst1_cI, zst1_cR, zst1_cL, zrm1_nil, zrm1_cI, zrm1_cR, zrm1_cL, zst2_nil, zst2_cI, zst2_cR, zst2_cL, zrm2_nil, zrm2_cI, zrm2_cR, zrm2_cL, zkeep_nil, zkeep_cons, zsum_nil, zsum_I, zsum_R, zsum_L, zsum_N, toL_s, toL_n, List.cons_append, List.nil_append, List.mem_cons, List.not_mem_nil, reduceCtorEq, Nat.reduceAdd, Nat.reduceLT, Nat.reduceLeDiff, Nat.reduceEqDiff, Nat.zero_ne_one, Nat.one_ne_zero, Nat.add_zero, Nat.zero_add, or_false, false_or, or_true, true_or, and_true, true_and, and_self, ↓reduceIte, Nat.succ_ne_self, Nat.reduceGT, Nat.reduceSub, Nat.le_refl, Nat.zero_le, zis_O, cl_is, clG_0, clG_1, clG_2, clG_3, clG_4, clG_5, clG_6, clS_6, clG_7, clG_8, clG_9, clS_9, clG_10, clG_11, clS_11, clG_12, clS_12, clG_13, clS_13, clG_14, clS_14, clG_15, clS_15, clG_16, clG_17, clS_17, od_is, odG_0, odG_1, odS_1, odG_2, odG_3, odS_3, odG_4, re_is, reG_0, reS_0, reG_1, reG_2, reG_3, reS_3, reG_4, reS_4, reG_5, reS_5, reG_6, reS_6, wo_is, woG_0, woG_1, woG_2, woS_2, woG_3, lm_is, lmG_0, lmG_1, lmG_2, lmG_3, lmG_4, lmG_5, lmG_6, lmG_7, lmG_8, lmS_8, lmG_9, lmS_9, lmG_10, lmS_10, lmG_11, lmS_11, lmG_12, lmS_12, mo_is, moG_0, moG_1, moG_2, moG_3, moG_4, moG_5, moS_5, moG_6, moS_6, moG_7, moS_7, moG_8, moG_9, moS_9, moG_10, moS_10, moG_11, moS_11, moG_12, moS_12, moG_13, moS_13, moG_14, moG_15, moS_15, moG_16, moG_17, moS_17, moG_18, moG_19, moG_20, i32ne0, i32ne1, i32ne2, i32ne3, i32ne4, i32ne5, i32ne6, i32ne7, i32ne8, i32ne9, i32ne10, j64ne, Int32.reduceAdd, Int32.reduceSub, Int32.reduceMul, Int32.reduceLT, Int32.reduceOfNat, Int32.reduceToNatClampNeg, cU_at, Nat.reduceMul, Nat.reduceMod, h.a0, h.a9, e, rk_cpy h.a9 h.a9 (show ¬ (4 : Int32) < 0 ∧ ¬ (0 : Int32) < 0 ∧ ¬ (28 : Int32) < 0 ∧ (4 : Int32).toNatClampNeg + (28 : Int32).toNatClampNeg ≤ 32 ∧ (0 : Int32).toNatClampNeg + (28 : Int32).toNatClampNeg ≤ 32 by decide), zpr_18_29, fun V => (h.w9 V).a0]
  exact r
def remN (C : Nat → Nat → Int32) (u : Nat) : Nat → Nat → Int32 := if u = 8 then remC (shC C) 7 else remC C u
theorem sp_rem (h : ClAt σ o C) {u : Nat} (hu : C 0 17 = iZ u) (h8 : u ≤ 8) (hf : C 0 15 = 0 ∨ C 0 15 = 1) : rm ro 18 [.ref o] σ = some (none, clW σ o (remN C u)) := by
  unfold remN
  by_cases e : u = 8
  · subst e
    rw [if_pos rfl]
    exact sp_remember8 h hu hf
  · rw [if_neg e]
    exact sp_remember h hu (by omega) hf
theorem clW_clW (X Y : Nat → Nat → Int32) : clW (clW σ o X) o Y = clW σ o Y := by
  show clW (((((((((((σ).set o (clO o (X 0))).set (o + 1) (ar 4 (X 1))).set (o + 2) (ar 6 (X 2))).set (o + 3) (ar 6 (X 3))).set (o + 4) (ar 6 (X 4))).set (o + 5) (ar 6 (X 5))).set (o + 6) (ar 7 (X 6))).set (o + 7) (ar 7 (X 7))).set (o + 8) (ar 5 (X 8))).set (o + 9) (ar 32 (X 9))) o Y = _
  rw [clW_s9, clW_s8, clW_s7, clW_s6, clW_s5, clW_s4, clW_s3, clW_s2, clW_s1, clW_s0]
theorem ClAt.cl (h : ClAt σ o C) (X : Nat → Nat → Int32) : ClAt (clW σ o X) o X := by
  have q := (((((((((h.w0 (X 0)).w1 (X 1)).w2 (X 2)).w3 (X 3)).w4 (X 4)).w5 (X 5)).w6 (X 6)).w7 (X 7)).w8 (X 8)).w9 (X 9)
  exact ⟨q.a0, q.a1, q.a2, q.a3, q.a4, q.a5, q.a6, q.a7, q.a8, q.a9⟩
theorem remN_0 (C : Nat → Nat → Int32) (u : Nat) {k : Nat} (hk : k ≠ 17) : remN C u 0 k = C 0 k := by
  unfold remN
  split
  · show (if k = 17 then _ else (if k = 17 then _ else C 0 k)) = _
    rw [if_neg hk, if_neg hk]
  · show (if k = 17 then _ else C 0 k) = _
    rw [if_neg hk]
theorem zf0 : zfit .boolean (.int 0) = true := rfl
theorem zf1 : zfit .boolean (.int 1) = true := rfl
theorem cU_cU (C : Nat → Nat → Int32) (k : Nat) (V W : Nat → Int32) : cU (cU C k V) k W = cU C k W := by
  funext j
  unfold cU
  split <;> rfl
theorem upd_at (g : Nat → Int32) (k : Nat) (x : Int32) (j : Nat) : upd g k x j = if j = k then x else g j := rfl
theorem sp_tryNext (h : ClAt σ o C) {u : Nat} (hu : C 0 17 = iZ u) (h8 : u ≤ 8) (hf : C 0 15 = 0 ∨ C 0 15 = 1) (l : Int32) {f : Int32} (hf' : f = 0 ∨ f = 1) : rm ro 16 [.ref o, .int l, .int f] σ = if f ≠ 0 ∧ l = 0 then some (some (.int (-2)), σ) else if C 0 15 ≠ 0 ∨ C 0 6 - C 0 14 < 1 then some (some (.int (-3)), σ) else some (some (.int (C 0 14)), clW σ o (cU (remN C u) 0 (upd (upd (remN C u 0) 15 f) 14 (C 0 14 + 1)))) := by
  have hR := h.cl (remN C u)
  have e14 : remN C u 0 14 = C 0 14 := remN_0 C u (by decide)
  have hv : zfit .boolean (.int f) = true := by rcases hf' with rfl | rfl <;> rfl
  show rn ro 3 16 0 (lv_args 0 [.ref o, .int l, .int f]) [] σ = _
  simp only [q16_0, q16_1, q16_4, q16_5, q16_8, q16_10, q16_11, q16_12, q16_15, q16_18, q16_19, q16_22, q16_23, q16_26, q16_28, q16_29, q16_30, q16_33, q16_34, q16_35, q16_38, q16_39, q16_40, q16_43, q16_44, q16_45, q16_46, q16_49, zrk_18, zrk_22, kI_app, kJ_app, kP_app, kV_app, kS_app, kC_app, kN_app, kM_app, zsw_cons, zsw_nil, lv_args_I, lv_args_R, lv_args_L, lv_args_nil, zlook_cons, zrI_some, zrJ_some, zrP_some, zrC_some, zrA_rw, zrAS_rw, zrLen_rw, zst1_nil, zst1_cI, zst1_cR, zst1_cL, zrm1_nil, zrm1_cI, zrm1_cR, zrm1_cL, zst2_nil, zst2_cI, zst2_cR, zst2_cL, zrm2_nil, zrm2_cI, zrm2_cR, zrm2_cL, zkeep_nil, zkeep_cons, zsum_nil, zsum_I, zsum_R, zsum_L, zsum_N, toL_s, toL_n, List.cons_append, List.nil_append, List.mem_cons, List.not_mem_nil, reduceCtorEq, Nat.reduceAdd, Nat.reduceLT, Nat.reduceLeDiff, Nat.reduceEqDiff, Nat.zero_ne_one, Nat.one_ne_zero, Nat.add_zero, Nat.zero_add, or_false, false_or, or_true, true_or, and_true, true_and, and_self, ↓reduceIte, Nat.succ_ne_self, Nat.reduceGT, Nat.reduceSub, Nat.le_refl, Nat.zero_le, zis_O, cl_is, clG_0, clG_1, clG_2, clG_3, clG_4, clG_5, clG_6, clS_6, clG_7, clG_8, clG_9, clS_9, clG_10, clG_11, clS_11, clG_12, clS_12, clG_13, clS_13, clG_14, clS_14, clG_15, clS_15, clG_16, clG_17, clS_17, od_is, odG_0, odG_1, odS_1, odG_2, odG_3, odS_3, odG_4, re_is, reG_0, reS_0, reG_1, reG_2, reG_3, reS_3, reG_4, reS_4, reG_5, reS_5, reG_6, reS_6, wo_is, woG_0, woG_1, woG_2, woS_2, woG_3, lm_is, lmG_0, lmG_1, lmG_2, lmG_3, lmG_4, lmG_5, lmG_6, lmG_7, lmG_8, lmS_8, lmG_9, lmS_9, lmG_10, lmS_10, lmG_11, lmS_11, lmG_12, lmS_12, mo_is, moG_0, moG_1, moG_2, moG_3, moG_4, moG_5, moS_5, moG_6, moS_6, moG_7, moS_7, moG_8, moG_9, moS_9, moG_10, moS_10, moG_11, moS_11, moG_12, moS_12, moG_13, moS_13, moG_14, moG_15, moS_15, moG_16, moG_17, moS_17, moG_18, moG_19, moG_20, i32ne0, i32ne1, i32ne2, i32ne3, i32ne4, i32ne5, i32ne6, i32ne7, i32ne8, i32ne9, i32ne10, j64ne, Int32.reduceAdd, Int32.reduceSub, Int32.reduceMul, Int32.reduceLT, Int32.reduceOfNat, Int32.reduceToNatClampNeg, cU_at, Nat.reduceMul, Nat.reduceMod, h.a0, sp_left h, sp_rem h hu h8 hf, fun ls st x σ => q16_35 ro ls st f x hv σ, fun X => (h.cl X).a0, fun X V => clW_w0 (h.cl X) V, cU_cU, zf0, catR, catI, List.set_set, upd_at, e14, clW_clW]
  by_cases e1 : f = 0
  · simp only [e1, if_true, ne_eq, not_true_eq_false, false_and, if_false]
    by_cases e2 : C 0 15 = 0
    · simp only [e2, if_true, not_true_eq_false, false_or]
    · simp only [e2, if_false, not_false_eq_true, true_or, if_true]
  · simp only [e1, if_false, ne_eq, not_false_eq_true, true_and]
    by_cases e3 : l = 0
    · simp only [e3, if_true]
    · simp only [e3, if_false]
      by_cases e2 : C 0 15 = 0
      · simp only [e2, if_true, not_true_eq_false, false_or]
      · simp only [e2, if_false, not_false_eq_true, true_or, if_true]
theorem sp_getReady (h : ClAt σ o C) {u : Nat} (hu : C 0 17 = iZ u) (h8 : u ≤ 8) (hf : C 0 15 = 0 ∨ C 0 15 = 1) : rm ro 17 [.ref o] σ = if C 0 15 ≠ 0 ∨ C 1 3 - C 0 13 < 1 then some (some (.int (-3)), σ) else some (some (.int (if C 0 12 + 1 < 5 then C 0 12 + 1 else 5)), clW σ o (cU (remN C u) 0 (upd (upd (remN C u 0) 12 (if C 0 12 + 1 < 5 then C 0 12 + 1 else 5)) 13 (C 0 13 + 1)))) := by
  have hR := h.cl (remN C u)
  have e12 : remN C u 0 12 = C 0 12 := remN_0 C u (by decide)
  have e13 : remN C u 0 13 = C 0 13 := remN_0 C u (by decide)
  show rn ro 3 17 0 (lv_args 0 [.ref o]) [] σ = _
  simp only [q17_0, q17_1, q17_4, q17_7, q17_8, q17_11, q17_12, q17_15, q17_17, q17_18, q17_19, q17_22, q17_23, q17_24, q17_25, q17_28, q17_29, q17_30, q17_33, q17_36, q17_37, q17_38, q17_41, q17_42, q17_43, q17_46, q17_47, q17_50, zrk_18, zrk_23, kI_app, kJ_app, kP_app, kV_app, kS_app, kC_app, kN_app, kM_app, zsw_cons, zsw_nil, lv_args_I, lv_args_R, lv_args_L, lv_args_nil, zlook_cons, zrI_some, zrJ_some, zrP_some, zrC_some, zrA_rw, zrAS_rw, zrLen_rw, zst1_nil, zst1_cI, zst1_cR, zst1_cL, zrm1_nil, zrm1_cI, zrm1_cR, zrm1_cL, zst2_nil, zst2_cI, zst2_cR, zst2_cL, zrm2_nil, zrm2_cI, zrm2_cR, zrm2_cL, zkeep_nil, zkeep_cons, zsum_nil, zsum_I, zsum_R, zsum_L, zsum_N, toL_s, toL_n, List.cons_append, List.nil_append, List.mem_cons, List.not_mem_nil, reduceCtorEq, Nat.reduceAdd, Nat.reduceLT, Nat.reduceLeDiff, Nat.reduceEqDiff, Nat.zero_ne_one, Nat.one_ne_zero, Nat.add_zero, Nat.zero_add, or_false, false_or, or_true, true_or, and_true, true_and, and_self, ↓reduceIte, Nat.succ_ne_self, Nat.reduceGT, Nat.reduceSub, Nat.le_refl, Nat.zero_le, zis_O, cl_is, clG_0, clG_1, clG_2, clG_3, clG_4, clG_5, clG_6, clS_6, clG_7, clG_8, clG_9, clS_9, clG_10, clG_11, clS_11, clG_12, clS_12, clG_13, clS_13, clG_14, clS_14, clG_15, clS_15, clG_16, clG_17, clS_17, od_is, odG_0, odG_1, odS_1, odG_2, odG_3, odS_3, odG_4, re_is, reG_0, reS_0, reG_1, reG_2, reG_3, reS_3, reG_4, reS_4, reG_5, reS_5, reG_6, reS_6, wo_is, woG_0, woG_1, woG_2, woS_2, woG_3, lm_is, lmG_0, lmG_1, lmG_2, lmG_3, lmG_4, lmG_5, lmG_6, lmG_7, lmG_8, lmS_8, lmG_9, lmS_9, lmG_10, lmS_10, lmG_11, lmS_11, lmG_12, lmS_12, mo_is, moG_0, moG_1, moG_2, moG_3, moG_4, moG_5, moS_5, moG_6, moS_6, moG_7, moS_7, moG_8, moG_9, moS_9, moG_10, moS_10, moG_11, moS_11, moG_12, moS_12, moG_13, moS_13, moG_14, moG_15, moS_15, moG_16, moG_17, moS_17, moG_18, moG_19, moG_20, i32ne0, i32ne1, i32ne2, i32ne3, i32ne4, i32ne5, i32ne6, i32ne7, i32ne8, i32ne9, i32ne10, j64ne, Int32.reduceAdd, Int32.reduceSub, Int32.reduceMul, Int32.reduceLT, Int32.reduceOfNat, Int32.reduceToNatClampNeg, cU_at, Nat.reduceMul, Nat.reduceMod, h.a0, sp_minutesLeft h, sp_rem h hu h8 hf, fun X => (h.cl X).a0, fun X V => clW_w0 (h.cl X) V, cU_cU, catR, catI, List.set_set, upd_at, e12, e13, clW_clW]
  by_cases e2 : C 0 15 = 0
  · simp only [e2, if_true, ne_eq, not_true_eq_false, false_or]
  · simp only [e2, if_false, ne_eq, not_false_eq_true, true_or, if_true]
theorem sp_stepBack (h : ClAt σ o C) {u : Nat} (hu : C 0 17 = iZ u) (h8 : u ≤ 8) : rm ro 19 [.ref o] σ = if u = 0 then some (some (.int (-3)), σ) else some (some (.int 1), clW σ o (cU C 0 (upd (upd (upd (upd (upd (C 0) 17 (iZ ((u - 1 : Nat) : Int))) 12 (C 9 (4 * (u - 1)))) 13 (C 9 (4 * (u - 1) + 1))) 14 (C 9 (4 * (u - 1) + 2))) 15 (if C 9 (4 * (u - 1) + 3) = 1 then 1 else 0)))) := by
  show rn ro 2 19 0 (lv_args 0 [.ref o]) [] σ = _
  have hv0 := fun ls st x σ => q19_88 ro ls st 0 x zf0 σ
  have hv1 := fun ls st x σ => q19_88 ro ls st 1 x zf1 σ
  by_cases e : u = 0
  · subst e
    have e1 : C 0 17 < 1 := by
      rw [hu, iZ_1, iZ_lt (by omega)]
      omega
    simp only [q19_0, q19_1, q19_4, q19_5, q19_8, q19_10, q19_11, q19_12, q19_13, q19_16, q19_17, q19_18, q19_21, q19_22, q19_25, q19_26, q19_27, q19_28, q19_29, q19_30, q19_33, q19_34, q19_37, q19_40, q19_41, q19_42, q19_45, q19_46, q19_47, q19_48, q19_51, q19_54, q19_55, q19_56, q19_59, q19_60, q19_61, q19_62, q19_65, q19_68, q19_69, q19_70, q19_73, q19_74, q19_75, q19_76, q19_79, q19_80, q19_83, q19_84, q19_87, q19_88, q19_91, q19_92, zrk_127, kI_app, kJ_app, kP_app, kV_app, kS_app, kC_app, kN_app, kM_app, zsw_cons, zsw_nil, lv_args_I, lv_args_R, lv_args_L, lv_args_nil, zlook_cons, zrI_some, zrJ_some, zrP_some, zrC_some, zrA_rw, zrAS_rw, zrLen_rw, zst1_nil, zst1_cI, zst1_cR, zst1_cL, zrm1_nil, zrm1_cI, zrm1_cR, zrm1_cL, zst2_nil, zst2_cI, zst2_cR, zst2_cL, zrm2_nil, zrm2_cI, zrm2_cR, zrm2_cL, zkeep_nil, zkeep_cons, zsum_nil, zsum_I, zsum_R, zsum_L, zsum_N, toL_s, toL_n, List.cons_append, List.nil_append, List.mem_cons, List.not_mem_nil, reduceCtorEq, Nat.reduceAdd, Nat.reduceLT, Nat.reduceLeDiff, Nat.reduceEqDiff, Nat.zero_ne_one, Nat.one_ne_zero, Nat.add_zero, Nat.zero_add, or_false, false_or, or_true, true_or, and_true, true_and, and_self, ↓reduceIte, Nat.succ_ne_self, Nat.reduceGT, Nat.reduceSub, Nat.le_refl, Nat.zero_le, zis_O, cl_is, clG_0, clG_1, clG_2, clG_3, clG_4, clG_5, clG_6, clS_6, clG_7, clG_8, clG_9, clS_9, clG_10, clG_11, clS_11, clG_12, clS_12, clG_13, clS_13, clG_14, clS_14, clG_15, clS_15, clG_16, clG_17, clS_17, od_is, odG_0, odG_1, odS_1, odG_2, odG_3, odS_3, odG_4, re_is, reG_0, reS_0, reG_1, reG_2, reG_3, reS_3, reG_4, reS_4, reG_5, reS_5, reG_6, reS_6, wo_is, woG_0, woG_1, woG_2, woS_2, woG_3, lm_is, lmG_0, lmG_1, lmG_2, lmG_3, lmG_4, lmG_5, lmG_6, lmG_7, lmG_8, lmS_8, lmG_9, lmS_9, lmG_10, lmS_10, lmG_11, lmS_11, lmG_12, lmS_12, mo_is, moG_0, moG_1, moG_2, moG_3, moG_4, moG_5, moS_5, moG_6, moS_6, moG_7, moS_7, moG_8, moG_9, moS_9, moG_10, moS_10, moG_11, moS_11, moG_12, moS_12, moG_13, moS_13, moG_14, moG_15, moS_15, moG_16, moG_17, moS_17, moG_18, moG_19, moG_20, i32ne0, i32ne1, i32ne2, i32ne3, i32ne4, i32ne5, i32ne6, i32ne7, i32ne8, i32ne9, i32ne10, j64ne, Int32.reduceAdd, Int32.reduceSub, Int32.reduceMul, Int32.reduceLT, Int32.reduceOfNat, Int32.reduceToNatClampNeg, cU_at, Nat.reduceMul, Nat.reduceMod, h.a0, e1, hv0]
  · obtain ⟨v, rfl⟩ : ∃ v, u = v + 1 := ⟨u - 1, by omega⟩
    have e1 : ¬ C 0 17 < 1 := by
      rw [hu, iZ_1, iZ_lt (by omega)]
      omega
    have e2 : C 0 17 - 1 = iZ v := by
      rw [hu, iZ_1, iZ_sub]
      congr 1
      omega
    have m4 : iZ v * 4 = iZ ((4 * v : Nat) : Int) := by
      rw [show (4 : Int32) = iZ 4 from rfl, iZ_mul]
      congr 1
      omega
    have a1 : iZ ((4 * v : Nat) : Int) + 1 = iZ ((4 * v + 1 : Nat) : Int) := by
      rw [iZ_1, iZ_add]
      congr 1
    have a2 : iZ ((4 * v : Nat) : Int) + 2 = iZ ((4 * v + 2 : Nat) : Int) := by
      rw [show (2 : Int32) = iZ 2 from rfl, iZ_add]
      congr 1
    have a3 : iZ ((4 * v : Nat) : Int) + 3 = iZ ((4 * v + 3 : Nat) : Int) := by
      rw [show (3 : Int32) = iZ 3 from rfl, iZ_add]
      congr 1
    simp only [q19_0, q19_1, q19_4, q19_5, q19_8, q19_10, q19_11, q19_12, q19_13, q19_16, q19_17, q19_18, q19_21, q19_22, q19_25, q19_26, q19_27, q19_28, q19_29, q19_30, q19_33, q19_34, q19_37, q19_40, q19_41, q19_42, q19_45, q19_46, q19_47, q19_48, q19_51, q19_54, q19_55, q19_56, q19_59, q19_60, q19_61, q19_62, q19_65, q19_68, q19_69, q19_70, q19_73, q19_74, q19_75, q19_76, q19_79, q19_80, q19_83, q19_84, q19_87, q19_88, q19_91, q19_92, zrk_127, kI_app, kJ_app, kP_app, kV_app, kS_app, kC_app, kN_app, kM_app, zsw_cons, zsw_nil, lv_args_I, lv_args_R, lv_args_L, lv_args_nil, zlook_cons, zrI_some, zrJ_some, zrP_some, zrC_some, zrA_rw, zrAS_rw, zrLen_rw, zst1_nil, zst1_cI, zst1_cR, zst1_cL, zrm1_nil, zrm1_cI, zrm1_cR, zrm1_cL, zst2_nil, zst2_cI, zst2_cR, zst2_cL, zrm2_nil, zrm2_cI, zrm2_cR, zrm2_cL, zkeep_nil, zkeep_cons, zsum_nil, zsum_I, zsum_R, zsum_L, zsum_N, toL_s, toL_n, List.cons_append, List.nil_append, List.mem_cons, List.not_mem_nil, reduceCtorEq, Nat.reduceAdd, Nat.reduceLT, Nat.reduceLeDiff, Nat.reduceEqDiff, Nat.zero_ne_one, Nat.one_ne_zero, Nat.add_zero, Nat.zero_add, or_false, false_or, or_true, true_or, and_true, true_and, and_self, ↓reduceIte, Nat.succ_ne_self, Nat.reduceGT, Nat.reduceSub, Nat.le_refl, Nat.zero_le, zis_O, cl_is, clG_0, clG_1, clG_2, clG_3, clG_4, clG_5, clG_6, clS_6, clG_7, clG_8, clG_9, clS_9, clG_10, clG_11, clS_11, clG_12, clS_12, clG_13, clS_13, clG_14, clS_14, clG_15, clS_15, clG_16, clG_17, clS_17, od_is, odG_0, odG_1, odS_1, odG_2, odG_3, odS_3, odG_4, re_is, reG_0, reS_0, reG_1, reG_2, reG_3, reS_3, reG_4, reS_4, reG_5, reS_5, reG_6, reS_6, wo_is, woG_0, woG_1, woG_2, woS_2, woG_3, lm_is, lmG_0, lmG_1, lmG_2, lmG_3, lmG_4, lmG_5, lmG_6, lmG_7, lmG_8, lmS_8, lmG_9, lmS_9, lmG_10, lmS_10, lmG_11, lmS_11, lmG_12, lmS_12, mo_is, moG_0, moG_1, moG_2, moG_3, moG_4, moG_5, moS_5, moG_6, moS_6, moG_7, moS_7, moG_8, moG_9, moS_9, moG_10, moS_10, moG_11, moS_11, moG_12, moS_12, moG_13, moS_13, moG_14, moG_15, moS_15, moG_16, moG_17, moS_17, moG_18, moG_19, moG_20, i32ne0, i32ne1, i32ne2, i32ne3, i32ne4, i32ne5, i32ne6, i32ne7, i32ne8, i32ne9, i32ne10, j64ne, Int32.reduceAdd, Int32.reduceSub, Int32.reduceMul, Int32.reduceLT, Int32.reduceOfNat, Int32.reduceToNatClampNeg, cU_at, Nat.reduceMul, Nat.reduceMod, h.a0, e1, e2, m4, a1, a2, a3, hv0, hv1, fun X => (h.cl X).a0, fun X V => clW_w0 (h.cl X) V, cU_cU, clW_clW, fun V => sp_at ro (h.cl V).a9 (show 32 < 2 ^ 31 by decide), zat_i (show 4 * v < 32 ∧ 32 < 2147483648 by omega), zat_i (show 4 * v + 1 < 32 ∧ 32 < 2147483648 by omega), zat_i (show 4 * v + 2 < 32 ∧ 32 < 2147483648 by omega), zat_i (show 4 * v + 3 < 32 ∧ 32 < 2147483648 by omega), catR, catI, List.set_set, upd_at, clW_w0 h, Nat.add_sub_cancel, e]
    split <;> rfl
theorem iZ_toInt_eq (w : Int32) (k : Nat) (hk : k < 2147483648) : (w.toInt = (k : Int)) = (w = iZ k) := propext ⟨fun e => by rw [← e]; exact (Int32.ofInt_toInt w).symm, fun e => by rw [e, iZ_T (by omega)]⟩
/-- what is counted, by its number -/
def amt (V : Nat → Int32) (w : Nat) : Int32 := if w = 0 then V 6 else if w = 1 then V 14 else if w = 2 then V 12 else if w = 3 then V 13 else if w = 4 then V 9 else if w = 5 then V 11 else if w = 6 then V 17 else if w = 8 then V 15 else 0
theorem sp_amount (h : ClAt σ o C) (hf : C 0 15 = 0 ∨ C 0 15 = 1) {w : Nat} (hw : w ≤ 8) : rm ro 30 [.ref o, .int (iZ w)] σ = some (some (.int (amt (C 0) w)), σ) := by
  show rn ro 1 30 0 (lv_args 0 [.ref o, .int (iZ w)]) [] σ = _
  simp only [q30_0, q30_52, q30_53, q30_56, q30_57, q30_58, q30_61, q30_62, q30_63, q30_66, q30_67, q30_68, q30_71, q30_72, q30_73, q30_76, q30_77, q30_78, q30_81, q30_82, q30_83, q30_86, q30_87, q30_88, q30_91, q30_94, q30_95, q30_98, q30_99, q30_100, q30_101, q30_1, kI_app, kJ_app, kP_app, kV_app, kS_app, kC_app, kN_app, kM_app, zsw_cons, zsw_nil, lv_args_I, lv_args_R, lv_args_L, lv_args_nil, zlook_cons, zrI_some, zrJ_some, zrP_some, zrC_some, zrA_rw, zrAS_rw, zrLen_rw, zst1_nil, zst1_cI, zst1_cR, zst1_cL, zrm1_nil, zrm1_cI, zrm1_cR, zrm1_cL, zst2_nil, zst2_cI, zst2_cR, zst2_cL, zrm2_nil, zrm2_cI, zrm2_cR, zrm2_cL, zkeep_nil, zkeep_cons, zsum_nil, zsum_I, zsum_R, zsum_L, zsum_N, toL_s, toL_n, List.cons_append, List.nil_append, List.mem_cons, List.not_mem_nil, reduceCtorEq, Nat.reduceAdd, Nat.reduceLT, Nat.reduceLeDiff, Nat.reduceEqDiff, Nat.zero_ne_one, Nat.one_ne_zero, Nat.add_zero, Nat.zero_add, or_false, false_or, or_true, true_or, and_true, true_and, and_self, ↓reduceIte, Nat.succ_ne_self, Nat.reduceGT, Nat.reduceSub, Nat.le_refl, Nat.zero_le, zis_O, cl_is, clG_0, clG_1, clG_2, clG_3, clG_4, clG_5, clG_6, clS_6, clG_7, clG_8, clG_9, clS_9, clG_10, clG_11, clS_11, clG_12, clS_12, clG_13, clS_13, clG_14, clS_14, clG_15, clS_15, clG_16, clG_17, clS_17, od_is, odG_0, odG_1, odS_1, odG_2, odG_3, odS_3, odG_4, re_is, reG_0, reS_0, reG_1, reG_2, reG_3, reS_3, reG_4, reS_4, reG_5, reS_5, reG_6, reS_6, wo_is, woG_0, woG_1, woG_2, woS_2, woG_3, lm_is, lmG_0, lmG_1, lmG_2, lmG_3, lmG_4, lmG_5, lmG_6, lmG_7, lmG_8, lmS_8, lmG_9, lmS_9, lmG_10, lmS_10, lmG_11, lmS_11, lmG_12, lmS_12, mo_is, moG_0, moG_1, moG_2, moG_3, moG_4, moG_5, moS_5, moG_6, moS_6, moG_7, moS_7, moG_8, moG_9, moS_9, moG_10, moS_10, moG_11, moS_11, moG_12, moS_12, moG_13, moS_13, moG_14, moG_15, moS_15, moG_16, moG_17, moS_17, moG_18, moG_19, moG_20, h.a0, iZ_T (show -2147483648 ≤ (w : Int) ∧ (w : Int) < 2147483648 by omega)]
  rcases (show w = 0 ∨ w = 1 ∨ w = 2 ∨ w = 3 ∨ w = 4 ∨ w = 5 ∨ w = 6 ∨ w = 7 ∨ w = 8 by omega) with rfl | rfl | rfl | rfl | rfl | rfl | rfl | rfl | rfl <;> try rfl
  rcases hf with e | e
  · simp only [amt, e]
    rfl
  · simp only [amt, e]
    rfl
/-- a row told on into a digest -/
def dg (h : Int64) (g : Nat → Int32) : Nat → Int64
  | 0 => h
  | k + 1 => 31 * dg h g k + (g k).toInt64
theorem sp_digestRow {N n : Nat} {r : Nat} {g : Nat → Int32} (hr : σ[r]? = some (ar N g)) (hn : n ≤ N) (hN : N < 2147483648) (H : Int64) : rm ro 32 [.long H, .ref r, .int (iZ n)] σ = some (some (.long (dg H g n)), σ) := by
  have lp : ∀ k i : Nat, k + i = n → rn ro 2 32 6 [(2, .ref r), (3, .int (iZ n)), (4, .long (dg H g i)), (6, .int (iZ i))] [] σ = some (some (.long (dg H g n)), σ) := by
    intro k
    induction k with
    | zero =>
      intro i hi
      have e : i = n := by omega
      subst e
      rw [q32_6]
      simp only [q32_0, q32_1, q32_3, q32_4, q32_8, q32_9, q32_12, q32_15, q32_17, q32_18, q32_19, q32_21, q32_24, q32_25, q32_26, q32_28, q32_31, q32_34, q32_36, zrk_127, kI_app, kJ_app, kP_app, kV_app, kS_app, kC_app, kN_app, kM_app, zsw_cons, zsw_nil, lv_args_I, lv_args_R, lv_args_L, lv_args_nil, zlook_cons, zrI_some, zrJ_some, zrP_some, zrC_some, zrA_rw, zrAS_rw, zrLen_rw, zst1_nil, zst1_cI, zst1_cR, zst1_cL, zrm1_nil, zrm1_cI, zrm1_cR, zrm1_cL, zst2_nil, zst2_cI, zst2_cR, zst2_cL, zrm2_nil, zrm2_cI, zrm2_cR, zrm2_cL, zkeep_nil, zkeep_cons, zsum_nil, zsum_I, zsum_R, zsum_L, zsum_N, toL_s, toL_n, List.cons_append, List.nil_append, List.mem_cons, List.not_mem_nil, reduceCtorEq, Nat.reduceAdd, Nat.reduceLT, Nat.reduceLeDiff, Nat.reduceEqDiff, Nat.zero_ne_one, Nat.one_ne_zero, Nat.add_zero, Nat.zero_add, or_false, false_or, or_true, true_or, and_true, true_and, and_self, ↓reduceIte, Nat.succ_ne_self, Nat.reduceGT, Nat.reduceSub, Nat.le_refl, Nat.zero_le, Int32.lt_irrefl]
    | succ k ih =>
      intro i hi
      have e : iZ i < iZ n := by
        rw [iZ_lt (by omega)]
        omega
      have e1 : iZ i + 1 = iZ ((i + 1 : Nat) : Int) := by
        rw [iZ_1, iZ_add]
        congr 1
      rw [q32_6]
      simp only [q32_0, q32_1, q32_3, q32_4, q32_8, q32_9, q32_12, q32_15, q32_17, q32_18, q32_19, q32_21, q32_24, q32_25, q32_26, q32_28, q32_31, q32_34, q32_36, zrk_127, kI_app, kJ_app, kP_app, kV_app, kS_app, kC_app, kN_app, kM_app, zsw_cons, zsw_nil, lv_args_I, lv_args_R, lv_args_L, lv_args_nil, zlook_cons, zrI_some, zrJ_some, zrP_some, zrC_some, zrA_rw, zrAS_rw, zrLen_rw, zst1_nil, zst1_cI, zst1_cR, zst1_cL, zrm1_nil, zrm1_cI, zrm1_cR, zrm1_cL, zst2_nil, zst2_cI, zst2_cR, zst2_cL, zrm2_nil, zrm2_cI, zrm2_cR, zrm2_cL, zkeep_nil, zkeep_cons, zsum_nil, zsum_I, zsum_R, zsum_L, zsum_N, toL_s, toL_n, List.cons_append, List.nil_append, List.mem_cons, List.not_mem_nil, reduceCtorEq, Nat.reduceAdd, Nat.reduceLT, Nat.reduceLeDiff, Nat.reduceEqDiff, Nat.zero_ne_one, Nat.one_ne_zero, Nat.add_zero, Nat.zero_add, or_false, false_or, or_true, true_or, and_true, true_and, and_self, ↓reduceIte, Nat.succ_ne_self, Nat.reduceGT, Nat.reduceSub, Nat.le_refl, Nat.zero_le, e, e1, sp_at ro hr (by omega), zat_i (show i < N ∧ N < 2147483648 by omega)]
      exact ih (i + 1) (by omega)
  show rn ro 2 32 0 (lv_args 0 [.long H, .ref r, .int (iZ n)]) [] σ = _
  simp only [q32_0, q32_1, q32_3, q32_4, q32_8, q32_9, q32_12, q32_15, q32_17, q32_18, q32_19, q32_21, q32_24, q32_25, q32_26, q32_28, q32_31, q32_34, q32_36, zrk_127, kI_app, kJ_app, kP_app, kV_app, kS_app, kC_app, kN_app, kM_app, zsw_cons, zsw_nil, lv_args_I, lv_args_R, lv_args_L, lv_args_nil, zlook_cons, zrI_some, zrJ_some, zrP_some, zrC_some, zrA_rw, zrAS_rw, zrLen_rw, zst1_nil, zst1_cI, zst1_cR, zst1_cL, zrm1_nil, zrm1_cI, zrm1_cR, zrm1_cL, zst2_nil, zst2_cI, zst2_cR, zst2_cL, zrm2_nil, zrm2_cI, zrm2_cR, zrm2_cL, zkeep_nil, zkeep_cons, zsum_nil, zsum_I, zsum_R, zsum_L, zsum_N, toL_s, toL_n, List.cons_append, List.nil_append, List.mem_cons, List.not_mem_nil, reduceCtorEq, Nat.reduceAdd, Nat.reduceLT, Nat.reduceLeDiff, Nat.reduceEqDiff, Nat.zero_ne_one, Nat.one_ne_zero, Nat.add_zero, Nat.zero_add, or_false, false_or, or_true, true_or, and_true, true_and, and_self, ↓reduceIte, Nat.succ_ne_self, Nat.reduceGT, Nat.reduceSub, Nat.le_refl, Nat.zero_le, zis_O, cl_is, clG_0, clG_1, clG_2, clG_3, clG_4, clG_5, clG_6, clS_6, clG_7, clG_8, clG_9, clS_9, clG_10, clG_11, clS_11, clG_12, clS_12, clG_13, clS_13, clG_14, clS_14, clG_15, clS_15, clG_16, clG_17, clS_17, od_is, odG_0, odG_1, odS_1, odG_2, odG_3, odS_3, odG_4, re_is, reG_0, reS_0, reG_1, reG_2, reG_3, reS_3, reG_4, reS_4, reG_5, reS_5, reG_6, reS_6, wo_is, woG_0, woG_1, woG_2, woS_2, woG_3, lm_is, lmG_0, lmG_1, lmG_2, lmG_3, lmG_4, lmG_5, lmG_6, lmG_7, lmG_8, lmS_8, lmG_9, lmS_9, lmG_10, lmS_10, lmG_11, lmS_11, lmG_12, lmS_12, mo_is, moG_0, moG_1, moG_2, moG_3, moG_4, moG_5, moS_5, moG_6, moS_6, moG_7, moS_7, moG_8, moG_9, moS_9, moG_10, moS_10, moG_11, moS_11, moG_12, moS_12, moG_13, moS_13, moG_14, moG_15, moS_15, moG_16, moG_17, moS_17, moG_18, moG_19, moG_20]
  exact lp n 0 (by omega)
end OPS
