/-! HOW LIKELY THERE IS A FIRE: numbers; all matches struck, in the class and in the model -/
def pN (a : Nat → Nat) (m t r : Nat) : Nat := lgN a m t (a 8 - a 9) * a (12 + r)
def pf (a : Nat → Nat) (t r : Nat) : Nat → Nat → Nat
  | _, 0 => 1
  | f, k + 1 => (100 - pN a f t r) * pf a t r (f + 1) k
def sA (a : Nat → Nat) (t r : Nat) : Nat → Nat → Nat
  | _, 0 => 0
  | f, k + 1 => pN a f t r * 100 ^ k + (100 - pN a f t r) * sA a t r (f + 1) k
def sc (k : Nat) : Nat := 100000000000000 / 100 ^ k
theorem sc_s : ∀ k, k < 7 → sc k = 100 * sc (k + 1) := by decide +kernel
theorem sc_m : ∀ k, k < 8 → sc k * 100 ^ k = 100000000000000 := by decide +kernel
theorem sc_p : ∀ k, k < 8 → 0 < sc k := by decide +kernel
section ODN
variable {a : Nat → Nat}
theorem pN_le (g : Good a) {m t r : Nat} (hm : m < a 0) (hr : r ≤ 5) : pN a m t r ≤ 100 := by
  have h1 := lgN_le g (t := t) (w := a 8 - a 9) hm
  have h2 := g.c (i := r) (by omega)
  exact Nat.mul_le_mul h1 h2
theorem pq_add (p X S : Nat) (hp : p ≤ 100) : p * X + (100 - p) * S + (100 - p) * (X - S) = 100 * X ∨ X < S := by
  rcases Nat.lt_or_ge X S with h | h
  · exact Or.inr h
  · refine Or.inl ?_
    rw [Nat.add_assoc, ← Nat.mul_add, Nat.add_sub_of_le h, ← Nat.add_mul, Nat.add_sub_of_le hp]
theorem sA_pf (g : Good a) {t r : Nat} (hr : r ≤ 5) : ∀ k f : Nat, f + k ≤ a 0 → sA a t r f k + pf a t r f k = 100 ^ k
  | 0, _, _ => rfl
  | k + 1, f, h => by
    have i := sA_pf g (t := t) hr k (f + 1) (by omega)
    have p := pN_le g (m := f) (t := t) (by omega) hr
    show pN a f t r * 100 ^ k + (100 - pN a f t r) * sA a t r (f + 1) k + (100 - pN a f t r) * pf a t r (f + 1) k = 100 ^ (k + 1)
    rw [Nat.add_assoc, ← Nat.mul_add, i, ← Nat.add_mul, Nat.add_sub_of_le p, Nat.pow_succ, Nat.mul_comm]
theorem pf_le (g : Good a) {t r : Nat} (hr : r ≤ 5) {k f : Nat} (h : f + k ≤ a 0) : pf a t r f k ≤ 100 ^ k := by
  have := sA_pf g (t := t) hr k f h
  omega
theorem sA_le (g : Good a) {t r : Nat} (hr : r ≤ 5) {k f : Nat} (h : f + k ≤ a 0) : sA a t r f k ≤ 100 ^ k := by
  have := sA_pf g (t := t) hr k f h
  omega
theorem pf_back (t r : Nat) : ∀ k f : Nat, pf a t r f (k + 1) = pf a t r f k * (100 - pN a (f + k) t r)
  | 0, f => by
    show (100 - pN a f t r) * 1 = 1 * (100 - pN a f t r)
    rw [Nat.mul_comm]
  | k + 1, f => by
    show (100 - pN a f t r) * pf a t r (f + 1) (k + 1) = (100 - pN a f t r) * pf a t r (f + 1) k * (100 - pN a (f + (k + 1)) t r)
    rw [pf_back t r k (f + 1), Nat.mul_assoc, show f + 1 + k = f + (k + 1) by omega]
theorem p100_le {k : Nat} (h : k ≤ 6) : 100 ^ k ≤ 1000000000000 := Nat.pow_le_pow_right (n := 100) (by decide) h
theorem scpf_le (g : Good a) {t r : Nat} (hr : r ≤ 5) {k f : Nat} (h : f + k ≤ a 0) : sc k * pf a t r f k ≤ 100000000000000 := by
  have n0 := g.n0
  rw [← sc_m k (by omega)]
  exact Nat.mul_le_mul_left _ (pf_le g hr h)
theorem scsA (g : Good a) {t r : Nat} (hr : r ≤ 5) {k f : Nat} (h : f + k ≤ a 0) : 100000000000000 - sc k * pf a t r f k = sc k * sA a t r f k := by
  have n0 := g.n0
  rw [← sc_m k (by omega), ← sA_pf g (t := t) hr k f h, Nat.mul_add, Nat.add_sub_cancel]
end ODN
section ODM
variable {ro : zR} {a : Nat → Nat}
theorem f39 {σ : zW} {o : Nat} {C : Nat → Nat → Int32} (h : ClAt σ o C) (kd : KdAt σ) (R : Rel C a) (g : Good a) {f t r : Nat} (hr : r ≤ 5) (ht : t ≤ 100) : ∀ j k : Nat, f + k + j = a 0 → rn ro 5 39 15 [(0, .ref o), (2, .int (iZ t)), (4, .int (iZ (a (12 + r)))), (5, .long (jZ ((sc k * pf a t r f k : Nat) : Int))), (7, .int (iZ ((f + k : Nat) : Int)))] [] σ = some (some (.long (jZ ((sc (k + j) * pf a t r f (k + j) : Nat) : Int))), σ) := by
  have n0 := g.n0
  intro j
  induction j with
  | zero =>
    intro k hk
    have e : ¬ iZ ((f + k : Nat) : Int) < iZ (a 0) := by
      rw [iZ_lt (by omega)]
      omega
    rw [q39_15]
    simp only [q39_0, q39_1, q39_2, q39_5, q39_7, q39_10, q39_12, q39_13, q39_17, q39_18, q39_21, q39_24, q39_26, q39_29, q39_30, q39_32, q39_33, q39_35, q39_36, q39_37, q39_40, q39_43, q39_45, q39_46, q39_47, q39_48, q39_49, q39_51, q39_54, q39_57, q39_59, zrk_24, zrk_25, zrk_27, kI_app, kJ_app, kP_app, kV_app, kS_app, kC_app, kN_app, kM_app, zsw_cons, zsw_nil, lv_args_I, lv_args_R, lv_args_L, lv_args_nil, zlook_cons, zrI_some, zrJ_some, zrP_some, zrC_some, zrA_rw, zrAS_rw, zrLen_rw, zst1_nil, zst1_cI, zst1_cR, zst1_cL, zrm1_nil, zrm1_cI, zrm1_cR, zrm1_cL, zst2_nil, zst2_cI, zst2_cR, zst2_cL, zrm2_nil, zrm2_cI, zrm2_cR, zrm2_cL, zkeep_nil, zkeep_cons, zsum_nil, zsum_I, zsum_R, zsum_L, zsum_N, toL_s, toL_n, List.cons_append, List.nil_append, List.mem_cons, List.not_mem_nil, reduceCtorEq, Nat.reduceAdd, Nat.reduceLT, Nat.reduceLeDiff, Nat.reduceEqDiff, Nat.zero_ne_one, Nat.one_ne_zero, Nat.add_zero, Nat.zero_add, or_false, false_or, or_true, true_or, and_true, true_and, and_self, ↓reduceIte, Nat.succ_ne_self, Nat.reduceGT, Nat.reduceSub, Nat.le_refl, Nat.zero_le, zis_O, cl_is, clG_0, clG_1, clG_2, clG_3, clG_4, clG_5, clG_6, clS_6, clG_7, clG_8, clG_9, clS_9, clG_10, clG_11, clS_11, clG_12, clS_12, clG_13, clS_13, clG_14, clS_14, clG_15, clS_15, clG_16, clG_17, clS_17, od_is, odG_0, odG_1, odS_1, odG_2, odG_3, odS_3, odG_4, re_is, reG_0, reS_0, reG_1, reG_2, reG_3, reS_3, reG_4, reS_4, reG_5, reS_5, reG_6, reS_6, wo_is, woG_0, woG_1, woG_2, woS_2, woG_3, lm_is, lmG_0, lmG_1, lmG_2, lmG_3, lmG_4, lmG_5, lmG_6, lmG_7, lmG_8, lmS_8, lmG_9, lmS_9, lmG_10, lmS_10, lmG_11, lmS_11, lmG_12, lmS_12, mo_is, moG_0, moG_1, moG_2, moG_3, moG_4, moG_5, moS_5, moG_6, moS_6, moG_7, moS_7, moG_8, moG_9, moS_9, moG_10, moS_10, moG_11, moS_11, moG_12, moS_12, moG_13, moS_13, moG_14, moG_15, moS_15, moG_16, moG_17, moS_17, moG_18, moG_19, moG_20, i32ne0, i32ne1, i32ne2, i32ne3, i32ne4, i32ne5, i32ne6, i32ne7, i32ne8, i32ne9, i32ne10, j64ne, Int32.reduceAdd, Int32.reduceSub, Int32.reduceMul, Int32.reduceLT, Int32.reduceOfNat, Int32.reduceToNatClampNeg, cU_at, Nat.reduceMul, Nat.reduceMod, h.a0, R.c0, e, if_false]
  | succ j ih =>
    intro k hk
    have e : iZ ((f + k : Nat) : Int) < iZ (a 0) := by
      rw [iZ_lt (by omega)]
      omega
    have c8 := g.n8
    have l := clL (ro := ro) h kd R g (m := f + k) (t := t) (w := a 8) (by omega) ht (by omega)
    rw [← show C 1 0 = iZ (a 8) from R.g (i := 0) (by decide)] at l
    have b := scpf_le g (t := t) hr (k := k) (f := f) (by omega)
    have d : jZ ((sc k * pf a t r f k : Nat) : Int) / 100 = jZ ((sc (k + 1) * pf a t r f k : Nat) : Int) := by
      rw [show (100 : Int64) = jZ ((100 : Nat) : Int) from rfl, jZ_divN (by omega) (by decide), sc_s k (by omega), Nat.mul_assoc, Nat.mul_div_cancel_left _ (by decide)]
    have p := pN_le g (m := f + k) (t := t) (by omega) hr
    have ep : 100 - iZ (lgN a (f + k) t (a 8 - a 9)) * iZ (a (12 + r)) = iZ ((100 - pN a (f + k) t r : Nat) : Int) := by
      rw [iZ_mul, ← Int.natCast_mul, show (100 : Int32) = iZ 100 from rfl, iZ_sub]
      congr 1
      unfold pN at p ⊢
      omega
    have el : (iZ ((100 - pN a (f + k) t r : Nat) : Int)).toInt64 = jZ ((100 - pN a (f + k) t r : Nat) : Int) := iZ_l (by omega)
    have em : jZ ((sc (k + 1) * pf a t r f k : Nat) : Int) * jZ ((100 - pN a (f + k) t r : Nat) : Int) = jZ ((sc (k + 1) * pf a t r f (k + 1) : Nat) : Int) := by
      rw [jZ_mul, ← Int.natCast_mul, pf_back, Nat.mul_assoc]
    have i := ih (k + 1) (by omega)
    rw [show k + 1 + j = k + (j + 1) by omega] at i
    rw [← i, q39_15]
    simp only [q39_0, q39_1, q39_2, q39_5, q39_7, q39_10, q39_12, q39_13, q39_17, q39_18, q39_21, q39_24, q39_26, q39_29, q39_30, q39_32, q39_33, q39_35, q39_36, q39_37, q39_40, q39_43, q39_45, q39_46, q39_47, q39_48, q39_49, q39_51, q39_54, q39_57, q39_59, zrk_24, zrk_25, zrk_27, kI_app, kJ_app, kP_app, kV_app, kS_app, kC_app, kN_app, kM_app, zsw_cons, zsw_nil, lv_args_I, lv_args_R, lv_args_L, lv_args_nil, zlook_cons, zrI_some, zrJ_some, zrP_some, zrC_some, zrA_rw, zrAS_rw, zrLen_rw, zst1_nil, zst1_cI, zst1_cR, zst1_cL, zrm1_nil, zrm1_cI, zrm1_cR, zrm1_cL, zst2_nil, zst2_cI, zst2_cR, zst2_cL, zrm2_nil, zrm2_cI, zrm2_cR, zrm2_cL, zkeep_nil, zkeep_cons, zsum_nil, zsum_I, zsum_R, zsum_L, zsum_N, toL_s, toL_n, List.cons_append, List.nil_append, List.mem_cons, List.not_mem_nil, reduceCtorEq, Nat.reduceAdd, Nat.reduceLT, Nat.reduceLeDiff, Nat.reduceEqDiff, Nat.zero_ne_one, Nat.one_ne_zero, Nat.add_zero, Nat.zero_add, or_false, false_or, or_true, true_or, and_true, true_and, and_self, ↓reduceIte, Nat.succ_ne_self, Nat.reduceGT, Nat.reduceSub, Nat.le_refl, Nat.zero_le, zis_O, cl_is, clG_0, clG_1, clG_2, clG_3, clG_4, clG_5, clG_6, clS_6, clG_7, clG_8, clG_9, clS_9, clG_10, clG_11, clS_11, clG_12, clS_12, clG_13, clS_13, clG_14, clS_14, clG_15, clS_15, clG_16, clG_17, clS_17, od_is, odG_0, odG_1, odS_1, odG_2, odG_3, odS_3, odG_4, re_is, reG_0, reS_0, reG_1, reG_2, reG_3, reS_3, reG_4, reS_4, reG_5, reS_5, reG_6, reS_6, wo_is, woG_0, woG_1, woG_2, woS_2, woG_3, lm_is, lmG_0, lmG_1, lmG_2, lmG_3, lmG_4, lmG_5, lmG_6, lmG_7, lmG_8, lmS_8, lmG_9, lmS_9, lmG_10, lmS_10, lmG_11, lmS_11, lmG_12, lmS_12, mo_is, moG_0, moG_1, moG_2, moG_3, moG_4, moG_5, moS_5, moG_6, moS_6, moG_7, moS_7, moG_8, moG_9, moS_9, moG_10, moS_10, moG_11, moS_11, moG_12, moS_12, moG_13, moS_13, moG_14, moG_15, moS_15, moG_16, moG_17, moS_17, moG_18, moG_19, moG_20, i32ne0, i32ne1, i32ne2, i32ne3, i32ne4, i32ne5, i32ne6, i32ne7, i32ne8, i32ne9, i32ne10, j64ne, Int32.reduceAdd, Int32.reduceSub, Int32.reduceMul, Int32.reduceLT, Int32.reduceOfNat, Int32.reduceToNatClampNeg, cU_at, Nat.reduceMul, Nat.reduceMod, h.a0, R.c0, e, if_true, sp_wind h, l, d, ep, el, em, iZ_suc]
    rfl
theorem sp_allFail {σ : zW} {o : Nat} {C : Nat → Nat → Int32} (h : ClAt σ o C) (kd : KdAt σ) (R : Rel C a) (g : Good a) {f t r : Nat} (hr : r ≤ 5) (ht : t ≤ 100) {k : Nat} (hf : f + k = a 0) : rm ro 39 [.ref o, .int (iZ f), .int (iZ t), .int (iZ r)] σ = some (some (.long (jZ ((sc k * pf a t r f k : Nat) : Int))), σ) := by
  have e := f39 (ro := ro) h kd R g (f := f) hr ht k 0 (by omega)
  rw [show 0 + k = k by omega, show f + 0 = f by omega] at e
  have z := zat_i (g := C 2) (show r < 6 ∧ 6 < 2147483648 by omega)
  rw [R.c (show r < 6 by omega)] at z
  show rn ro 5 39 0 (lv_args 0 [.ref o, .int (iZ f), .int (iZ t), .int (iZ r)]) [] σ = _
  simp only [q39_0, q39_1, q39_2, q39_5, q39_7, q39_10, q39_12, q39_13, q39_17, q39_18, q39_21, q39_24, q39_26, q39_29, q39_30, q39_32, q39_33, q39_35, q39_36, q39_37, q39_40, q39_43, q39_45, q39_46, q39_47, q39_48, q39_49, q39_51, q39_54, q39_57, q39_59, zrk_24, zrk_25, zrk_27, kI_app, kJ_app, kP_app, kV_app, kS_app, kC_app, kN_app, kM_app, zsw_cons, zsw_nil, lv_args_I, lv_args_R, lv_args_L, lv_args_nil, zlook_cons, zrI_some, zrJ_some, zrP_some, zrC_some, zrA_rw, zrAS_rw, zrLen_rw, zst1_nil, zst1_cI, zst1_cR, zst1_cL, zrm1_nil, zrm1_cI, zrm1_cR, zrm1_cL, zst2_nil, zst2_cI, zst2_cR, zst2_cL, zrm2_nil, zrm2_cI, zrm2_cR, zrm2_cL, zkeep_nil, zkeep_cons, zsum_nil, zsum_I, zsum_R, zsum_L, zsum_N, toL_s, toL_n, List.cons_append, List.nil_append, List.mem_cons, List.not_mem_nil, reduceCtorEq, Nat.reduceAdd, Nat.reduceLT, Nat.reduceLeDiff, Nat.reduceEqDiff, Nat.zero_ne_one, Nat.one_ne_zero, Nat.add_zero, Nat.zero_add, or_false, false_or, or_true, true_or, and_true, true_and, and_self, ↓reduceIte, Nat.succ_ne_self, Nat.reduceGT, Nat.reduceSub, Nat.le_refl, Nat.zero_le, zis_O, cl_is, clG_0, clG_1, clG_2, clG_3, clG_4, clG_5, clG_6, clS_6, clG_7, clG_8, clG_9, clS_9, clG_10, clG_11, clS_11, clG_12, clS_12, clG_13, clS_13, clG_14, clS_14, clG_15, clS_15, clG_16, clG_17, clS_17, od_is, odG_0, odG_1, odS_1, odG_2, odG_3, odS_3, odG_4, re_is, reG_0, reS_0, reG_1, reG_2, reG_3, reS_3, reG_4, reS_4, reG_5, reS_5, reG_6, reS_6, wo_is, woG_0, woG_1, woG_2, woS_2, woG_3, lm_is, lmG_0, lmG_1, lmG_2, lmG_3, lmG_4, lmG_5, lmG_6, lmG_7, lmG_8, lmS_8, lmG_9, lmS_9, lmG_10, lmS_10, lmG_11, lmS_11, lmG_12, lmS_12, mo_is, moG_0, moG_1, moG_2, moG_3, moG_4, moG_5, moS_5, moG_6, moS_6, moG_7, moS_7, moG_8, moG_9, moS_9, moG_10, moS_10, moG_11, moS_11, moG_12, moS_12, moG_13, moS_13, moG_14, moG_15, moS_15, moG_16, moG_17, moS_17, moG_18, moG_19, moG_20, i32ne0, i32ne1, i32ne2, i32ne3, i32ne4, i32ne5, i32ne6, i32ne7, i32ne8, i32ne9, i32ne10, j64ne, Int32.reduceAdd, Int32.reduceSub, Int32.reduceMul, Int32.reduceLT, Int32.reduceOfNat, Int32.reduceToNatClampNeg, cU_at, Nat.reduceMul, Nat.reduceMod, h.a0, sp_carryAt h, z]
  exact e
theorem sp_power {σ : zW} (b n : Nat) (hn : n < 2147483648) : rm ro 167 [.long (jZ b), .int (iZ n)] σ = some (some (.long (jZ ((b ^ n : Nat) : Int))), σ) := by
  have lp : ∀ k i : Nat, k + i = n → rn ro 1 167 5 [(0, .long (jZ b)), (2, .int (iZ n)), (3, .long (jZ ((b ^ i : Nat) : Int))), (5, .int (iZ i))] [] σ = some (some (.long (jZ ((b ^ n : Nat) : Int))), σ) := by
    intro k
    induction k with
    | zero =>
      intro i hi
      have e : i = n := by omega
      subst e
      rw [q167_5]
      simp only [q167_0, q167_1, q167_2, q167_3, q167_7, q167_8, q167_11, q167_12, q167_13, q167_14, q167_15, q167_18, q167_21, q167_22, kI_app, kJ_app, kP_app, kV_app, kS_app, kC_app, kN_app, kM_app, zsw_cons, zsw_nil, lv_args_I, lv_args_R, lv_args_L, lv_args_nil, zlook_cons, zrI_some, zrJ_some, zrP_some, zrC_some, zrA_rw, zrAS_rw, zrLen_rw, zst1_nil, zst1_cI, zst1_cR, zst1_cL, zrm1_nil, zrm1_cI, zrm1_cR, zrm1_cL, zst2_nil, zst2_cI, zst2_cR, zst2_cL, zrm2_nil, zrm2_cI, zrm2_cR, zrm2_cL, zkeep_nil, zkeep_cons, zsum_nil, zsum_I, zsum_R, zsum_L, zsum_N, toL_s, toL_n, List.cons_append, List.nil_append, List.mem_cons, List.not_mem_nil, reduceCtorEq, Nat.reduceAdd, Nat.reduceLT, Nat.reduceLeDiff, Nat.reduceEqDiff, Nat.zero_ne_one, Nat.one_ne_zero, Nat.add_zero, Nat.zero_add, or_false, false_or, or_true, true_or, and_true, true_and, and_self, ↓reduceIte, Nat.succ_ne_self, Nat.reduceGT, Nat.reduceSub, Nat.le_refl, Nat.zero_le, Int32.lt_irrefl]
    | succ k ih =>
      intro i hi
      have e : iZ i < iZ n := by
        rw [iZ_lt (by omega)]
        omega
      have em : jZ ((b ^ i : Nat) : Int) * jZ b = jZ ((b ^ (i + 1) : Nat) : Int) := by rw [jZ_mul, ← Int.natCast_mul, Nat.pow_succ]
      rw [← ih (i + 1) (by omega), q167_5]
      simp only [q167_0, q167_1, q167_2, q167_3, q167_7, q167_8, q167_11, q167_12, q167_13, q167_14, q167_15, q167_18, q167_21, q167_22, kI_app, kJ_app, kP_app, kV_app, kS_app, kC_app, kN_app, kM_app, zsw_cons, zsw_nil, lv_args_I, lv_args_R, lv_args_L, lv_args_nil, zlook_cons, zrI_some, zrJ_some, zrP_some, zrC_some, zrA_rw, zrAS_rw, zrLen_rw, zst1_nil, zst1_cI, zst1_cR, zst1_cL, zrm1_nil, zrm1_cI, zrm1_cR, zrm1_cL, zst2_nil, zst2_cI, zst2_cR, zst2_cL, zrm2_nil, zrm2_cI, zrm2_cR, zrm2_cL, zkeep_nil, zkeep_cons, zsum_nil, zsum_I, zsum_R, zsum_L, zsum_N, toL_s, toL_n, List.cons_append, List.nil_append, List.mem_cons, List.not_mem_nil, reduceCtorEq, Nat.reduceAdd, Nat.reduceLT, Nat.reduceLeDiff, Nat.reduceEqDiff, Nat.zero_ne_one, Nat.one_ne_zero, Nat.add_zero, Nat.zero_add, or_false, false_or, or_true, true_or, and_true, true_and, and_self, ↓reduceIte, Nat.succ_ne_self, Nat.reduceGT, Nat.reduceSub, Nat.le_refl, Nat.zero_le, e, em, iZ_suc]
  show rn ro 1 167 0 (lv_args 0 [.long (jZ b), .int (iZ n)]) [] σ = _
  simp only [q167_0, q167_1, q167_2, q167_3, q167_7, q167_8, q167_11, q167_12, q167_13, q167_14, q167_15, q167_18, q167_21, q167_22, kI_app, kJ_app, kP_app, kV_app, kS_app, kC_app, kN_app, kM_app, zsw_cons, zsw_nil, lv_args_I, lv_args_R, lv_args_L, lv_args_nil, zlook_cons, zrI_some, zrJ_some, zrP_some, zrC_some, zrA_rw, zrAS_rw, zrLen_rw, zst1_nil, zst1_cI, zst1_cR, zst1_cL, zrm1_nil, zrm1_cI, zrm1_cR, zrm1_cL, zst2_nil, zst2_cI, zst2_cR, zst2_cL, zrm2_nil, zrm2_cI, zrm2_cR, zrm2_cL, zkeep_nil, zkeep_cons, zsum_nil, zsum_I, zsum_R, zsum_L, zsum_N, toL_s, toL_n, List.cons_append, List.nil_append, List.mem_cons, List.not_mem_nil, reduceCtorEq, Nat.reduceAdd, Nat.reduceLT, Nat.reduceLeDiff, Nat.reduceEqDiff, Nat.zero_ne_one, Nat.one_ne_zero, Nat.add_zero, Nat.zero_add, or_false, false_or, or_true, true_or, and_true, true_and, and_self, ↓reduceIte, Nat.succ_ne_self, Nat.reduceGT, Nat.reduceSub, Nat.le_refl, Nat.zero_le]
  exact lp n 0 (by omega)
theorem f169 {A : Nat → Nat → Int32} {L : Nat → Nat → Int64} (h : ∀ j, j < 87 → A 63 j = iZ (a j)) (g : Good a) {f t r : Nat} (hr : r ≤ 5) (ht : t ≤ 100) : ∀ j k : Nat, f + j + k = a 0 → rn ro 4 169 13 [(0, .ref 62), (1, .int (iZ f)), (2, .int (iZ r)), (3, .int (iZ t)), (4, .long (jZ ((sA a t r (f + j) k : Nat) : Int))), (6, .int (iZ (((f + j : Nat) : Int) - 1)))] [] (hp A L) = some (some (.long (jZ ((sA a t r f (j + k) : Nat) : Int))), hp A L) := by
  have n0 := g.n0
  intro j
  induction j with
  | zero =>
    intro k hk
    have e : iZ ((f : Int) - 1) < iZ f := by
      rw [iZ_lt (by omega)]
      omega
    rw [q169_13]
    simp only [q169_0, q169_1, q169_3, q169_4, q169_7, q169_8, q169_9, q169_10, q169_11, q169_15, q169_16, q169_19, q169_20, q169_22, q169_23, q169_26, q169_27, q169_30, q169_32, q169_33, q169_34, q169_35, q169_36, q169_37, q169_39, q169_41, q169_44, q169_45, q169_48, q169_49, q169_50, q169_51, q169_52, q169_54, q169_55, q169_58, q169_59, q169_62, q169_64, q169_65, q169_67, q169_68, q169_69, q169_71, q169_74, q169_77, q169_79, zrk_158, zrk_167, kI_app, kJ_app, kP_app, kV_app, kS_app, kC_app, kN_app, kM_app, zsw_cons, zsw_nil, lv_args_I, lv_args_R, lv_args_L, lv_args_nil, zlook_cons, zrI_some, zrJ_some, zrP_some, zrC_some, zrA_rw, zrAS_rw, zrLen_rw, zst1_nil, zst1_cI, zst1_cR, zst1_cL, zrm1_nil, zrm1_cI, zrm1_cR, zrm1_cL, zst2_nil, zst2_cI, zst2_cR, zst2_cL, zrm2_nil, zrm2_cI, zrm2_cR, zrm2_cL, zkeep_nil, zkeep_cons, zsum_nil, zsum_I, zsum_R, zsum_L, zsum_N, toL_s, toL_n, List.cons_append, List.nil_append, List.mem_cons, List.not_mem_nil, reduceCtorEq, Nat.reduceAdd, Nat.reduceLT, Nat.reduceLeDiff, Nat.reduceEqDiff, Nat.zero_ne_one, Nat.one_ne_zero, Nat.add_zero, Nat.zero_add, or_false, false_or, or_true, true_or, and_true, true_and, and_self, ↓reduceIte, Nat.succ_ne_self, Nat.reduceGT, Nat.reduceSub, Nat.le_refl, Nat.zero_le, zis_O, cl_is, clG_0, clG_1, clG_2, clG_3, clG_4, clG_5, clG_6, clS_6, clG_7, clG_8, clG_9, clS_9, clG_10, clG_11, clS_11, clG_12, clS_12, clG_13, clS_13, clG_14, clS_14, clG_15, clS_15, clG_16, clG_17, clS_17, od_is, odG_0, odG_1, odS_1, odG_2, odG_3, odS_3, odG_4, re_is, reG_0, reS_0, reG_1, reG_2, reG_3, reS_3, reG_4, reS_4, reG_5, reS_5, reG_6, reS_6, wo_is, woG_0, woG_1, woG_2, woS_2, woG_3, lm_is, lmG_0, lmG_1, lmG_2, lmG_3, lmG_4, lmG_5, lmG_6, lmG_7, lmG_8, lmS_8, lmG_9, lmS_9, lmG_10, lmS_10, lmG_11, lmS_11, lmG_12, lmS_12, mo_is, moG_0, moG_1, moG_2, moG_3, moG_4, moG_5, moS_5, moG_6, moS_6, moG_7, moS_7, moG_8, moG_9, moS_9, moG_10, moS_10, moG_11, moS_11, moG_12, moS_12, moG_13, moS_13, moG_14, moG_15, moS_15, moG_16, moG_17, moS_17, moG_18, moG_19, moG_20, i32ne0, i32ne1, i32ne2, i32ne3, i32ne4, i32ne5, i32ne6, i32ne7, i32ne8, i32ne9, i32ne10, j64ne, Int32.reduceAdd, Int32.reduceSub, Int32.reduceMul, Int32.reduceLT, Int32.reduceOfNat, Int32.reduceToNatClampNeg, cU_at, Nat.reduceMul, Nat.reduceMod, catR, catI, cV_self, cU_self, hg0, hg1, hg2, hg3, hg4, hg5, hg6, hg7, hg8, hg9, hg10, hg11, hg12, hg13, hg14, hg15, hg16, hg17, hg18, hg19, hg20, hg21, hg22, hg23, hg24, hg25, hg26, hg27, hg28, hg29, hg30, hg31, hg32, hg33, hg34, hg35, hg36, hg37, hg38, hg39, hg40, hg41, hg42, hg43, hg44, hg45, hg46, hg47, hg48, hg49, hg50, hg51, hg52, hg53, hg54, hg55, hg56, hg57, hg58, hg59, hg60, hg61, hg62, hg63, hg64, hg65, hg66, hg67, hg68, hg69, hg70, hg71, hg72, hg73, hg1001, hg1002, hg1003, hg1000, hg2000, hs0, hs8, hs9, hs10, hs11, hs12, hs13, hs14, hs15, hs16, hs17, hs18, hs19, hs20, hs21, hs22, hs23, hs24, hs25, hs26, hs27, hs29, hs30, hs31, hs32, hs33, hs34, hs35, hs36, hs37, hs38, hs39, hs40, hs41, hs42, hs43, hs44, hs45, hs46, hs47, hs48, hs49, hs50, hs51, hs52, hs53, hs54, hs55, hs56, hs57, hs59, hs60, hs61, hs62, hs63, hs64, hs65, hs66, hs67, hs68, hs69, hs70, hs71, hs72, hs73, hw8, hw18, hw29, hw39, e, if_true, Nat.zero_add]
  | succ j ih =>
    intro k hk
    have e : ¬ iZ ((f + j : Nat) : Int) < iZ f := by
      rw [iZ_lt (by omega)]
      omega
    have l := sp_lights (ro := ro) (L := L) h g (m := f + j) (t := t) (by omega) ht
    have p := pN_le g (m := f + j) (t := t) (by omega) hr
    have h0 := h 0 (by decide)
    have hc := h (12 + r) (by omega)
    have e12 : 12 + iZ r = iZ ((12 + r : Nat) : Int) := iZ_ap 12 12 r rfl
    have ep : iZ (lgN a (f + j) t (a 8 - a 9)) * iZ (a (12 + r)) = iZ ((pN a (f + j) t r : Nat) : Int) := by
      rw [iZ_mul, ← Int.natCast_mul]
      rfl
    have el : (iZ ((pN a (f + j) t r : Nat) : Int)).toInt64 = jZ ((pN a (f + j) t r : Nat) : Int) := iZ_l (by omega)
    have ek : iZ (a 0) - 1 - iZ ((f + j : Nat) : Int) = iZ k := by
      rw [iZ_1, iZ_sub, iZ_sub]
      congr 1
      omega
    have pw := sp_power (ro := ro) (σ := hp A L) 100 k (by omega)
    rw [show jZ ((100 : Nat) : Int) = 100 from rfl] at pw
    have ev : jZ ((pN a (f + j) t r : Nat) : Int) * jZ ((100 ^ k : Nat) : Int) + (100 - jZ ((pN a (f + j) t r : Nat) : Int)) * jZ ((sA a t r (f + (j + 1)) k : Nat) : Int) = jZ ((sA a t r (f + j) (k + 1) : Nat) : Int) := by
      rw [show (100 : Int64) = jZ 100 from rfl, jZ_sub, jZ_mul, jZ_mul, jZ_add]
      congr 1
      show _ = ((pN a (f + j) t r * 100 ^ k + (100 - pN a (f + j) t r) * sA a t r (f + j + 1) k : Nat) : Int)
      rw [Int.natCast_add, Int.natCast_mul, Int.natCast_mul, Int.natCast_sub p]
      rfl
    have ei : iZ ((f + j : Nat) : Int) + -1 = iZ (((f + j : Nat) : Int) - 1) := by
      rw [iZ_m1, iZ_add]
      rfl
    have i := ih (k + 1) (by omega)
    rw [show j + (k + 1) = j + 1 + k by omega] at i
    rw [← i, q169_13, show (((f + (j + 1) : Nat) : Int) - 1) = ((f + j : Nat) : Int) by omega]
    simp only [q169_0, q169_1, q169_3, q169_4, q169_7, q169_8, q169_9, q169_10, q169_11, q169_15, q169_16, q169_19, q169_20, q169_22, q169_23, q169_26, q169_27, q169_30, q169_32, q169_33, q169_34, q169_35, q169_36, q169_37, q169_39, q169_41, q169_44, q169_45, q169_48, q169_49, q169_50, q169_51, q169_52, q169_54, q169_55, q169_58, q169_59, q169_62, q169_64, q169_65, q169_67, q169_68, q169_69, q169_71, q169_74, q169_77, q169_79, zrk_158, zrk_167, kI_app, kJ_app, kP_app, kV_app, kS_app, kC_app, kN_app, kM_app, zsw_cons, zsw_nil, lv_args_I, lv_args_R, lv_args_L, lv_args_nil, zlook_cons, zrI_some, zrJ_some, zrP_some, zrC_some, zrA_rw, zrAS_rw, zrLen_rw, zst1_nil, zst1_cI, zst1_cR, zst1_cL, zrm1_nil, zrm1_cI, zrm1_cR, zrm1_cL, zst2_nil, zst2_cI, zst2_cR, zst2_cL, zrm2_nil, zrm2_cI, zrm2_cR, zrm2_cL, zkeep_nil, zkeep_cons, zsum_nil, zsum_I, zsum_R, zsum_L, zsum_N, toL_s, toL_n, List.cons_append, List.nil_append, List.mem_cons, List.not_mem_nil, reduceCtorEq, Nat.reduceAdd, Nat.reduceLT, Nat.reduceLeDiff, Nat.reduceEqDiff, Nat.zero_ne_one, Nat.one_ne_zero, Nat.add_zero, Nat.zero_add, or_false, false_or, or_true, true_or, and_true, true_and, and_self, ↓reduceIte, Nat.succ_ne_self, Nat.reduceGT, Nat.reduceSub, Nat.le_refl, Nat.zero_le, zis_O, cl_is, clG_0, clG_1, clG_2, clG_3, clG_4, clG_5, clG_6, clS_6, clG_7, clG_8, clG_9, clS_9, clG_10, clG_11, clS_11, clG_12, clS_12, clG_13, clS_13, clG_14, clS_14, clG_15, clS_15, clG_16, clG_17, clS_17, od_is, odG_0, odG_1, odS_1, odG_2, odG_3, odS_3, odG_4, re_is, reG_0, reS_0, reG_1, reG_2, reG_3, reS_3, reG_4, reS_4, reG_5, reS_5, reG_6, reS_6, wo_is, woG_0, woG_1, woG_2, woS_2, woG_3, lm_is, lmG_0, lmG_1, lmG_2, lmG_3, lmG_4, lmG_5, lmG_6, lmG_7, lmG_8, lmS_8, lmG_9, lmS_9, lmG_10, lmS_10, lmG_11, lmS_11, lmG_12, lmS_12, mo_is, moG_0, moG_1, moG_2, moG_3, moG_4, moG_5, moS_5, moG_6, moS_6, moG_7, moS_7, moG_8, moG_9, moS_9, moG_10, moS_10, moG_11, moS_11, moG_12, moS_12, moG_13, moS_13, moG_14, moG_15, moS_15, moG_16, moG_17, moS_17, moG_18, moG_19, moG_20, i32ne0, i32ne1, i32ne2, i32ne3, i32ne4, i32ne5, i32ne6, i32ne7, i32ne8, i32ne9, i32ne10, j64ne, Int32.reduceAdd, Int32.reduceSub, Int32.reduceMul, Int32.reduceLT, Int32.reduceOfNat, Int32.reduceToNatClampNeg, cU_at, Nat.reduceMul, Nat.reduceMod, catR, catI, cV_self, cU_self, hg0, hg1, hg2, hg3, hg4, hg5, hg6, hg7, hg8, hg9, hg10, hg11, hg12, hg13, hg14, hg15, hg16, hg17, hg18, hg19, hg20, hg21, hg22, hg23, hg24, hg25, hg26, hg27, hg28, hg29, hg30, hg31, hg32, hg33, hg34, hg35, hg36, hg37, hg38, hg39, hg40, hg41, hg42, hg43, hg44, hg45, hg46, hg47, hg48, hg49, hg50, hg51, hg52, hg53, hg54, hg55, hg56, hg57, hg58, hg59, hg60, hg61, hg62, hg63, hg64, hg65, hg66, hg67, hg68, hg69, hg70, hg71, hg72, hg73, hg1001, hg1002, hg1003, hg1000, hg2000, hs0, hs8, hs9, hs10, hs11, hs12, hs13, hs14, hs15, hs16, hs17, hs18, hs19, hs20, hs21, hs22, hs23, hs24, hs25, hs26, hs27, hs29, hs30, hs31, hs32, hs33, hs34, hs35, hs36, hs37, hs38, hs39, hs40, hs41, hs42, hs43, hs44, hs45, hs46, hs47, hs48, hs49, hs50, hs51, hs52, hs53, hs54, hs55, hs56, hs57, hs59, hs60, hs61, hs62, hs63, hs64, hs65, hs66, hs67, hs68, hs69, hs70, hs71, hs72, hs73, hw8, hw18, hw29, hw39, e, if_false, l, h0, e12, ixo (show 12 + r < 87 ∧ 87 < 2147483648 by omega), iZ_ix (show 12 + r < 2147483648 by omega), hc, ep, el, ek, pw, ev, ei]
theorem sp_strikesAll {A : Nat → Nat → Int32} {L : Nat → Nat → Int64} (h : ∀ j, j < 87 → A 63 j = iZ (a j)) (g : Good a) {f t r : Nat} (hr : r ≤ 5) (ht : t ≤ 100) {k : Nat} (hf : f + k = a 0) : rm ro 169 [.ref 62, .int (iZ f), .int (iZ r), .int (iZ t)] (hp A L) = some (some (.long (jZ ((sA a t r f k : Nat) : Int))), hp A L) := by
  have e := f169 (ro := ro) (L := L) h g (f := f) hr ht k 0 (by omega)
  rw [show k + 0 = k by omega, show f + k = a 0 from hf] at e
  have h0 := h 0 (by decide)
  have e1 : iZ (a 0) - 1 = iZ ((a 0 : Int) - 1) := by rw [iZ_1, iZ_sub]
  show rn ro 4 169 0 (lv_args 0 [.ref 62, .int (iZ f), .int (iZ r), .int (iZ t)]) [] (hp A L) = _
  simp only [q169_0, q169_1, q169_3, q169_4, q169_7, q169_8, q169_9, q169_10, q169_11, q169_15, q169_16, q169_19, q169_20, q169_22, q169_23, q169_26, q169_27, q169_30, q169_32, q169_33, q169_34, q169_35, q169_36, q169_37, q169_39, q169_41, q169_44, q169_45, q169_48, q169_49, q169_50, q169_51, q169_52, q169_54, q169_55, q169_58, q169_59, q169_62, q169_64, q169_65, q169_67, q169_68, q169_69, q169_71, q169_74, q169_77, q169_79, zrk_158, zrk_167, kI_app, kJ_app, kP_app, kV_app, kS_app, kC_app, kN_app, kM_app, zsw_cons, zsw_nil, lv_args_I, lv_args_R, lv_args_L, lv_args_nil, zlook_cons, zrI_some, zrJ_some, zrP_some, zrC_some, zrA_rw, zrAS_rw, zrLen_rw, zst1_nil, zst1_cI, zst1_cR, zst1_cL, zrm1_nil, zrm1_cI, zrm1_cR, zrm1_cL, zst2_nil, zst2_cI, zst2_cR, zst2_cL, zrm2_nil, zrm2_cI, zrm2_cR, zrm2_cL, zkeep_nil, zkeep_cons, zsum_nil, zsum_I, zsum_R, zsum_L, zsum_N, toL_s, toL_n, List.cons_append, List.nil_append, List.mem_cons, List.not_mem_nil, reduceCtorEq, Nat.reduceAdd, Nat.reduceLT, Nat.reduceLeDiff, Nat.reduceEqDiff, Nat.zero_ne_one, Nat.one_ne_zero, Nat.add_zero, Nat.zero_add, or_false, false_or, or_true, true_or, and_true, true_and, and_self, ↓reduceIte, Nat.succ_ne_self, Nat.reduceGT, Nat.reduceSub, Nat.le_refl, Nat.zero_le, zis_O, cl_is, clG_0, clG_1, clG_2, clG_3, clG_4, clG_5, clG_6, clS_6, clG_7, clG_8, clG_9, clS_9, clG_10, clG_11, clS_11, clG_12, clS_12, clG_13, clS_13, clG_14, clS_14, clG_15, clS_15, clG_16, clG_17, clS_17, od_is, odG_0, odG_1, odS_1, odG_2, odG_3, odS_3, odG_4, re_is, reG_0, reS_0, reG_1, reG_2, reG_3, reS_3, reG_4, reS_4, reG_5, reS_5, reG_6, reS_6, wo_is, woG_0, woG_1, woG_2, woS_2, woG_3, lm_is, lmG_0, lmG_1, lmG_2, lmG_3, lmG_4, lmG_5, lmG_6, lmG_7, lmG_8, lmS_8, lmG_9, lmS_9, lmG_10, lmS_10, lmG_11, lmS_11, lmG_12, lmS_12, mo_is, moG_0, moG_1, moG_2, moG_3, moG_4, moG_5, moS_5, moG_6, moS_6, moG_7, moS_7, moG_8, moG_9, moS_9, moG_10, moS_10, moG_11, moS_11, moG_12, moS_12, moG_13, moS_13, moG_14, moG_15, moS_15, moG_16, moG_17, moS_17, moG_18, moG_19, moG_20, i32ne0, i32ne1, i32ne2, i32ne3, i32ne4, i32ne5, i32ne6, i32ne7, i32ne8, i32ne9, i32ne10, j64ne, Int32.reduceAdd, Int32.reduceSub, Int32.reduceMul, Int32.reduceLT, Int32.reduceOfNat, Int32.reduceToNatClampNeg, cU_at, Nat.reduceMul, Nat.reduceMod, catR, catI, cV_self, cU_self, hg0, hg1, hg2, hg3, hg4, hg5, hg6, hg7, hg8, hg9, hg10, hg11, hg12, hg13, hg14, hg15, hg16, hg17, hg18, hg19, hg20, hg21, hg22, hg23, hg24, hg25, hg26, hg27, hg28, hg29, hg30, hg31, hg32, hg33, hg34, hg35, hg36, hg37, hg38, hg39, hg40, hg41, hg42, hg43, hg44, hg45, hg46, hg47, hg48, hg49, hg50, hg51, hg52, hg53, hg54, hg55, hg56, hg57, hg58, hg59, hg60, hg61, hg62, hg63, hg64, hg65, hg66, hg67, hg68, hg69, hg70, hg71, hg72, hg73, hg1001, hg1002, hg1003, hg1000, hg2000, hs0, hs8, hs9, hs10, hs11, hs12, hs13, hs14, hs15, hs16, hs17, hs18, hs19, hs20, hs21, hs22, hs23, hs24, hs25, hs26, hs27, hs29, hs30, hs31, hs32, hs33, hs34, hs35, hs36, hs37, hs38, hs39, hs40, hs41, hs42, hs43, hs44, hs45, hs46, hs47, hs48, hs49, hs50, hs51, hs52, hs53, hs54, hs55, hs56, hs57, hs59, hs60, hs61, hs62, hs63, hs64, hs65, hs66, hs67, hs68, hs69, hs70, hs71, hs72, hs73, hw8, hw18, hw29, hw39, h0, e1]
  exact e
theorem sp_whole {A : Nat → Nat → Int32} {L : Nat → Nat → Int64} (h : ∀ j, j < 87 → A 63 j = iZ (a j)) (g : Good a) {k : Nat} (hk : a 1 + k = a 0) : rm ro 172 [.ref 62] (hp A L) = some (some (.long (jZ ((100 ^ k : Nat) : Int))), hp A L) := by
  have n0 := g.n0
  have h0 := h 0 (by decide)
  have h1 := h 1 (by decide)
  have ek : iZ (a 0) - iZ (a 1) = iZ k := by
    rw [iZ_sub]
    congr 1
    omega
  have pw := sp_power (ro := ro) (σ := hp A L) 100 k (by omega)
  rw [show jZ ((100 : Nat) : Int) = 100 from rfl] at pw
  show rn ro 2 172 0 (lv_args 0 [.ref 62]) [] (hp A L) = _
  simp only [q172_0, q172_3, q172_4, q172_7, q172_8, q172_9, q172_10, q172_13, q172_14, q172_15, q172_16, q172_19, zrk_167, kI_app, kJ_app, kP_app, kV_app, kS_app, kC_app, kN_app, kM_app, zsw_cons, zsw_nil, lv_args_I, lv_args_R, lv_args_L, lv_args_nil, zlook_cons, zrI_some, zrJ_some, zrP_some, zrC_some, zrA_rw, zrAS_rw, zrLen_rw, zst1_nil, zst1_cI, zst1_cR, zst1_cL, zrm1_nil, zrm1_cI, zrm1_cR, zrm1_cL, zst2_nil, zst2_cI, zst2_cR, zst2_cL, zrm2_nil, zrm2_cI, zrm2_cR, zrm2_cL, zkeep_nil, zkeep_cons, zsum_nil, zsum_I, zsum_R, zsum_L, zsum_N, toL_s, toL_n, List.cons_append, List.nil_append, List.mem_cons, List.not_mem_nil, reduceCtorEq, Nat.reduceAdd, Nat.reduceLT, Nat.reduceLeDiff, Nat.reduceEqDiff, Nat.zero_ne_one, Nat.one_ne_zero, Nat.add_zero, Nat.zero_add, or_false, false_or, or_true, true_or, and_true, true_and, and_self, ↓reduceIte, Nat.succ_ne_self, Nat.reduceGT, Nat.reduceSub, Nat.le_refl, Nat.zero_le, zis_O, cl_is, clG_0, clG_1, clG_2, clG_3, clG_4, clG_5, clG_6, clS_6, clG_7, clG_8, clG_9, clS_9, clG_10, clG_11, clS_11, clG_12, clS_12, clG_13, clS_13, clG_14, clS_14, clG_15, clS_15, clG_16, clG_17, clS_17, od_is, odG_0, odG_1, odS_1, odG_2, odG_3, odS_3, odG_4, re_is, reG_0, reS_0, reG_1, reG_2, reG_3, reS_3, reG_4, reS_4, reG_5, reS_5, reG_6, reS_6, wo_is, woG_0, woG_1, woG_2, woS_2, woG_3, lm_is, lmG_0, lmG_1, lmG_2, lmG_3, lmG_4, lmG_5, lmG_6, lmG_7, lmG_8, lmS_8, lmG_9, lmS_9, lmG_10, lmS_10, lmG_11, lmS_11, lmG_12, lmS_12, mo_is, moG_0, moG_1, moG_2, moG_3, moG_4, moG_5, moS_5, moG_6, moS_6, moG_7, moS_7, moG_8, moG_9, moS_9, moG_10, moS_10, moG_11, moS_11, moG_12, moS_12, moG_13, moS_13, moG_14, moG_15, moS_15, moG_16, moG_17, moS_17, moG_18, moG_19, moG_20, i32ne0, i32ne1, i32ne2, i32ne3, i32ne4, i32ne5, i32ne6, i32ne7, i32ne8, i32ne9, i32ne10, j64ne, Int32.reduceAdd, Int32.reduceSub, Int32.reduceMul, Int32.reduceLT, Int32.reduceOfNat, Int32.reduceToNatClampNeg, cU_at, Nat.reduceMul, Nat.reduceMod, catR, catI, cV_self, cU_self, hg0, hg1, hg2, hg3, hg4, hg5, hg6, hg7, hg8, hg9, hg10, hg11, hg12, hg13, hg14, hg15, hg16, hg17, hg18, hg19, hg20, hg21, hg22, hg23, hg24, hg25, hg26, hg27, hg28, hg29, hg30, hg31, hg32, hg33, hg34, hg35, hg36, hg37, hg38, hg39, hg40, hg41, hg42, hg43, hg44, hg45, hg46, hg47, hg48, hg49, hg50, hg51, hg52, hg53, hg54, hg55, hg56, hg57, hg58, hg59, hg60, hg61, hg62, hg63, hg64, hg65, hg66, hg67, hg68, hg69, hg70, hg71, hg72, hg73, hg1001, hg1002, hg1003, hg1000, hg2000, hs0, hs8, hs9, hs10, hs11, hs12, hs13, hs14, hs15, hs16, hs17, hs18, hs19, hs20, hs21, hs22, hs23, hs24, hs25, hs26, hs27, hs29, hs30, hs31, hs32, hs33, hs34, hs35, hs36, hs37, hs38, hs39, hs40, hs41, hs42, hs43, hs44, hs45, hs46, hs47, hs48, hs49, hs50, hs51, hs52, hs53, hs54, hs55, hs56, hs57, hs59, hs60, hs61, hs62, hs63, hs64, hs65, hs66, hs67, hs68, hs69, hs70, hs71, hs72, hs73, hw8, hw18, hw29, hw39, h0, h1, ek, pw]
end ODM
