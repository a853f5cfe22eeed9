/-! CANDLE -/
def tn (k : Nat) : Nat := 100000000000000 / 10 ^ k
theorem tn_s : ∀ k, k < 7 → tn k = 10 * tn (k + 1) := by decide +kernel
theorem tn_m : ∀ k, k < 8 → tn k * 10 ^ k = 100000000000000 := by decide +kernel
def cnN (a : Nat → Nat) (n : Nat) : Nat := lgN a (a 1) (a 3) (a 8 - a 9) * (10 ^ n - (10 - a (12 + a 2)) ^ n) * 100 ^ (a 0 - a 1 - 1) + (10 - lgN a (a 1) (a 3) (a 8 - a 9)) * sA a (a 3) (a 2) (a 1 + 1) (a 0 - a 1 - 1) * 10 ^ n
def cdN (a : Nat → Nat) (n : Nat) : Nat := 10 * 10 ^ n * 100 ^ (a 0 - a 1 - 1)
def oCa (s : Nat → Nat → Nat) (n : Int) : Int × (Nat → Nat → Nat) := if 1 ≤ n ∧ n ≤ 6 then (if s 0 0 - s 0 1 < 1 then (-3, s) else (1, frU s (cnN (s 0) n.toNat) (cdN (s 0) n.toNat))) else (-2, s)
section CAN
variable {ro : zR} {A : Nat → Nat → Int32} {L : Nat → Nat → Int64} {s : Nat → Nat → Nat}
theorem p10_le {n : Nat} (h : n ≤ 6) : 10 ^ n ≤ 1000000 := Nat.pow_le_pow_right (n := 10) (by decide) h
theorem mis_le (c n : Nat) : (10 - c) ^ n ≤ 10 ^ n := Nat.pow_le_pow_left (by omega) n
/-- the class's chance, ten times -/
def xcN (a : Nat → Nat) (n : Nat) : Nat := lgN a (a 1) (a 3) (a 8 - a 9) * (tn (n + 1) * (10 ^ n - (10 - a (12 + a 2)) ^ n)) + (10 - lgN a (a 1) (a 3) (a 8 - a 9)) * (10 * (sc (a 0 - a 1) * sA a (a 3) (a 2) (a 1 + 1) (a 0 - a 1 - 1)))
theorem cand_eq (g : Good (s 0)) (hK : s 0 1 < s 0 0) {n : Nat} (hn : n ≤ 6) : xcN (s 0) n * cdN (s 0) n = cnN (s 0) n * 100000000000000 := by
  have n0 := g.n0
  have m1 := tn_m n (by omega)
  have t1 := tn_s n (by omega)
  have m2 := sc_m (s 0 0 - s 0 1 - 1) (by omega)
  have t2 := sc_s (s 0 0 - s 0 1 - 1) (by omega)
  rw [show s 0 0 - s 0 1 - 1 + 1 = s 0 0 - s 0 1 by omega] at t2
  unfold xcN cdN cnN
  generalize sA (s 0) (s 0 3) (s 0 2) (s 0 1 + 1) (s 0 0 - s 0 1 - 1) = R
  generalize lgN (s 0) (s 0 1) (s 0 3) (s 0 8 - s 0 9) = l
  generalize 10 ^ n - (10 - s 0 (12 + s 0 2)) ^ n = M
  generalize 100 ^ (s 0 0 - s 0 1 - 1) = W at *
  generalize 10 ^ n = T at *
  generalize tn (n + 1) = p at *
  generalize sc (s 0 0 - s 0 1) = S at *
  rw [t1] at m1
  rw [t2] at m2
  generalize 10 - l = k
  rw [Nat.add_mul, Nat.add_mul]
  have e1 : l * (p * M) * (10 * T * W) = l * M * W * (10 * p * T) := by simp only [Nat.mul_assoc, Nat.mul_comm, Nat.mul_left_comm]
  have e2 : k * (10 * (S * R)) * (10 * T * W) = k * R * T * (100 * S * W) := by
    have : k * (10 * (S * R)) * (10 * T * W) = (10 * 10) * (k * R * T * (S * W)) := by simp only [Nat.mul_assoc, Nat.mul_comm, Nat.mul_left_comm]
    rw [this, show (10 * 10 : Nat) = 100 from rfl]
    simp only [Nat.mul_assoc, Nat.mul_comm, Nat.mul_left_comm]
  rw [e1, e2, m1, m2]
theorem f49 (hK : True) {n c : Nat} (hn : n ≤ 6) (hc : c ≤ 10) : ∀ j i : Nat, j + i = n → rn ro 7 49 19 [(0, .ref 8), (1, .int (iZ n)), (2, .int (iZ ((10 - c : Nat) : Int))), (3, .long (jZ ((tn i * (10 - c) ^ i : Nat) : Int))), (5, .int (iZ i))] [] (hp A L) = rn ro 7 49 40 [(0, .ref 8), (1, .int (iZ n)), (2, .int (iZ ((10 - c : Nat) : Int))), (3, .long (jZ ((tn n * (10 - c) ^ n : Nat) : Int))), (5, .int (iZ n))] [] (hp A L) := by
  intro j
  induction j with
  | zero =>
    intro i hi
    have e : i = n := by omega
    subst e
    rw [q49_19]
    simp only [q49_0, q49_2, q49_3, q49_4, q49_7, q49_10, q49_11, q49_12, q49_15, q49_16, q49_17, q49_21, q49_22, q49_25, q49_26, q49_29, q49_30, q49_31, q49_32, q49_33, q49_34, q49_37, q49_41, q49_42, q49_45, q49_48, q49_50, q49_52, q49_53, q49_56, q49_57, q49_58, q49_59, q49_61, q49_63, q49_64, q49_65, q49_68, q49_69, q49_70, q49_73, q49_74, q49_75, q49_76, q49_79, q49_80, zrk_24, zrk_26, zrk_40, kI_app, kJ_app, kP_app, kV_app, kS_app, kC_app, kN_app, kM_app, zsw_cons, zsw_nil, lv_args_I, lv_args_R, lv_args_L, lv_args_nil, zlook_cons, zrI_some, zrJ_some, zrP_some, zrC_some, zrA_rw, zrAS_rw, zrLen_rw, zst1_nil, zst1_cI, zst1_cR, zst1_cL, zrm1_nil, zrm1_cI, zrm1_cR, zrm1_cL, zst2_nil, zst2_cI, zst2_cR, zst2_cL, zrm2_nil, zrm2_cI, zrm2_cR, zrm2_cL, zkeep_nil, zkeep_cons, zsum_nil, zsum_I, zsum_R, zsum_L, zsum_N, toL_s, toL_n, List.cons_append, List.nil_append, List.mem_cons, List.not_mem_nil, reduceCtorEq, Nat.reduceAdd, Nat.reduceLT, Nat.reduceLeDiff, Nat.reduceEqDiff, Nat.zero_ne_one, Nat.one_ne_zero, Nat.add_zero, Nat.zero_add, or_false, false_or, or_true, true_or, and_true, true_and, and_self, ↓reduceIte, Nat.succ_ne_self, Nat.reduceGT, Nat.reduceSub, Nat.le_refl, Nat.zero_le, zis_O, cl_is, clG_0, clG_1, clG_2, clG_3, clG_4, clG_5, clG_6, clS_6, clG_7, clG_8, clG_9, clS_9, clG_10, clG_11, clS_11, clG_12, clS_12, clG_13, clS_13, clG_14, clS_14, clG_15, clS_15, clG_16, clG_17, clS_17, od_is, odG_0, odG_1, odS_1, odG_2, odG_3, odS_3, odG_4, re_is, reG_0, reS_0, reG_1, reG_2, reG_3, reS_3, reG_4, reS_4, reG_5, reS_5, reG_6, reS_6, wo_is, woG_0, woG_1, woG_2, woS_2, woG_3, lm_is, lmG_0, lmG_1, lmG_2, lmG_3, lmG_4, lmG_5, lmG_6, lmG_7, lmG_8, lmS_8, lmG_9, lmS_9, lmG_10, lmS_10, lmG_11, lmS_11, lmG_12, lmS_12, mo_is, moG_0, moG_1, moG_2, moG_3, moG_4, moG_5, moS_5, moG_6, moS_6, moG_7, moS_7, moG_8, moG_9, moS_9, moG_10, moS_10, moG_11, moS_11, moG_12, moS_12, moG_13, moS_13, moG_14, moG_15, moS_15, moG_16, moG_17, moS_17, moG_18, moG_19, moG_20, i32ne0, i32ne1, i32ne2, i32ne3, i32ne4, i32ne5, i32ne6, i32ne7, i32ne8, i32ne9, i32ne10, j64ne, Int32.reduceAdd, Int32.reduceSub, Int32.reduceMul, Int32.reduceLT, Int32.reduceOfNat, Int32.reduceToNatClampNeg, cU_at, Nat.reduceMul, Nat.reduceMod, Int32.lt_irrefl, if_false]
  | succ j ih =>
    intro i hi
    have e : iZ i < iZ n := by
      rw [iZ_lt (by omega)]
      omega
    have b : tn i * (10 - c) ^ i ≤ 100000000000000 := by
      rw [← tn_m i (by omega)]
      exact Nat.mul_le_mul_left _ (mis_le c i)
    have d : jZ ((tn i * (10 - c) ^ i : Nat) : Int) / 10 = jZ ((tn (i + 1) * (10 - c) ^ i : Nat) : Int) := by
      rw [show (10 : Int64) = jZ ((10 : Nat) : Int) from rfl, jZ_divN (by omega) (by decide), tn_s i (by omega), Nat.mul_assoc, Nat.mul_div_cancel_left _ (by decide)]
    have el : (iZ ((10 - c : Nat) : Int)).toInt64 = jZ ((10 - c : Nat) : Int) := iZ_l (by omega)
    have em : jZ ((tn (i + 1) * (10 - c) ^ i : Nat) : Int) * jZ ((10 - c : Nat) : Int) = jZ ((tn (i + 1) * (10 - c) ^ (i + 1) : Nat) : Int) := by rw [jZ_mul, ← Int.natCast_mul, Nat.pow_succ, Nat.mul_assoc]
    rw [← ih (i + 1) (by omega), q49_19]
    simp only [q49_0, q49_2, q49_3, q49_4, q49_7, q49_10, q49_11, q49_12, q49_15, q49_16, q49_17, q49_21, q49_22, q49_25, q49_26, q49_29, q49_30, q49_31, q49_32, q49_33, q49_34, q49_37, q49_40, q49_41, q49_42, q49_45, q49_48, q49_50, q49_52, q49_53, q49_56, q49_57, q49_58, q49_59, q49_61, q49_63, q49_64, q49_65, q49_68, q49_69, q49_70, q49_73, q49_74, q49_75, q49_76, q49_79, q49_80, zrk_24, zrk_26, zrk_40, kI_app, kJ_app, kP_app, kV_app, kS_app, kC_app, kN_app, kM_app, zsw_cons, zsw_nil, lv_args_I, lv_args_R, lv_args_L, lv_args_nil, zlook_cons, zrI_some, zrJ_some, zrP_some, zrC_some, zrA_rw, zrAS_rw, zrLen_rw, zst1_nil, zst1_cI, zst1_cR, zst1_cL, zrm1_nil, zrm1_cI, zrm1_cR, zrm1_cL, zst2_nil, zst2_cI, zst2_cR, zst2_cL, zrm2_nil, zrm2_cI, zrm2_cR, zrm2_cL, zkeep_nil, zkeep_cons, zsum_nil, zsum_I, zsum_R, zsum_L, zsum_N, toL_s, toL_n, List.cons_append, List.nil_append, List.mem_cons, List.not_mem_nil, reduceCtorEq, Nat.reduceAdd, Nat.reduceLT, Nat.reduceLeDiff, Nat.reduceEqDiff, Nat.zero_ne_one, Nat.one_ne_zero, Nat.add_zero, Nat.zero_add, or_false, false_or, or_true, true_or, and_true, true_and, and_self, ↓reduceIte, Nat.succ_ne_self, Nat.reduceGT, Nat.reduceSub, Nat.le_refl, Nat.zero_le, zis_O, cl_is, clG_0, clG_1, clG_2, clG_3, clG_4, clG_5, clG_6, clS_6, clG_7, clG_8, clG_9, clS_9, clG_10, clG_11, clS_11, clG_12, clS_12, clG_13, clS_13, clG_14, clS_14, clG_15, clS_15, clG_16, clG_17, clS_17, od_is, odG_0, odG_1, odS_1, odG_2, odG_3, odS_3, odG_4, re_is, reG_0, reS_0, reG_1, reG_2, reG_3, reS_3, reG_4, reS_4, reG_5, reS_5, reG_6, reS_6, wo_is, woG_0, woG_1, woG_2, woS_2, woG_3, lm_is, lmG_0, lmG_1, lmG_2, lmG_3, lmG_4, lmG_5, lmG_6, lmG_7, lmG_8, lmS_8, lmG_9, lmS_9, lmG_10, lmS_10, lmG_11, lmS_11, lmG_12, lmS_12, mo_is, moG_0, moG_1, moG_2, moG_3, moG_4, moG_5, moS_5, moG_6, moS_6, moG_7, moS_7, moG_8, moG_9, moS_9, moG_10, moS_10, moG_11, moS_11, moG_12, moS_12, moG_13, moS_13, moG_14, moG_15, moS_15, moG_16, moG_17, moS_17, moG_18, moG_19, moG_20, i32ne0, i32ne1, i32ne2, i32ne3, i32ne4, i32ne5, i32ne6, i32ne7, i32ne8, i32ne9, i32ne10, j64ne, Int32.reduceAdd, Int32.reduceSub, Int32.reduceMul, Int32.reduceLT, Int32.reduceOfNat, Int32.reduceToNatClampNeg, cU_at, Nat.reduceMul, Nat.reduceMod, e, if_true, d, el, em, iZ_suc]
theorem sp_49 (h : CInv A L s) (q : SInv s) (hK : s 0 1 < s 0 0) {n : Nat} (hn : n ≤ 6) : rm ro 49 [.ref 8, .int (iZ n)] (hp A L) = some (some (.long (jZ ((xcN (s 0) n : Nat) : Int))), hp A L) ∧ xcN (s 0) n ≤ 100000000000000 := by
  have n0 := q.1.n0
  have n2 := q.1.n2
  have c1 : A 8 14 = iZ (s 0 1) := h.1.c1
  have c2 : A 8 12 = iZ (s 0 2) := h.1.c2
  have cn := carry_now (ro := ro) h q
  have ln := clLn (ro := ro) (hc8 A L) (hk A L) h.1 q.1 (m := s 0 1) hK
  have of1 := sp_40 (ro := ro) h q (b := 1) (k := s 0 0 - s 0 1 - 1) (by omega)
  rw [show iZ ((1 : Nat) : Int) = 1 from rfl] at of1
  have cle := q.1.c (i := s 0 2) (by omega)
  have lle := lgN_le q.1 (m := s 0 1) (t := s 0 3) (w := s 0 8 - s 0 9) hK
  have lp := f49 (ro := ro) (A := A) (L := L) trivial hn cle n 0 (by omega)
  rw [show jZ ((tn 0 * (10 - s 0 (12 + s 0 2)) ^ 0 : Nat) : Int) = 100000000000000 from rfl, show iZ ((0 : Nat) : Int) = 0 from rfl] at lp
  have ec : 10 - iZ (s 0 (12 + s 0 2)) = iZ ((10 - s 0 (12 + s 0 2) : Nat) : Int) := by
    rw [show (10 : Int32) = iZ 10 from rfl, iZ_sub]
    congr 1
    omega
  have mm : ∀ x y : Nat, jZ (x : Int) * jZ (y : Int) = jZ ((x * y : Nat) : Int) := fun x y => by rw [jZ_mul, ← Int.natCast_mul]
  have aa : ∀ x y : Nat, jZ (x : Int) + jZ (y : Int) = jZ ((x + y : Nat) : Int) := fun x y => by rw [jZ_add, ← Int.natCast_add]
  have m1 := tn_m n (by omega)
  have t1 := tn_s n (by omega)
  have t2 := sc_s (s 0 0 - s 0 1 - 1) (by omega)
  rw [show s 0 0 - s 0 1 - 1 + 1 = s 0 0 - s 0 1 by omega] at t2
  have ml := mis_le (s 0 (12 + s 0 2)) n
  have fb := scpf_le q.1 (t := s 0 3) n2 (k := s 0 0 - s 0 1 - 1) (f := s 0 1 + 1) (by omega)
  have fs := scsA q.1 (t := s 0 3) n2 (k := s 0 0 - s 0 1 - 1) (f := s 0 1 + 1) (by omega)
  have tb : tn n * (10 - s 0 (12 + s 0 2)) ^ n ≤ 100000000000000 := by
    rw [← m1]
    exact Nat.mul_le_mul_left _ ml
  have ts : 100000000000000 - tn n * (10 - s 0 (12 + s 0 2)) ^ n = tn n * (10 ^ n - (10 - s 0 (12 + s 0 2)) ^ n) := by rw [← m1, Nat.mul_sub]
  unfold xcN
  generalize lgN (s 0) (s 0 1) (s 0 3) (s 0 8 - s 0 9) = l at *
  generalize sA (s 0) (s 0 3) (s 0 2) (s 0 1 + 1) (s 0 0 - s 0 1 - 1) = R at *
  generalize pf (s 0) (s 0 3) (s 0 2) (s 0 1 + 1) (s 0 0 - s 0 1 - 1) = O at *
  generalize 10 ^ n - (10 - s 0 (12 + s 0 2)) ^ n = M at *
  have lx : (iZ (l : Int)).toInt64 = jZ (l : Int) := iZ_l (by omega)
  have l10 : 10 - iZ (l : Int) = iZ ((10 - l : Nat) : Int) := by
    rw [show (10 : Int32) = iZ 10 from rfl, iZ_sub]
    congr 1
    omega
  have lx2 : (iZ ((10 - l : Nat) : Int)).toInt64 = jZ ((10 - l : Nat) : Int) := iZ_l (by omega)
  have w1 : 100000000000000 - jZ ((tn n * (10 - s 0 (12 + s 0 2)) ^ n : Nat) : Int) = jZ ((tn n * M : Nat) : Int) := by
    rw [← ts, show (100000000000000 : Int64) = jZ 100000000000000 from rfl, jZ_sub]
    congr 1
    omega
  have w2 : 100000000000000 - jZ ((sc (s 0 0 - s 0 1 - 1) * O : Nat) : Int) = jZ ((sc (s 0 0 - s 0 1 - 1) * R : Nat) : Int) := by
    rw [← fs, show (100000000000000 : Int64) = jZ 100000000000000 from rfl, jZ_sub]
    congr 1
    omega
  have v1 : tn n * M ≤ 100000000000000 := by omega
  have v2 : sc (s 0 0 - s 0 1 - 1) * R ≤ 100000000000000 := by omega
  have y1 : l * (tn n * M) ≤ l * 100000000000000 := Nat.mul_le_mul_left _ v1
  have y2 : (10 - l) * (sc (s 0 0 - s 0 1 - 1) * R) ≤ (10 - l) * 100000000000000 := Nat.mul_le_mul_left _ v2
  have e10 : l * (tn n * M) + (10 - l) * (sc (s 0 0 - s 0 1 - 1) * R) = 10 * (l * (tn (n + 1) * M) + (10 - l) * (10 * (sc (s 0 0 - s 0 1) * R))) := by
    rw [t1, t2, Nat.mul_add]
    congr 1
    · simp only [Nat.mul_assoc, Nat.mul_comm, Nat.mul_left_comm]
    · rw [show 100 * sc (s 0 0 - s 0 1) * R = 10 * (10 * (sc (s 0 0 - s 0 1) * R)) by rw [← Nat.mul_assoc, ← Nat.mul_assoc], Nat.mul_left_comm]
  have bd : l * (tn (n + 1) * M) + (10 - l) * (10 * (sc (s 0 0 - s 0 1) * R)) ≤ 100000000000000 := by omega
  refine ⟨?_, bd⟩
  have dv : jZ ((l * (tn n * M) + (10 - l) * (sc (s 0 0 - s 0 1 - 1) * R) : Nat) : Int) / 10 = jZ ((l * (tn (n + 1) * M) + (10 - l) * (10 * (sc (s 0 0 - s 0 1) * R)) : Nat) : Int) := by
    rw [show (10 : Int64) = jZ ((10 : Nat) : Int) from rfl, jZ_divN (by omega) (by decide), e10, Nat.mul_div_cancel_left _ (by decide)]
  show rn ro 7 49 0 (lv_args 0 [.ref 8, .int (iZ n)]) [] (hp A L) = _
  have st : rn ro 7 49 0 (lv_args 0 [.ref 8, .int (iZ n)]) [] (hp A L) = rn ro 7 49 19 [(0, .ref 8), (1, .int (iZ n)), (2, .int (iZ ((10 - s 0 (12 + s 0 2) : Nat) : Int))), (3, .long 100000000000000), (5, .int 0)] [] (hp A L) := by
    simp only [q49_0, q49_2, q49_3, q49_4, q49_7, q49_10, q49_11, q49_12, q49_15, q49_16, q49_17, q49_21, q49_22, q49_25, q49_26, q49_29, q49_30, q49_31, q49_32, q49_33, q49_34, q49_37, q49_40, q49_41, q49_42, q49_45, q49_48, q49_50, q49_52, q49_53, q49_56, q49_57, q49_58, q49_59, q49_61, q49_63, q49_64, q49_65, q49_68, q49_69, q49_70, q49_73, q49_74, q49_75, q49_76, q49_79, q49_80, zrk_24, zrk_26, zrk_40, kI_app, kJ_app, kP_app, kV_app, kS_app, kC_app, kN_app, kM_app, zsw_cons, zsw_nil, lv_args_I, lv_args_R, lv_args_L, lv_args_nil, zlook_cons, zrI_some, zrJ_some, zrP_some, zrC_some, zrA_rw, zrAS_rw, zrLen_rw, zst1_nil, zst1_cI, zst1_cR, zst1_cL, zrm1_nil, zrm1_cI, zrm1_cR, zrm1_cL, zst2_nil, zst2_cI, zst2_cR, zst2_cL, zrm2_nil, zrm2_cI, zrm2_cR, zrm2_cL, zkeep_nil, zkeep_cons, zsum_nil, zsum_I, zsum_R, zsum_L, zsum_N, toL_s, toL_n, List.cons_append, List.nil_append, List.mem_cons, List.not_mem_nil, reduceCtorEq, Nat.reduceAdd, Nat.reduceLT, Nat.reduceLeDiff, Nat.reduceEqDiff, Nat.zero_ne_one, Nat.one_ne_zero, Nat.add_zero, Nat.zero_add, or_false, false_or, or_true, true_or, and_true, true_and, and_self, ↓reduceIte, Nat.succ_ne_self, Nat.reduceGT, Nat.reduceSub, Nat.le_refl, Nat.zero_le, zis_O, cl_is, clG_0, clG_1, clG_2, clG_3, clG_4, clG_5, clG_6, clS_6, clG_7, clG_8, clG_9, clS_9, clG_10, clG_11, clS_11, clG_12, clS_12, clG_13, clS_13, clG_14, clS_14, clG_15, clS_15, clG_16, clG_17, clS_17, od_is, odG_0, odG_1, odS_1, odG_2, odG_3, odS_3, odG_4, re_is, reG_0, reS_0, reG_1, reG_2, reG_3, reS_3, reG_4, reS_4, reG_5, reS_5, reG_6, reS_6, wo_is, woG_0, woG_1, woG_2, woS_2, woG_3, lm_is, lmG_0, lmG_1, lmG_2, lmG_3, lmG_4, lmG_5, lmG_6, lmG_7, lmG_8, lmS_8, lmG_9, lmS_9, lmG_10, lmS_10, lmG_11, lmS_11, lmG_12, lmS_12, mo_is, moG_0, moG_1, moG_2, moG_3, moG_4, moG_5, moS_5, moG_6, moS_6, moG_7, moS_7, moG_8, moG_9, moS_9, moG_10, moS_10, moG_11, moS_11, moG_12, moS_12, moG_13, moS_13, moG_14, moG_15, moS_15, moG_16, moG_17, moS_17, moG_18, moG_19, moG_20, i32ne0, i32ne1, i32ne2, i32ne3, i32ne4, i32ne5, i32ne6, i32ne7, i32ne8, i32ne9, i32ne10, j64ne, Int32.reduceAdd, Int32.reduceSub, Int32.reduceMul, Int32.reduceLT, Int32.reduceOfNat, Int32.reduceToNatClampNeg, cU_at, Nat.reduceMul, Nat.reduceMod, catR, catI, cV_self, cU_self, hg0, hg1, hg2, hg3, hg4, hg5, hg6, hg7, hg8, hg9, hg10, hg11, hg12, hg13, hg14, hg15, hg16, hg17, hg18, hg19, hg20, hg21, hg22, hg23, hg24, hg25, hg26, hg27, hg28, hg29, hg30, hg31, hg32, hg33, hg34, hg35, hg36, hg37, hg38, hg39, hg40, hg41, hg42, hg43, hg44, hg45, hg46, hg47, hg48, hg49, hg50, hg51, hg52, hg53, hg54, hg55, hg56, hg57, hg58, hg59, hg60, hg61, hg62, hg63, hg64, hg65, hg66, hg67, hg68, hg69, hg70, hg71, hg72, hg73, hg1001, hg1002, hg1003, hg1000, hg2000, hs0, hs8, hs9, hs10, hs11, hs12, hs13, hs14, hs15, hs16, hs17, hs18, hs19, hs20, hs21, hs22, hs23, hs24, hs25, hs26, hs27, hs29, hs30, hs31, hs32, hs33, hs34, hs35, hs36, hs37, hs38, hs39, hs40, hs41, hs42, hs43, hs44, hs45, hs46, hs47, hs48, hs49, hs50, hs51, hs52, hs53, hs54, hs55, hs56, hs57, hs59, hs60, hs61, hs62, hs63, hs64, hs65, hs66, hs67, hs68, hs69, hs70, hs71, hs72, hs73, hw8, hw18, hw29, hw39, c2, cn, ec]
  rw [st, lp]
  simp only [q49_0, q49_2, q49_3, q49_4, q49_7, q49_10, q49_11, q49_12, q49_15, q49_16, q49_17, q49_21, q49_22, q49_25, q49_26, q49_29, q49_30, q49_31, q49_32, q49_33, q49_34, q49_37, q49_40, q49_41, q49_42, q49_45, q49_48, q49_50, q49_52, q49_53, q49_56, q49_57, q49_58, q49_59, q49_61, q49_63, q49_64, q49_65, q49_68, q49_69, q49_70, q49_73, q49_74, q49_75, q49_76, q49_79, q49_80, zrk_24, zrk_26, zrk_40, kI_app, kJ_app, kP_app, kV_app, kS_app, kC_app, kN_app, kM_app, zsw_cons, zsw_nil, lv_args_I, lv_args_R, lv_args_L, lv_args_nil, zlook_cons, zrI_some, zrJ_some, zrP_some, zrC_some, zrA_rw, zrAS_rw, zrLen_rw, zst1_nil, zst1_cI, zst1_cR, zst1_cL, zrm1_nil, zrm1_cI, zrm1_cR, zrm1_cL, zst2_nil, zst2_cI, zst2_cR, zst2_cL, zrm2_nil, zrm2_cI, zrm2_cR, zrm2_cL, zkeep_nil, zkeep_cons, zsum_nil, zsum_I, zsum_R, zsum_L, zsum_N, toL_s, toL_n, List.cons_append, List.nil_append, List.mem_cons, List.not_mem_nil, reduceCtorEq, Nat.reduceAdd, Nat.reduceLT, Nat.reduceLeDiff, Nat.reduceEqDiff, Nat.zero_ne_one, Nat.one_ne_zero, Nat.add_zero, Nat.zero_add, or_false, false_or, or_true, true_or, and_true, true_and, and_self, ↓reduceIte, Nat.succ_ne_self, Nat.reduceGT, Nat.reduceSub, Nat.le_refl, Nat.zero_le, zis_O, cl_is, clG_0, clG_1, clG_2, clG_3, clG_4, clG_5, clG_6, clS_6, clG_7, clG_8, clG_9, clS_9, clG_10, clG_11, clS_11, clG_12, clS_12, clG_13, clS_13, clG_14, clS_14, clG_15, clS_15, clG_16, clG_17, clS_17, od_is, odG_0, odG_1, odS_1, odG_2, odG_3, odS_3, odG_4, re_is, reG_0, reS_0, reG_1, reG_2, reG_3, reS_3, reG_4, reS_4, reG_5, reS_5, reG_6, reS_6, wo_is, woG_0, woG_1, woG_2, woS_2, woG_3, lm_is, lmG_0, lmG_1, lmG_2, lmG_3, lmG_4, lmG_5, lmG_6, lmG_7, lmG_8, lmS_8, lmG_9, lmS_9, lmG_10, lmS_10, lmG_11, lmS_11, lmG_12, lmS_12, mo_is, moG_0, moG_1, moG_2, moG_3, moG_4, moG_5, moS_5, moG_6, moS_6, moG_7, moS_7, moG_8, moG_9, moS_9, moG_10, moS_10, moG_11, moS_11, moG_12, moS_12, moG_13, moS_13, moG_14, moG_15, moS_15, moG_16, moG_17, moS_17, moG_18, moG_19, moG_20, i32ne0, i32ne1, i32ne2, i32ne3, i32ne4, i32ne5, i32ne6, i32ne7, i32ne8, i32ne9, i32ne10, j64ne, Int32.reduceAdd, Int32.reduceSub, Int32.reduceMul, Int32.reduceLT, Int32.reduceOfNat, Int32.reduceToNatClampNeg, cU_at, Nat.reduceMul, Nat.reduceMod, catR, catI, cV_self, cU_self, hg0, hg1, hg2, hg3, hg4, hg5, hg6, hg7, hg8, hg9, hg10, hg11, hg12, hg13, hg14, hg15, hg16, hg17, hg18, hg19, hg20, hg21, hg22, hg23, hg24, hg25, hg26, hg27, hg28, hg29, hg30, hg31, hg32, hg33, hg34, hg35, hg36, hg37, hg38, hg39, hg40, hg41, hg42, hg43, hg44, hg45, hg46, hg47, hg48, hg49, hg50, hg51, hg52, hg53, hg54, hg55, hg56, hg57, hg58, hg59, hg60, hg61, hg62, hg63, hg64, hg65, hg66, hg67, hg68, hg69, hg70, hg71, hg72, hg73, hg1001, hg1002, hg1003, hg1000, hg2000, hs0, hs8, hs9, hs10, hs11, hs12, hs13, hs14, hs15, hs16, hs17, hs18, hs19, hs20, hs21, hs22, hs23, hs24, hs25, hs26, hs27, hs29, hs30, hs31, hs32, hs33, hs34, hs35, hs36, hs37, hs38, hs39, hs40, hs41, hs42, hs43, hs44, hs45, hs46, hs47, hs48, hs49, hs50, hs51, hs52, hs53, hs54, hs55, hs56, hs57, hs59, hs60, hs61, hs62, hs63, hs64, hs65, hs66, hs67, hs68, hs69, hs70, hs71, hs72, hs73, hw8, hw18, hw29, hw39, c1, ln, of1, lx, l10, lx2, w1, w2, mm, aa, dv]
theorem cop_106 (q : SInv s) {n : Int} (hn : -2147483648 ≤ n ∧ n < 2147483648) : COp ro 106 [.int (iZ n)] (.int (iZ (oCa s n).1)) s (cntI (oCa s n).2 (oCa s n).1) := by
  intro A L h
  have n0 := q.1.n0
  have eB := sp_counted (ro := ro) A L (x := -2) (by omega)
  rw [← iZ_m2] at eB
  have eN := sp_counted (ro := ro) A L (x := -3) (by omega)
  rw [← iZ_m3] at eN
  have lf := left_Z (ro := ro) h q
  have cl : (iZ ((s 0 0 - s 0 1 : Nat) : Int) < 1) = (s 0 0 - s 0 1 < 1) := by
    rw [i_ltk 1 1 rfl (by omega) (by omega)]
    exact propext ⟨fun z => by omega, fun z => by omega⟩
  unfold oCa
  by_cases d : 1 ≤ n ∧ n ≤ 6
  · simp only [if_pos d]
    by_cases c : s 0 0 - s 0 1 < 1
    · simp only [if_pos c]
      refine ⟨_, L, ?_, h.cnt (-3), fun k hk => ⟨cntA_n _ _ (by omega), rfl⟩⟩
      show rn ro 8 106 0 (lv_args 0 [.ref 0, .int (iZ n)]) [] (hp A L) = _
      simp only [q106_0, q106_1, q106_2, q106_5, q106_6, q106_8, q106_11, q106_12, q106_14, q106_17, q106_18, q106_19, q106_22, q106_25, q106_26, q106_29, q106_30, q106_32, q106_35, q106_36, q106_37, q106_38, q106_41, q106_42, q106_45, q106_48, q106_49, zrk_121, zrk_124, zrk_22, zrk_49, kI_app, kJ_app, kP_app, kV_app, kS_app, kC_app, kN_app, kM_app, zsw_cons, zsw_nil, lv_args_I, lv_args_R, lv_args_L, lv_args_nil, zlook_cons, zrI_some, zrJ_some, zrP_some, zrC_some, zrA_rw, zrAS_rw, zrLen_rw, zst1_nil, zst1_cI, zst1_cR, zst1_cL, zrm1_nil, zrm1_cI, zrm1_cR, zrm1_cL, zst2_nil, zst2_cI, zst2_cR, zst2_cL, zrm2_nil, zrm2_cI, zrm2_cR, zrm2_cL, zkeep_nil, zkeep_cons, zsum_nil, zsum_I, zsum_R, zsum_L, zsum_N, toL_s, toL_n, List.cons_append, List.nil_append, List.mem_cons, List.not_mem_nil, reduceCtorEq, Nat.reduceAdd, Nat.reduceLT, Nat.reduceLeDiff, Nat.reduceEqDiff, Nat.zero_ne_one, Nat.one_ne_zero, Nat.add_zero, Nat.zero_add, or_false, false_or, or_true, true_or, and_true, true_and, and_self, ↓reduceIte, Nat.succ_ne_self, Nat.reduceGT, Nat.reduceSub, Nat.le_refl, Nat.zero_le, zis_O, cl_is, clG_0, clG_1, clG_2, clG_3, clG_4, clG_5, clG_6, clS_6, clG_7, clG_8, clG_9, clS_9, clG_10, clG_11, clS_11, clG_12, clS_12, clG_13, clS_13, clG_14, clS_14, clG_15, clS_15, clG_16, clG_17, clS_17, od_is, odG_0, odG_1, odS_1, odG_2, odG_3, odS_3, odG_4, re_is, reG_0, reS_0, reG_1, reG_2, reG_3, reS_3, reG_4, reS_4, reG_5, reS_5, reG_6, reS_6, wo_is, woG_0, woG_1, woG_2, woS_2, woG_3, lm_is, lmG_0, lmG_1, lmG_2, lmG_3, lmG_4, lmG_5, lmG_6, lmG_7, lmG_8, lmS_8, lmG_9, lmS_9, lmG_10, lmS_10, lmG_11, lmS_11, lmG_12, lmS_12, mo_is, moG_0, moG_1, moG_2, moG_3, moG_4, moG_5, moS_5, moG_6, moS_6, moG_7, moS_7, moG_8, moG_9, moS_9, moG_10, moS_10, moG_11, moS_11, moG_12, moS_12, moG_13, moS_13, moG_14, moG_15, moS_15, moG_16, moG_17, moS_17, moG_18, moG_19, moG_20, i32ne0, i32ne1, i32ne2, i32ne3, i32ne4, i32ne5, i32ne6, i32ne7, i32ne8, i32ne9, i32ne10, j64ne, Int32.reduceAdd, Int32.reduceSub, Int32.reduceMul, Int32.reduceLT, Int32.reduceOfNat, Int32.reduceToNatClampNeg, cU_at, Nat.reduceMul, Nat.reduceMod, catR, catI, cV_self, cU_self, hg0, hg1, hg2, hg3, hg4, hg5, hg6, hg7, hg8, hg9, hg10, hg11, hg12, hg13, hg14, hg15, hg16, hg17, hg18, hg19, hg20, hg21, hg22, hg23, hg24, hg25, hg26, hg27, hg28, hg29, hg30, hg31, hg32, hg33, hg34, hg35, hg36, hg37, hg38, hg39, hg40, hg41, hg42, hg43, hg44, hg45, hg46, hg47, hg48, hg49, hg50, hg51, hg52, hg53, hg54, hg55, hg56, hg57, hg58, hg59, hg60, hg61, hg62, hg63, hg64, hg65, hg66, hg67, hg68, hg69, hg70, hg71, hg72, hg73, hg1001, hg1002, hg1003, hg1000, hg2000, hs0, hs8, hs9, hs10, hs11, hs12, hs13, hs14, hs15, hs16, hs17, hs18, hs19, hs20, hs21, hs22, hs23, hs24, hs25, hs26, hs27, hs29, hs30, hs31, hs32, hs33, hs34, hs35, hs36, hs37, hs38, hs39, hs40, hs41, hs42, hs43, hs44, hs45, hs46, hs47, hs48, hs49, hs50, hs51, hs52, hs53, hs54, hs55, hs56, hs57, hs59, hs60, hs61, hs62, hs63, hs64, hs65, hs66, hs67, hs68, hs69, hs70, hs71, hs72, hs73, hw8, hw18, hw29, hw39, i_ltk 1 1 rfl (by omega) hn, i_gtk 6 6 rfl (by omega) hn, show ¬ n < 1 by omega, show ¬ 6 < n by omega, if_false, lf, cl, c, if_true, eN]
      rfl
    · simp only [if_neg c]
      have e := sp_49 (ro := ro) h q (by omega) (n := n.toNat) (by omega)
      rw [← i_tn (by omega)] at e
      have f := sp_setFr (ro := ro) (A := A) (L := L) (x := xcN (s 0) n.toNat) e.2
      refine ⟨A, frL L (xcN (s 0) n.toNat) 100000000000000, ?_, ?_, fun k hk => ⟨rfl, frL_n _ _ _ (show k ≠ 0 by omega)⟩⟩
      · show rn ro 8 106 0 (lv_args 0 [.ref 0, .int (iZ n)]) [] (hp A L) = _
        simp only [q106_0, q106_1, q106_2, q106_5, q106_6, q106_8, q106_11, q106_12, q106_14, q106_17, q106_18, q106_19, q106_22, q106_25, q106_26, q106_29, q106_30, q106_32, q106_35, q106_36, q106_37, q106_38, q106_41, q106_42, q106_45, q106_48, q106_49, zrk_121, zrk_124, zrk_22, zrk_49, kI_app, kJ_app, kP_app, kV_app, kS_app, kC_app, kN_app, kM_app, zsw_cons, zsw_nil, lv_args_I, lv_args_R, lv_args_L, lv_args_nil, zlook_cons, zrI_some, zrJ_some, zrP_some, zrC_some, zrA_rw, zrAS_rw, zrLen_rw, zst1_nil, zst1_cI, zst1_cR, zst1_cL, zrm1_nil, zrm1_cI, zrm1_cR, zrm1_cL, zst2_nil, zst2_cI, zst2_cR, zst2_cL, zrm2_nil, zrm2_cI, zrm2_cR, zrm2_cL, zkeep_nil, zkeep_cons, zsum_nil, zsum_I, zsum_R, zsum_L, zsum_N, toL_s, toL_n, List.cons_append, List.nil_append, List.mem_cons, List.not_mem_nil, reduceCtorEq, Nat.reduceAdd, Nat.reduceLT, Nat.reduceLeDiff, Nat.reduceEqDiff, Nat.zero_ne_one, Nat.one_ne_zero, Nat.add_zero, Nat.zero_add, or_false, false_or, or_true, true_or, and_true, true_and, and_self, ↓reduceIte, Nat.succ_ne_self, Nat.reduceGT, Nat.reduceSub, Nat.le_refl, Nat.zero_le, zis_O, cl_is, clG_0, clG_1, clG_2, clG_3, clG_4, clG_5, clG_6, clS_6, clG_7, clG_8, clG_9, clS_9, clG_10, clG_11, clS_11, clG_12, clS_12, clG_13, clS_13, clG_14, clS_14, clG_15, clS_15, clG_16, clG_17, clS_17, od_is, odG_0, odG_1, odS_1, odG_2, odG_3, odS_3, odG_4, re_is, reG_0, reS_0, reG_1, reG_2, reG_3, reS_3, reG_4, reS_4, reG_5, reS_5, reG_6, reS_6, wo_is, woG_0, woG_1, woG_2, woS_2, woG_3, lm_is, lmG_0, lmG_1, lmG_2, lmG_3, lmG_4, lmG_5, lmG_6, lmG_7, lmG_8, lmS_8, lmG_9, lmS_9, lmG_10, lmS_10, lmG_11, lmS_11, lmG_12, lmS_12, mo_is, moG_0, moG_1, moG_2, moG_3, moG_4, moG_5, moS_5, moG_6, moS_6, moG_7, moS_7, moG_8, moG_9, moS_9, moG_10, moS_10, moG_11, moS_11, moG_12, moS_12, moG_13, moS_13, moG_14, moG_15, moS_15, moG_16, moG_17, moS_17, moG_18, moG_19, moG_20, i32ne0, i32ne1, i32ne2, i32ne3, i32ne4, i32ne5, i32ne6, i32ne7, i32ne8, i32ne9, i32ne10, j64ne, Int32.reduceAdd, Int32.reduceSub, Int32.reduceMul, Int32.reduceLT, Int32.reduceOfNat, Int32.reduceToNatClampNeg, cU_at, Nat.reduceMul, Nat.reduceMod, catR, catI, cV_self, cU_self, hg0, hg1, hg2, hg3, hg4, hg5, hg6, hg7, hg8, hg9, hg10, hg11, hg12, hg13, hg14, hg15, hg16, hg17, hg18, hg19, hg20, hg21, hg22, hg23, hg24, hg25, hg26, hg27, hg28, hg29, hg30, hg31, hg32, hg33, hg34, hg35, hg36, hg37, hg38, hg39, hg40, hg41, hg42, hg43, hg44, hg45, hg46, hg47, hg48, hg49, hg50, hg51, hg52, hg53, hg54, hg55, hg56, hg57, hg58, hg59, hg60, hg61, hg62, hg63, hg64, hg65, hg66, hg67, hg68, hg69, hg70, hg71, hg72, hg73, hg1001, hg1002, hg1003, hg1000, hg2000, hs0, hs8, hs9, hs10, hs11, hs12, hs13, hs14, hs15, hs16, hs17, hs18, hs19, hs20, hs21, hs22, hs23, hs24, hs25, hs26, hs27, hs29, hs30, hs31, hs32, hs33, hs34, hs35, hs36, hs37, hs38, hs39, hs40, hs41, hs42, hs43, hs44, hs45, hs46, hs47, hs48, hs49, hs50, hs51, hs52, hs53, hs54, hs55, hs56, hs57, hs59, hs60, hs61, hs62, hs63, hs64, hs65, hs66, hs67, hs68, hs69, hs70, hs71, hs72, hs73, hw8, hw18, hw29, hw39, i_ltk 1 1 rfl (by omega) hn, i_gtk 6 6 rfl (by omega) hn, show ¬ n < 1 by omega, show ¬ 6 < n by omega, if_false, lf, cl, c, e.1, f]
        first | done | rfl
      · rw [← frU_eq (s := s) (cand_eq q.1 (by omega) (by omega)) (by decide) (Nat.mul_pos (Nat.mul_pos (by decide) (Nat.pow_pos (by decide))) (Nat.pow_pos (by decide)))]
        exact (h.fr _ _).cnt 1
  · simp only [if_neg d]
    refine ⟨_, L, ?_, h.cnt (-2), fun k hk => ⟨cntA_n _ _ (by omega), rfl⟩⟩
    show rn ro 8 106 0 (lv_args 0 [.ref 0, .int (iZ n)]) [] (hp A L) = _
    simp only [q106_0, q106_1, q106_2, q106_5, q106_6, q106_8, q106_11, q106_12, q106_14, q106_17, q106_18, q106_19, q106_22, q106_25, q106_26, q106_29, q106_30, q106_32, q106_35, q106_36, q106_37, q106_38, q106_41, q106_42, q106_45, q106_48, q106_49, zrk_121, zrk_124, zrk_22, zrk_49, kI_app, kJ_app, kP_app, kV_app, kS_app, kC_app, kN_app, kM_app, zsw_cons, zsw_nil, lv_args_I, lv_args_R, lv_args_L, lv_args_nil, zlook_cons, zrI_some, zrJ_some, zrP_some, zrC_some, zrA_rw, zrAS_rw, zrLen_rw, zst1_nil, zst1_cI, zst1_cR, zst1_cL, zrm1_nil, zrm1_cI, zrm1_cR, zrm1_cL, zst2_nil, zst2_cI, zst2_cR, zst2_cL, zrm2_nil, zrm2_cI, zrm2_cR, zrm2_cL, zkeep_nil, zkeep_cons, zsum_nil, zsum_I, zsum_R, zsum_L, zsum_N, toL_s, toL_n, List.cons_append, List.nil_append, List.mem_cons, List.not_mem_nil, reduceCtorEq, Nat.reduceAdd, Nat.reduceLT, Nat.reduceLeDiff, Nat.reduceEqDiff, Nat.zero_ne_one, Nat.one_ne_zero, Nat.add_zero, Nat.zero_add, or_false, false_or, or_true, true_or, and_true, true_and, and_self, ↓reduceIte, Nat.succ_ne_self, Nat.reduceGT, Nat.reduceSub, Nat.le_refl, Nat.zero_le, zis_O, cl_is, clG_0, clG_1, clG_2, clG_3, clG_4, clG_5, clG_6, clS_6, clG_7, clG_8, clG_9, clS_9, clG_10, clG_11, clS_11, clG_12, clS_12, clG_13, clS_13, clG_14, clS_14, clG_15, clS_15, clG_16, clG_17, clS_17, od_is, odG_0, odG_1, odS_1, odG_2, odG_3, odS_3, odG_4, re_is, reG_0, reS_0, reG_1, reG_2, reG_3, reS_3, reG_4, reS_4, reG_5, reS_5, reG_6, reS_6, wo_is, woG_0, woG_1, woG_2, woS_2, woG_3, lm_is, lmG_0, lmG_1, lmG_2, lmG_3, lmG_4, lmG_5, lmG_6, lmG_7, lmG_8, lmS_8, lmG_9, lmS_9, lmG_10, lmS_10, lmG_11, lmS_11, lmG_12, lmS_12, mo_is, moG_0, moG_1, moG_2, moG_3, moG_4, moG_5, moS_5, moG_6, moS_6, moG_7, moS_7, moG_8, moG_9, moS_9, moG_10, moS_10, moG_11, moS_11, moG_12, moS_12, moG_13, moS_13, moG_14, moG_15, moS_15, moG_16, moG_17, moS_17, moG_18, moG_19, moG_20, i32ne0, i32ne1, i32ne2, i32ne3, i32ne4, i32ne5, i32ne6, i32ne7, i32ne8, i32ne9, i32ne10, j64ne, Int32.reduceAdd, Int32.reduceSub, Int32.reduceMul, Int32.reduceLT, Int32.reduceOfNat, Int32.reduceToNatClampNeg, cU_at, Nat.reduceMul, Nat.reduceMod, catR, catI, cV_self, cU_self, hg0, hg1, hg2, hg3, hg4, hg5, hg6, hg7, hg8, hg9, hg10, hg11, hg12, hg13, hg14, hg15, hg16, hg17, hg18, hg19, hg20, hg21, hg22, hg23, hg24, hg25, hg26, hg27, hg28, hg29, hg30, hg31, hg32, hg33, hg34, hg35, hg36, hg37, hg38, hg39, hg40, hg41, hg42, hg43, hg44, hg45, hg46, hg47, hg48, hg49, hg50, hg51, hg52, hg53, hg54, hg55, hg56, hg57, hg58, hg59, hg60, hg61, hg62, hg63, hg64, hg65, hg66, hg67, hg68, hg69, hg70, hg71, hg72, hg73, hg1001, hg1002, hg1003, hg1000, hg2000, hs0, hs8, hs9, hs10, hs11, hs12, hs13, hs14, hs15, hs16, hs17, hs18, hs19, hs20, hs21, hs22, hs23, hs24, hs25, hs26, hs27, hs29, hs30, hs31, hs32, hs33, hs34, hs35, hs36, hs37, hs38, hs39, hs40, hs41, hs42, hs43, hs44, hs45, hs46, hs47, hs48, hs49, hs50, hs51, hs52, hs53, hs54, hs55, hs56, hs57, hs59, hs60, hs61, hs62, hs63, hs64, hs65, hs66, hs67, hs68, hs69, hs70, hs71, hs72, hs73, hw8, hw18, hw29, hw39, i_ltk 1 1 rfl (by omega) hn, i_gtk 6 6 rfl (by omega) hn, eB]
    by_cases d0 : n < 1
    · rw [if_pos d0]
      rfl
    · rw [if_neg d0, if_pos (by omega)]
      rfl
theorem mop_181 (q : SInv s) {n : Int} (hn : -2147483648 ≤ n ∧ n < 2147483648) : MOp ro 181 [.int (iZ n)] (.int (iZ (oCa s n).1)) s (cntI (oCa s n).2 (oCa s n).1) := by
  intro A L h
  have n0 := q.1.n0
  have n1 := q.1.n1
  have n2 := q.1.n2
  have n3 := q.1.n3
  have hq : A 62 5 = 0 ∨ A 62 5 = 1 := Or.inl h.q
  have h0 := h.1 0 (by decide)
  have h1 := h.1 1 (by decide)
  have h2 := h.1 2 (by decide)
  have h3 := h.1 3 (by decide)
  have i1 := inB_Z (lo := 1) (hi := 6) (l := 1) (h := 6) rfl rfl hn (by omega) (by omega)
  have ce : (iZ (s 0 1) = iZ (s 0 0)) = (s 0 0 - s 0 1 < 1) := by
    rw [iZ_eq (by omega)]
    exact propext ⟨fun z => by omega, fun z => by omega⟩
  unfold oCa
  by_cases d : 1 ≤ n ∧ n ≤ 6
  · rw [if_pos d] at i1
    simp only [if_pos d]
    by_cases c : s 0 0 - s 0 1 < 1
    · simp only [if_pos c]
      refine ⟨_, L, ?_, h.ref (i := 1) (by decide) rfl, fun k hk => ⟨refA_n _ _ (by omega), rfl⟩⟩
      show rn ro 5 181 0 (lv_args 0 [.ref 62, .int (iZ n)]) [] (hp A L) = _
      simp only [q181_0, q181_1, q181_2, q181_3, q181_6, q181_9, q181_12, q181_13, q181_16, q181_17, q181_18, q181_21, q181_22, q181_23, q181_24, q181_25, q181_26, q181_29, q181_30, q181_31, q181_34, q181_35, q181_38, q181_39, q181_40, q181_41, q181_42, q181_45, q181_46, q181_47, q181_50, q181_51, q181_54, q181_55, q181_58, q181_59, q181_60, q181_61, q181_62, q181_63, q181_64, q181_67, q181_69, q181_72, q181_73, q181_76, q181_78, q181_80, q181_83, q181_84, q181_87, q181_88, q181_89, q181_90, q181_93, q181_94, q181_96, q181_97, q181_98, q181_99, q181_100, q181_101, q181_104, q181_105, q181_106, q181_107, q181_110, q181_111, q181_112, q181_115, q181_117, q181_118, q181_119, q181_120, q181_122, q181_123, q181_125, q181_126, q181_129, q181_130, q181_131, q181_132, q181_134, q181_135, q181_137, q181_138, q181_139, q181_142, q181_144, q181_145, q181_147, q181_148, q181_151, zrk_131, zrk_136, zrk_137, zrk_158, zrk_166, zrk_167, zrk_169, zrk_178, kI_app, kJ_app, kP_app, kV_app, kS_app, kC_app, kN_app, kM_app, zsw_cons, zsw_nil, lv_args_I, lv_args_R, lv_args_L, lv_args_nil, zlook_cons, zrI_some, zrJ_some, zrP_some, zrC_some, zrA_rw, zrAS_rw, zrLen_rw, zst1_nil, zst1_cI, zst1_cR, zst1_cL, zrm1_nil, zrm1_cI, zrm1_cR, zrm1_cL, zst2_nil, zst2_cI, zst2_cR, zst2_cL, zrm2_nil, zrm2_cI, zrm2_cR, zrm2_cL, zkeep_nil, zkeep_cons, zsum_nil, zsum_I, zsum_R, zsum_L, zsum_N, toL_s, toL_n, List.cons_append, List.nil_append, List.mem_cons, List.not_mem_nil, reduceCtorEq, Nat.reduceAdd, Nat.reduceLT, Nat.reduceLeDiff, Nat.reduceEqDiff, Nat.zero_ne_one, Nat.one_ne_zero, Nat.add_zero, Nat.zero_add, or_false, false_or, or_true, true_or, and_true, true_and, and_self, ↓reduceIte, Nat.succ_ne_self, Nat.reduceGT, Nat.reduceSub, Nat.le_refl, Nat.zero_le, zis_O, cl_is, clG_0, clG_1, clG_2, clG_3, clG_4, clG_5, clG_6, clS_6, clG_7, clG_8, clG_9, clS_9, clG_10, clG_11, clS_11, clG_12, clS_12, clG_13, clS_13, clG_14, clS_14, clG_15, clS_15, clG_16, clG_17, clS_17, od_is, odG_0, odG_1, odS_1, odG_2, odG_3, odS_3, odG_4, re_is, reG_0, reS_0, reG_1, reG_2, reG_3, reS_3, reG_4, reS_4, reG_5, reS_5, reG_6, reS_6, wo_is, woG_0, woG_1, woG_2, woS_2, woG_3, lm_is, lmG_0, lmG_1, lmG_2, lmG_3, lmG_4, lmG_5, lmG_6, lmG_7, lmG_8, lmS_8, lmG_9, lmS_9, lmG_10, lmS_10, lmG_11, lmS_11, lmG_12, lmS_12, mo_is, moG_0, moG_1, moG_2, moG_3, moG_4, moG_5, moS_5, moG_6, moS_6, moG_7, moS_7, moG_8, moG_9, moS_9, moG_10, moS_10, moG_11, moS_11, moG_12, moS_12, moG_13, moS_13, moG_14, moG_15, moS_15, moG_16, moG_17, moS_17, moG_18, moG_19, moG_20, i32ne0, i32ne1, i32ne2, i32ne3, i32ne4, i32ne5, i32ne6, i32ne7, i32ne8, i32ne9, i32ne10, j64ne, Int32.reduceAdd, Int32.reduceSub, Int32.reduceMul, Int32.reduceLT, Int32.reduceOfNat, Int32.reduceToNatClampNeg, cU_at, Nat.reduceMul, Nat.reduceMod, catR, catI, cV_self, cU_self, hg0, hg1, hg2, hg3, hg4, hg5, hg6, hg7, hg8, hg9, hg10, hg11, hg12, hg13, hg14, hg15, hg16, hg17, hg18, hg19, hg20, hg21, hg22, hg23, hg24, hg25, hg26, hg27, hg28, hg29, hg30, hg31, hg32, hg33, hg34, hg35, hg36, hg37, hg38, hg39, hg40, hg41, hg42, hg43, hg44, hg45, hg46, hg47, hg48, hg49, hg50, hg51, hg52, hg53, hg54, hg55, hg56, hg57, hg58, hg59, hg60, hg61, hg62, hg63, hg64, hg65, hg66, hg67, hg68, hg69, hg70, hg71, hg72, hg73, hg1001, hg1002, hg1003, hg1000, hg2000, hs0, hs8, hs9, hs10, hs11, hs12, hs13, hs14, hs15, hs16, hs17, hs18, hs19, hs20, hs21, hs22, hs23, hs24, hs25, hs26, hs27, hs29, hs30, hs31, hs32, hs33, hs34, hs35, hs36, hs37, hs38, hs39, hs40, hs41, hs42, hs43, hs44, hs45, hs46, hs47, hs48, hs49, hs50, hs51, hs52, hs53, hs54, hs55, hs56, hs57, hs59, hs60, hs61, hs62, hs63, hs64, hs65, hs66, hs67, hs68, hs69, hs70, hs71, hs72, hs73, hw8, hw18, hw29, hw39, sp_in, i1, z10, if_false, h0, h1, ce, c, if_true, sp_no hq]
      rfl
    · simp only [if_neg c]
      have hK : s 0 1 < s 0 0 := by omega
      obtain ⟨N, hN⟩ : ∃ N : Nat, n.toNat = N := ⟨_, rfl⟩
      have hn6 : N ≤ 6 := by omega
      have en : iZ n = iZ (N : Int) := by rw [← hN, ← i_tn (by omega)]
      rw [hN]
      have lle := lgN_le q.1 (m := s 0 1) (t := s 0 3) (w := s 0 8 - s 0 9) hK
      have cle := q.1.c (i := s 0 2) (by omega)
      have l := sp_lights (ro := ro) (L := L) h.1 q.1 (m := s 0 1) (t := s 0 3) hK (by omega)
      have cn := carryN (ro := ro) h q
      have st1 := sp_strikesAll (ro := ro) (L := L) h.1 q.1 (f := s 0 1 + 1) (t := s 0 3) (r := s 0 2) n2 (by omega) (k := s 0 0 - s 0 1 - 1) (by omega)
      have pw := fun σ => pw100 (ro := ro) (σ := σ) (s 0 0 - s 0 1 - 1) (x := iZ (s 0 0) - 1 - iZ (s 0 1)) (by
        rw [iZ_1, iZ_sub, iZ_sub]
        congr 1
        omega) (by omega)
      have p10 := sp_power (ro := ro) (σ := hp A L) 10 N (by omega)
      have pm := sp_power (ro := ro) (σ := hp A L) (10 - s 0 (12 + s 0 2)) N (by omega)
      have ml := mis_le (s 0 (12 + s 0 2)) N
      have pl := p100_le (k := s 0 0 - s 0 1 - 1) (by omega)
      have pt := p10_le hn6
      have sl := sA_le q.1 (t := s 0 3) n2 (k := s 0 0 - s 0 1 - 1) (f := s 0 1 + 1) (by omega)
      have mm : ∀ x y : Nat, jZ (x : Int) * jZ (y : Int) = jZ ((x * y : Nat) : Int) := fun x y => by rw [jZ_mul, ← Int.natCast_mul]
      have aa : ∀ x y : Nat, jZ (x : Int) + jZ (y : Int) = jZ ((x + y : Nat) : Int) := fun x y => by rw [jZ_add, ← Int.natCast_add]
      have j100 : (100 : Int64) = jZ ((100 : Nat) : Int) := rfl
      have j10 : (10 : Int64) = jZ ((10 : Nat) : Int) := rfl
      have lx : (iZ (lgN (s 0) (s 0 1) (s 0 3) (s 0 8 - s 0 9))).toInt64 = jZ (lgN (s 0) (s 0 1) (s 0 3) (s 0 8 - s 0 9)) := iZ_l (by omega)
      have cx : (iZ (s 0 (12 + s 0 2))).toInt64 = jZ (s 0 (12 + s 0 2)) := iZ_l (by omega)
      have b1 : jZ ((10 : Nat) : Int) - jZ (s 0 (12 + s 0 2)) = jZ ((10 - s 0 (12 + s 0 2) : Nat) : Int) := by
        rw [jZ_sub]
        congr 1
        omega
      have b2 : jZ ((10 : Nat) : Int) - jZ (lgN (s 0) (s 0 1) (s 0 3) (s 0 8 - s 0 9)) = jZ ((10 - lgN (s 0) (s 0 1) (s 0 3) (s 0 8 - s 0 9) : Nat) : Int) := by
        rw [jZ_sub]
        congr 1
        omega
      have b3 : jZ ((10 ^ N : Nat) : Int) - jZ (((10 - s 0 (12 + s 0 2)) ^ N : Nat) : Int) = jZ ((10 ^ N - (10 - s 0 (12 + s 0 2)) ^ N : Nat) : Int) := by
        rw [jZ_sub]
        congr 1
        omega
      have xb : cnN (s 0) N ≤ 10 * 1000000 * 10000000000 + 10 * 10000000000 * 1000000 := by
        have pl5 : 100 ^ (s 0 0 - s 0 1 - 1) ≤ 10000000000 := Nat.pow_le_pow_right (n := 100) (j := 5) (by decide) (by omega)
        unfold cnN
        refine Nat.add_le_add (Nat.mul_le_mul (Nat.mul_le_mul lle (by omega)) pl5) (Nat.mul_le_mul (Nat.mul_le_mul (by omega) (by omega)) pt)
      have yb : cdN (s 0) N ≤ 10 * 1000000 * 10000000000 := by
        have pl5 : 100 ^ (s 0 0 - s 0 1 - 1) ≤ 10000000000 := Nat.pow_le_pow_right (n := 100) (j := 5) (by decide) (by omega)
        exact Nat.mul_le_mul (Nat.mul_le_mul_left _ pt) pl5
      have yp : 0 < cdN (s 0) N := Nat.mul_pos (Nat.mul_pos (by decide) (Nat.pow_pos (by decide))) (Nat.pow_pos (by decide))
      have f := sp_keeps (ro := ro) (A := A) (L := L) (n := cnN (s 0) N) (d := cdN (s 0) N) (by omega) ⟨yp, by omega⟩
      refine ⟨A, _, ?_, (h.fr _ _).cnt0 (by omega), fun k hk => ⟨rfl, frM_n _ _ _ (show k ≠ 62 by omega)⟩⟩
      unfold cnN cdN at f ⊢
      rw [en] at i1
      show rn ro 5 181 0 (lv_args 0 [.ref 62, .int (iZ n)]) [] (hp A L) = _
      rw [en]
      simp only [q181_0, q181_1, q181_2, q181_3, q181_6, q181_9, q181_12, q181_13, q181_16, q181_17, q181_18, q181_21, q181_22, q181_23, q181_24, q181_25, q181_26, q181_29, q181_30, q181_31, q181_34, q181_35, q181_38, q181_39, q181_40, q181_41, q181_42, q181_45, q181_46, q181_47, q181_50, q181_51, q181_54, q181_55, q181_58, q181_59, q181_60, q181_61, q181_62, q181_63, q181_64, q181_67, q181_69, q181_72, q181_73, q181_76, q181_78, q181_80, q181_83, q181_84, q181_87, q181_88, q181_89, q181_90, q181_93, q181_94, q181_96, q181_97, q181_98, q181_99, q181_100, q181_101, q181_104, q181_105, q181_106, q181_107, q181_110, q181_111, q181_112, q181_115, q181_117, q181_118, q181_119, q181_120, q181_122, q181_123, q181_125, q181_126, q181_129, q181_130, q181_131, q181_132, q181_134, q181_135, q181_137, q181_138, q181_139, q181_142, q181_144, q181_145, q181_147, q181_148, q181_151, zrk_131, zrk_136, zrk_137, zrk_158, zrk_166, zrk_167, zrk_169, zrk_178, kI_app, kJ_app, kP_app, kV_app, kS_app, kC_app, kN_app, kM_app, zsw_cons, zsw_nil, lv_args_I, lv_args_R, lv_args_L, lv_args_nil, zlook_cons, zrI_some, zrJ_some, zrP_some, zrC_some, zrA_rw, zrAS_rw, zrLen_rw, zst1_nil, zst1_cI, zst1_cR, zst1_cL, zrm1_nil, zrm1_cI, zrm1_cR, zrm1_cL, zst2_nil, zst2_cI, zst2_cR, zst2_cL, zrm2_nil, zrm2_cI, zrm2_cR, zrm2_cL, zkeep_nil, zkeep_cons, zsum_nil, zsum_I, zsum_R, zsum_L, zsum_N, toL_s, toL_n, List.cons_append, List.nil_append, List.mem_cons, List.not_mem_nil, reduceCtorEq, Nat.reduceAdd, Nat.reduceLT, Nat.reduceLeDiff, Nat.reduceEqDiff, Nat.zero_ne_one, Nat.one_ne_zero, Nat.add_zero, Nat.zero_add, or_false, false_or, or_true, true_or, and_true, true_and, and_self, ↓reduceIte, Nat.succ_ne_self, Nat.reduceGT, Nat.reduceSub, Nat.le_refl, Nat.zero_le, zis_O, cl_is, clG_0, clG_1, clG_2, clG_3, clG_4, clG_5, clG_6, clS_6, clG_7, clG_8, clG_9, clS_9, clG_10, clG_11, clS_11, clG_12, clS_12, clG_13, clS_13, clG_14, clS_14, clG_15, clS_15, clG_16, clG_17, clS_17, od_is, odG_0, odG_1, odS_1, odG_2, odG_3, odS_3, odG_4, re_is, reG_0, reS_0, reG_1, reG_2, reG_3, reS_3, reG_4, reS_4, reG_5, reS_5, reG_6, reS_6, wo_is, woG_0, woG_1, woG_2, woS_2, woG_3, lm_is, lmG_0, lmG_1, lmG_2, lmG_3, lmG_4, lmG_5, lmG_6, lmG_7, lmG_8, lmS_8, lmG_9, lmS_9, lmG_10, lmS_10, lmG_11, lmS_11, lmG_12, lmS_12, mo_is, moG_0, moG_1, moG_2, moG_3, moG_4, moG_5, moS_5, moG_6, moS_6, moG_7, moS_7, moG_8, moG_9, moS_9, moG_10, moS_10, moG_11, moS_11, moG_12, moS_12, moG_13, moS_13, moG_14, moG_15, moS_15, moG_16, moG_17, moS_17, moG_18, moG_19, moG_20, i32ne0, i32ne1, i32ne2, i32ne3, i32ne4, i32ne5, i32ne6, i32ne7, i32ne8, i32ne9, i32ne10, j64ne, Int32.reduceAdd, Int32.reduceSub, Int32.reduceMul, Int32.reduceLT, Int32.reduceOfNat, Int32.reduceToNatClampNeg, cU_at, Nat.reduceMul, Nat.reduceMod, catR, catI, cV_self, cU_self, hg0, hg1, hg2, hg3, hg4, hg5, hg6, hg7, hg8, hg9, hg10, hg11, hg12, hg13, hg14, hg15, hg16, hg17, hg18, hg19, hg20, hg21, hg22, hg23, hg24, hg25, hg26, hg27, hg28, hg29, hg30, hg31, hg32, hg33, hg34, hg35, hg36, hg37, hg38, hg39, hg40, hg41, hg42, hg43, hg44, hg45, hg46, hg47, hg48, hg49, hg50, hg51, hg52, hg53, hg54, hg55, hg56, hg57, hg58, hg59, hg60, hg61, hg62, hg63, hg64, hg65, hg66, hg67, hg68, hg69, hg70, hg71, hg72, hg73, hg1001, hg1002, hg1003, hg1000, hg2000, hs0, hs8, hs9, hs10, hs11, hs12, hs13, hs14, hs15, hs16, hs17, hs18, hs19, hs20, hs21, hs22, hs23, hs24, hs25, hs26, hs27, hs29, hs30, hs31, hs32, hs33, hs34, hs35, hs36, hs37, hs38, hs39, hs40, hs41, hs42, hs43, hs44, hs45, hs46, hs47, hs48, hs49, hs50, hs51, hs52, hs53, hs54, hs55, hs56, hs57, hs59, hs60, hs61, hs62, hs63, hs64, hs65, hs66, hs67, hs68, hs69, hs70, hs71, hs72, hs73, hw8, hw18, hw29, hw39, sp_in, i1, z10, if_false, h0, h1, h2, h3, ce, c, iZ_suc, st1, pw, p10, pm, l, cn, j100, j10, lx, cx, b1, b2, b3, mm, aa, f]
      first | done | rfl
  · rw [if_neg d] at i1
    simp only [if_neg d]
    refine ⟨_, L, ?_, h.ref (i := 0) (by decide) rfl, fun k hk => ⟨refA_n _ _ (by omega), rfl⟩⟩
    show rn ro 5 181 0 (lv_args 0 [.ref 62, .int (iZ n)]) [] (hp A L) = _
    simp only [q181_0, q181_1, q181_2, q181_3, q181_6, q181_9, q181_12, q181_13, q181_16, q181_17, q181_18, q181_21, q181_22, q181_23, q181_24, q181_25, q181_26, q181_29, q181_30, q181_31, q181_34, q181_35, q181_38, q181_39, q181_40, q181_41, q181_42, q181_45, q181_46, q181_47, q181_50, q181_51, q181_54, q181_55, q181_58, q181_59, q181_60, q181_61, q181_62, q181_63, q181_64, q181_67, q181_69, q181_72, q181_73, q181_76, q181_78, q181_80, q181_83, q181_84, q181_87, q181_88, q181_89, q181_90, q181_93, q181_94, q181_96, q181_97, q181_98, q181_99, q181_100, q181_101, q181_104, q181_105, q181_106, q181_107, q181_110, q181_111, q181_112, q181_115, q181_117, q181_118, q181_119, q181_120, q181_122, q181_123, q181_125, q181_126, q181_129, q181_130, q181_131, q181_132, q181_134, q181_135, q181_137, q181_138, q181_139, q181_142, q181_144, q181_145, q181_147, q181_148, q181_151, zrk_131, zrk_136, zrk_137, zrk_158, zrk_166, zrk_167, zrk_169, zrk_178, kI_app, kJ_app, kP_app, kV_app, kS_app, kC_app, kN_app, kM_app, zsw_cons, zsw_nil, lv_args_I, lv_args_R, lv_args_L, lv_args_nil, zlook_cons, zrI_some, zrJ_some, zrP_some, zrC_some, zrA_rw, zrAS_rw, zrLen_rw, zst1_nil, zst1_cI, zst1_cR, zst1_cL, zrm1_nil, zrm1_cI, zrm1_cR, zrm1_cL, zst2_nil, zst2_cI, zst2_cR, zst2_cL, zrm2_nil, zrm2_cI, zrm2_cR, zrm2_cL, zkeep_nil, zkeep_cons, zsum_nil, zsum_I, zsum_R, zsum_L, zsum_N, toL_s, toL_n, List.cons_append, List.nil_append, List.mem_cons, List.not_mem_nil, reduceCtorEq, Nat.reduceAdd, Nat.reduceLT, Nat.reduceLeDiff, Nat.reduceEqDiff, Nat.zero_ne_one, Nat.one_ne_zero, Nat.add_zero, Nat.zero_add, or_false, false_or, or_true, true_or, and_true, true_and, and_self, ↓reduceIte, Nat.succ_ne_self, Nat.reduceGT, Nat.reduceSub, Nat.le_refl, Nat.zero_le, zis_O, cl_is, clG_0, clG_1, clG_2, clG_3, clG_4, clG_5, clG_6, clS_6, clG_7, clG_8, clG_9, clS_9, clG_10, clG_11, clS_11, clG_12, clS_12, clG_13, clS_13, clG_14, clS_14, clG_15, clS_15, clG_16, clG_17, clS_17, od_is, odG_0, odG_1, odS_1, odG_2, odG_3, odS_3, odG_4, re_is, reG_0, reS_0, reG_1, reG_2, reG_3, reS_3, reG_4, reS_4, reG_5, reS_5, reG_6, reS_6, wo_is, woG_0, woG_1, woG_2, woS_2, woG_3, lm_is, lmG_0, lmG_1, lmG_2, lmG_3, lmG_4, lmG_5, lmG_6, lmG_7, lmG_8, lmS_8, lmG_9, lmS_9, lmG_10, lmS_10, lmG_11, lmS_11, lmG_12, lmS_12, mo_is, moG_0, moG_1, moG_2, moG_3, moG_4, moG_5, moS_5, moG_6, moS_6, moG_7, moS_7, moG_8, moG_9, moS_9, moG_10, moS_10, moG_11, moS_11, moG_12, moS_12, moG_13, moS_13, moG_14, moG_15, moS_15, moG_16, moG_17, moS_17, moG_18, moG_19, moG_20, i32ne0, i32ne1, i32ne2, i32ne3, i32ne4, i32ne5, i32ne6, i32ne7, i32ne8, i32ne9, i32ne10, j64ne, Int32.reduceAdd, Int32.reduceSub, Int32.reduceMul, Int32.reduceLT, Int32.reduceOfNat, Int32.reduceToNatClampNeg, cU_at, Nat.reduceMul, Nat.reduceMod, catR, catI, cV_self, cU_self, hg0, hg1, hg2, hg3, hg4, hg5, hg6, hg7, hg8, hg9, hg10, hg11, hg12, hg13, hg14, hg15, hg16, hg17, hg18, hg19, hg20, hg21, hg22, hg23, hg24, hg25, hg26, hg27, hg28, hg29, hg30, hg31, hg32, hg33, hg34, hg35, hg36, hg37, hg38, hg39, hg40, hg41, hg42, hg43, hg44, hg45, hg46, hg47, hg48, hg49, hg50, hg51, hg52, hg53, hg54, hg55, hg56, hg57, hg58, hg59, hg60, hg61, hg62, hg63, hg64, hg65, hg66, hg67, hg68, hg69, hg70, hg71, hg72, hg73, hg1001, hg1002, hg1003, hg1000, hg2000, hs0, hs8, hs9, hs10, hs11, hs12, hs13, hs14, hs15, hs16, hs17, hs18, hs19, hs20, hs21, hs22, hs23, hs24, hs25, hs26, hs27, hs29, hs30, hs31, hs32, hs33, hs34, hs35, hs36, hs37, hs38, hs39, hs40, hs41, hs42, hs43, hs44, hs45, hs46, hs47, hs48, hs49, hs50, hs51, hs52, hs53, hs54, hs55, hs56, hs57, hs59, hs60, hs61, hs62, hs63, hs64, hs65, hs66, hs67, hs68, hs69, hs70, hs71, hs72, hs73, hw8, hw18, hw29, hw39, sp_in, i1, sp_bad hq]
    rfl
end CAN
