/-! FRACTIONS, reduced -/
theorem cV_cV (L : Nat → Nat → Int64) (k : Nat) (V W : Nat → Int64) : cV (cV L k V) k W = cV L k W := by
  funext j
  unfold cV
  split <;> rfl
theorem jZ_0 : (0 : Int64) = jZ 0 := rfl
theorem jZ_remN {x y : Nat} (hx : x < 9223372036854775808) (hy : 0 < y ∧ y < 9223372036854775808) : jZ x - jZ x / jZ y * jZ y = jZ ((x % y : Nat) : Int) := by
  rw [jZ_rem (by omega)]
  congr 1
theorem jZ_divN {x y : Nat} (hx : x < 9223372036854775808) (hy : 0 < y ∧ y < 9223372036854775808) : jZ x / jZ y = jZ ((x / y : Nat) : Int) := by
  rw [jZ_div (by omega)]
  congr 1
theorem gcd_st (x y : Nat) : Nat.gcd x y = Nat.gcd y (x % y) := by
  rw [Nat.gcd_comm x y, Nat.gcd_rec y x, Nat.gcd_comm]
theorem red_eq {x y z w : Nat} (h : x * w = z * y) (hy : 0 < y) (hw : 0 < w) : x / Nat.gcd x y = z / Nat.gcd z w ∧ y / Nat.gcd x y = w / Nat.gcd z w := by
  have g1 : 0 < Nat.gcd x y := Nat.gcd_pos_of_pos_right _ hy
  have g2 : 0 < Nat.gcd z w := Nat.gcd_pos_of_pos_right _ hw
  obtain ⟨x', y', c1, hx', hy'⟩ : ∃ x' y', Nat.Coprime x' y' ∧ x = x' * Nat.gcd x y ∧ y = y' * Nat.gcd x y := ⟨x / Nat.gcd x y, y / Nat.gcd x y, Nat.coprime_div_gcd_div_gcd g1, (Nat.div_mul_cancel (Nat.gcd_dvd_left x y)).symm, (Nat.div_mul_cancel (Nat.gcd_dvd_right x y)).symm⟩
  obtain ⟨z', w', c2, hz', hw'⟩ : ∃ z' w', Nat.Coprime z' w' ∧ z = z' * Nat.gcd z w ∧ w = w' * Nat.gcd z w := ⟨z / Nat.gcd z w, w / Nat.gcd z w, Nat.coprime_div_gcd_div_gcd g2, (Nat.div_mul_cancel (Nat.gcd_dvd_left z w)).symm, (Nat.div_mul_cancel (Nat.gcd_dvd_right z w)).symm⟩
  have e1 : x / Nat.gcd x y = x' := Nat.div_eq_of_eq_mul_left g1 hx'
  have e2 : y / Nat.gcd x y = y' := Nat.div_eq_of_eq_mul_left g1 hy'
  have e3 : z / Nat.gcd z w = z' := Nat.div_eq_of_eq_mul_left g2 hz'
  have e4 : w / Nat.gcd z w = w' := Nat.div_eq_of_eq_mul_left g2 hw'
  rw [e1, e2, e3, e4]
  generalize Nat.gcd x y = G at *
  generalize Nat.gcd z w = H at *
  have k : x' * w' = z' * y' := by
    have h2 : (x' * w') * (G * H) = (z' * y') * (G * H) := by
      calc (x' * w') * (G * H) = (x' * G) * (w' * H) := by simp only [Nat.mul_assoc, Nat.mul_comm, Nat.mul_left_comm]
        _ = (z' * H) * (y' * G) := by rw [← hx', ← hw', ← hz', ← hy', h]
        _ = (z' * y') * (G * H) := by simp only [Nat.mul_assoc, Nat.mul_comm, Nat.mul_left_comm]
    exact Nat.eq_of_mul_eq_mul_right (Nat.mul_pos g1 g2) h2
  have y0 : 0 < y' := by
    rcases Nat.eq_zero_or_pos y' with q | q
    · subst q
      rw [Nat.zero_mul] at hy'
      omega
    · exact q
  have d1 : y' ∣ w' := by
    refine Nat.Coprime.dvd_of_dvd_mul_left (m := x') c1.symm ?_
    rw [k]
    exact Nat.dvd_mul_left y' z'
  have d2 : w' ∣ y' := by
    refine Nat.Coprime.dvd_of_dvd_mul_left (m := z') c2.symm ?_
    rw [← k]
    exact Nat.dvd_mul_left w' x'
  have e : y' = w' := Nat.dvd_antisymm d1 d2
  subst e
  exact ⟨Nat.eq_of_mul_eq_mul_right y0 k, rfl⟩
section FRA
variable {ro : zR} {σ : zW}
theorem g125 {x y i : Nat} (hx : x < 9223372036854775808) (hy : 0 < y ∧ y < 9223372036854775808) (hi : i < 200) : rn ro 1 125 9 [(4, .long (jZ x)), (6, .long (jZ y)), (8, .int (iZ i))] [] σ = rn ro 1 125 9 [(4, .long (jZ y)), (6, .long (jZ ((x % y : Nat) : Int))), (8, .int (iZ ((i + 1 : Nat) : Int)))] [] σ := by
  have e : iZ i < 200 := by
    rw [i_ltk 200 200 rfl (by omega) (by omega)]
    omega
  have e2 : ¬ jZ y = 0 := by
    rw [jZ_0, jZ_eq (by omega)]
    omega
  rw [q125_9]
  simp only [q125_0, q125_1, q125_3, q125_4, q125_6, q125_7, q125_11, q125_14, q125_17, q125_19, q125_20, q125_21, q125_24, q125_26, q125_28, q125_29, q125_31, q125_33, q125_35, q125_37, q125_39, q125_42, q125_45, q125_47, kI_app, kJ_app, kP_app, kV_app, kS_app, kC_app, kN_app, kM_app, zsw_cons, zsw_nil, lv_args_I, lv_args_R, lv_args_L, lv_args_nil, zlook_cons, zrI_some, zrJ_some, zrP_some, zrC_some, zrA_rw, zrAS_rw, zrLen_rw, zst1_nil, zst1_cI, zst1_cR, zst1_cL, zrm1_nil, zrm1_cI, zrm1_cR, zrm1_cL, zst2_nil, zst2_cI, zst2_cR, zst2_cL, zrm2_nil, zrm2_cI, zrm2_cR, zrm2_cL, zkeep_nil, zkeep_cons, zsum_nil, zsum_I, zsum_R, zsum_L, zsum_N, toL_s, toL_n, List.cons_append, List.nil_append, List.mem_cons, List.not_mem_nil, reduceCtorEq, Nat.reduceAdd, Nat.reduceLT, Nat.reduceLeDiff, Nat.reduceEqDiff, Nat.zero_ne_one, Nat.one_ne_zero, Nat.add_zero, Nat.zero_add, or_false, false_or, or_true, true_or, and_true, true_and, and_self, ↓reduceIte, Nat.succ_ne_self, Nat.reduceGT, Nat.reduceSub, Nat.le_refl, Nat.zero_le, zis_O, cl_is, clG_0, clG_1, clG_2, clG_3, clG_4, clG_5, clG_6, clS_6, clG_7, clG_8, clG_9, clS_9, clG_10, clG_11, clS_11, clG_12, clS_12, clG_13, clS_13, clG_14, clS_14, clG_15, clS_15, clG_16, clG_17, clS_17, od_is, odG_0, odG_1, odS_1, odG_2, odG_3, odS_3, odG_4, re_is, reG_0, reS_0, reG_1, reG_2, reG_3, reS_3, reG_4, reS_4, reG_5, reS_5, reG_6, reS_6, wo_is, woG_0, woG_1, woG_2, woS_2, woG_3, lm_is, lmG_0, lmG_1, lmG_2, lmG_3, lmG_4, lmG_5, lmG_6, lmG_7, lmG_8, lmS_8, lmG_9, lmS_9, lmG_10, lmS_10, lmG_11, lmS_11, lmG_12, lmS_12, mo_is, moG_0, moG_1, moG_2, moG_3, moG_4, moG_5, moS_5, moG_6, moS_6, moG_7, moS_7, moG_8, moG_9, moS_9, moG_10, moS_10, moG_11, moS_11, moG_12, moS_12, moG_13, moS_13, moG_14, moG_15, moS_15, moG_16, moG_17, moS_17, moG_18, moG_19, moG_20, i32ne0, i32ne1, i32ne2, i32ne3, i32ne4, i32ne5, i32ne6, i32ne7, i32ne8, i32ne9, i32ne10, j64ne, Int32.reduceAdd, Int32.reduceSub, Int32.reduceMul, Int32.reduceLT, Int32.reduceOfNat, Int32.reduceToNatClampNeg, cU_at, Nat.reduceMul, Nat.reduceMod, e, lg_cmp_0, e2, jZ_remN hx hy, iZ_suc, if_false]
theorem g125z {x i : Nat} (hi : i < 200) : rn ro 1 125 9 [(4, .long (jZ x)), (6, .long (jZ ((0 : Nat) : Int))), (8, .int (iZ i))] [] σ = some (some (.long (jZ x)), σ) := by
  have e : iZ i < 200 := by
    rw [i_ltk 200 200 rfl (by omega) (by omega)]
    omega
  have e2 : jZ ((0 : Nat) : Int) = 0 := rfl
  rw [q125_9]
  simp only [q125_0, q125_1, q125_3, q125_4, q125_6, q125_7, q125_11, q125_14, q125_17, q125_19, q125_20, q125_21, q125_24, q125_26, q125_28, q125_29, q125_31, q125_33, q125_35, q125_37, q125_39, q125_42, q125_45, q125_47, kI_app, kJ_app, kP_app, kV_app, kS_app, kC_app, kN_app, kM_app, zsw_cons, zsw_nil, lv_args_I, lv_args_R, lv_args_L, lv_args_nil, zlook_cons, zrI_some, zrJ_some, zrP_some, zrC_some, zrA_rw, zrAS_rw, zrLen_rw, zst1_nil, zst1_cI, zst1_cR, zst1_cL, zrm1_nil, zrm1_cI, zrm1_cR, zrm1_cL, zst2_nil, zst2_cI, zst2_cR, zst2_cL, zrm2_nil, zrm2_cI, zrm2_cR, zrm2_cL, zkeep_nil, zkeep_cons, zsum_nil, zsum_I, zsum_R, zsum_L, zsum_N, toL_s, toL_n, List.cons_append, List.nil_append, List.mem_cons, List.not_mem_nil, reduceCtorEq, Nat.reduceAdd, Nat.reduceLT, Nat.reduceLeDiff, Nat.reduceEqDiff, Nat.zero_ne_one, Nat.one_ne_zero, Nat.add_zero, Nat.zero_add, or_false, false_or, or_true, true_or, and_true, true_and, and_self, ↓reduceIte, Nat.succ_ne_self, Nat.reduceGT, Nat.reduceSub, Nat.le_refl, Nat.zero_le, zis_O, cl_is, clG_0, clG_1, clG_2, clG_3, clG_4, clG_5, clG_6, clS_6, clG_7, clG_8, clG_9, clS_9, clG_10, clG_11, clS_11, clG_12, clS_12, clG_13, clS_13, clG_14, clS_14, clG_15, clS_15, clG_16, clG_17, clS_17, od_is, odG_0, odG_1, odS_1, odG_2, odG_3, odS_3, odG_4, re_is, reG_0, reS_0, reG_1, reG_2, reG_3, reS_3, reG_4, reS_4, reG_5, reS_5, reG_6, reS_6, wo_is, woG_0, woG_1, woG_2, woS_2, woG_3, lm_is, lmG_0, lmG_1, lmG_2, lmG_3, lmG_4, lmG_5, lmG_6, lmG_7, lmG_8, lmS_8, lmG_9, lmS_9, lmG_10, lmS_10, lmG_11, lmS_11, lmG_12, lmS_12, mo_is, moG_0, moG_1, moG_2, moG_3, moG_4, moG_5, moS_5, moG_6, moS_6, moG_7, moS_7, moG_8, moG_9, moS_9, moG_10, moS_10, moG_11, moS_11, moG_12, moS_12, moG_13, moS_13, moG_14, moG_15, moS_15, moG_16, moG_17, moS_17, moG_18, moG_19, moG_20, i32ne0, i32ne1, i32ne2, i32ne3, i32ne4, i32ne5, i32ne6, i32ne7, i32ne8, i32ne9, i32ne10, j64ne, Int32.reduceAdd, Int32.reduceSub, Int32.reduceMul, Int32.reduceLT, Int32.reduceOfNat, Int32.reduceToNatClampNeg, cU_at, Nat.reduceMul, Nat.reduceMod, e, lg_cmp_0, e2]
theorem g125l : ∀ k x y i : Nat, y < 2 ^ k → k ≤ 62 → i + 2 * k + 1 ≤ 199 → x < 9223372036854775808 → rn ro 1 125 9 [(4, .long (jZ x)), (6, .long (jZ y)), (8, .int (iZ i))] [] σ = some (some (.long (jZ ((Nat.gcd x y : Nat) : Int))), σ) := by
  intro k
  induction k with
  | zero =>
    intro x y i hy _ hi hx
    have e : y = 0 := by
      have : y < 1 := hy
      omega
    subst e
    rw [Nat.gcd_zero_right]
    exact g125z (by omega)
  | succ k ih =>
    intro x y i hy hk hi hx
    have p62 : 2 ^ (k + 1) ≤ 2 ^ 62 := Nat.pow_le_pow_right (by decide) hk
    have p : 2 ^ (k + 1) = 2 * 2 ^ k := by rw [Nat.pow_succ, Nat.mul_comm]
    rcases Nat.eq_zero_or_pos y with q | q
    · subst q
      rw [Nat.gcd_zero_right]
      exact g125z (by omega)
    · rw [g125 hx ⟨q, by omega⟩ (by omega), gcd_st x y]
      have hr := Nat.mod_lt x q
      rcases Nat.eq_zero_or_pos (x % y) with q2 | q2
      · rw [q2, Nat.gcd_zero_right]
        exact g125z (by omega)
      · rw [g125 (by omega) ⟨q2, by omega⟩ (by omega), gcd_st y (x % y)]
        have hr2 := Nat.mod_lt y q2
        have hh : y % (x % y) < 2 ^ k := by
          have ha := Nat.div_add_mod y (x % y)
          have hb : 1 ≤ y / (x % y) := Nat.div_pos (by omega) q2
          have hc : x % y ≤ (x % y) * (y / (x % y)) := Nat.le_mul_of_pos_right _ hb
          omega
        exact ih (x % y) (y % (x % y)) (i + 1 + 1) hh (by omega) (by omega) (by omega)
theorem sp_125 {x y : Nat} (hx : x < 9223372036854775808) (hy : y < 4611686018427387904) : rm ro 125 [.long (jZ x), .long (jZ y)] σ = some (some (.long (jZ ((Nat.gcd x y : Nat) : Int))), σ) := by
  have e := g125l (ro := ro) (σ := σ) 62 x y 0 hy (by decide) (by decide) hx
  show rn ro 1 125 0 (lv_args 0 [.long (jZ x), .long (jZ y)]) [] σ = _
  simp only [q125_0, q125_1, q125_3, q125_4, q125_6, q125_7, q125_11, q125_14, q125_17, q125_19, q125_20, q125_21, q125_24, q125_26, q125_28, q125_29, q125_31, q125_33, q125_35, q125_37, q125_39, q125_42, q125_45, q125_47, kI_app, kJ_app, kP_app, kV_app, kS_app, kC_app, kN_app, kM_app, zsw_cons, zsw_nil, lv_args_I, lv_args_R, lv_args_L, lv_args_nil, zlook_cons, zrI_some, zrJ_some, zrP_some, zrC_some, zrA_rw, zrAS_rw, zrLen_rw, zst1_nil, zst1_cI, zst1_cR, zst1_cL, zrm1_nil, zrm1_cI, zrm1_cR, zrm1_cL, zst2_nil, zst2_cI, zst2_cR, zst2_cL, zrm2_nil, zrm2_cI, zrm2_cR, zrm2_cL, zkeep_nil, zkeep_cons, zsum_nil, zsum_I, zsum_R, zsum_L, zsum_N, toL_s, toL_n, List.cons_append, List.nil_append, List.mem_cons, List.not_mem_nil, reduceCtorEq, Nat.reduceAdd, Nat.reduceLT, Nat.reduceLeDiff, Nat.reduceEqDiff, Nat.zero_ne_one, Nat.one_ne_zero, Nat.add_zero, Nat.zero_add, or_false, false_or, or_true, true_or, and_true, true_and, and_self, ↓reduceIte, Nat.succ_ne_self, Nat.reduceGT, Nat.reduceSub, Nat.le_refl, Nat.zero_le, zis_O, cl_is, clG_0, clG_1, clG_2, clG_3, clG_4, clG_5, clG_6, clS_6, clG_7, clG_8, clG_9, clS_9, clG_10, clG_11, clS_11, clG_12, clS_12, clG_13, clS_13, clG_14, clS_14, clG_15, clS_15, clG_16, clG_17, clS_17, od_is, odG_0, odG_1, odS_1, odG_2, odG_3, odS_3, odG_4, re_is, reG_0, reS_0, reG_1, reG_2, reG_3, reS_3, reG_4, reS_4, reG_5, reS_5, reG_6, reS_6, wo_is, woG_0, woG_1, woG_2, woS_2, woG_3, lm_is, lmG_0, lmG_1, lmG_2, lmG_3, lmG_4, lmG_5, lmG_6, lmG_7, lmG_8, lmS_8, lmG_9, lmS_9, lmG_10, lmS_10, lmG_11, lmS_11, lmG_12, lmS_12, mo_is, moG_0, moG_1, moG_2, moG_3, moG_4, moG_5, moS_5, moG_6, moS_6, moG_7, moS_7, moG_8, moG_9, moS_9, moG_10, moS_10, moG_11, moS_11, moG_12, moS_12, moG_13, moS_13, moG_14, moG_15, moS_15, moG_16, moG_17, moS_17, moG_18, moG_19, moG_20, i32ne0, i32ne1, i32ne2, i32ne3, i32ne4, i32ne5, i32ne6, i32ne7, i32ne8, i32ne9, i32ne10, j64ne, Int32.reduceAdd, Int32.reduceSub, Int32.reduceMul, Int32.reduceLT, Int32.reduceOfNat, Int32.reduceToNatClampNeg, cU_at, Nat.reduceMul, Nat.reduceMod]
  exact e
theorem sp_165 : ∀ y x : Nat, y < 9223372036854775808 → x < 9223372036854775808 → rn ro 1 165 6 [(4, .long (jZ x)), (6, .long (jZ y))] [] σ = some (some (.long (jZ ((Nat.gcd x y : Nat) : Int))), σ) := by
  intro y
  induction y using Nat.strongRecOn with
  | ind y ih =>
    intro x hy hx
    rcases Nat.eq_zero_or_pos y with q | q
    · subst q
      have e2 : jZ ((0 : Nat) : Int) = 0 := rfl
      rw [Nat.gcd_zero_right, q165_6]
      simp only [q165_0, q165_1, q165_3, q165_4, q165_8, q165_9, q165_10, q165_13, q165_15, q165_17, q165_18, q165_20, q165_22, q165_24, q165_26, q165_28, q165_31, q165_33, kI_app, kJ_app, kP_app, kV_app, kS_app, kC_app, kN_app, kM_app, zsw_cons, zsw_nil, lv_args_I, lv_args_R, lv_args_L, lv_args_nil, zlook_cons, zrI_some, zrJ_some, zrP_some, zrC_some, zrA_rw, zrAS_rw, zrLen_rw, zst1_nil, zst1_cI, zst1_cR, zst1_cL, zrm1_nil, zrm1_cI, zrm1_cR, zrm1_cL, zst2_nil, zst2_cI, zst2_cR, zst2_cL, zrm2_nil, zrm2_cI, zrm2_cR, zrm2_cL, zkeep_nil, zkeep_cons, zsum_nil, zsum_I, zsum_R, zsum_L, zsum_N, toL_s, toL_n, List.cons_append, List.nil_append, List.mem_cons, List.not_mem_nil, reduceCtorEq, Nat.reduceAdd, Nat.reduceLT, Nat.reduceLeDiff, Nat.reduceEqDiff, Nat.zero_ne_one, Nat.one_ne_zero, Nat.add_zero, Nat.zero_add, or_false, false_or, or_true, true_or, and_true, true_and, and_self, ↓reduceIte, Nat.succ_ne_self, Nat.reduceGT, Nat.reduceSub, Nat.le_refl, Nat.zero_le, zis_O, cl_is, clG_0, clG_1, clG_2, clG_3, clG_4, clG_5, clG_6, clS_6, clG_7, clG_8, clG_9, clS_9, clG_10, clG_11, clS_11, clG_12, clS_12, clG_13, clS_13, clG_14, clS_14, clG_15, clS_15, clG_16, clG_17, clS_17, od_is, odG_0, odG_1, odS_1, odG_2, odG_3, odS_3, odG_4, re_is, reG_0, reS_0, reG_1, reG_2, reG_3, reS_3, reG_4, reS_4, reG_5, reS_5, reG_6, reS_6, wo_is, woG_0, woG_1, woG_2, woS_2, woG_3, lm_is, lmG_0, lmG_1, lmG_2, lmG_3, lmG_4, lmG_5, lmG_6, lmG_7, lmG_8, lmS_8, lmG_9, lmS_9, lmG_10, lmS_10, lmG_11, lmS_11, lmG_12, lmS_12, mo_is, moG_0, moG_1, moG_2, moG_3, moG_4, moG_5, moS_5, moG_6, moS_6, moG_7, moS_7, moG_8, moG_9, moS_9, moG_10, moS_10, moG_11, moS_11, moG_12, moS_12, moG_13, moS_13, moG_14, moG_15, moS_15, moG_16, moG_17, moS_17, moG_18, moG_19, moG_20, i32ne0, i32ne1, i32ne2, i32ne3, i32ne4, i32ne5, i32ne6, i32ne7, i32ne8, i32ne9, i32ne10, j64ne, Int32.reduceAdd, Int32.reduceSub, Int32.reduceMul, Int32.reduceLT, Int32.reduceOfNat, Int32.reduceToNatClampNeg, cU_at, Nat.reduceMul, Nat.reduceMod, lg_cmp_0, e2]
    · have e2 : ¬ jZ y = 0 := by
        rw [jZ_0, jZ_eq (by omega)]
        omega
      have hr := Nat.mod_lt x q
      rw [gcd_st x y, ← ih (x % y) hr y (by omega) hy, q165_6]
      simp only [q165_0, q165_1, q165_3, q165_4, q165_8, q165_9, q165_10, q165_13, q165_15, q165_17, q165_18, q165_20, q165_22, q165_24, q165_26, q165_28, q165_31, q165_33, kI_app, kJ_app, kP_app, kV_app, kS_app, kC_app, kN_app, kM_app, zsw_cons, zsw_nil, lv_args_I, lv_args_R, lv_args_L, lv_args_nil, zlook_cons, zrI_some, zrJ_some, zrP_some, zrC_some, zrA_rw, zrAS_rw, zrLen_rw, zst1_nil, zst1_cI, zst1_cR, zst1_cL, zrm1_nil, zrm1_cI, zrm1_cR, zrm1_cL, zst2_nil, zst2_cI, zst2_cR, zst2_cL, zrm2_nil, zrm2_cI, zrm2_cR, zrm2_cL, zkeep_nil, zkeep_cons, zsum_nil, zsum_I, zsum_R, zsum_L, zsum_N, toL_s, toL_n, List.cons_append, List.nil_append, List.mem_cons, List.not_mem_nil, reduceCtorEq, Nat.reduceAdd, Nat.reduceLT, Nat.reduceLeDiff, Nat.reduceEqDiff, Nat.zero_ne_one, Nat.one_ne_zero, Nat.add_zero, Nat.zero_add, or_false, false_or, or_true, true_or, and_true, true_and, and_self, ↓reduceIte, Nat.succ_ne_self, Nat.reduceGT, Nat.reduceSub, Nat.le_refl, Nat.zero_le, zis_O, cl_is, clG_0, clG_1, clG_2, clG_3, clG_4, clG_5, clG_6, clS_6, clG_7, clG_8, clG_9, clS_9, clG_10, clG_11, clS_11, clG_12, clS_12, clG_13, clS_13, clG_14, clS_14, clG_15, clS_15, clG_16, clG_17, clS_17, od_is, odG_0, odG_1, odS_1, odG_2, odG_3, odS_3, odG_4, re_is, reG_0, reS_0, reG_1, reG_2, reG_3, reS_3, reG_4, reS_4, reG_5, reS_5, reG_6, reS_6, wo_is, woG_0, woG_1, woG_2, woS_2, woG_3, lm_is, lmG_0, lmG_1, lmG_2, lmG_3, lmG_4, lmG_5, lmG_6, lmG_7, lmG_8, lmS_8, lmG_9, lmS_9, lmG_10, lmS_10, lmG_11, lmS_11, lmG_12, lmS_12, mo_is, moG_0, moG_1, moG_2, moG_3, moG_4, moG_5, moS_5, moG_6, moS_6, moG_7, moS_7, moG_8, moG_9, moS_9, moG_10, moS_10, moG_11, moS_11, moG_12, moS_12, moG_13, moS_13, moG_14, moG_15, moS_15, moG_16, moG_17, moS_17, moG_18, moG_19, moG_20, i32ne0, i32ne1, i32ne2, i32ne3, i32ne4, i32ne5, i32ne6, i32ne7, i32ne8, i32ne9, i32ne10, j64ne, Int32.reduceAdd, Int32.reduceSub, Int32.reduceMul, Int32.reduceLT, Int32.reduceOfNat, Int32.reduceToNatClampNeg, cU_at, Nat.reduceMul, Nat.reduceMod, lg_cmp_0, e2, jZ_remN hx ⟨q, hy⟩, if_false]
theorem sp_div {x y : Nat} (hx : x < 9223372036854775808) (hy : y < 9223372036854775808) : rm ro 165 [.long (jZ x), .long (jZ y)] σ = some (some (.long (jZ ((Nat.gcd x y : Nat) : Int))), σ) := by
  have e := sp_165 (ro := ro) (σ := σ) y x hy hx
  show rn ro 1 165 0 (lv_args 0 [.long (jZ x), .long (jZ y)]) [] σ = _
  simp only [q165_0, q165_1, q165_3, q165_4, q165_8, q165_9, q165_10, q165_13, q165_15, q165_17, q165_18, q165_20, q165_22, q165_24, q165_26, q165_28, q165_31, q165_33, kI_app, kJ_app, kP_app, kV_app, kS_app, kC_app, kN_app, kM_app, zsw_cons, zsw_nil, lv_args_I, lv_args_R, lv_args_L, lv_args_nil, zlook_cons, zrI_some, zrJ_some, zrP_some, zrC_some, zrA_rw, zrAS_rw, zrLen_rw, zst1_nil, zst1_cI, zst1_cR, zst1_cL, zrm1_nil, zrm1_cI, zrm1_cR, zrm1_cL, zst2_nil, zst2_cI, zst2_cR, zst2_cL, zrm2_nil, zrm2_cI, zrm2_cR, zrm2_cL, zkeep_nil, zkeep_cons, zsum_nil, zsum_I, zsum_R, zsum_L, zsum_N, toL_s, toL_n, List.cons_append, List.nil_append, List.mem_cons, List.not_mem_nil, reduceCtorEq, Nat.reduceAdd, Nat.reduceLT, Nat.reduceLeDiff, Nat.reduceEqDiff, Nat.zero_ne_one, Nat.one_ne_zero, Nat.add_zero, Nat.zero_add, or_false, false_or, or_true, true_or, and_true, true_and, and_self, ↓reduceIte, Nat.succ_ne_self, Nat.reduceGT, Nat.reduceSub, Nat.le_refl, Nat.zero_le, zis_O, cl_is, clG_0, clG_1, clG_2, clG_3, clG_4, clG_5, clG_6, clS_6, clG_7, clG_8, clG_9, clS_9, clG_10, clG_11, clS_11, clG_12, clS_12, clG_13, clS_13, clG_14, clS_14, clG_15, clS_15, clG_16, clG_17, clS_17, od_is, odG_0, odG_1, odS_1, odG_2, odG_3, odS_3, odG_4, re_is, reG_0, reS_0, reG_1, reG_2, reG_3, reS_3, reG_4, reS_4, reG_5, reS_5, reG_6, reS_6, wo_is, woG_0, woG_1, woG_2, woS_2, woG_3, lm_is, lmG_0, lmG_1, lmG_2, lmG_3, lmG_4, lmG_5, lmG_6, lmG_7, lmG_8, lmS_8, lmG_9, lmS_9, lmG_10, lmS_10, lmG_11, lmS_11, lmG_12, lmS_12, mo_is, moG_0, moG_1, moG_2, moG_3, moG_4, moG_5, moS_5, moG_6, moS_6, moG_7, moS_7, moG_8, moG_9, moS_9, moG_10, moS_10, moG_11, moS_11, moG_12, moS_12, moG_13, moS_13, moG_14, moG_15, moS_15, moG_16, moG_17, moS_17, moG_18, moG_19, moG_20, i32ne0, i32ne1, i32ne2, i32ne3, i32ne4, i32ne5, i32ne6, i32ne7, i32ne8, i32ne9, i32ne10, j64ne, Int32.reduceAdd, Int32.reduceSub, Int32.reduceMul, Int32.reduceLT, Int32.reduceOfNat, Int32.reduceToNatClampNeg, cU_at, Nat.reduceMul, Nat.reduceMod]
  exact e
/-- the fraction set -/
def frU (s : Nat → Nat → Nat) (n d : Nat) : Nat → Nat → Nat := sU s 2 (fun i => if i = 0 then n / Nat.gcd n d else d / Nat.gcd n d)
def frL (L : Nat → Nat → Int64) (n d : Nat) : Nat → Nat → Int64 := cV L 0 (vp_updL (vp_updL (L 0) 8 (jZ ((n / Nat.gcd n d : Nat) : Int))) 9 (jZ ((d / Nat.gcd n d : Nat) : Int)))
def frM (L : Nat → Nat → Int64) (n d : Nat) : Nat → Nat → Int64 := cV L 62 (vp_updL (vp_updL (L 62) 6 (jZ ((n / Nat.gcd n d : Nat) : Int))) 7 (jZ ((d / Nat.gcd n d : Nat) : Int)))
theorem frL_n (L : Nat → Nat → Int64) (n d : Nat) {k : Nat} (h : k ≠ 0) : frL L n d k = L k := if_neg h
theorem frM_n (L : Nat → Nat → Int64) (n d : Nat) {k : Nat} (h : k ≠ 62) : frM L n d k = L k := if_neg h
theorem frU_eq {s : Nat → Nat → Nat} {x y z w : Nat} (h : x * w = z * y) (hy : 0 < y) (hw : 0 < w) : frU s x y = frU s z w := by
  have e := red_eq h hy hw
  unfold frU
  rw [e.1, e.2]
theorem CInv.fr {A : Nat → Nat → Int32} {L : Nat → Nat → Int64} {s : Nat → Nat → Nat} (h : CInv A L s) (n d : Nat) : CInv A (frL L n d) (frU s n d) := by
  obtain ⟨h0, h1, h2, h3, h4, h5, h6⟩ := h
  exact ⟨h0, h1, ⟨rfl, rfl⟩, h3, h4, h5, h6⟩
theorem MInv.fr {A : Nat → Nat → Int32} {L : Nat → Nat → Int64} {s : Nat → Nat → Nat} (h : MInv A L s) (n d : Nat) : MInv A (frM L n d) (frU s n d) := by
  obtain ⟨h0, h1, h2, h3, h4, h5, h6, h7⟩ := h
  exact ⟨h0, h1, ⟨rfl, rfl⟩, h3, h4, h5, h6, h7⟩
theorem sp_setFr {A : Nat → Nat → Int32} {L : Nat → Nat → Int64} {x : Nat} (hx : x ≤ 100000000000000) : rm ro 124 [.ref 0, .long (jZ x)] (hp A L) = some (none, hp A (frL L x 100000000000000)) := by
  have e := sp_125 (ro := ro) (σ := hp A L) (x := x) (y := 100000000000000) (by omega) (by decide)
  rw [show jZ ((100000000000000 : Nat) : Int) = 100000000000000 from rfl] at e
  have g1 : 0 < Nat.gcd x 100000000000000 := Nat.gcd_pos_of_pos_right _ (by decide)
  have g2 : Nat.gcd x 100000000000000 ≤ 100000000000000 := Nat.le_of_dvd (by decide) (Nat.gcd_dvd_right _ _)
  have d1 := jZ_divN (x := x) (y := Nat.gcd x 100000000000000) (by omega) (by omega)
  have d2 := jZ_divN (x := 100000000000000) (y := Nat.gcd x 100000000000000) (by decide) (by omega)
  rw [show jZ ((100000000000000 : Nat) : Int) = 100000000000000 from rfl] at d2
  have c : (0 : Int64) < jZ ((Nat.gcd x 100000000000000 : Nat) : Int) := by
    rw [jZ_0, jZ_lt (by omega)]
    omega
  unfold frL
  generalize Nat.gcd x 100000000000000 = G at *
  have gz : ¬ jZ (G : Int) = 0 := by
    rw [jZ_0, jZ_eq (by omega)]
    omega
  show rn ro 2 124 0 (lv_args 0 [.ref 0, .long (jZ x)]) [] (hp A L) = _
  simp only [q124_0, q124_1, q124_4, q124_7, q124_8, q124_9, q124_10, q124_11, q124_14, q124_15, q124_16, q124_17, q124_18, q124_21, q124_22, q124_25, q124_26, q124_27, q124_30, zrk_125, kI_app, kJ_app, kP_app, kV_app, kS_app, kC_app, kN_app, kM_app, zsw_cons, zsw_nil, lv_args_I, lv_args_R, lv_args_L, lv_args_nil, zlook_cons, zrI_some, zrJ_some, zrP_some, zrC_some, zrA_rw, zrAS_rw, zrLen_rw, zst1_nil, zst1_cI, zst1_cR, zst1_cL, zrm1_nil, zrm1_cI, zrm1_cR, zrm1_cL, zst2_nil, zst2_cI, zst2_cR, zst2_cL, zrm2_nil, zrm2_cI, zrm2_cR, zrm2_cL, zkeep_nil, zkeep_cons, zsum_nil, zsum_I, zsum_R, zsum_L, zsum_N, toL_s, toL_n, List.cons_append, List.nil_append, List.mem_cons, List.not_mem_nil, reduceCtorEq, Nat.reduceAdd, Nat.reduceLT, Nat.reduceLeDiff, Nat.reduceEqDiff, Nat.zero_ne_one, Nat.one_ne_zero, Nat.add_zero, Nat.zero_add, or_false, false_or, or_true, true_or, and_true, true_and, and_self, ↓reduceIte, Nat.succ_ne_self, Nat.reduceGT, Nat.reduceSub, Nat.le_refl, Nat.zero_le, zis_O, cl_is, clG_0, clG_1, clG_2, clG_3, clG_4, clG_5, clG_6, clS_6, clG_7, clG_8, clG_9, clS_9, clG_10, clG_11, clS_11, clG_12, clS_12, clG_13, clS_13, clG_14, clS_14, clG_15, clS_15, clG_16, clG_17, clS_17, od_is, odG_0, odG_1, odS_1, odG_2, odG_3, odS_3, odG_4, re_is, reG_0, reS_0, reG_1, reG_2, reG_3, reS_3, reG_4, reS_4, reG_5, reS_5, reG_6, reS_6, wo_is, woG_0, woG_1, woG_2, woS_2, woG_3, lm_is, lmG_0, lmG_1, lmG_2, lmG_3, lmG_4, lmG_5, lmG_6, lmG_7, lmG_8, lmS_8, lmG_9, lmS_9, lmG_10, lmS_10, lmG_11, lmS_11, lmG_12, lmS_12, mo_is, moG_0, moG_1, moG_2, moG_3, moG_4, moG_5, moS_5, moG_6, moS_6, moG_7, moS_7, moG_8, moG_9, moS_9, moG_10, moS_10, moG_11, moS_11, moG_12, moS_12, moG_13, moS_13, moG_14, moG_15, moS_15, moG_16, moG_17, moS_17, moG_18, moG_19, moG_20, i32ne0, i32ne1, i32ne2, i32ne3, i32ne4, i32ne5, i32ne6, i32ne7, i32ne8, i32ne9, i32ne10, j64ne, Int32.reduceAdd, Int32.reduceSub, Int32.reduceMul, Int32.reduceLT, Int32.reduceOfNat, Int32.reduceToNatClampNeg, cU_at, Nat.reduceMul, Nat.reduceMod, catR, catI, cV_self, cU_self, hg0, hg1, hg2, hg3, hg4, hg5, hg6, hg7, hg8, hg9, hg10, hg11, hg12, hg13, hg14, hg15, hg16, hg17, hg18, hg19, hg20, hg21, hg22, hg23, hg24, hg25, hg26, hg27, hg28, hg29, hg30, hg31, hg32, hg33, hg34, hg35, hg36, hg37, hg38, hg39, hg40, hg41, hg42, hg43, hg44, hg45, hg46, hg47, hg48, hg49, hg50, hg51, hg52, hg53, hg54, hg55, hg56, hg57, hg58, hg59, hg60, hg61, hg62, hg63, hg64, hg65, hg66, hg67, hg68, hg69, hg70, hg71, hg72, hg73, hg1001, hg1002, hg1003, hg1000, hg2000, hs0, hs8, hs9, hs10, hs11, hs12, hs13, hs14, hs15, hs16, hs17, hs18, hs19, hs20, hs21, hs22, hs23, hs24, hs25, hs26, hs27, hs29, hs30, hs31, hs32, hs33, hs34, hs35, hs36, hs37, hs38, hs39, hs40, hs41, hs42, hs43, hs44, hs45, hs46, hs47, hs48, hs49, hs50, hs51, hs52, hs53, hs54, hs55, hs56, hs57, hs59, hs60, hs61, hs62, hs63, hs64, hs65, hs66, hs67, hs68, hs69, hs70, hs71, hs72, hs73, hw8, hw18, hw29, hw39, e, lg_cmp_p, c, d1, d2, gz, if_false, if_true, cV_at, cV_cV]
theorem sp_keeps {A : Nat → Nat → Int32} {L : Nat → Nat → Int64} {n d : Nat} (hn : n < 9223372036854775808) (hd : 0 < d ∧ d < 9223372036854775808) : rm ro 166 [.ref 62, .long (jZ n), .long (jZ d)] (hp A L) = some (some (.int 1), hp A (frM L n d)) := by
  have e := sp_div (ro := ro) (σ := hp A L) (x := n) (y := d) hn hd.2
  have g1 : 0 < Nat.gcd n d := Nat.gcd_pos_of_pos_right _ hd.1
  have g2 : Nat.gcd n d ≤ d := Nat.le_of_dvd hd.1 (Nat.gcd_dvd_right _ _)
  have d1 := jZ_divN (x := n) (y := Nat.gcd n d) hn (by omega)
  have d2 := jZ_divN (x := d) (y := Nat.gcd n d) hd.2 (by omega)
  unfold frM
  generalize Nat.gcd n d = G at *
  have gz : ¬ jZ (G : Int) = 0 := by
    rw [jZ_0, jZ_eq (by omega)]
    omega
  show rn ro 2 166 0 (lv_args 0 [.ref 62, .long (jZ n), .long (jZ d)]) [] (hp A L) = _
  simp only [q166_0, q166_1, q166_2, q166_5, q166_7, q166_8, q166_9, q166_11, q166_12, q166_15, q166_16, q166_17, q166_19, q166_20, q166_23, q166_24, zrk_165, kI_app, kJ_app, kP_app, kV_app, kS_app, kC_app, kN_app, kM_app, zsw_cons, zsw_nil, lv_args_I, lv_args_R, lv_args_L, lv_args_nil, zlook_cons, zrI_some, zrJ_some, zrP_some, zrC_some, zrA_rw, zrAS_rw, zrLen_rw, zst1_nil, zst1_cI, zst1_cR, zst1_cL, zrm1_nil, zrm1_cI, zrm1_cR, zrm1_cL, zst2_nil, zst2_cI, zst2_cR, zst2_cL, zrm2_nil, zrm2_cI, zrm2_cR, zrm2_cL, zkeep_nil, zkeep_cons, zsum_nil, zsum_I, zsum_R, zsum_L, zsum_N, toL_s, toL_n, List.cons_append, List.nil_append, List.mem_cons, List.not_mem_nil, reduceCtorEq, Nat.reduceAdd, Nat.reduceLT, Nat.reduceLeDiff, Nat.reduceEqDiff, Nat.zero_ne_one, Nat.one_ne_zero, Nat.add_zero, Nat.zero_add, or_false, false_or, or_true, true_or, and_true, true_and, and_self, ↓reduceIte, Nat.succ_ne_self, Nat.reduceGT, Nat.reduceSub, Nat.le_refl, Nat.zero_le, zis_O, cl_is, clG_0, clG_1, clG_2, clG_3, clG_4, clG_5, clG_6, clS_6, clG_7, clG_8, clG_9, clS_9, clG_10, clG_11, clS_11, clG_12, clS_12, clG_13, clS_13, clG_14, clS_14, clG_15, clS_15, clG_16, clG_17, clS_17, od_is, odG_0, odG_1, odS_1, odG_2, odG_3, odS_3, odG_4, re_is, reG_0, reS_0, reG_1, reG_2, reG_3, reS_3, reG_4, reS_4, reG_5, reS_5, reG_6, reS_6, wo_is, woG_0, woG_1, woG_2, woS_2, woG_3, lm_is, lmG_0, lmG_1, lmG_2, lmG_3, lmG_4, lmG_5, lmG_6, lmG_7, lmG_8, lmS_8, lmG_9, lmS_9, lmG_10, lmS_10, lmG_11, lmS_11, lmG_12, lmS_12, mo_is, moG_0, moG_1, moG_2, moG_3, moG_4, moG_5, moS_5, moG_6, moS_6, moG_7, moS_7, moG_8, moG_9, moS_9, moG_10, moS_10, moG_11, moS_11, moG_12, moS_12, moG_13, moS_13, moG_14, moG_15, moS_15, moG_16, moG_17, moS_17, moG_18, moG_19, moG_20, i32ne0, i32ne1, i32ne2, i32ne3, i32ne4, i32ne5, i32ne6, i32ne7, i32ne8, i32ne9, i32ne10, j64ne, Int32.reduceAdd, Int32.reduceSub, Int32.reduceMul, Int32.reduceLT, Int32.reduceOfNat, Int32.reduceToNatClampNeg, cU_at, Nat.reduceMul, Nat.reduceMod, catR, catI, cV_self, cU_self, hg0, hg1, hg2, hg3, hg4, hg5, hg6, hg7, hg8, hg9, hg10, hg11, hg12, hg13, hg14, hg15, hg16, hg17, hg18, hg19, hg20, hg21, hg22, hg23, hg24, hg25, hg26, hg27, hg28, hg29, hg30, hg31, hg32, hg33, hg34, hg35, hg36, hg37, hg38, hg39, hg40, hg41, hg42, hg43, hg44, hg45, hg46, hg47, hg48, hg49, hg50, hg51, hg52, hg53, hg54, hg55, hg56, hg57, hg58, hg59, hg60, hg61, hg62, hg63, hg64, hg65, hg66, hg67, hg68, hg69, hg70, hg71, hg72, hg73, hg1001, hg1002, hg1003, hg1000, hg2000, hs0, hs8, hs9, hs10, hs11, hs12, hs13, hs14, hs15, hs16, hs17, hs18, hs19, hs20, hs21, hs22, hs23, hs24, hs25, hs26, hs27, hs29, hs30, hs31, hs32, hs33, hs34, hs35, hs36, hs37, hs38, hs39, hs40, hs41, hs42, hs43, hs44, hs45, hs46, hs47, hs48, hs49, hs50, hs51, hs52, hs53, hs54, hs55, hs56, hs57, hs59, hs60, hs61, hs62, hs63, hs64, hs65, hs66, hs67, hs68, hs69, hs70, hs71, hs72, hs73, hw8, hw18, hw29, hw39, e, d1, d2, gz, if_false, cV_at, cV_cV]
end FRA
