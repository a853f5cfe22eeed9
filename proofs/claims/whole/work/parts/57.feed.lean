/-! FEED -/
def fd (b e f : Nat) : Nat → Nat × Nat
  | 0 => (min f b, 0)
  | h + 1 => if (fd b e f h).1 = 0 then (b - e, (fd b e f h).2 + 1) else ((fd b e f h).1 - e, (fd b e f h).2)
def fo (b e f : Nat) (i : Int) : Nat → Int
  | 0 => -5
  | h + 1 => if (fd b e f h).1 = 0 ∧ ((fd b e f h).2 : Int) = i then (h : Int) else fo b e f i h
def feA (f e b t : Nat) (i : Int) : Int := if i = -1 then ((fd b e f t).2 : Int) else fo b e f i t
def feC (f e b t i : Int) : Prop := (0 ≤ f ∧ f ≤ 99) ∧ (1 ≤ e ∧ e ≤ 9) ∧ (1 ≤ b ∧ b ≤ 99) ∧ (0 ≤ t ∧ t ≤ 99) ∧ -1 ≤ i
theorem feC_dec (f e b t i : Int) : feC f e b t i ∨ ¬ feC f e b t i := Classical.em _
theorem fd_1 {b e f : Nat} (hb : b ≤ 99) : ∀ h, (fd b e f h).1 ≤ 99
  | 0 => show min f b ≤ 99 by omega
  | h + 1 => by
    have := fd_1 (e := e) (f := f) hb h
    show (if _ then _ else _ : Nat × Nat).1 ≤ 99
    split <;> dsimp only <;> omega
theorem fd_2 {b e f : Nat} : ∀ h, (fd b e f h).2 ≤ h
  | 0 => Nat.le_refl 0
  | h + 1 => by
    have := fd_2 (b := b) (e := e) (f := f) h
    show (if _ then _ else _ : Nat × Nat).2 ≤ h + 1
    split <;> dsimp only <;> omega
theorem fd_m {b e f : Nat} (h : Nat) : (fd b e f h).2 ≤ (fd b e f (h + 1)).2 := by
  show _ ≤ (if _ then _ else _ : Nat × Nat).2
  split <;> dsimp only <;> omega
theorem fo_stay {b e f : Nat} {i : Int} (h : Nat) : ∀ j, i < ((fd b e f h).2 : Int) → fo b e f i (h + j) = fo b e f i h ∧ i < ((fd b e f (h + j)).2 : Int)
  | 0, z => ⟨rfl, z⟩
  | j + 1, z => by
    have r := fo_stay h j z
    have m := fd_m (b := b) (e := e) (f := f) (h + j)
    refine ⟨?_, ?_⟩
    · show (if (fd b e f (h + j)).1 = 0 ∧ ((fd b e f (h + j)).2 : Int) = i then ((h + j : Nat) : Int) else fo b e f i (h + j)) = _
      rw [if_neg (by omega)]
      exact r.1
    · show i < ((fd b e f (h + j + 1)).2 : Int)
      omega
section FEE
variable {ro : zR} {s : Nat → Nat → Nat}
theorem f85 {σ : zW} {f e b t : Nat} {i : Int} (hb : 1 ≤ b ∧ b ≤ 99) (he : 1 ≤ e ∧ e ≤ 9) (ht : t ≤ 99) (hi : -1 ≤ i ∧ i < 2147483648) : ∀ d h : Nat, d + h = t → fo b e f i h = -5 → rn ro 1 85 13 [(1, .int (iZ e)), (2, .int (iZ b)), (3, .int (iZ t)), (4, .int (iZ i)), (5, .int (iZ ((fd b e f h).1 : Nat))), (6, .int (iZ ((fd b e f h).2 : Nat))), (7, .int (iZ h))] [] σ = some (some (.int (iZ (feA f e b t i))), σ) := by
  intro d
  induction d with
  | zero =>
    intro h hd hf
    have e1 : h = t := by omega
    subst e1
    unfold feA
    rw [q85_13]
    by_cases c : i = -1
    · rw [if_pos c, c]
      simp only [q85_0, q85_1, q85_2, q85_5, q85_7, q85_8, q85_10, q85_11, q85_15, q85_16, q85_19, q85_21, q85_24, q85_26, q85_28, q85_31, q85_33, q85_34, q85_37, q85_38, q85_40, q85_41, q85_43, q85_44, q85_45, q85_48, q85_50, q85_53, q85_56, q85_58, q85_59, q85_62, q85_64, q85_67, q85_69, kI_app, kJ_app, kP_app, kV_app, kS_app, kC_app, kN_app, kM_app, zsw_cons, zsw_nil, lv_args_I, lv_args_R, lv_args_L, lv_args_nil, zlook_cons, zrI_some, zrJ_some, zrP_some, zrC_some, zrA_rw, zrAS_rw, zrLen_rw, zst1_nil, zst1_cI, zst1_cR, zst1_cL, zrm1_nil, zrm1_cI, zrm1_cR, zrm1_cL, zst2_nil, zst2_cI, zst2_cR, zst2_cL, zrm2_nil, zrm2_cI, zrm2_cR, zrm2_cL, zkeep_nil, zkeep_cons, zsum_nil, zsum_I, zsum_R, zsum_L, zsum_N, toL_s, toL_n, List.cons_append, List.nil_append, List.mem_cons, List.not_mem_nil, reduceCtorEq, Nat.reduceAdd, Nat.reduceLT, Nat.reduceLeDiff, Nat.reduceEqDiff, Nat.zero_ne_one, Nat.one_ne_zero, Nat.add_zero, Nat.zero_add, or_false, false_or, or_true, true_or, and_true, true_and, and_self, ↓reduceIte, Nat.succ_ne_self, Nat.reduceGT, Nat.reduceSub, Nat.le_refl, Nat.zero_le, zis_O, cl_is, clG_0, clG_1, clG_2, clG_3, clG_4, clG_5, clG_6, clS_6, clG_7, clG_8, clG_9, clS_9, clG_10, clG_11, clS_11, clG_12, clS_12, clG_13, clS_13, clG_14, clS_14, clG_15, clS_15, clG_16, clG_17, clS_17, od_is, odG_0, odG_1, odS_1, odG_2, odG_3, odS_3, odG_4, re_is, reG_0, reS_0, reG_1, reG_2, reG_3, reS_3, reG_4, reS_4, reG_5, reS_5, reG_6, reS_6, wo_is, woG_0, woG_1, woG_2, woS_2, woG_3, lm_is, lmG_0, lmG_1, lmG_2, lmG_3, lmG_4, lmG_5, lmG_6, lmG_7, lmG_8, lmS_8, lmG_9, lmS_9, lmG_10, lmS_10, lmG_11, lmS_11, lmG_12, lmS_12, mo_is, moG_0, moG_1, moG_2, moG_3, moG_4, moG_5, moS_5, moG_6, moS_6, moG_7, moS_7, moG_8, moG_9, moS_9, moG_10, moS_10, moG_11, moS_11, moG_12, moS_12, moG_13, moS_13, moG_14, moG_15, moS_15, moG_16, moG_17, moS_17, moG_18, moG_19, moG_20, i32ne0, i32ne1, i32ne2, i32ne3, i32ne4, i32ne5, i32ne6, i32ne7, i32ne8, i32ne9, i32ne10, j64ne, Int32.reduceAdd, Int32.reduceSub, Int32.reduceMul, Int32.reduceLT, Int32.reduceOfNat, Int32.reduceToNatClampNeg, cU_at, Nat.reduceMul, Nat.reduceMod, Int32.lt_irrefl, if_false, iZ_m1, if_true]
    · rw [if_neg c, hf]
      have c2 : ¬ iZ i = -1 := by
        rw [i_eqk (-1) (-1) rfl (by omega) (by omega)]
        exact c
      simp only [q85_0, q85_1, q85_2, q85_5, q85_7, q85_8, q85_10, q85_11, q85_15, q85_16, q85_19, q85_21, q85_24, q85_26, q85_28, q85_31, q85_33, q85_34, q85_37, q85_38, q85_40, q85_41, q85_43, q85_44, q85_45, q85_48, q85_50, q85_53, q85_56, q85_58, q85_59, q85_62, q85_64, q85_67, q85_69, kI_app, kJ_app, kP_app, kV_app, kS_app, kC_app, kN_app, kM_app, zsw_cons, zsw_nil, lv_args_I, lv_args_R, lv_args_L, lv_args_nil, zlook_cons, zrI_some, zrJ_some, zrP_some, zrC_some, zrA_rw, zrAS_rw, zrLen_rw, zst1_nil, zst1_cI, zst1_cR, zst1_cL, zrm1_nil, zrm1_cI, zrm1_cR, zrm1_cL, zst2_nil, zst2_cI, zst2_cR, zst2_cL, zrm2_nil, zrm2_cI, zrm2_cR, zrm2_cL, zkeep_nil, zkeep_cons, zsum_nil, zsum_I, zsum_R, zsum_L, zsum_N, toL_s, toL_n, List.cons_append, List.nil_append, List.mem_cons, List.not_mem_nil, reduceCtorEq, Nat.reduceAdd, Nat.reduceLT, Nat.reduceLeDiff, Nat.reduceEqDiff, Nat.zero_ne_one, Nat.one_ne_zero, Nat.add_zero, Nat.zero_add, or_false, false_or, or_true, true_or, and_true, true_and, and_self, ↓reduceIte, Nat.succ_ne_self, Nat.reduceGT, Nat.reduceSub, Nat.le_refl, Nat.zero_le, zis_O, cl_is, clG_0, clG_1, clG_2, clG_3, clG_4, clG_5, clG_6, clS_6, clG_7, clG_8, clG_9, clS_9, clG_10, clG_11, clS_11, clG_12, clS_12, clG_13, clS_13, clG_14, clS_14, clG_15, clS_15, clG_16, clG_17, clS_17, od_is, odG_0, odG_1, odS_1, odG_2, odG_3, odS_3, odG_4, re_is, reG_0, reS_0, reG_1, reG_2, reG_3, reS_3, reG_4, reS_4, reG_5, reS_5, reG_6, reS_6, wo_is, woG_0, woG_1, woG_2, woS_2, woG_3, lm_is, lmG_0, lmG_1, lmG_2, lmG_3, lmG_4, lmG_5, lmG_6, lmG_7, lmG_8, lmS_8, lmG_9, lmS_9, lmG_10, lmS_10, lmG_11, lmS_11, lmG_12, lmS_12, mo_is, moG_0, moG_1, moG_2, moG_3, moG_4, moG_5, moS_5, moG_6, moS_6, moG_7, moS_7, moG_8, moG_9, moS_9, moG_10, moS_10, moG_11, moS_11, moG_12, moS_12, moG_13, moS_13, moG_14, moG_15, moS_15, moG_16, moG_17, moS_17, moG_18, moG_19, moG_20, i32ne0, i32ne1, i32ne2, i32ne3, i32ne4, i32ne5, i32ne6, i32ne7, i32ne8, i32ne9, i32ne10, j64ne, Int32.reduceAdd, Int32.reduceSub, Int32.reduceMul, Int32.reduceLT, Int32.reduceOfNat, Int32.reduceToNatClampNeg, cU_at, Nat.reduceMul, Nat.reduceMod, Int32.lt_irrefl, if_false, c2]
      rfl
  | succ d ih =>
    intro h hd hf
    have l1 := fd_1 (e := e) (f := f) hb.2 h
    have l2 := fd_2 (b := b) (e := e) (f := f) h
    have c : iZ (h : Int) < iZ t := by
      rw [iZ_lt (by omega)]
      omega
    rw [q85_13]
    by_cases z : (fd b e f h).1 = 0
    · have n1 : fd b e f (h + 1) = (b - e, (fd b e f h).2 + 1) := if_pos z
      have c0 : iZ (((fd b e f h).1 : Nat) : Int) = 0 := by rw [z]; rfl
      by_cases y : ((fd b e f h).2 : Int) = i
      · have cy : iZ (((fd b e f h).2 : Nat) : Int) = iZ i := by rw [y]
        have st := fo_stay (b := b) (e := e) (f := f) (i := i) (h + 1) d (by
          rw [n1]
          dsimp only
          omega)
        have n2 : fo b e f i (h + 1) = (h : Int) := if_pos ⟨z, y⟩
        unfold feA
        rw [if_neg (by omega), show t = h + 1 + d by omega, st.1, n2]
        rw [show t = h + 1 + d by omega] at c
        simp only [q85_0, q85_1, q85_2, q85_5, q85_7, q85_8, q85_10, q85_11, q85_15, q85_16, q85_19, q85_21, q85_24, q85_26, q85_28, q85_31, q85_33, q85_34, q85_37, q85_38, q85_40, q85_41, q85_43, q85_44, q85_45, q85_48, q85_50, q85_53, q85_56, q85_58, q85_59, q85_62, q85_64, q85_67, q85_69, kI_app, kJ_app, kP_app, kV_app, kS_app, kC_app, kN_app, kM_app, zsw_cons, zsw_nil, lv_args_I, lv_args_R, lv_args_L, lv_args_nil, zlook_cons, zrI_some, zrJ_some, zrP_some, zrC_some, zrA_rw, zrAS_rw, zrLen_rw, zst1_nil, zst1_cI, zst1_cR, zst1_cL, zrm1_nil, zrm1_cI, zrm1_cR, zrm1_cL, zst2_nil, zst2_cI, zst2_cR, zst2_cL, zrm2_nil, zrm2_cI, zrm2_cR, zrm2_cL, zkeep_nil, zkeep_cons, zsum_nil, zsum_I, zsum_R, zsum_L, zsum_N, toL_s, toL_n, List.cons_append, List.nil_append, List.mem_cons, List.not_mem_nil, reduceCtorEq, Nat.reduceAdd, Nat.reduceLT, Nat.reduceLeDiff, Nat.reduceEqDiff, Nat.zero_ne_one, Nat.one_ne_zero, Nat.add_zero, Nat.zero_add, or_false, false_or, or_true, true_or, and_true, true_and, and_self, ↓reduceIte, Nat.succ_ne_self, Nat.reduceGT, Nat.reduceSub, Nat.le_refl, Nat.zero_le, zis_O, cl_is, clG_0, clG_1, clG_2, clG_3, clG_4, clG_5, clG_6, clS_6, clG_7, clG_8, clG_9, clS_9, clG_10, clG_11, clS_11, clG_12, clS_12, clG_13, clS_13, clG_14, clS_14, clG_15, clS_15, clG_16, clG_17, clS_17, od_is, odG_0, odG_1, odS_1, odG_2, odG_3, odS_3, odG_4, re_is, reG_0, reS_0, reG_1, reG_2, reG_3, reS_3, reG_4, reS_4, reG_5, reS_5, reG_6, reS_6, wo_is, woG_0, woG_1, woG_2, woS_2, woG_3, lm_is, lmG_0, lmG_1, lmG_2, lmG_3, lmG_4, lmG_5, lmG_6, lmG_7, lmG_8, lmS_8, lmG_9, lmS_9, lmG_10, lmS_10, lmG_11, lmS_11, lmG_12, lmS_12, mo_is, moG_0, moG_1, moG_2, moG_3, moG_4, moG_5, moS_5, moG_6, moS_6, moG_7, moS_7, moG_8, moG_9, moS_9, moG_10, moS_10, moG_11, moS_11, moG_12, moS_12, moG_13, moS_13, moG_14, moG_15, moS_15, moG_16, moG_17, moS_17, moG_18, moG_19, moG_20, i32ne0, i32ne1, i32ne2, i32ne3, i32ne4, i32ne5, i32ne6, i32ne7, i32ne8, i32ne9, i32ne10, j64ne, Int32.reduceAdd, Int32.reduceSub, Int32.reduceMul, Int32.reduceLT, Int32.reduceOfNat, Int32.reduceToNatClampNeg, cU_at, Nat.reduceMul, Nat.reduceMod, c, if_true, c0, cy]
      · have cy : ¬ iZ (((fd b e f h).2 : Nat) : Int) = iZ i := by
          rw [iZ_eq (by omega)]
          exact y
        have n2 : fo b e f i (h + 1) = fo b e f i h := if_neg fun x => y x.2
        have mx := mx32 (x := (b : Int) - (e : Int)) (by omega)
        rw [show ((b : Int) - (e : Int)).toNat = b - e by omega] at mx
        have i1 := ih (h + 1) (by omega) (n2.trans hf)
        rw [n1] at i1
        rw [← i1]
        simp only [q85_0, q85_1, q85_2, q85_5, q85_7, q85_8, q85_10, q85_11, q85_15, q85_16, q85_19, q85_21, q85_24, q85_26, q85_28, q85_31, q85_33, q85_34, q85_37, q85_38, q85_40, q85_41, q85_43, q85_44, q85_45, q85_48, q85_50, q85_53, q85_56, q85_58, q85_59, q85_62, q85_64, q85_67, q85_69, kI_app, kJ_app, kP_app, kV_app, kS_app, kC_app, kN_app, kM_app, zsw_cons, zsw_nil, lv_args_I, lv_args_R, lv_args_L, lv_args_nil, zlook_cons, zrI_some, zrJ_some, zrP_some, zrC_some, zrA_rw, zrAS_rw, zrLen_rw, zst1_nil, zst1_cI, zst1_cR, zst1_cL, zrm1_nil, zrm1_cI, zrm1_cR, zrm1_cL, zst2_nil, zst2_cI, zst2_cR, zst2_cL, zrm2_nil, zrm2_cI, zrm2_cR, zrm2_cL, zkeep_nil, zkeep_cons, zsum_nil, zsum_I, zsum_R, zsum_L, zsum_N, toL_s, toL_n, List.cons_append, List.nil_append, List.mem_cons, List.not_mem_nil, reduceCtorEq, Nat.reduceAdd, Nat.reduceLT, Nat.reduceLeDiff, Nat.reduceEqDiff, Nat.zero_ne_one, Nat.one_ne_zero, Nat.add_zero, Nat.zero_add, or_false, false_or, or_true, true_or, and_true, true_and, and_self, ↓reduceIte, Nat.succ_ne_self, Nat.reduceGT, Nat.reduceSub, Nat.le_refl, Nat.zero_le, zis_O, cl_is, clG_0, clG_1, clG_2, clG_3, clG_4, clG_5, clG_6, clS_6, clG_7, clG_8, clG_9, clS_9, clG_10, clG_11, clS_11, clG_12, clS_12, clG_13, clS_13, clG_14, clS_14, clG_15, clS_15, clG_16, clG_17, clS_17, od_is, odG_0, odG_1, odS_1, odG_2, odG_3, odS_3, odG_4, re_is, reG_0, reS_0, reG_1, reG_2, reG_3, reS_3, reG_4, reS_4, reG_5, reS_5, reG_6, reS_6, wo_is, woG_0, woG_1, woG_2, woS_2, woG_3, lm_is, lmG_0, lmG_1, lmG_2, lmG_3, lmG_4, lmG_5, lmG_6, lmG_7, lmG_8, lmS_8, lmG_9, lmS_9, lmG_10, lmS_10, lmG_11, lmS_11, lmG_12, lmS_12, mo_is, moG_0, moG_1, moG_2, moG_3, moG_4, moG_5, moS_5, moG_6, moS_6, moG_7, moS_7, moG_8, moG_9, moS_9, moG_10, moS_10, moG_11, moS_11, moG_12, moS_12, moG_13, moS_13, moG_14, moG_15, moS_15, moG_16, moG_17, moS_17, moG_18, moG_19, moG_20, i32ne0, i32ne1, i32ne2, i32ne3, i32ne4, i32ne5, i32ne6, i32ne7, i32ne8, i32ne9, i32ne10, j64ne, Int32.reduceAdd, Int32.reduceSub, Int32.reduceMul, Int32.reduceLT, Int32.reduceOfNat, Int32.reduceToNatClampNeg, cU_at, Nat.reduceMul, Nat.reduceMod, c, if_true, c0, cy, if_false, iZ_sub, mx, iZ_suc]
    · have n1 : fd b e f (h + 1) = ((fd b e f h).1 - e, (fd b e f h).2) := if_neg z
      have c0 : ¬ iZ (((fd b e f h).1 : Nat) : Int) = 0 := by
        rw [i_eqk 0 0 rfl (by omega) (by omega)]
        omega
      have n2 : fo b e f i (h + 1) = fo b e f i h := if_neg fun x => z x.1
      have mx := mx32 (x := ((fd b e f h).1 : Int) - (e : Int)) (by omega)
      rw [show (((fd b e f h).1 : Int) - (e : Int)).toNat = (fd b e f h).1 - e by omega] at mx
      have i1 := ih (h + 1) (by omega) (n2.trans hf)
      rw [n1] at i1
      rw [← i1]
      simp only [q85_0, q85_1, q85_2, q85_5, q85_7, q85_8, q85_10, q85_11, q85_15, q85_16, q85_19, q85_21, q85_24, q85_26, q85_28, q85_31, q85_33, q85_34, q85_37, q85_38, q85_40, q85_41, q85_43, q85_44, q85_45, q85_48, q85_50, q85_53, q85_56, q85_58, q85_59, q85_62, q85_64, q85_67, q85_69, kI_app, kJ_app, kP_app, kV_app, kS_app, kC_app, kN_app, kM_app, zsw_cons, zsw_nil, lv_args_I, lv_args_R, lv_args_L, lv_args_nil, zlook_cons, zrI_some, zrJ_some, zrP_some, zrC_some, zrA_rw, zrAS_rw, zrLen_rw, zst1_nil, zst1_cI, zst1_cR, zst1_cL, zrm1_nil, zrm1_cI, zrm1_cR, zrm1_cL, zst2_nil, zst2_cI, zst2_cR, zst2_cL, zrm2_nil, zrm2_cI, zrm2_cR, zrm2_cL, zkeep_nil, zkeep_cons, zsum_nil, zsum_I, zsum_R, zsum_L, zsum_N, toL_s, toL_n, List.cons_append, List.nil_append, List.mem_cons, List.not_mem_nil, reduceCtorEq, Nat.reduceAdd, Nat.reduceLT, Nat.reduceLeDiff, Nat.reduceEqDiff, Nat.zero_ne_one, Nat.one_ne_zero, Nat.add_zero, Nat.zero_add, or_false, false_or, or_true, true_or, and_true, true_and, and_self, ↓reduceIte, Nat.succ_ne_self, Nat.reduceGT, Nat.reduceSub, Nat.le_refl, Nat.zero_le, zis_O, cl_is, clG_0, clG_1, clG_2, clG_3, clG_4, clG_5, clG_6, clS_6, clG_7, clG_8, clG_9, clS_9, clG_10, clG_11, clS_11, clG_12, clS_12, clG_13, clS_13, clG_14, clS_14, clG_15, clS_15, clG_16, clG_17, clS_17, od_is, odG_0, odG_1, odS_1, odG_2, odG_3, odS_3, odG_4, re_is, reG_0, reS_0, reG_1, reG_2, reG_3, reS_3, reG_4, reS_4, reG_5, reS_5, reG_6, reS_6, wo_is, woG_0, woG_1, woG_2, woS_2, woG_3, lm_is, lmG_0, lmG_1, lmG_2, lmG_3, lmG_4, lmG_5, lmG_6, lmG_7, lmG_8, lmS_8, lmG_9, lmS_9, lmG_10, lmS_10, lmG_11, lmS_11, lmG_12, lmS_12, mo_is, moG_0, moG_1, moG_2, moG_3, moG_4, moG_5, moS_5, moG_6, moS_6, moG_7, moS_7, moG_8, moG_9, moS_9, moG_10, moS_10, moG_11, moS_11, moG_12, moS_12, moG_13, moS_13, moG_14, moG_15, moS_15, moG_16, moG_17, moS_17, moG_18, moG_19, moG_20, i32ne0, i32ne1, i32ne2, i32ne3, i32ne4, i32ne5, i32ne6, i32ne7, i32ne8, i32ne9, i32ne10, j64ne, Int32.reduceAdd, Int32.reduceSub, Int32.reduceMul, Int32.reduceLT, Int32.reduceOfNat, Int32.reduceToNatClampNeg, cU_at, Nat.reduceMul, Nat.reduceMod, c, if_true, c0, if_false, iZ_sub, mx, iZ_suc]
theorem sp_85 {σ : zW} {f e b t : Nat} {i : Int} (hf : f ≤ 99) (hb : 1 ≤ b ∧ b ≤ 99) (he : 1 ≤ e ∧ e ≤ 9) (ht : t ≤ 99) (hi : -1 ≤ i ∧ i < 2147483648) : rm ro 85 [.int (iZ f), .int (iZ e), .int (iZ b), .int (iZ t), .int (iZ i)] σ = some (some (.int (iZ (feA f e b t i))), σ) := by
  have r := f85 (ro := ro) (σ := σ) (f := f) hb he ht hi t 0 rfl rfl
  rw [show iZ ((0 : Nat) : Int) = 0 from rfl, show iZ (((fd b e f 0).2 : Nat) : Int) = 0 from rfl, show (fd b e f 0).1 = min f b from rfl, ← mn32 (x := f) (y := b) (by omega) (by omega)] at r
  show rn ro 1 85 0 (lv_args 0 [.int (iZ f), .int (iZ e), .int (iZ b), .int (iZ t), .int (iZ i)]) [] σ = _
  simp only [q85_0, q85_1, q85_2, q85_5, q85_7, q85_8, q85_10, q85_11, q85_15, q85_16, q85_19, q85_21, q85_24, q85_26, q85_28, q85_31, q85_33, q85_34, q85_37, q85_38, q85_40, q85_41, q85_43, q85_44, q85_45, q85_48, q85_50, q85_53, q85_56, q85_58, q85_59, q85_62, q85_64, q85_67, q85_69, kI_app, kJ_app, kP_app, kV_app, kS_app, kC_app, kN_app, kM_app, zsw_cons, zsw_nil, lv_args_I, lv_args_R, lv_args_L, lv_args_nil, zlook_cons, zrI_some, zrJ_some, zrP_some, zrC_some, zrA_rw, zrAS_rw, zrLen_rw, zst1_nil, zst1_cI, zst1_cR, zst1_cL, zrm1_nil, zrm1_cI, zrm1_cR, zrm1_cL, zst2_nil, zst2_cI, zst2_cR, zst2_cL, zrm2_nil, zrm2_cI, zrm2_cR, zrm2_cL, zkeep_nil, zkeep_cons, zsum_nil, zsum_I, zsum_R, zsum_L, zsum_N, toL_s, toL_n, List.cons_append, List.nil_append, List.mem_cons, List.not_mem_nil, reduceCtorEq, Nat.reduceAdd, Nat.reduceLT, Nat.reduceLeDiff, Nat.reduceEqDiff, Nat.zero_ne_one, Nat.one_ne_zero, Nat.add_zero, Nat.zero_add, or_false, false_or, or_true, true_or, and_true, true_and, and_self, ↓reduceIte, Nat.succ_ne_self, Nat.reduceGT, Nat.reduceSub, Nat.le_refl, Nat.zero_le, zis_O, cl_is, clG_0, clG_1, clG_2, clG_3, clG_4, clG_5, clG_6, clS_6, clG_7, clG_8, clG_9, clS_9, clG_10, clG_11, clS_11, clG_12, clS_12, clG_13, clS_13, clG_14, clS_14, clG_15, clS_15, clG_16, clG_17, clS_17, od_is, odG_0, odG_1, odS_1, odG_2, odG_3, odS_3, odG_4, re_is, reG_0, reS_0, reG_1, reG_2, reG_3, reS_3, reG_4, reS_4, reG_5, reS_5, reG_6, reS_6, wo_is, woG_0, woG_1, woG_2, woS_2, woG_3, lm_is, lmG_0, lmG_1, lmG_2, lmG_3, lmG_4, lmG_5, lmG_6, lmG_7, lmG_8, lmS_8, lmG_9, lmS_9, lmG_10, lmS_10, lmG_11, lmS_11, lmG_12, lmS_12, mo_is, moG_0, moG_1, moG_2, moG_3, moG_4, moG_5, moS_5, moG_6, moS_6, moG_7, moS_7, moG_8, moG_9, moS_9, moG_10, moS_10, moG_11, moS_11, moG_12, moS_12, moG_13, moS_13, moG_14, moG_15, moS_15, moG_16, moG_17, moS_17, moG_18, moG_19, moG_20, i32ne0, i32ne1, i32ne2, i32ne3, i32ne4, i32ne5, i32ne6, i32ne7, i32ne8, i32ne9, i32ne10, j64ne, Int32.reduceAdd, Int32.reduceSub, Int32.reduceMul, Int32.reduceLT, Int32.reduceOfNat, Int32.reduceToNatClampNeg, cU_at, Nat.reduceMul, Nat.reduceMod]
  exact r
theorem cop_111 (q : SInv s) {f e b t i : Int} (hf : -2147483648 ≤ f ∧ f < 2147483648) (he : -2147483648 ≤ e ∧ e < 2147483648) (hb : -2147483648 ≤ b ∧ b < 2147483648) (ht : -2147483648 ≤ t ∧ t < 2147483648) (hi : -2147483648 ≤ i ∧ i < 2147483648) : (feC f e b t i → COp ro 111 [.int (iZ f), .int (iZ e), .int (iZ b), .int (iZ t), .int (iZ i)] (.int (iZ (feA f.toNat e.toNat b.toNat t.toNat i))) s s) ∧ (¬ feC f e b t i → COp ro 111 [.int (iZ f), .int (iZ e), .int (iZ b), .int (iZ t), .int (iZ i)] (.int (iZ (-10))) s (cntI s (-2))) := by
  unfold feC
  refine ⟨fun c A L h => ?_, fun c A L h => ?_⟩
  · have r := sp_85 (ro := ro) (σ := hp A L) (f := f.toNat) (e := e.toNat) (b := b.toNat) (t := t.toNat) (i := i) (by omega) (by omega) (by omega) (by omega) (by omega)
    rw [← i_tn (by omega), ← i_tn (by omega), ← i_tn (by omega), ← i_tn (by omega)] at r
    refine ⟨A, L, ?_, h, fun k hk => ⟨rfl, rfl⟩⟩
    show rn ro 2 111 0 (lv_args 0 [.ref 0, .int (iZ f), .int (iZ e), .int (iZ b), .int (iZ t), .int (iZ i)]) [] (hp A L) = _
    simp only [q111_0, q111_1, q111_4, q111_5, q111_7, q111_10, q111_11, q111_12, q111_15, q111_16, q111_18, q111_21, q111_22, q111_23, q111_26, q111_27, q111_29, q111_32, q111_33, q111_36, q111_37, q111_39, q111_41, q111_44, q111_46, q111_49, q111_51, q111_53, q111_56, q111_58, q111_59, q111_62, q111_63, q111_66, q111_67, q111_68, q111_69, q111_70, q111_72, q111_74, q111_77, zrk_122, zrk_85, kI_app, kJ_app, kP_app, kV_app, kS_app, kC_app, kN_app, kM_app, zsw_cons, zsw_nil, lv_args_I, lv_args_R, lv_args_L, lv_args_nil, zlook_cons, zrI_some, zrJ_some, zrP_some, zrC_some, zrA_rw, zrAS_rw, zrLen_rw, zst1_nil, zst1_cI, zst1_cR, zst1_cL, zrm1_nil, zrm1_cI, zrm1_cR, zrm1_cL, zst2_nil, zst2_cI, zst2_cR, zst2_cL, zrm2_nil, zrm2_cI, zrm2_cR, zrm2_cL, zkeep_nil, zkeep_cons, zsum_nil, zsum_I, zsum_R, zsum_L, zsum_N, toL_s, toL_n, List.cons_append, List.nil_append, List.mem_cons, List.not_mem_nil, reduceCtorEq, Nat.reduceAdd, Nat.reduceLT, Nat.reduceLeDiff, Nat.reduceEqDiff, Nat.zero_ne_one, Nat.one_ne_zero, Nat.add_zero, Nat.zero_add, or_false, false_or, or_true, true_or, and_true, true_and, and_self, ↓reduceIte, Nat.succ_ne_self, Nat.reduceGT, Nat.reduceSub, Nat.le_refl, Nat.zero_le, zis_O, cl_is, clG_0, clG_1, clG_2, clG_3, clG_4, clG_5, clG_6, clS_6, clG_7, clG_8, clG_9, clS_9, clG_10, clG_11, clS_11, clG_12, clS_12, clG_13, clS_13, clG_14, clS_14, clG_15, clS_15, clG_16, clG_17, clS_17, od_is, odG_0, odG_1, odS_1, odG_2, odG_3, odS_3, odG_4, re_is, reG_0, reS_0, reG_1, reG_2, reG_3, reS_3, reG_4, reS_4, reG_5, reS_5, reG_6, reS_6, wo_is, woG_0, woG_1, woG_2, woS_2, woG_3, lm_is, lmG_0, lmG_1, lmG_2, lmG_3, lmG_4, lmG_5, lmG_6, lmG_7, lmG_8, lmS_8, lmG_9, lmS_9, lmG_10, lmS_10, lmG_11, lmS_11, lmG_12, lmS_12, mo_is, moG_0, moG_1, moG_2, moG_3, moG_4, moG_5, moS_5, moG_6, moS_6, moG_7, moS_7, moG_8, moG_9, moS_9, moG_10, moS_10, moG_11, moS_11, moG_12, moS_12, moG_13, moS_13, moG_14, moG_15, moS_15, moG_16, moG_17, moS_17, moG_18, moG_19, moG_20, i32ne0, i32ne1, i32ne2, i32ne3, i32ne4, i32ne5, i32ne6, i32ne7, i32ne8, i32ne9, i32ne10, j64ne, Int32.reduceAdd, Int32.reduceSub, Int32.reduceMul, Int32.reduceLT, Int32.reduceOfNat, Int32.reduceToNatClampNeg, cU_at, Nat.reduceMul, Nat.reduceMod, catR, catI, cV_self, cU_self, hg0, hg1, hg2, hg3, hg4, hg5, hg6, hg7, hg8, hg9, hg10, hg11, hg12, hg13, hg14, hg15, hg16, hg17, hg18, hg19, hg20, hg21, hg22, hg23, hg24, hg25, hg26, hg27, hg28, hg29, hg30, hg31, hg32, hg33, hg34, hg35, hg36, hg37, hg38, hg39, hg40, hg41, hg42, hg43, hg44, hg45, hg46, hg47, hg48, hg49, hg50, hg51, hg52, hg53, hg54, hg55, hg56, hg57, hg58, hg59, hg60, hg61, hg62, hg63, hg64, hg65, hg66, hg67, hg68, hg69, hg70, hg71, hg72, hg73, hg1001, hg1002, hg1003, hg1000, hg2000, hs0, hs8, hs9, hs10, hs11, hs12, hs13, hs14, hs15, hs16, hs17, hs18, hs19, hs20, hs21, hs22, hs23, hs24, hs25, hs26, hs27, hs29, hs30, hs31, hs32, hs33, hs34, hs35, hs36, hs37, hs38, hs39, hs40, hs41, hs42, hs43, hs44, hs45, hs46, hs47, hs48, hs49, hs50, hs51, hs52, hs53, hs54, hs55, hs56, hs57, hs59, hs60, hs61, hs62, hs63, hs64, hs65, hs66, hs67, hs68, hs69, hs70, hs71, hs72, hs73, hw8, hw18, hw29, hw39, i_lt0 hf, i_gtk 99 99 rfl (by omega) hf, i_ltk 1 1 rfl (by omega) he, i_gtk 9 9 rfl (by omega) he, i_ltk 1 1 rfl (by omega) hb, i_gtk 99 99 rfl (by omega) hb, i_lt0 ht, i_gtk 99 99 rfl (by omega) ht, i_ltk (-1) (-1) rfl (by omega) hi, show ¬ f < 0 by omega, show ¬ 99 < f by omega, show ¬ e < 1 by omega, show ¬ 9 < e by omega, show ¬ b < 1 by omega, show ¬ 99 < b by omega, show ¬ t < 0 by omega, show ¬ 99 < t by omega, show ¬ i < -1 by omega, if_false, z10, r]
  · refine ⟨_, L, ?_, h.cnt (-2), fun k hk => ⟨cntA_n _ _ (by omega), rfl⟩⟩
    have r := sp_countedTen (ro := ro) A L
    show rn ro 2 111 0 (lv_args 0 [.ref 0, .int (iZ f), .int (iZ e), .int (iZ b), .int (iZ t), .int (iZ i)]) [] (hp A L) = _
    simp only [q111_0, q111_1, q111_4, q111_5, q111_7, q111_10, q111_11, q111_12, q111_15, q111_16, q111_18, q111_21, q111_22, q111_23, q111_26, q111_27, q111_29, q111_32, q111_33, q111_36, q111_37, q111_39, q111_41, q111_44, q111_46, q111_49, q111_51, q111_53, q111_56, q111_58, q111_59, q111_62, q111_63, q111_66, q111_67, q111_68, q111_69, q111_70, q111_72, q111_74, q111_77, zrk_122, zrk_85, kI_app, kJ_app, kP_app, kV_app, kS_app, kC_app, kN_app, kM_app, zsw_cons, zsw_nil, lv_args_I, lv_args_R, lv_args_L, lv_args_nil, zlook_cons, zrI_some, zrJ_some, zrP_some, zrC_some, zrA_rw, zrAS_rw, zrLen_rw, zst1_nil, zst1_cI, zst1_cR, zst1_cL, zrm1_nil, zrm1_cI, zrm1_cR, zrm1_cL, zst2_nil, zst2_cI, zst2_cR, zst2_cL, zrm2_nil, zrm2_cI, zrm2_cR, zrm2_cL, zkeep_nil, zkeep_cons, zsum_nil, zsum_I, zsum_R, zsum_L, zsum_N, toL_s, toL_n, List.cons_append, List.nil_append, List.mem_cons, List.not_mem_nil, reduceCtorEq, Nat.reduceAdd, Nat.reduceLT, Nat.reduceLeDiff, Nat.reduceEqDiff, Nat.zero_ne_one, Nat.one_ne_zero, Nat.add_zero, Nat.zero_add, or_false, false_or, or_true, true_or, and_true, true_and, and_self, ↓reduceIte, Nat.succ_ne_self, Nat.reduceGT, Nat.reduceSub, Nat.le_refl, Nat.zero_le, zis_O, cl_is, clG_0, clG_1, clG_2, clG_3, clG_4, clG_5, clG_6, clS_6, clG_7, clG_8, clG_9, clS_9, clG_10, clG_11, clS_11, clG_12, clS_12, clG_13, clS_13, clG_14, clS_14, clG_15, clS_15, clG_16, clG_17, clS_17, od_is, odG_0, odG_1, odS_1, odG_2, odG_3, odS_3, odG_4, re_is, reG_0, reS_0, reG_1, reG_2, reG_3, reS_3, reG_4, reS_4, reG_5, reS_5, reG_6, reS_6, wo_is, woG_0, woG_1, woG_2, woS_2, woG_3, lm_is, lmG_0, lmG_1, lmG_2, lmG_3, lmG_4, lmG_5, lmG_6, lmG_7, lmG_8, lmS_8, lmG_9, lmS_9, lmG_10, lmS_10, lmG_11, lmS_11, lmG_12, lmS_12, mo_is, moG_0, moG_1, moG_2, moG_3, moG_4, moG_5, moS_5, moG_6, moS_6, moG_7, moS_7, moG_8, moG_9, moS_9, moG_10, moS_10, moG_11, moS_11, moG_12, moS_12, moG_13, moS_13, moG_14, moG_15, moS_15, moG_16, moG_17, moS_17, moG_18, moG_19, moG_20, i32ne0, i32ne1, i32ne2, i32ne3, i32ne4, i32ne5, i32ne6, i32ne7, i32ne8, i32ne9, i32ne10, j64ne, Int32.reduceAdd, Int32.reduceSub, Int32.reduceMul, Int32.reduceLT, Int32.reduceOfNat, Int32.reduceToNatClampNeg, cU_at, Nat.reduceMul, Nat.reduceMod, catR, catI, cV_self, cU_self, hg0, hg1, hg2, hg3, hg4, hg5, hg6, hg7, hg8, hg9, hg10, hg11, hg12, hg13, hg14, hg15, hg16, hg17, hg18, hg19, hg20, hg21, hg22, hg23, hg24, hg25, hg26, hg27, hg28, hg29, hg30, hg31, hg32, hg33, hg34, hg35, hg36, hg37, hg38, hg39, hg40, hg41, hg42, hg43, hg44, hg45, hg46, hg47, hg48, hg49, hg50, hg51, hg52, hg53, hg54, hg55, hg56, hg57, hg58, hg59, hg60, hg61, hg62, hg63, hg64, hg65, hg66, hg67, hg68, hg69, hg70, hg71, hg72, hg73, hg1001, hg1002, hg1003, hg1000, hg2000, hs0, hs8, hs9, hs10, hs11, hs12, hs13, hs14, hs15, hs16, hs17, hs18, hs19, hs20, hs21, hs22, hs23, hs24, hs25, hs26, hs27, hs29, hs30, hs31, hs32, hs33, hs34, hs35, hs36, hs37, hs38, hs39, hs40, hs41, hs42, hs43, hs44, hs45, hs46, hs47, hs48, hs49, hs50, hs51, hs52, hs53, hs54, hs55, hs56, hs57, hs59, hs60, hs61, hs62, hs63, hs64, hs65, hs66, hs67, hs68, hs69, hs70, hs71, hs72, hs73, hw8, hw18, hw29, hw39, i_lt0 hf, i_gtk 99 99 rfl (by omega) hf, i_ltk 1 1 rfl (by omega) he, i_gtk 9 9 rfl (by omega) he, i_ltk 1 1 rfl (by omega) hb, i_gtk 99 99 rfl (by omega) hb, i_lt0 ht, i_gtk 99 99 rfl (by omega) ht, i_ltk (-1) (-1) rfl (by omega) hi, z10, if_false, r]
    by_cases c1 : f < 0
    · rw [if_pos c1]
      rfl
    rw [if_neg c1]
    by_cases c2 : 99 < f
    · rw [if_pos c2]
      rfl
    rw [if_neg c2]
    by_cases c3 : e < 1
    · rw [if_pos c3]
      rfl
    rw [if_neg c3]
    by_cases c4 : 9 < e
    · rw [if_pos c4]
      rfl
    rw [if_neg c4]
    by_cases c5 : b < 1
    · rw [if_pos c5]
      rfl
    rw [if_neg c5]
    by_cases c6 : 99 < b
    · rw [if_pos c6]
      rfl
    rw [if_neg c6]
    by_cases c7 : t < 0
    · rw [if_pos c7]
      rfl
    rw [if_neg c7]
    by_cases c8 : 99 < t
    · rw [if_pos c8]
      rfl
    rw [if_neg c8, if_pos (by omega)]
    rfl
end FEE
