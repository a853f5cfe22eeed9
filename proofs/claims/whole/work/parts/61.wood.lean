/-! LAID: numbers (0 is no minute, v + 1 the minute v), the class -/
def vZ (x : Nat) : Int32 := iZ ((x : Int) - 1)
def bur (a z : Nat → Nat) (μ i : Nat) : Prop := z i ≠ 0 ∧ z i ≤ μ ∧ μ + 1 ≤ z i + a (36 + 2 * i)
def burD (a z : Nat → Nat) (μ i : Nat) : Nat := if z i = 0 then 0 else if μ < z i then 0 else if z i + a (36 + 2 * i) < μ + 1 then 0 else 1
def hN (a z : Nat → Nat) (μ s : Nat) : Nat → Nat
  | 0 => 0
  | i + 1 => hN a z μ s i + (if (a (37 + 2 * s)).testBit i = true then (if burD a z μ i = 0 then 0 else a (36 + 2 * i)) else 0)
def ps (a : Nat → Nat) (μ : Nat) (z : Nat → Nat) : Nat → Nat → Nat
  | 0 => z
  | s + 1 => if ps a μ z s s = 0 then (if a (36 + 2 * s) ≤ hN a (ps a μ z s) μ s (a 4) then nU (ps a μ z s) s (μ + 1) else ps a μ z s) else ps a μ z s
def mz (a z0 : Nat → Nat) : Nat → Nat → Nat
  | 0 => z0
  | μ + 1 => ps a (μ + 1) (mz a z0 μ) (a 4)
def z0N (lit : Nat) : Nat → Nat := fun s => if lit.testBit s = true then 1 else 0
section WO1
variable {a : Nat → Nat}
theorem burD_le (z : Nat → Nat) (μ i : Nat) : burD a z μ i ≤ 1 := by
  unfold burD
  split
  · omega
  · split
    · omega
    · split <;> omega
theorem hN_le (g : Good a) (z : Nat → Nat) (μ s : Nat) : ∀ i, i ≤ a 4 → hN a z μ s i ≤ 9 * i
  | 0, _ => Nat.le_refl 0
  | i + 1, h => by
    have := hN_le g z μ s i (by omega)
    have t := (g.s (i := i) (by omega)).2.1
    show hN a z μ s i + (if _ then (if _ then 0 else a (36 + 2 * i)) else 0) ≤ _
    split
    · split <;> omega
    · omega
theorem hN_top (g : Good a) (z : Nat → Nat) {μ s : Nat} (hs : s < a 4) : ∀ j, hN a z μ s (s + j) = hN a z μ s s
  | 0 => rfl
  | j + 1 => by
    have b := (g.s hs).2.2
    have e : (a (37 + 2 * s)).testBit (s + j) = false := Nat.testBit_lt_two_pow (Nat.lt_of_lt_of_le b (Nat.pow_le_pow_right (by decide) (by omega)))
    show hN a z μ s (s + j) + (if (a (37 + 2 * s)).testBit (s + j) = true then _ else 0) = _
    rw [e, if_neg (by decide), hN_top g z hs j, Nat.add_zero]
theorem hN_n (g : Good a) (z : Nat → Nat) {μ s : Nat} (hs : s < a 4) : hN a z μ s (a 4) = hN a z μ s s := by
  have e := hN_top g z (μ := μ) hs (a 4 - s)
  rwa [show s + (a 4 - s) = a 4 by omega] at e
theorem ps_le {μ : Nat} {z : Nat → Nat} {B : Nat} (hz : ∀ s, z s ≤ B) (hB : μ + 1 ≤ B) : ∀ s x, ps a μ z s x ≤ B
  | 0, x => hz x
  | s + 1, x => by
    have i := fun x => ps_le hz hB s x
    show (if _ then (if _ then nU (ps a μ z s) s (μ + 1) else ps a μ z s) else ps a μ z s) x ≤ B
    split
    · split
      · rw [nU_at]
        split
        · exact hB
        · exact i x
      · exact i x
    · exact i x
theorem mz_le {z0 : Nat → Nat} (hz : ∀ s, z0 s ≤ 1) : ∀ μ x, mz a z0 μ x ≤ μ + 1
  | 0, x => hz x
  | μ + 1, x => ps_le (fun s => Nat.le_trans (mz_le hz μ s) (by omega)) (Nat.le_refl _) (a 4) x
theorem z0_le (lit : Nat) (s : Nat) : z0N lit s ≤ 1 := by
  unfold z0N
  split <;> omega
end WO1
section WO2
variable {ro : zR} {A : Nat → Nat → Int32} {L : Nat → Nat → Int64} {s : Nat → Nat → Nat}
theorem vZ_eq {x : Nat} (hx : x ≤ 1000) : (vZ x = -1) = (x = 0) := by
  unfold vZ
  rw [i_eqk (-1) (-1) rfl (by omega) (by omega)]
  exact propext ⟨fun z => by omega, fun z => by omega⟩
theorem sp_80 (h : CInv A L s) (q : SInv s) {z : Nat → Nat} {μ i : Nat} (hi : i < s 0 4) (hz : A 55 i = vZ (z i)) (hzl : z i ≤ 1000) (hμ : μ ≤ 1000) : rm ro 80 [.ref 54, .ref 8, .int (iZ i), .int (iZ μ)] (hp A L) = some (some (.int (iZ (burD (s 0) z μ i))), hp A L) := by
  have n4 := q.1.n4
  have t := q.1.s hi
  have z1 := zat_i (g := A 55) (show i < 7 ∧ 7 < 2147483648 by omega)
  rw [hz] at z1
  have z2 := zat_i (g := A 14) (show i < 7 ∧ 7 < 2147483648 by omega)
  rw [show A 14 i = iZ (s 0 (36 + 2 * i)) from (h.1.s n4 hi).1] at z2
  have e1 := vZ_eq hzl
  have e2 : (vZ (z i) < iZ μ) = (z i ≤ μ) := by
    unfold vZ
    rw [iZ_lt (by omega)]
    exact propext ⟨fun z => by omega, fun z => by omega⟩
  have e3 : (vZ (z i) + iZ (s 0 (36 + 2 * i)) < iZ μ) = (z i + s 0 (36 + 2 * i) < μ + 1) := by
    unfold vZ
    rw [iZ_add, iZ_lt (by omega)]
    exact propext ⟨fun z => by omega, fun z => by omega⟩
  show rn ro 2 80 0 (lv_args 0 [.ref 54, .ref 8, .int (iZ i), .int (iZ μ)]) [] (hp A L) = _
  simp only [q80_0, q80_1, q80_4, q80_5, q80_8, q80_10, q80_12, q80_13, q80_16, q80_17, q80_19, q80_22, q80_23, q80_25, q80_26, q80_29, q80_30, q80_33, q80_34, q80_37, q80_38, q80_41, q80_42, zrk_127, kI_app, kJ_app, kP_app, kV_app, kS_app, kC_app, kN_app, kM_app, zsw_cons, zsw_nil, lv_args_I, lv_args_R, lv_args_L, lv_args_nil, zlook_cons, zrI_some, zrJ_some, zrP_some, zrC_some, zrA_rw, zrAS_rw, zrLen_rw, zst1_nil, zst1_cI, zst1_cR, zst1_cL, zrm1_nil, zrm1_cI, zrm1_cR, zrm1_cL, zst2_nil, zst2_cI, zst2_cR, zst2_cL, zrm2_nil, zrm2_cI, zrm2_cR, zrm2_cL, zkeep_nil, zkeep_cons, zsum_nil, zsum_I, zsum_R, zsum_L, zsum_N, toL_s, toL_n, List.cons_append, List.nil_append, List.mem_cons, List.not_mem_nil, reduceCtorEq, Nat.reduceAdd, Nat.reduceLT, Nat.reduceLeDiff, Nat.reduceEqDiff, Nat.zero_ne_one, Nat.one_ne_zero, Nat.add_zero, Nat.zero_add, or_false, false_or, or_true, true_or, and_true, true_and, and_self, ↓reduceIte, Nat.succ_ne_self, Nat.reduceGT, Nat.reduceSub, Nat.le_refl, Nat.zero_le, zis_O, cl_is, clG_0, clG_1, clG_2, clG_3, clG_4, clG_5, clG_6, clS_6, clG_7, clG_8, clG_9, clS_9, clG_10, clG_11, clS_11, clG_12, clS_12, clG_13, clS_13, clG_14, clS_14, clG_15, clS_15, clG_16, clG_17, clS_17, od_is, odG_0, odG_1, odS_1, odG_2, odG_3, odS_3, odG_4, re_is, reG_0, reS_0, reG_1, reG_2, reG_3, reS_3, reG_4, reS_4, reG_5, reS_5, reG_6, reS_6, wo_is, woG_0, woG_1, woG_2, woS_2, woG_3, lm_is, lmG_0, lmG_1, lmG_2, lmG_3, lmG_4, lmG_5, lmG_6, lmG_7, lmG_8, lmS_8, lmG_9, lmS_9, lmG_10, lmS_10, lmG_11, lmS_11, lmG_12, lmS_12, mo_is, moG_0, moG_1, moG_2, moG_3, moG_4, moG_5, moS_5, moG_6, moS_6, moG_7, moS_7, moG_8, moG_9, moS_9, moG_10, moS_10, moG_11, moS_11, moG_12, moS_12, moG_13, moS_13, moG_14, moG_15, moS_15, moG_16, moG_17, moS_17, moG_18, moG_19, moG_20, i32ne0, i32ne1, i32ne2, i32ne3, i32ne4, i32ne5, i32ne6, i32ne7, i32ne8, i32ne9, i32ne10, j64ne, Int32.reduceAdd, Int32.reduceSub, Int32.reduceMul, Int32.reduceLT, Int32.reduceOfNat, Int32.reduceToNatClampNeg, cU_at, Nat.reduceMul, Nat.reduceMod, catR, catI, cV_self, cU_self, hg0, hg1, hg2, hg3, hg4, hg5, hg6, hg7, hg8, hg9, hg10, hg11, hg12, hg13, hg14, hg15, hg16, hg17, hg18, hg19, hg20, hg21, hg22, hg23, hg24, hg25, hg26, hg27, hg28, hg29, hg30, hg31, hg32, hg33, hg34, hg35, hg36, hg37, hg38, hg39, hg40, hg41, hg42, hg43, hg44, hg45, hg46, hg47, hg48, hg49, hg50, hg51, hg52, hg53, hg54, hg55, hg56, hg57, hg58, hg59, hg60, hg61, hg62, hg63, hg64, hg65, hg66, hg67, hg68, hg69, hg70, hg71, hg72, hg73, hg1001, hg1002, hg1003, hg1000, hg2000, hs0, hs8, hs9, hs10, hs11, hs12, hs13, hs14, hs15, hs16, hs17, hs18, hs19, hs20, hs21, hs22, hs23, hs24, hs25, hs26, hs27, hs29, hs30, hs31, hs32, hs33, hs34, hs35, hs36, hs37, hs38, hs39, hs40, hs41, hs42, hs43, hs44, hs45, hs46, hs47, hs48, hs49, hs50, hs51, hs52, hs53, hs54, hs55, hs56, hs57, hs59, hs60, hs61, hs62, hs63, hs64, hs65, hs66, hs67, hs68, hs69, hs70, hs71, hs72, hs73, hw8, hw18, hw29, hw39, sp_at ro (hg55 A L) (show 7 < 2 ^ 31 by decide), sp_at ro (hg14 A L) (show 7 < 2 ^ 31 by decide), z1, z2, e1, e2, e3]
  unfold burD
  by_cases c1 : z i = 0
  · rw [if_pos c1, if_pos c1]
    rfl
  · rw [if_neg c1, if_neg c1]
    by_cases c2 : μ < z i
    · rw [if_pos c2, if_neg (by omega)]
      rfl
    · rw [if_neg c2, if_pos (by omega)]
      by_cases c3 : z i + s 0 (36 + 2 * i) < μ + 1
      · rw [if_pos c3, if_pos c3]
        rfl
      · rw [if_neg c3, if_neg c3]
        rfl
theorem sp_79 (h : CInv A L s) (q : SInv s) {z : Nat → Nat} {μ t : Nat} (ht : t < s 0 4) (hz : ∀ i, i < s 0 4 → A 55 i = vZ (z i)) (hzl : ∀ i, z i ≤ 1000) (hμ : μ ≤ 1000) : rm ro 79 [.ref 54, .ref 8, .int (iZ t), .int (iZ μ)] (hp A L) = some (some (.int (iZ (hN (s 0) z μ t (s 0 4)))), hp A L) := by
  have n4 := q.1.n4
  rw [hN_n q.1 z ht]
  have bt := (q.1.s ht).2.2
  have p7 : 2 ^ t ≤ 64 := Nat.pow_le_pow_right (n := 2) (j := 6) (by decide) (by omega)
  have zb := zat_i (g := A 15) (show t < 7 ∧ 7 < 2147483648 by omega)
  rw [show A 15 t = iZ (s 0 (37 + 2 * t)) from (h.1.s n4 ht).2] at zb
  have lp : ∀ j i : Nat, j + i = t → rn ro 3 79 6 [(0, .ref 54), (1, .ref 8), (2, .int (iZ t)), (3, .int (iZ μ)), (4, .int (iZ (hN (s 0) z μ t i))), (5, .int (iZ i))] [] (hp A L) = some (some (.int (iZ (hN (s 0) z μ t t))), hp A L) := by
    intro j
    induction j with
    | zero =>
      intro i hi
      have e : i = t := by omega
      subst e
      rw [q79_6]
      simp only [q79_0, q79_1, q79_3, q79_4, q79_8, q79_9, q79_12, q79_13, q79_16, q79_17, q79_20, q79_22, q79_25, q79_28, q79_29, q79_30, q79_32, q79_33, q79_36, q79_39, q79_41, q79_42, q79_45, q79_47, q79_50, q79_51, q79_53, q79_56, q79_59, q79_61, zrk_127, zrk_130, zrk_80, kI_app, kJ_app, kP_app, kV_app, kS_app, kC_app, kN_app, kM_app, zsw_cons, zsw_nil, lv_args_I, lv_args_R, lv_args_L, lv_args_nil, zlook_cons, zrI_some, zrJ_some, zrP_some, zrC_some, zrA_rw, zrAS_rw, zrLen_rw, zst1_nil, zst1_cI, zst1_cR, zst1_cL, zrm1_nil, zrm1_cI, zrm1_cR, zrm1_cL, zst2_nil, zst2_cI, zst2_cR, zst2_cL, zrm2_nil, zrm2_cI, zrm2_cR, zrm2_cL, zkeep_nil, zkeep_cons, zsum_nil, zsum_I, zsum_R, zsum_L, zsum_N, toL_s, toL_n, List.cons_append, List.nil_append, List.mem_cons, List.not_mem_nil, reduceCtorEq, Nat.reduceAdd, Nat.reduceLT, Nat.reduceLeDiff, Nat.reduceEqDiff, Nat.zero_ne_one, Nat.one_ne_zero, Nat.add_zero, Nat.zero_add, or_false, false_or, or_true, true_or, and_true, true_and, and_self, ↓reduceIte, Nat.succ_ne_self, Nat.reduceGT, Nat.reduceSub, Nat.le_refl, Nat.zero_le, zis_O, cl_is, clG_0, clG_1, clG_2, clG_3, clG_4, clG_5, clG_6, clS_6, clG_7, clG_8, clG_9, clS_9, clG_10, clG_11, clS_11, clG_12, clS_12, clG_13, clS_13, clG_14, clS_14, clG_15, clS_15, clG_16, clG_17, clS_17, od_is, odG_0, odG_1, odS_1, odG_2, odG_3, odS_3, odG_4, re_is, reG_0, reS_0, reG_1, reG_2, reG_3, reS_3, reG_4, reS_4, reG_5, reS_5, reG_6, reS_6, wo_is, woG_0, woG_1, woG_2, woS_2, woG_3, lm_is, lmG_0, lmG_1, lmG_2, lmG_3, lmG_4, lmG_5, lmG_6, lmG_7, lmG_8, lmS_8, lmG_9, lmS_9, lmG_10, lmS_10, lmG_11, lmS_11, lmG_12, lmS_12, mo_is, moG_0, moG_1, moG_2, moG_3, moG_4, moG_5, moS_5, moG_6, moS_6, moG_7, moS_7, moG_8, moG_9, moS_9, moG_10, moS_10, moG_11, moS_11, moG_12, moS_12, moG_13, moS_13, moG_14, moG_15, moS_15, moG_16, moG_17, moS_17, moG_18, moG_19, moG_20, i32ne0, i32ne1, i32ne2, i32ne3, i32ne4, i32ne5, i32ne6, i32ne7, i32ne8, i32ne9, i32ne10, j64ne, Int32.reduceAdd, Int32.reduceSub, Int32.reduceMul, Int32.reduceLT, Int32.reduceOfNat, Int32.reduceToNatClampNeg, cU_at, Nat.reduceMul, Nat.reduceMod, Int32.lt_irrefl, if_false]
    | succ j ih =>
      intro i hi
      have c : iZ (i : Int) < iZ t := by
        rw [iZ_lt (by omega)]
        omega
      have r := sp_80 (ro := ro) h q (μ := μ) (i := i) (z := z) (by omega) (hz i (by omega)) (hzl i) hμ
      have b := burD_le (a := s 0) z μ i
      have z2 := zat_i (g := A 14) (show i < 7 ∧ 7 < 2147483648 by omega)
      rw [show A 14 i = iZ (s 0 (36 + 2 * i)) from (h.1.s n4 (by omega)).1] at z2
      have bi := iZ_bit (n := s 0 (37 + 2 * t)) (k := i) (by omega) (by omega)
      have ad : iZ (hN (s 0) z μ t i) + iZ (s 0 (36 + 2 * i)) = iZ ((hN (s 0) z μ t i + s 0 (36 + 2 * i) : Nat) : Int) := by
        rw [iZ_add]
        congr 1
      rw [← ih (i + 1) (by omega), q79_6]
      by_cases c1 : (s 0 (37 + 2 * t)).testBit i = true
      · by_cases c2 : burD (s 0) z μ i = 0
        · have e : hN (s 0) z μ t (i + 1) = hN (s 0) z μ t i := by
            show hN (s 0) z μ t i + (if _ then (if _ then 0 else _) else 0) = _
            rw [if_pos c1, if_pos c2, Nat.add_zero]
          rw [e]
          rw [c2, show iZ ((0 : Nat) : Int) = 0 from rfl] at r
          simp only [q79_0, q79_1, q79_3, q79_4, q79_8, q79_9, q79_12, q79_13, q79_16, q79_17, q79_20, q79_22, q79_25, q79_28, q79_29, q79_30, q79_32, q79_33, q79_36, q79_39, q79_41, q79_42, q79_45, q79_47, q79_50, q79_51, q79_53, q79_56, q79_59, q79_61, zrk_127, zrk_130, zrk_80, kI_app, kJ_app, kP_app, kV_app, kS_app, kC_app, kN_app, kM_app, zsw_cons, zsw_nil, lv_args_I, lv_args_R, lv_args_L, lv_args_nil, zlook_cons, zrI_some, zrJ_some, zrP_some, zrC_some, zrA_rw, zrAS_rw, zrLen_rw, zst1_nil, zst1_cI, zst1_cR, zst1_cL, zrm1_nil, zrm1_cI, zrm1_cR, zrm1_cL, zst2_nil, zst2_cI, zst2_cR, zst2_cL, zrm2_nil, zrm2_cI, zrm2_cR, zrm2_cL, zkeep_nil, zkeep_cons, zsum_nil, zsum_I, zsum_R, zsum_L, zsum_N, toL_s, toL_n, List.cons_append, List.nil_append, List.mem_cons, List.not_mem_nil, reduceCtorEq, Nat.reduceAdd, Nat.reduceLT, Nat.reduceLeDiff, Nat.reduceEqDiff, Nat.zero_ne_one, Nat.one_ne_zero, Nat.add_zero, Nat.zero_add, or_false, false_or, or_true, true_or, and_true, true_and, and_self, ↓reduceIte, Nat.succ_ne_self, Nat.reduceGT, Nat.reduceSub, Nat.le_refl, Nat.zero_le, zis_O, cl_is, clG_0, clG_1, clG_2, clG_3, clG_4, clG_5, clG_6, clS_6, clG_7, clG_8, clG_9, clS_9, clG_10, clG_11, clS_11, clG_12, clS_12, clG_13, clS_13, clG_14, clS_14, clG_15, clS_15, clG_16, clG_17, clS_17, od_is, odG_0, odG_1, odS_1, odG_2, odG_3, odS_3, odG_4, re_is, reG_0, reS_0, reG_1, reG_2, reG_3, reS_3, reG_4, reS_4, reG_5, reS_5, reG_6, reS_6, wo_is, woG_0, woG_1, woG_2, woS_2, woG_3, lm_is, lmG_0, lmG_1, lmG_2, lmG_3, lmG_4, lmG_5, lmG_6, lmG_7, lmG_8, lmS_8, lmG_9, lmS_9, lmG_10, lmS_10, lmG_11, lmS_11, lmG_12, lmS_12, mo_is, moG_0, moG_1, moG_2, moG_3, moG_4, moG_5, moS_5, moG_6, moS_6, moG_7, moS_7, moG_8, moG_9, moS_9, moG_10, moS_10, moG_11, moS_11, moG_12, moS_12, moG_13, moS_13, moG_14, moG_15, moS_15, moG_16, moG_17, moS_17, moG_18, moG_19, moG_20, i32ne0, i32ne1, i32ne2, i32ne3, i32ne4, i32ne5, i32ne6, i32ne7, i32ne8, i32ne9, i32ne10, j64ne, Int32.reduceAdd, Int32.reduceSub, Int32.reduceMul, Int32.reduceLT, Int32.reduceOfNat, Int32.reduceToNatClampNeg, cU_at, Nat.reduceMul, Nat.reduceMod, catR, catI, cV_self, cU_self, hg0, hg1, hg2, hg3, hg4, hg5, hg6, hg7, hg8, hg9, hg10, hg11, hg12, hg13, hg14, hg15, hg16, hg17, hg18, hg19, hg20, hg21, hg22, hg23, hg24, hg25, hg26, hg27, hg28, hg29, hg30, hg31, hg32, hg33, hg34, hg35, hg36, hg37, hg38, hg39, hg40, hg41, hg42, hg43, hg44, hg45, hg46, hg47, hg48, hg49, hg50, hg51, hg52, hg53, hg54, hg55, hg56, hg57, hg58, hg59, hg60, hg61, hg62, hg63, hg64, hg65, hg66, hg67, hg68, hg69, hg70, hg71, hg72, hg73, hg1001, hg1002, hg1003, hg1000, hg2000, hs0, hs8, hs9, hs10, hs11, hs12, hs13, hs14, hs15, hs16, hs17, hs18, hs19, hs20, hs21, hs22, hs23, hs24, hs25, hs26, hs27, hs29, hs30, hs31, hs32, hs33, hs34, hs35, hs36, hs37, hs38, hs39, hs40, hs41, hs42, hs43, hs44, hs45, hs46, hs47, hs48, hs49, hs50, hs51, hs52, hs53, hs54, hs55, hs56, hs57, hs59, hs60, hs61, hs62, hs63, hs64, hs65, hs66, hs67, hs68, hs69, hs70, hs71, hs72, hs73, hw8, hw18, hw29, hw39, c, if_true, sp_at ro (hg15 A L) (show 7 < 2 ^ 31 by decide), zb, sp_isIn, bi, c1, z10, if_false, r, iZ_suc]
        · have e : hN (s 0) z μ t (i + 1) = hN (s 0) z μ t i + s 0 (36 + 2 * i) := by
            show hN (s 0) z μ t i + (if _ then (if _ then 0 else _) else 0) = _
            rw [if_pos c1, if_neg c2]
          rw [e]
          rw [show burD (s 0) z μ i = 1 by omega, show iZ ((1 : Nat) : Int) = 1 from rfl] at r
          simp only [q79_0, q79_1, q79_3, q79_4, q79_8, q79_9, q79_12, q79_13, q79_16, q79_17, q79_20, q79_22, q79_25, q79_28, q79_29, q79_30, q79_32, q79_33, q79_36, q79_39, q79_41, q79_42, q79_45, q79_47, q79_50, q79_51, q79_53, q79_56, q79_59, q79_61, zrk_127, zrk_130, zrk_80, kI_app, kJ_app, kP_app, kV_app, kS_app, kC_app, kN_app, kM_app, zsw_cons, zsw_nil, lv_args_I, lv_args_R, lv_args_L, lv_args_nil, zlook_cons, zrI_some, zrJ_some, zrP_some, zrC_some, zrA_rw, zrAS_rw, zrLen_rw, zst1_nil, zst1_cI, zst1_cR, zst1_cL, zrm1_nil, zrm1_cI, zrm1_cR, zrm1_cL, zst2_nil, zst2_cI, zst2_cR, zst2_cL, zrm2_nil, zrm2_cI, zrm2_cR, zrm2_cL, zkeep_nil, zkeep_cons, zsum_nil, zsum_I, zsum_R, zsum_L, zsum_N, toL_s, toL_n, List.cons_append, List.nil_append, List.mem_cons, List.not_mem_nil, reduceCtorEq, Nat.reduceAdd, Nat.reduceLT, Nat.reduceLeDiff, Nat.reduceEqDiff, Nat.zero_ne_one, Nat.one_ne_zero, Nat.add_zero, Nat.zero_add, or_false, false_or, or_true, true_or, and_true, true_and, and_self, ↓reduceIte, Nat.succ_ne_self, Nat.reduceGT, Nat.reduceSub, Nat.le_refl, Nat.zero_le, zis_O, cl_is, clG_0, clG_1, clG_2, clG_3, clG_4, clG_5, clG_6, clS_6, clG_7, clG_8, clG_9, clS_9, clG_10, clG_11, clS_11, clG_12, clS_12, clG_13, clS_13, clG_14, clS_14, clG_15, clS_15, clG_16, clG_17, clS_17, od_is, odG_0, odG_1, odS_1, odG_2, odG_3, odS_3, odG_4, re_is, reG_0, reS_0, reG_1, reG_2, reG_3, reS_3, reG_4, reS_4, reG_5, reS_5, reG_6, reS_6, wo_is, woG_0, woG_1, woG_2, woS_2, woG_3, lm_is, lmG_0, lmG_1, lmG_2, lmG_3, lmG_4, lmG_5, lmG_6, lmG_7, lmG_8, lmS_8, lmG_9, lmS_9, lmG_10, lmS_10, lmG_11, lmS_11, lmG_12, lmS_12, mo_is, moG_0, moG_1, moG_2, moG_3, moG_4, moG_5, moS_5, moG_6, moS_6, moG_7, moS_7, moG_8, moG_9, moS_9, moG_10, moS_10, moG_11, moS_11, moG_12, moS_12, moG_13, moS_13, moG_14, moG_15, moS_15, moG_16, moG_17, moS_17, moG_18, moG_19, moG_20, i32ne0, i32ne1, i32ne2, i32ne3, i32ne4, i32ne5, i32ne6, i32ne7, i32ne8, i32ne9, i32ne10, j64ne, Int32.reduceAdd, Int32.reduceSub, Int32.reduceMul, Int32.reduceLT, Int32.reduceOfNat, Int32.reduceToNatClampNeg, cU_at, Nat.reduceMul, Nat.reduceMod, catR, catI, cV_self, cU_self, hg0, hg1, hg2, hg3, hg4, hg5, hg6, hg7, hg8, hg9, hg10, hg11, hg12, hg13, hg14, hg15, hg16, hg17, hg18, hg19, hg20, hg21, hg22, hg23, hg24, hg25, hg26, hg27, hg28, hg29, hg30, hg31, hg32, hg33, hg34, hg35, hg36, hg37, hg38, hg39, hg40, hg41, hg42, hg43, hg44, hg45, hg46, hg47, hg48, hg49, hg50, hg51, hg52, hg53, hg54, hg55, hg56, hg57, hg58, hg59, hg60, hg61, hg62, hg63, hg64, hg65, hg66, hg67, hg68, hg69, hg70, hg71, hg72, hg73, hg1001, hg1002, hg1003, hg1000, hg2000, hs0, hs8, hs9, hs10, hs11, hs12, hs13, hs14, hs15, hs16, hs17, hs18, hs19, hs20, hs21, hs22, hs23, hs24, hs25, hs26, hs27, hs29, hs30, hs31, hs32, hs33, hs34, hs35, hs36, hs37, hs38, hs39, hs40, hs41, hs42, hs43, hs44, hs45, hs46, hs47, hs48, hs49, hs50, hs51, hs52, hs53, hs54, hs55, hs56, hs57, hs59, hs60, hs61, hs62, hs63, hs64, hs65, hs66, hs67, hs68, hs69, hs70, hs71, hs72, hs73, hw8, hw18, hw29, hw39, c, if_true, sp_at ro (hg15 A L) (show 7 < 2 ^ 31 by decide), sp_at ro (hg14 A L) (show 7 < 2 ^ 31 by decide), z2, zb, sp_isIn, bi, c1, z10, if_false, r, ad, iZ_suc]
      · have e : hN (s 0) z μ t (i + 1) = hN (s 0) z μ t i := by
          show hN (s 0) z μ t i + (if _ then (if _ then 0 else _) else 0) = _
          rw [if_neg c1, Nat.add_zero]
        rw [e]
        simp only [q79_0, q79_1, q79_3, q79_4, q79_8, q79_9, q79_12, q79_13, q79_16, q79_17, q79_20, q79_22, q79_25, q79_28, q79_29, q79_30, q79_32, q79_33, q79_36, q79_39, q79_41, q79_42, q79_45, q79_47, q79_50, q79_51, q79_53, q79_56, q79_59, q79_61, zrk_127, zrk_130, zrk_80, kI_app, kJ_app, kP_app, kV_app, kS_app, kC_app, kN_app, kM_app, zsw_cons, zsw_nil, lv_args_I, lv_args_R, lv_args_L, lv_args_nil, zlook_cons, zrI_some, zrJ_some, zrP_some, zrC_some, zrA_rw, zrAS_rw, zrLen_rw, zst1_nil, zst1_cI, zst1_cR, zst1_cL, zrm1_nil, zrm1_cI, zrm1_cR, zrm1_cL, zst2_nil, zst2_cI, zst2_cR, zst2_cL, zrm2_nil, zrm2_cI, zrm2_cR, zrm2_cL, zkeep_nil, zkeep_cons, zsum_nil, zsum_I, zsum_R, zsum_L, zsum_N, toL_s, toL_n, List.cons_append, List.nil_append, List.mem_cons, List.not_mem_nil, reduceCtorEq, Nat.reduceAdd, Nat.reduceLT, Nat.reduceLeDiff, Nat.reduceEqDiff, Nat.zero_ne_one, Nat.one_ne_zero, Nat.add_zero, Nat.zero_add, or_false, false_or, or_true, true_or, and_true, true_and, and_self, ↓reduceIte, Nat.succ_ne_self, Nat.reduceGT, Nat.reduceSub, Nat.le_refl, Nat.zero_le, zis_O, cl_is, clG_0, clG_1, clG_2, clG_3, clG_4, clG_5, clG_6, clS_6, clG_7, clG_8, clG_9, clS_9, clG_10, clG_11, clS_11, clG_12, clS_12, clG_13, clS_13, clG_14, clS_14, clG_15, clS_15, clG_16, clG_17, clS_17, od_is, odG_0, odG_1, odS_1, odG_2, odG_3, odS_3, odG_4, re_is, reG_0, reS_0, reG_1, reG_2, reG_3, reS_3, reG_4, reS_4, reG_5, reS_5, reG_6, reS_6, wo_is, woG_0, woG_1, woG_2, woS_2, woG_3, lm_is, lmG_0, lmG_1, lmG_2, lmG_3, lmG_4, lmG_5, lmG_6, lmG_7, lmG_8, lmS_8, lmG_9, lmS_9, lmG_10, lmS_10, lmG_11, lmS_11, lmG_12, lmS_12, mo_is, moG_0, moG_1, moG_2, moG_3, moG_4, moG_5, moS_5, moG_6, moS_6, moG_7, moS_7, moG_8, moG_9, moS_9, moG_10, moS_10, moG_11, moS_11, moG_12, moS_12, moG_13, moS_13, moG_14, moG_15, moS_15, moG_16, moG_17, moS_17, moG_18, moG_19, moG_20, i32ne0, i32ne1, i32ne2, i32ne3, i32ne4, i32ne5, i32ne6, i32ne7, i32ne8, i32ne9, i32ne10, j64ne, Int32.reduceAdd, Int32.reduceSub, Int32.reduceMul, Int32.reduceLT, Int32.reduceOfNat, Int32.reduceToNatClampNeg, cU_at, Nat.reduceMul, Nat.reduceMod, catR, catI, cV_self, cU_self, hg0, hg1, hg2, hg3, hg4, hg5, hg6, hg7, hg8, hg9, hg10, hg11, hg12, hg13, hg14, hg15, hg16, hg17, hg18, hg19, hg20, hg21, hg22, hg23, hg24, hg25, hg26, hg27, hg28, hg29, hg30, hg31, hg32, hg33, hg34, hg35, hg36, hg37, hg38, hg39, hg40, hg41, hg42, hg43, hg44, hg45, hg46, hg47, hg48, hg49, hg50, hg51, hg52, hg53, hg54, hg55, hg56, hg57, hg58, hg59, hg60, hg61, hg62, hg63, hg64, hg65, hg66, hg67, hg68, hg69, hg70, hg71, hg72, hg73, hg1001, hg1002, hg1003, hg1000, hg2000, hs0, hs8, hs9, hs10, hs11, hs12, hs13, hs14, hs15, hs16, hs17, hs18, hs19, hs20, hs21, hs22, hs23, hs24, hs25, hs26, hs27, hs29, hs30, hs31, hs32, hs33, hs34, hs35, hs36, hs37, hs38, hs39, hs40, hs41, hs42, hs43, hs44, hs45, hs46, hs47, hs48, hs49, hs50, hs51, hs52, hs53, hs54, hs55, hs56, hs57, hs59, hs60, hs61, hs62, hs63, hs64, hs65, hs66, hs67, hs68, hs69, hs70, hs71, hs72, hs73, hw8, hw18, hw29, hw39, c, if_true, sp_at ro (hg15 A L) (show 7 < 2 ^ 31 by decide), zb, sp_isIn, bi, c1, if_false, iZ_suc]
  show rn ro 3 79 0 (lv_args 0 [.ref 54, .ref 8, .int (iZ t), .int (iZ μ)]) [] (hp A L) = _
  simp only [q79_0, q79_1, q79_3, q79_4, q79_8, q79_9, q79_12, q79_13, q79_16, q79_17, q79_20, q79_22, q79_25, q79_28, q79_29, q79_30, q79_32, q79_33, q79_36, q79_39, q79_41, q79_42, q79_45, q79_47, q79_50, q79_51, q79_53, q79_56, q79_59, q79_61, zrk_127, zrk_130, zrk_80, kI_app, kJ_app, kP_app, kV_app, kS_app, kC_app, kN_app, kM_app, zsw_cons, zsw_nil, lv_args_I, lv_args_R, lv_args_L, lv_args_nil, zlook_cons, zrI_some, zrJ_some, zrP_some, zrC_some, zrA_rw, zrAS_rw, zrLen_rw, zst1_nil, zst1_cI, zst1_cR, zst1_cL, zrm1_nil, zrm1_cI, zrm1_cR, zrm1_cL, zst2_nil, zst2_cI, zst2_cR, zst2_cL, zrm2_nil, zrm2_cI, zrm2_cR, zrm2_cL, zkeep_nil, zkeep_cons, zsum_nil, zsum_I, zsum_R, zsum_L, zsum_N, toL_s, toL_n, List.cons_append, List.nil_append, List.mem_cons, List.not_mem_nil, reduceCtorEq, Nat.reduceAdd, Nat.reduceLT, Nat.reduceLeDiff, Nat.reduceEqDiff, Nat.zero_ne_one, Nat.one_ne_zero, Nat.add_zero, Nat.zero_add, or_false, false_or, or_true, true_or, and_true, true_and, and_self, ↓reduceIte, Nat.succ_ne_self, Nat.reduceGT, Nat.reduceSub, Nat.le_refl, Nat.zero_le, zis_O, cl_is, clG_0, clG_1, clG_2, clG_3, clG_4, clG_5, clG_6, clS_6, clG_7, clG_8, clG_9, clS_9, clG_10, clG_11, clS_11, clG_12, clS_12, clG_13, clS_13, clG_14, clS_14, clG_15, clS_15, clG_16, clG_17, clS_17, od_is, odG_0, odG_1, odS_1, odG_2, odG_3, odS_3, odG_4, re_is, reG_0, reS_0, reG_1, reG_2, reG_3, reS_3, reG_4, reS_4, reG_5, reS_5, reG_6, reS_6, wo_is, woG_0, woG_1, woG_2, woS_2, woG_3, lm_is, lmG_0, lmG_1, lmG_2, lmG_3, lmG_4, lmG_5, lmG_6, lmG_7, lmG_8, lmS_8, lmG_9, lmS_9, lmG_10, lmS_10, lmG_11, lmS_11, lmG_12, lmS_12, mo_is, moG_0, moG_1, moG_2, moG_3, moG_4, moG_5, moS_5, moG_6, moS_6, moG_7, moS_7, moG_8, moG_9, moS_9, moG_10, moS_10, moG_11, moS_11, moG_12, moS_12, moG_13, moS_13, moG_14, moG_15, moS_15, moG_16, moG_17, moS_17, moG_18, moG_19, moG_20, i32ne0, i32ne1, i32ne2, i32ne3, i32ne4, i32ne5, i32ne6, i32ne7, i32ne8, i32ne9, i32ne10, j64ne, Int32.reduceAdd, Int32.reduceSub, Int32.reduceMul, Int32.reduceLT, Int32.reduceOfNat, Int32.reduceToNatClampNeg, cU_at, Nat.reduceMul, Nat.reduceMod, catR, catI, cV_self, cU_self, hg0, hg1, hg2, hg3, hg4, hg5, hg6, hg7, hg8, hg9, hg10, hg11, hg12, hg13, hg14, hg15, hg16, hg17, hg18, hg19, hg20, hg21, hg22, hg23, hg24, hg25, hg26, hg27, hg28, hg29, hg30, hg31, hg32, hg33, hg34, hg35, hg36, hg37, hg38, hg39, hg40, hg41, hg42, hg43, hg44, hg45, hg46, hg47, hg48, hg49, hg50, hg51, hg52, hg53, hg54, hg55, hg56, hg57, hg58, hg59, hg60, hg61, hg62, hg63, hg64, hg65, hg66, hg67, hg68, hg69, hg70, hg71, hg72, hg73, hg1001, hg1002, hg1003, hg1000, hg2000, hs0, hs8, hs9, hs10, hs11, hs12, hs13, hs14, hs15, hs16, hs17, hs18, hs19, hs20, hs21, hs22, hs23, hs24, hs25, hs26, hs27, hs29, hs30, hs31, hs32, hs33, hs34, hs35, hs36, hs37, hs38, hs39, hs40, hs41, hs42, hs43, hs44, hs45, hs46, hs47, hs48, hs49, hs50, hs51, hs52, hs53, hs54, hs55, hs56, hs57, hs59, hs60, hs61, hs62, hs63, hs64, hs65, hs66, hs67, hs68, hs69, hs70, hs71, hs72, hs73, hw8, hw18, hw29, hw39]
  exact lp t 0 (by omega)
end WO2
