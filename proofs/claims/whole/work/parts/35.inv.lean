/-! THE INVARIANTS: s 0 the book, s 1 what was refused, s 2 the fraction, s 3 0 how much is typed, s 4 the text, s 5 which images are kept, s 6 s 7 the images -/
def sU (s : Nat → Nat → Nat) (k : Nat) (v : Nat → Nat) : Nat → Nat → Nat := fun j => if j = k then v else s j
def cntI (s : Nat → Nat → Nat) (x : Int) : Nat → Nat → Nat := sU s 1 (fun i => s 1 i + if x = -2 - (i : Int) then 1 else 0)
def CInv (A : Nat → Nat → Int32) (L : Nat → Nat → Int64) (s : Nat → Nat → Nat) : Prop := Rel (fun k => A (8 + k)) (s 0) ∧ (∀ i, i < 3 → A 0 (10 + i) = iZ (s 1 i)) ∧ (L 0 8 = jZ (s 2 0) ∧ L 0 9 = jZ (s 2 1)) ∧ (A 59 0 = iZ (s 3 0) ∧ ∀ i, i < s 3 0 → A 60 i = iZ (s 4 i)) ∧ (∀ i, i < 2 → A 49 i = iZ (s 5 i)) ∧ (s 5 0 = 1 → Rel (fun k => A (29 + k)) (s 6)) ∧ (s 5 1 = 1 → Rel (fun k => A (39 + k)) (s 7))
def MInv (A : Nat → Nat → Int32) (L : Nat → Nat → Int64) (s : Nat → Nat → Nat) : Prop := (∀ j, j < 87 → A 63 j = iZ (s 0 j)) ∧ (∀ i, i < 3 → A 67 i = iZ (s 1 i)) ∧ (L 62 6 = jZ (s 2 0) ∧ L 62 7 = jZ (s 2 1)) ∧ (A 62 9 = iZ (s 3 0) ∧ ∀ i, i < s 3 0 → A 68 i = iZ (s 4 i)) ∧ (∀ i, i < 2 → A 65 i = iZ (s 5 i)) ∧ (s 5 0 = 1 → ∀ j, j < 87 → A 64 j = iZ (s 6 j)) ∧ (s 5 1 = 1 → ∀ j, j < 87 → A 64 (87 + j) = iZ (s 7 j)) ∧ A 62 5 = 0
def SInv (s : Nat → Nat → Nat) : Prop := Good (s 0) ∧ (s 3 0 ≤ 150 ∧ ∀ i, i < s 3 0 → s 4 i ≤ 127) ∧ (∀ i, i < 2 → s 5 i ≤ 1) ∧ (s 5 0 = 1 → Good (s 6)) ∧ (s 5 1 = 1 → Good (s 7))
def COp (ro : zR) (m : Nat) (as : List Value) (v : Value) (s s' : Nat → Nat → Nat) : Prop := ∀ A L, CInv A L s → ∃ A' L', rm ro m (.ref 0 :: as) (hp A L) = some (some v, hp A' L') ∧ CInv A' L' s' ∧ ∀ k, 62 ≤ k → A' k = A k ∧ L' k = L k
def MOp (ro : zR) (m : Nat) (as : List Value) (v : Value) (s s' : Nat → Nat → Nat) : Prop := ∀ A L, MInv A L s → ∃ A' L', rm ro m (.ref 62 :: as) (hp A L) = some (some v, hp A' L') ∧ MInv A' L' s' ∧ ∀ k, k < 62 → A' k = A k ∧ L' k = L k
theorem kf_lt : ∀ j, j < 87 → kf j < 10 := by decide +kernel
theorem RelL.congr {lv : Nat → Prop} {C D : Nat → Nat → Int32} {a : Nat → Nat} (h : RelL lv C a) (e : ∀ k, k < 10 → D k = C k) : RelL lv D a := fun j hj hl => by
  rw [e _ (kf_lt j hj)]
  exact h j hj hl
theorem cW_in (A : Nat → Nat → Int32) (o : Nat) (C : Nat → Nat → Int32) {k : Nat} (h : k < 10) : cW A o C (o + k) = C k := by
  show (if o ≤ o + k ∧ o + k < o + 10 then C (o + k - o) else A (o + k)) = C k
  rw [if_pos (by omega), Nat.add_sub_cancel_left]
theorem cW_out (A : Nat → Nat → Int32) (o : Nat) (C : Nat → Nat → Int32) {k : Nat} (h : k < o ∨ o + 10 ≤ k) : cW A o C k = A k := if_neg (by omega)
section INV
variable {ro : zR} {A : Nat → Nat → Int32} {L : Nat → Nat → Int64} {s : Nat → Nat → Nat}
theorem CInv.now (h : CInv A L s) {C : Nat → Nat → Int32} {a : Nat → Nat} (R : Rel C a) : CInv (cW A 8 C) L (sU s 0 a) := by
  obtain ⟨h0, h1, h2, h3, h4, h5, h6⟩ := h
  refine ⟨RelL.congr R fun k hk => cW_in A 8 C hk, h1, h2, h3, h4, fun e => RelL.congr (h5 e) fun k hk => cW_out A 8 C (by omega), fun e => RelL.congr (h6 e) fun k hk => cW_out A 8 C (by omega)⟩
def cntA (A : Nat → Nat → Int32) (x : Int) : Nat → Nat → Int32 := if x = -2 then cU A 0 (upd (A 0) 10 (A 0 10 + 1)) else if x = -3 then cU A 0 (upd (A 0) 11 (A 0 11 + 1)) else if x = -4 then cU A 0 (upd (A 0) 12 (A 0 12 + 1)) else A
theorem cntA_n (A : Nat → Nat → Int32) (x : Int) {k : Nat} (h : k ≠ 0) : cntA A x k = A k := by
  unfold cntA
  split
  · exact cU_n h
  · split
    · exact cU_n h
    · split
      · exact cU_n h
      · rfl
theorem iZ_suc (n : Nat) : iZ n + 1 = iZ ((n + 1 : Nat) : Int) := by
  rw [iZ_1, iZ_add]
  congr 1
theorem CInv.cnt (h : CInv A L s) (x : Int) : CInv (cntA A x) L (cntI s x) := by
  obtain ⟨h0, h1, h2, h3, h4, h5, h6⟩ := h
  have e0 := h1 0 (by decide)
  have e1 := h1 1 (by decide)
  have e2 := h1 2 (by decide)
  refine ⟨RelL.congr h0 fun k hk => cntA_n A x (by omega), fun i hi => ?_, h2, ?_, ?_, fun e => RelL.congr (h5 e) fun k hk => cntA_n A x (by omega), fun e => RelL.congr (h6 e) fun k hk => cntA_n A x (by omega)⟩
  · show cntA A x 0 (10 + i) = iZ ((s 1 i + if x = -2 - (i : Int) then 1 else 0 : Nat) : Int)
    unfold cntA
    rcases (show i = 0 ∨ i = 1 ∨ i = 2 by omega) with rfl | rfl | rfl
    · by_cases q : x = -2
      · rw [if_pos q, if_pos (by omega)]
        show A 0 10 + 1 = _
        rw [← iZ_suc, ← e0]
      · rw [if_neg q, if_neg (show ¬ x = -2 - ((0 : Nat) : Int) by omega)]
        refine Eq.trans ?_ e0
        split
        · rfl
        · split <;> rfl
    · by_cases q : x = -3
      · rw [if_neg (by omega), if_pos q, if_pos (by omega)]
        show A 0 11 + 1 = _
        rw [← iZ_suc, ← e1]
      · rw [if_neg q, if_neg (show ¬ x = -2 - ((1 : Nat) : Int) by omega)]
        refine Eq.trans ?_ e1
        split
        · rfl
        · split <;> rfl
    · by_cases q : x = -4
      · rw [if_neg (by omega), if_neg (by omega), if_pos q, if_pos (by omega)]
        show A 0 12 + 1 = _
        rw [← iZ_suc, ← e2]
      · rw [if_neg q, if_neg (show ¬ x = -2 - ((2 : Nat) : Int) by omega)]
        refine Eq.trans ?_ e2
        split
        · rfl
        · split <;> rfl
  · rw [cntA_n A x (by decide), cntA_n A x (by decide)]
    exact h3
  · rw [cntA_n A x (by decide)]
    exact h4
theorem sp_counted (A : Nat → Nat → Int32) (L : Nat → Nat → Int64) {x : Int} (hx : -2147483648 ≤ x ∧ x < 2147483648) : rm ro 121 [.ref 0, .int (iZ x)] (hp A L) = some (some (.int (iZ x)), hp (cntA A x) L) := by
  show rn ro 1 121 0 (lv_args 0 [.ref 0, .int (iZ x)]) [] (hp A L) = _
  simp only [q121_0, q121_1, q121_3, q121_6, q121_7, q121_8, q121_11, q121_12, q121_13, q121_16, q121_19, q121_20, q121_22, q121_25, q121_26, q121_27, q121_30, q121_31, q121_32, q121_35, q121_38, q121_39, q121_41, q121_44, q121_45, q121_46, q121_49, q121_50, q121_51, q121_54, q121_55, kI_app, kJ_app, kP_app, kV_app, kS_app, kC_app, kN_app, kM_app, zsw_cons, zsw_nil, lv_args_I, lv_args_R, lv_args_L, lv_args_nil, zlook_cons, zrI_some, zrJ_some, zrP_some, zrC_some, zrA_rw, zrAS_rw, zrLen_rw, zst1_nil, zst1_cI, zst1_cR, zst1_cL, zrm1_nil, zrm1_cI, zrm1_cR, zrm1_cL, zst2_nil, zst2_cI, zst2_cR, zst2_cL, zrm2_nil, zrm2_cI, zrm2_cR, zrm2_cL, zkeep_nil, zkeep_cons, zsum_nil, zsum_I, zsum_R, zsum_L, zsum_N, toL_s, toL_n, List.cons_append, List.nil_append, List.mem_cons, List.not_mem_nil, reduceCtorEq, Nat.reduceAdd, Nat.reduceLT, Nat.reduceLeDiff, Nat.reduceEqDiff, Nat.zero_ne_one, Nat.one_ne_zero, Nat.add_zero, Nat.zero_add, or_false, false_or, or_true, true_or, and_true, true_and, and_self, ↓reduceIte, Nat.succ_ne_self, Nat.reduceGT, Nat.reduceSub, Nat.le_refl, Nat.zero_le, zis_O, cl_is, clG_0, clG_1, clG_2, clG_3, clG_4, clG_5, clG_6, clS_6, clG_7, clG_8, clG_9, clS_9, clG_10, clG_11, clS_11, clG_12, clS_12, clG_13, clS_13, clG_14, clS_14, clG_15, clS_15, clG_16, clG_17, clS_17, od_is, odG_0, odG_1, odS_1, odG_2, odG_3, odS_3, odG_4, re_is, reG_0, reS_0, reG_1, reG_2, reG_3, reS_3, reG_4, reS_4, reG_5, reS_5, reG_6, reS_6, wo_is, woG_0, woG_1, woG_2, woS_2, woG_3, lm_is, lmG_0, lmG_1, lmG_2, lmG_3, lmG_4, lmG_5, lmG_6, lmG_7, lmG_8, lmS_8, lmG_9, lmS_9, lmG_10, lmS_10, lmG_11, lmS_11, lmG_12, lmS_12, mo_is, moG_0, moG_1, moG_2, moG_3, moG_4, moG_5, moS_5, moG_6, moS_6, moG_7, moS_7, moG_8, moG_9, moS_9, moG_10, moS_10, moG_11, moS_11, moG_12, moS_12, moG_13, moS_13, moG_14, moG_15, moS_15, moG_16, moG_17, moS_17, moG_18, moG_19, moG_20, i32ne0, i32ne1, i32ne2, i32ne3, i32ne4, i32ne5, i32ne6, i32ne7, i32ne8, i32ne9, i32ne10, j64ne, Int32.reduceAdd, Int32.reduceSub, Int32.reduceMul, Int32.reduceLT, Int32.reduceOfNat, Int32.reduceToNatClampNeg, cU_at, Nat.reduceMul, Nat.reduceMod, catR, catI, cV_self, cU_self, hg0, hg1, hg2, hg3, hg4, hg5, hg6, hg7, hg8, hg9, hg10, hg11, hg12, hg13, hg14, hg15, hg16, hg17, hg18, hg19, hg20, hg21, hg22, hg23, hg24, hg25, hg26, hg27, hg28, hg29, hg30, hg31, hg32, hg33, hg34, hg35, hg36, hg37, hg38, hg39, hg40, hg41, hg42, hg43, hg44, hg45, hg46, hg47, hg48, hg49, hg50, hg51, hg52, hg53, hg54, hg55, hg56, hg57, hg58, hg59, hg60, hg61, hg62, hg63, hg64, hg65, hg66, hg67, hg68, hg69, hg70, hg71, hg72, hg73, hg1001, hg1002, hg1003, hg1000, hg2000, hs0, hs8, hs9, hs10, hs11, hs12, hs13, hs14, hs15, hs16, hs17, hs18, hs19, hs20, hs21, hs22, hs23, hs24, hs25, hs26, hs27, hs29, hs30, hs31, hs32, hs33, hs34, hs35, hs36, hs37, hs38, hs39, hs40, hs41, hs42, hs43, hs44, hs45, hs46, hs47, hs48, hs49, hs50, hs51, hs52, hs53, hs54, hs55, hs56, hs57, hs59, hs60, hs61, hs62, hs63, hs64, hs65, hs66, hs67, hs68, hs69, hs70, hs71, hs72, hs73, hw8, hw18, hw29, hw39, i_eqk (-2) (-2) rfl (by omega) hx, i_eqk (-3) (-3) rfl (by omega) hx, i_eqk (-4) (-4) rfl (by omega) hx]
  unfold cntA
  by_cases q2 : x = -2
  · simp only [q2, if_true]
  · by_cases q3 : x = -3
    · simp only [q2, q3, if_true, if_false]
      rfl
    · by_cases q4 : x = -4
      · simp only [q2, q3, q4, if_true, if_false]
        rfl
      · simp only [q2, q3, q4, if_false]
theorem sp_countedTen (A : Nat → Nat → Int32) (L : Nat → Nat → Int64) : rm ro 122 [.ref 0] (hp A L) = some (some (.int (-10)), hp (cntA A (-2)) L) := by
  show rn ro 1 122 0 (lv_args 0 [.ref 0]) [] (hp A L) = _
  simp only [q122_0, q122_1, q122_2, q122_5, q122_6, q122_7, q122_10, q122_12, kI_app, kJ_app, kP_app, kV_app, kS_app, kC_app, kN_app, kM_app, zsw_cons, zsw_nil, lv_args_I, lv_args_R, lv_args_L, lv_args_nil, zlook_cons, zrI_some, zrJ_some, zrP_some, zrC_some, zrA_rw, zrAS_rw, zrLen_rw, zst1_nil, zst1_cI, zst1_cR, zst1_cL, zrm1_nil, zrm1_cI, zrm1_cR, zrm1_cL, zst2_nil, zst2_cI, zst2_cR, zst2_cL, zrm2_nil, zrm2_cI, zrm2_cR, zrm2_cL, zkeep_nil, zkeep_cons, zsum_nil, zsum_I, zsum_R, zsum_L, zsum_N, toL_s, toL_n, List.cons_append, List.nil_append, List.mem_cons, List.not_mem_nil, reduceCtorEq, Nat.reduceAdd, Nat.reduceLT, Nat.reduceLeDiff, Nat.reduceEqDiff, Nat.zero_ne_one, Nat.one_ne_zero, Nat.add_zero, Nat.zero_add, or_false, false_or, or_true, true_or, and_true, true_and, and_self, ↓reduceIte, Nat.succ_ne_self, Nat.reduceGT, Nat.reduceSub, Nat.le_refl, Nat.zero_le, zis_O, cl_is, clG_0, clG_1, clG_2, clG_3, clG_4, clG_5, clG_6, clS_6, clG_7, clG_8, clG_9, clS_9, clG_10, clG_11, clS_11, clG_12, clS_12, clG_13, clS_13, clG_14, clS_14, clG_15, clS_15, clG_16, clG_17, clS_17, od_is, odG_0, odG_1, odS_1, odG_2, odG_3, odS_3, odG_4, re_is, reG_0, reS_0, reG_1, reG_2, reG_3, reS_3, reG_4, reS_4, reG_5, reS_5, reG_6, reS_6, wo_is, woG_0, woG_1, woG_2, woS_2, woG_3, lm_is, lmG_0, lmG_1, lmG_2, lmG_3, lmG_4, lmG_5, lmG_6, lmG_7, lmG_8, lmS_8, lmG_9, lmS_9, lmG_10, lmS_10, lmG_11, lmS_11, lmG_12, lmS_12, mo_is, moG_0, moG_1, moG_2, moG_3, moG_4, moG_5, moS_5, moG_6, moS_6, moG_7, moS_7, moG_8, moG_9, moS_9, moG_10, moS_10, moG_11, moS_11, moG_12, moS_12, moG_13, moS_13, moG_14, moG_15, moS_15, moG_16, moG_17, moS_17, moG_18, moG_19, moG_20, i32ne0, i32ne1, i32ne2, i32ne3, i32ne4, i32ne5, i32ne6, i32ne7, i32ne8, i32ne9, i32ne10, j64ne, Int32.reduceAdd, Int32.reduceSub, Int32.reduceMul, Int32.reduceLT, Int32.reduceOfNat, Int32.reduceToNatClampNeg, cU_at, Nat.reduceMul, Nat.reduceMod, catR, catI, cV_self, cU_self, hg0, hg1, hg2, hg3, hg4, hg5, hg6, hg7, hg8, hg9, hg10, hg11, hg12, hg13, hg14, hg15, hg16, hg17, hg18, hg19, hg20, hg21, hg22, hg23, hg24, hg25, hg26, hg27, hg28, hg29, hg30, hg31, hg32, hg33, hg34, hg35, hg36, hg37, hg38, hg39, hg40, hg41, hg42, hg43, hg44, hg45, hg46, hg47, hg48, hg49, hg50, hg51, hg52, hg53, hg54, hg55, hg56, hg57, hg58, hg59, hg60, hg61, hg62, hg63, hg64, hg65, hg66, hg67, hg68, hg69, hg70, hg71, hg72, hg73, hg1001, hg1002, hg1003, hg1000, hg2000, hs0, hs8, hs9, hs10, hs11, hs12, hs13, hs14, hs15, hs16, hs17, hs18, hs19, hs20, hs21, hs22, hs23, hs24, hs25, hs26, hs27, hs29, hs30, hs31, hs32, hs33, hs34, hs35, hs36, hs37, hs38, hs39, hs40, hs41, hs42, hs43, hs44, hs45, hs46, hs47, hs48, hs49, hs50, hs51, hs52, hs53, hs54, hs55, hs56, hs57, hs59, hs60, hs61, hs62, hs63, hs64, hs65, hs66, hs67, hs68, hs69, hs70, hs71, hs72, hs73, hw8, hw18, hw29, hw39]
  rfl
theorem bnd_le : ∀ j, j < 87 → bnd j ≤ 127 := by decide +kernel
theorem Good.r (g : Good (s 0)) {j : Nat} (h : j < 18) : s 0 j ≤ 127 := Nat.le_trans (g.b h) (bnd_le j (by omega))
theorem rng_oG (g : Good (s 0)) (w n : Int) : -2147483648 ≤ (oG (s 0) w n).1 ∧ (oG (s 0) w n).1 < 2147483648 := by
  unfold oG
  by_cases q : (0 ≤ w ∧ w ≤ 3) ∧ (if w = 3 then (s 0 3 : Int) else 0) ≤ n ∧ n ≤ (if w < 2 then 9 else if w = 2 then 3 else 12)
  · rw [if_pos q]
    have := g.r (j := 8 + w.toNat) (by omega)
    dsimp only
    omega
  · rw [if_neg q]
    dsimp only
    omega
theorem cop_87 {N : Nat} {xs : Nat → Int32} {vf : Bool} (q : SInv s) {w n : Int}  (hw : -2147483648 ≤ w ∧ w < 2147483648) (hn : -2147483648 ≤ n ∧ n < 2147483648) : COp (zro N xs vf) 87 [.int (iZ w), .int (iZ n)] (.int (iZ (oG (s 0) w n).1)) s (cntI (sU s 0 (oG (s 0) w n).2) (oG (s 0) w n).1) := by
  intro A L h
  obtain ⟨C', e1, R'⟩ := clG (ro := zro N xs vf) (hc8 A L) h.1 q.1 rfl rfl hw hn
  have rg := rng_oG (s := s) q.1 w n
  refine ⟨cntA (cW A 8 C') (oG (s 0) w n).1, L, ?_, (h.now R').cnt _, fun k hk => ⟨?_, rfl⟩⟩
  · show rn (zro N xs vf) 3 87 0 (lv_args 0 [.ref 0, .int (iZ w), .int (iZ n)]) [] (hp A L) = _
    simp only [q87_0, q87_1, q87_2, q87_5, q87_6, q87_7, q87_10, q87_13, zrk_10, zrk_121, kI_app, kJ_app, kP_app, kV_app, kS_app, kC_app, kN_app, kM_app, zsw_cons, zsw_nil, lv_args_I, lv_args_R, lv_args_L, lv_args_nil, zlook_cons, zrI_some, zrJ_some, zrP_some, zrC_some, zrA_rw, zrAS_rw, zrLen_rw, zst1_nil, zst1_cI, zst1_cR, zst1_cL, zrm1_nil, zrm1_cI, zrm1_cR, zrm1_cL, zst2_nil, zst2_cI, zst2_cR, zst2_cL, zrm2_nil, zrm2_cI, zrm2_cR, zrm2_cL, zkeep_nil, zkeep_cons, zsum_nil, zsum_I, zsum_R, zsum_L, zsum_N, toL_s, toL_n, List.cons_append, List.nil_append, List.mem_cons, List.not_mem_nil, reduceCtorEq, Nat.reduceAdd, Nat.reduceLT, Nat.reduceLeDiff, Nat.reduceEqDiff, Nat.zero_ne_one, Nat.one_ne_zero, Nat.add_zero, Nat.zero_add, or_false, false_or, or_true, true_or, and_true, true_and, and_self, ↓reduceIte, Nat.succ_ne_self, Nat.reduceGT, Nat.reduceSub, Nat.le_refl, Nat.zero_le, zis_O, cl_is, clG_0, clG_1, clG_2, clG_3, clG_4, clG_5, clG_6, clS_6, clG_7, clG_8, clG_9, clS_9, clG_10, clG_11, clS_11, clG_12, clS_12, clG_13, clS_13, clG_14, clS_14, clG_15, clS_15, clG_16, clG_17, clS_17, od_is, odG_0, odG_1, odS_1, odG_2, odG_3, odS_3, odG_4, re_is, reG_0, reS_0, reG_1, reG_2, reG_3, reS_3, reG_4, reS_4, reG_5, reS_5, reG_6, reS_6, wo_is, woG_0, woG_1, woG_2, woS_2, woG_3, lm_is, lmG_0, lmG_1, lmG_2, lmG_3, lmG_4, lmG_5, lmG_6, lmG_7, lmG_8, lmS_8, lmG_9, lmS_9, lmG_10, lmS_10, lmG_11, lmS_11, lmG_12, lmS_12, mo_is, moG_0, moG_1, moG_2, moG_3, moG_4, moG_5, moS_5, moG_6, moS_6, moG_7, moS_7, moG_8, moG_9, moS_9, moG_10, moS_10, moG_11, moS_11, moG_12, moS_12, moG_13, moS_13, moG_14, moG_15, moS_15, moG_16, moG_17, moS_17, moG_18, moG_19, moG_20, i32ne0, i32ne1, i32ne2, i32ne3, i32ne4, i32ne5, i32ne6, i32ne7, i32ne8, i32ne9, i32ne10, j64ne, Int32.reduceAdd, Int32.reduceSub, Int32.reduceMul, Int32.reduceLT, Int32.reduceOfNat, Int32.reduceToNatClampNeg, cU_at, Nat.reduceMul, Nat.reduceMod, catR, catI, cV_self, cU_self, hg0, hg1, hg2, hg3, hg4, hg5, hg6, hg7, hg8, hg9, hg10, hg11, hg12, hg13, hg14, hg15, hg16, hg17, hg18, hg19, hg20, hg21, hg22, hg23, hg24, hg25, hg26, hg27, hg28, hg29, hg30, hg31, hg32, hg33, hg34, hg35, hg36, hg37, hg38, hg39, hg40, hg41, hg42, hg43, hg44, hg45, hg46, hg47, hg48, hg49, hg50, hg51, hg52, hg53, hg54, hg55, hg56, hg57, hg58, hg59, hg60, hg61, hg62, hg63, hg64, hg65, hg66, hg67, hg68, hg69, hg70, hg71, hg72, hg73, hg1001, hg1002, hg1003, hg1000, hg2000, hs0, hs8, hs9, hs10, hs11, hs12, hs13, hs14, hs15, hs16, hs17, hs18, hs19, hs20, hs21, hs22, hs23, hs24, hs25, hs26, hs27, hs29, hs30, hs31, hs32, hs33, hs34, hs35, hs36, hs37, hs38, hs39, hs40, hs41, hs42, hs43, hs44, hs45, hs46, hs47, hs48, hs49, hs50, hs51, hs52, hs53, hs54, hs55, hs56, hs57, hs59, hs60, hs61, hs62, hs63, hs64, hs65, hs66, hs67, hs68, hs69, hs70, hs71, hs72, hs73, hw8, hw18, hw29, hw39, e1, sp_counted _ _ rg]
  · rw [cntA_n _ _ (by omega), cW_out A 8 C' (by omega)]
theorem rng_oC (g : Good (s 0)) (w n : Int) : -2147483648 ≤ (oC (s 0) w n).1 ∧ (oC (s 0) w n).1 < 2147483648 := by
  unfold oC
  split
  · have := g.r (j := 12 + w.toNat) (by omega)
    try dsimp only
    omega
  · try dsimp only
    omega
theorem cop_88 {N : Nat} {xs : Nat → Int32} {vf : Bool} (q : SInv s) {w n : Int}  (hw : -2147483648 ≤ w ∧ w < 2147483648) (hn : -2147483648 ≤ n ∧ n < 2147483648) : COp (zro N xs vf) 88 [.int (iZ w), .int (iZ n)] (.int (iZ (oC (s 0) w n).1)) s (cntI (sU s 0 (oC (s 0) w n).2) (oC (s 0) w n).1) := by
  intro A L h
  obtain ⟨C', e1, R'⟩ := clC (ro := zro N xs vf) (hc8 A L) h.1 q.1 hw hn
  have rg := rng_oC (s := s) q.1 w n
  refine ⟨cntA (cW A 8 C') (oC (s 0) w n).1, L, ?_, (h.now R').cnt _, fun k hk => ⟨?_, rfl⟩⟩
  · show rn (zro N xs vf) 2 88 0 (lv_args 0 [.ref 0, .int (iZ w), .int (iZ n)]) [] (hp A L) = _
    simp only [q88_0, q88_1, q88_2, q88_5, q88_6, q88_7, q88_10, q88_13, zrk_11, zrk_121, kI_app, kJ_app, kP_app, kV_app, kS_app, kC_app, kN_app, kM_app, zsw_cons, zsw_nil, lv_args_I, lv_args_R, lv_args_L, lv_args_nil, zlook_cons, zrI_some, zrJ_some, zrP_some, zrC_some, zrA_rw, zrAS_rw, zrLen_rw, zst1_nil, zst1_cI, zst1_cR, zst1_cL, zrm1_nil, zrm1_cI, zrm1_cR, zrm1_cL, zst2_nil, zst2_cI, zst2_cR, zst2_cL, zrm2_nil, zrm2_cI, zrm2_cR, zrm2_cL, zkeep_nil, zkeep_cons, zsum_nil, zsum_I, zsum_R, zsum_L, zsum_N, toL_s, toL_n, List.cons_append, List.nil_append, List.mem_cons, List.not_mem_nil, reduceCtorEq, Nat.reduceAdd, Nat.reduceLT, Nat.reduceLeDiff, Nat.reduceEqDiff, Nat.zero_ne_one, Nat.one_ne_zero, Nat.add_zero, Nat.zero_add, or_false, false_or, or_true, true_or, and_true, true_and, and_self, ↓reduceIte, Nat.succ_ne_self, Nat.reduceGT, Nat.reduceSub, Nat.le_refl, Nat.zero_le, zis_O, cl_is, clG_0, clG_1, clG_2, clG_3, clG_4, clG_5, clG_6, clS_6, clG_7, clG_8, clG_9, clS_9, clG_10, clG_11, clS_11, clG_12, clS_12, clG_13, clS_13, clG_14, clS_14, clG_15, clS_15, clG_16, clG_17, clS_17, od_is, odG_0, odG_1, odS_1, odG_2, odG_3, odS_3, odG_4, re_is, reG_0, reS_0, reG_1, reG_2, reG_3, reS_3, reG_4, reS_4, reG_5, reS_5, reG_6, reS_6, wo_is, woG_0, woG_1, woG_2, woS_2, woG_3, lm_is, lmG_0, lmG_1, lmG_2, lmG_3, lmG_4, lmG_5, lmG_6, lmG_7, lmG_8, lmS_8, lmG_9, lmS_9, lmG_10, lmS_10, lmG_11, lmS_11, lmG_12, lmS_12, mo_is, moG_0, moG_1, moG_2, moG_3, moG_4, moG_5, moS_5, moG_6, moS_6, moG_7, moS_7, moG_8, moG_9, moS_9, moG_10, moS_10, moG_11, moS_11, moG_12, moS_12, moG_13, moS_13, moG_14, moG_15, moS_15, moG_16, moG_17, moS_17, moG_18, moG_19, moG_20, i32ne0, i32ne1, i32ne2, i32ne3, i32ne4, i32ne5, i32ne6, i32ne7, i32ne8, i32ne9, i32ne10, j64ne, Int32.reduceAdd, Int32.reduceSub, Int32.reduceMul, Int32.reduceLT, Int32.reduceOfNat, Int32.reduceToNatClampNeg, cU_at, Nat.reduceMul, Nat.reduceMod, catR, catI, cV_self, cU_self, hg0, hg1, hg2, hg3, hg4, hg5, hg6, hg7, hg8, hg9, hg10, hg11, hg12, hg13, hg14, hg15, hg16, hg17, hg18, hg19, hg20, hg21, hg22, hg23, hg24, hg25, hg26, hg27, hg28, hg29, hg30, hg31, hg32, hg33, hg34, hg35, hg36, hg37, hg38, hg39, hg40, hg41, hg42, hg43, hg44, hg45, hg46, hg47, hg48, hg49, hg50, hg51, hg52, hg53, hg54, hg55, hg56, hg57, hg58, hg59, hg60, hg61, hg62, hg63, hg64, hg65, hg66, hg67, hg68, hg69, hg70, hg71, hg72, hg73, hg1001, hg1002, hg1003, hg1000, hg2000, hs0, hs8, hs9, hs10, hs11, hs12, hs13, hs14, hs15, hs16, hs17, hs18, hs19, hs20, hs21, hs22, hs23, hs24, hs25, hs26, hs27, hs29, hs30, hs31, hs32, hs33, hs34, hs35, hs36, hs37, hs38, hs39, hs40, hs41, hs42, hs43, hs44, hs45, hs46, hs47, hs48, hs49, hs50, hs51, hs52, hs53, hs54, hs55, hs56, hs57, hs59, hs60, hs61, hs62, hs63, hs64, hs65, hs66, hs67, hs68, hs69, hs70, hs71, hs72, hs73, hw8, hw18, hw29, hw39, e1, sp_counted _ _ rg]
  · rw [cntA_n _ _ (by omega), cW_out A 8 C' (by omega)]
theorem rng_oM (g : Good (s 0)) (w n l : Int) : -2147483648 ≤ (oM (s 0) w n l).1 ∧ (oM (s 0) w n l).1 < 2147483648 := by
  have := g.n0
  unfold oM
  split
  · split <;> dsimp only <;> omega
  · try dsimp only
    omega
theorem cop_89 {N : Nat} {xs : Nat → Int32} {vf : Bool} (q : SInv s) {w n l : Int}  (hw : -2147483648 ≤ w ∧ w < 2147483648) (hn : -2147483648 ≤ n ∧ n < 2147483648) (hl : -2147483648 ≤ l ∧ l < 2147483648) : COp (zro N xs vf) 89 [.int (iZ w), .int (iZ n), .int (iZ l)] (.int (iZ (oM (s 0) w n l).1)) s (cntI (sU s 0 (oM (s 0) w n l).2) (oM (s 0) w n l).1) := by
  intro A L h
  obtain ⟨C', e1, R'⟩ := clM (ro := zro N xs vf) (hc8 A L) (hk A L) h.1 q.1 hw hn hl
  have rg := rng_oM (s := s) q.1 w n l
  refine ⟨cntA (cW A 8 C') (oM (s 0) w n l).1, L, ?_, (h.now R').cnt _, fun k hk => ⟨?_, rfl⟩⟩
  · show rn (zro N xs vf) 3 89 0 (lv_args 0 [.ref 0, .int (iZ w), .int (iZ n), .int (iZ l)]) [] (hp A L) = _
    simp only [q89_0, q89_1, q89_2, q89_5, q89_6, q89_7, q89_8, q89_11, q89_14, zrk_12, zrk_121, kI_app, kJ_app, kP_app, kV_app, kS_app, kC_app, kN_app, kM_app, zsw_cons, zsw_nil, lv_args_I, lv_args_R, lv_args_L, lv_args_nil, zlook_cons, zrI_some, zrJ_some, zrP_some, zrC_some, zrA_rw, zrAS_rw, zrLen_rw, zst1_nil, zst1_cI, zst1_cR, zst1_cL, zrm1_nil, zrm1_cI, zrm1_cR, zrm1_cL, zst2_nil, zst2_cI, zst2_cR, zst2_cL, zrm2_nil, zrm2_cI, zrm2_cR, zrm2_cL, zkeep_nil, zkeep_cons, zsum_nil, zsum_I, zsum_R, zsum_L, zsum_N, toL_s, toL_n, List.cons_append, List.nil_append, List.mem_cons, List.not_mem_nil, reduceCtorEq, Nat.reduceAdd, Nat.reduceLT, Nat.reduceLeDiff, Nat.reduceEqDiff, Nat.zero_ne_one, Nat.one_ne_zero, Nat.add_zero, Nat.zero_add, or_false, false_or, or_true, true_or, and_true, true_and, and_self, ↓reduceIte, Nat.succ_ne_self, Nat.reduceGT, Nat.reduceSub, Nat.le_refl, Nat.zero_le, zis_O, cl_is, clG_0, clG_1, clG_2, clG_3, clG_4, clG_5, clG_6, clS_6, clG_7, clG_8, clG_9, clS_9, clG_10, clG_11, clS_11, clG_12, clS_12, clG_13, clS_13, clG_14, clS_14, clG_15, clS_15, clG_16, clG_17, clS_17, od_is, odG_0, odG_1, odS_1, odG_2, odG_3, odS_3, odG_4, re_is, reG_0, reS_0, reG_1, reG_2, reG_3, reS_3, reG_4, reS_4, reG_5, reS_5, reG_6, reS_6, wo_is, woG_0, woG_1, woG_2, woS_2, woG_3, lm_is, lmG_0, lmG_1, lmG_2, lmG_3, lmG_4, lmG_5, lmG_6, lmG_7, lmG_8, lmS_8, lmG_9, lmS_9, lmG_10, lmS_10, lmG_11, lmS_11, lmG_12, lmS_12, mo_is, moG_0, moG_1, moG_2, moG_3, moG_4, moG_5, moS_5, moG_6, moS_6, moG_7, moS_7, moG_8, moG_9, moS_9, moG_10, moS_10, moG_11, moS_11, moG_12, moS_12, moG_13, moS_13, moG_14, moG_15, moS_15, moG_16, moG_17, moS_17, moG_18, moG_19, moG_20, i32ne0, i32ne1, i32ne2, i32ne3, i32ne4, i32ne5, i32ne6, i32ne7, i32ne8, i32ne9, i32ne10, j64ne, Int32.reduceAdd, Int32.reduceSub, Int32.reduceMul, Int32.reduceLT, Int32.reduceOfNat, Int32.reduceToNatClampNeg, cU_at, Nat.reduceMul, Nat.reduceMod, catR, catI, cV_self, cU_self, hg0, hg1, hg2, hg3, hg4, hg5, hg6, hg7, hg8, hg9, hg10, hg11, hg12, hg13, hg14, hg15, hg16, hg17, hg18, hg19, hg20, hg21, hg22, hg23, hg24, hg25, hg26, hg27, hg28, hg29, hg30, hg31, hg32, hg33, hg34, hg35, hg36, hg37, hg38, hg39, hg40, hg41, hg42, hg43, hg44, hg45, hg46, hg47, hg48, hg49, hg50, hg51, hg52, hg53, hg54, hg55, hg56, hg57, hg58, hg59, hg60, hg61, hg62, hg63, hg64, hg65, hg66, hg67, hg68, hg69, hg70, hg71, hg72, hg73, hg1001, hg1002, hg1003, hg1000, hg2000, hs0, hs8, hs9, hs10, hs11, hs12, hs13, hs14, hs15, hs16, hs17, hs18, hs19, hs20, hs21, hs22, hs23, hs24, hs25, hs26, hs27, hs29, hs30, hs31, hs32, hs33, hs34, hs35, hs36, hs37, hs38, hs39, hs40, hs41, hs42, hs43, hs44, hs45, hs46, hs47, hs48, hs49, hs50, hs51, hs52, hs53, hs54, hs55, hs56, hs57, hs59, hs60, hs61, hs62, hs63, hs64, hs65, hs66, hs67, hs68, hs69, hs70, hs71, hs72, hs73, hw8, hw18, hw29, hw39, e1, sp_counted _ _ rg]
  · rw [cntA_n _ _ (by omega), cW_out A 8 C' (by omega)]
theorem rng_oS (g : Good (s 0)) (w n : Int) : -2147483648 ≤ (oS (s 0) w n).1 ∧ (oS (s 0) w n).1 < 2147483648 := by
  have := g.n4
  unfold oS
  split
  · split <;> dsimp only <;> omega
  · try dsimp only
    omega
theorem cop_90 {N : Nat} {xs : Nat → Int32} {vf : Bool} (q : SInv s) {w n : Int}  (hw : -2147483648 ≤ w ∧ w < 2147483648) (hn : -2147483648 ≤ n ∧ n < 2147483648) : COp (zro N xs vf) 90 [.int (iZ w), .int (iZ n)] (.int (iZ (oS (s 0) w n).1)) s (cntI (sU s 0 (oS (s 0) w n).2) (oS (s 0) w n).1) := by
  intro A L h
  obtain ⟨C', e1, R'⟩ := clS (ro := zro N xs vf) (hc8 A L) h.1 q.1 hw hn
  have rg := rng_oS (s := s) q.1 w n
  refine ⟨cntA (cW A 8 C') (oS (s 0) w n).1, L, ?_, (h.now R').cnt _, fun k hk => ⟨?_, rfl⟩⟩
  · show rn (zro N xs vf) 3 90 0 (lv_args 0 [.ref 0, .int (iZ w), .int (iZ n)]) [] (hp A L) = _
    simp only [q90_0, q90_1, q90_2, q90_5, q90_6, q90_7, q90_10, q90_13, zrk_121, zrk_13, kI_app, kJ_app, kP_app, kV_app, kS_app, kC_app, kN_app, kM_app, zsw_cons, zsw_nil, lv_args_I, lv_args_R, lv_args_L, lv_args_nil, zlook_cons, zrI_some, zrJ_some, zrP_some, zrC_some, zrA_rw, zrAS_rw, zrLen_rw, zst1_nil, zst1_cI, zst1_cR, zst1_cL, zrm1_nil, zrm1_cI, zrm1_cR, zrm1_cL, zst2_nil, zst2_cI, zst2_cR, zst2_cL, zrm2_nil, zrm2_cI, zrm2_cR, zrm2_cL, zkeep_nil, zkeep_cons, zsum_nil, zsum_I, zsum_R, zsum_L, zsum_N, toL_s, toL_n, List.cons_append, List.nil_append, List.mem_cons, List.not_mem_nil, reduceCtorEq, Nat.reduceAdd, Nat.reduceLT, Nat.reduceLeDiff, Nat.reduceEqDiff, Nat.zero_ne_one, Nat.one_ne_zero, Nat.add_zero, Nat.zero_add, or_false, false_or, or_true, true_or, and_true, true_and, and_self, ↓reduceIte, Nat.succ_ne_self, Nat.reduceGT, Nat.reduceSub, Nat.le_refl, Nat.zero_le, zis_O, cl_is, clG_0, clG_1, clG_2, clG_3, clG_4, clG_5, clG_6, clS_6, clG_7, clG_8, clG_9, clS_9, clG_10, clG_11, clS_11, clG_12, clS_12, clG_13, clS_13, clG_14, clS_14, clG_15, clS_15, clG_16, clG_17, clS_17, od_is, odG_0, odG_1, odS_1, odG_2, odG_3, odS_3, odG_4, re_is, reG_0, reS_0, reG_1, reG_2, reG_3, reS_3, reG_4, reS_4, reG_5, reS_5, reG_6, reS_6, wo_is, woG_0, woG_1, woG_2, woS_2, woG_3, lm_is, lmG_0, lmG_1, lmG_2, lmG_3, lmG_4, lmG_5, lmG_6, lmG_7, lmG_8, lmS_8, lmG_9, lmS_9, lmG_10, lmS_10, lmG_11, lmS_11, lmG_12, lmS_12, mo_is, moG_0, moG_1, moG_2, moG_3, moG_4, moG_5, moS_5, moG_6, moS_6, moG_7, moS_7, moG_8, moG_9, moS_9, moG_10, moS_10, moG_11, moS_11, moG_12, moS_12, moG_13, moS_13, moG_14, moG_15, moS_15, moG_16, moG_17, moS_17, moG_18, moG_19, moG_20, i32ne0, i32ne1, i32ne2, i32ne3, i32ne4, i32ne5, i32ne6, i32ne7, i32ne8, i32ne9, i32ne10, j64ne, Int32.reduceAdd, Int32.reduceSub, Int32.reduceMul, Int32.reduceLT, Int32.reduceOfNat, Int32.reduceToNatClampNeg, cU_at, Nat.reduceMul, Nat.reduceMod, catR, catI, cV_self, cU_self, hg0, hg1, hg2, hg3, hg4, hg5, hg6, hg7, hg8, hg9, hg10, hg11, hg12, hg13, hg14, hg15, hg16, hg17, hg18, hg19, hg20, hg21, hg22, hg23, hg24, hg25, hg26, hg27, hg28, hg29, hg30, hg31, hg32, hg33, hg34, hg35, hg36, hg37, hg38, hg39, hg40, hg41, hg42, hg43, hg44, hg45, hg46, hg47, hg48, hg49, hg50, hg51, hg52, hg53, hg54, hg55, hg56, hg57, hg58, hg59, hg60, hg61, hg62, hg63, hg64, hg65, hg66, hg67, hg68, hg69, hg70, hg71, hg72, hg73, hg1001, hg1002, hg1003, hg1000, hg2000, hs0, hs8, hs9, hs10, hs11, hs12, hs13, hs14, hs15, hs16, hs17, hs18, hs19, hs20, hs21, hs22, hs23, hs24, hs25, hs26, hs27, hs29, hs30, hs31, hs32, hs33, hs34, hs35, hs36, hs37, hs38, hs39, hs40, hs41, hs42, hs43, hs44, hs45, hs46, hs47, hs48, hs49, hs50, hs51, hs52, hs53, hs54, hs55, hs56, hs57, hs59, hs60, hs61, hs62, hs63, hs64, hs65, hs66, hs67, hs68, hs69, hs70, hs71, hs72, hs73, hw8, hw18, hw29, hw39, e1, sp_counted _ _ rg]
  · rw [cntA_n _ _ (by omega), cW_out A 8 C' (by omega)]
theorem rng_oP (g : Good (s 0)) (w : Int) : -2147483648 ≤ (oP (s 0) w).1 ∧ (oP (s 0) w).1 < 2147483648 := by
  have := g.n5
  unfold oP
  split
  · split <;> dsimp only <;> omega
  · try dsimp only
    omega
theorem cop_91 {N : Nat} {xs : Nat → Int32} {vf : Bool} (q : SInv s) {w : Int}  (hw : -2147483648 ≤ w ∧ w < 2147483648) : COp (zro N xs vf) 91 [.int (iZ w)] (.int (iZ (oP (s 0) w).1)) s (cntI (sU s 0 (oP (s 0) w).2) (oP (s 0) w).1) := by
  intro A L h
  obtain ⟨C', e1, R'⟩ := clP (ro := zro N xs vf) (hc8 A L) h.1 q.1 hw
  have rg := rng_oP (s := s) q.1 w
  refine ⟨cntA (cW A 8 C') (oP (s 0) w).1, L, ?_, (h.now R').cnt _, fun k hk => ⟨?_, rfl⟩⟩
  · show rn (zro N xs vf) 3 91 0 (lv_args 0 [.ref 0, .int (iZ w)]) [] (hp A L) = _
    simp only [q91_0, q91_1, q91_2, q91_5, q91_6, q91_9, q91_12, zrk_121, zrk_14, kI_app, kJ_app, kP_app, kV_app, kS_app, kC_app, kN_app, kM_app, zsw_cons, zsw_nil, lv_args_I, lv_args_R, lv_args_L, lv_args_nil, zlook_cons, zrI_some, zrJ_some, zrP_some, zrC_some, zrA_rw, zrAS_rw, zrLen_rw, zst1_nil, zst1_cI, zst1_cR, zst1_cL, zrm1_nil, zrm1_cI, zrm1_cR, zrm1_cL, zst2_nil, zst2_cI, zst2_cR, zst2_cL, zrm2_nil, zrm2_cI, zrm2_cR, zrm2_cL, zkeep_nil, zkeep_cons, zsum_nil, zsum_I, zsum_R, zsum_L, zsum_N, toL_s, toL_n, List.cons_append, List.nil_append, List.mem_cons, List.not_mem_nil, reduceCtorEq, Nat.reduceAdd, Nat.reduceLT, Nat.reduceLeDiff, Nat.reduceEqDiff, Nat.zero_ne_one, Nat.one_ne_zero, Nat.add_zero, Nat.zero_add, or_false, false_or, or_true, true_or, and_true, true_and, and_self, ↓reduceIte, Nat.succ_ne_self, Nat.reduceGT, Nat.reduceSub, Nat.le_refl, Nat.zero_le, zis_O, cl_is, clG_0, clG_1, clG_2, clG_3, clG_4, clG_5, clG_6, clS_6, clG_7, clG_8, clG_9, clS_9, clG_10, clG_11, clS_11, clG_12, clS_12, clG_13, clS_13, clG_14, clS_14, clG_15, clS_15, clG_16, clG_17, clS_17, od_is, odG_0, odG_1, odS_1, odG_2, odG_3, odS_3, odG_4, re_is, reG_0, reS_0, reG_1, reG_2, reG_3, reS_3, reG_4, reS_4, reG_5, reS_5, reG_6, reS_6, wo_is, woG_0, woG_1, woG_2, woS_2, woG_3, lm_is, lmG_0, lmG_1, lmG_2, lmG_3, lmG_4, lmG_5, lmG_6, lmG_7, lmG_8, lmS_8, lmG_9, lmS_9, lmG_10, lmS_10, lmG_11, lmS_11, lmG_12, lmS_12, mo_is, moG_0, moG_1, moG_2, moG_3, moG_4, moG_5, moS_5, moG_6, moS_6, moG_7, moS_7, moG_8, moG_9, moS_9, moG_10, moS_10, moG_11, moS_11, moG_12, moS_12, moG_13, moS_13, moG_14, moG_15, moS_15, moG_16, moG_17, moS_17, moG_18, moG_19, moG_20, i32ne0, i32ne1, i32ne2, i32ne3, i32ne4, i32ne5, i32ne6, i32ne7, i32ne8, i32ne9, i32ne10, j64ne, Int32.reduceAdd, Int32.reduceSub, Int32.reduceMul, Int32.reduceLT, Int32.reduceOfNat, Int32.reduceToNatClampNeg, cU_at, Nat.reduceMul, Nat.reduceMod, catR, catI, cV_self, cU_self, hg0, hg1, hg2, hg3, hg4, hg5, hg6, hg7, hg8, hg9, hg10, hg11, hg12, hg13, hg14, hg15, hg16, hg17, hg18, hg19, hg20, hg21, hg22, hg23, hg24, hg25, hg26, hg27, hg28, hg29, hg30, hg31, hg32, hg33, hg34, hg35, hg36, hg37, hg38, hg39, hg40, hg41, hg42, hg43, hg44, hg45, hg46, hg47, hg48, hg49, hg50, hg51, hg52, hg53, hg54, hg55, hg56, hg57, hg58, hg59, hg60, hg61, hg62, hg63, hg64, hg65, hg66, hg67, hg68, hg69, hg70, hg71, hg72, hg73, hg1001, hg1002, hg1003, hg1000, hg2000, hs0, hs8, hs9, hs10, hs11, hs12, hs13, hs14, hs15, hs16, hs17, hs18, hs19, hs20, hs21, hs22, hs23, hs24, hs25, hs26, hs27, hs29, hs30, hs31, hs32, hs33, hs34, hs35, hs36, hs37, hs38, hs39, hs40, hs41, hs42, hs43, hs44, hs45, hs46, hs47, hs48, hs49, hs50, hs51, hs52, hs53, hs54, hs55, hs56, hs57, hs59, hs60, hs61, hs62, hs63, hs64, hs65, hs66, hs67, hs68, hs69, hs70, hs71, hs72, hs73, hw8, hw18, hw29, hw39, e1, sp_counted _ _ rg]
  · rw [cntA_n _ _ (by omega), cW_out A 8 C' (by omega)]
theorem rng_oN (g : Good (s 0)) (w : Int) : -2147483648 ≤ (oN (s 0) w).1 ∧ (oN (s 0) w).1 < 2147483648 := by
  have := g.n4
  have := g.n5
  unfold oN
  split
  · try dsimp only
    omega
  · split <;> dsimp only <;> omega
theorem cop_92 {N : Nat} {xs : Nat → Int32} {vf : Bool} (q : SInv s) {w : Int}  (hw : -2147483648 ≤ w ∧ w < 2147483648) : COp (zro N xs vf) 92 [.int (iZ w)] (.int (iZ (oN (s 0) w).1)) s (cntI (sU s 0 (oN (s 0) w).2) (oN (s 0) w).1) := by
  intro A L h
  obtain ⟨C', e1, R'⟩ := clN (ro := zro N xs vf) (hc8 A L) h.1 q.1 hw
  have rg := rng_oN (s := s) q.1 w
  refine ⟨cntA (cW A 8 C') (oN (s 0) w).1, L, ?_, (h.now R').cnt _, fun k hk => ⟨?_, rfl⟩⟩
  · show rn (zro N xs vf) 2 92 0 (lv_args 0 [.ref 0, .int (iZ w)]) [] (hp A L) = _
    simp only [q92_0, q92_1, q92_2, q92_5, q92_6, q92_9, q92_12, zrk_121, zrk_15, kI_app, kJ_app, kP_app, kV_app, kS_app, kC_app, kN_app, kM_app, zsw_cons, zsw_nil, lv_args_I, lv_args_R, lv_args_L, lv_args_nil, zlook_cons, zrI_some, zrJ_some, zrP_some, zrC_some, zrA_rw, zrAS_rw, zrLen_rw, zst1_nil, zst1_cI, zst1_cR, zst1_cL, zrm1_nil, zrm1_cI, zrm1_cR, zrm1_cL, zst2_nil, zst2_cI, zst2_cR, zst2_cL, zrm2_nil, zrm2_cI, zrm2_cR, zrm2_cL, zkeep_nil, zkeep_cons, zsum_nil, zsum_I, zsum_R, zsum_L, zsum_N, toL_s, toL_n, List.cons_append, List.nil_append, List.mem_cons, List.not_mem_nil, reduceCtorEq, Nat.reduceAdd, Nat.reduceLT, Nat.reduceLeDiff, Nat.reduceEqDiff, Nat.zero_ne_one, Nat.one_ne_zero, Nat.add_zero, Nat.zero_add, or_false, false_or, or_true, true_or, and_true, true_and, and_self, ↓reduceIte, Nat.succ_ne_self, Nat.reduceGT, Nat.reduceSub, Nat.le_refl, Nat.zero_le, zis_O, cl_is, clG_0, clG_1, clG_2, clG_3, clG_4, clG_5, clG_6, clS_6, clG_7, clG_8, clG_9, clS_9, clG_10, clG_11, clS_11, clG_12, clS_12, clG_13, clS_13, clG_14, clS_14, clG_15, clS_15, clG_16, clG_17, clS_17, od_is, odG_0, odG_1, odS_1, odG_2, odG_3, odS_3, odG_4, re_is, reG_0, reS_0, reG_1, reG_2, reG_3, reS_3, reG_4, reS_4, reG_5, reS_5, reG_6, reS_6, wo_is, woG_0, woG_1, woG_2, woS_2, woG_3, lm_is, lmG_0, lmG_1, lmG_2, lmG_3, lmG_4, lmG_5, lmG_6, lmG_7, lmG_8, lmS_8, lmG_9, lmS_9, lmG_10, lmS_10, lmG_11, lmS_11, lmG_12, lmS_12, mo_is, moG_0, moG_1, moG_2, moG_3, moG_4, moG_5, moS_5, moG_6, moS_6, moG_7, moS_7, moG_8, moG_9, moS_9, moG_10, moS_10, moG_11, moS_11, moG_12, moS_12, moG_13, moS_13, moG_14, moG_15, moS_15, moG_16, moG_17, moS_17, moG_18, moG_19, moG_20, i32ne0, i32ne1, i32ne2, i32ne3, i32ne4, i32ne5, i32ne6, i32ne7, i32ne8, i32ne9, i32ne10, j64ne, Int32.reduceAdd, Int32.reduceSub, Int32.reduceMul, Int32.reduceLT, Int32.reduceOfNat, Int32.reduceToNatClampNeg, cU_at, Nat.reduceMul, Nat.reduceMod, catR, catI, cV_self, cU_self, hg0, hg1, hg2, hg3, hg4, hg5, hg6, hg7, hg8, hg9, hg10, hg11, hg12, hg13, hg14, hg15, hg16, hg17, hg18, hg19, hg20, hg21, hg22, hg23, hg24, hg25, hg26, hg27, hg28, hg29, hg30, hg31, hg32, hg33, hg34, hg35, hg36, hg37, hg38, hg39, hg40, hg41, hg42, hg43, hg44, hg45, hg46, hg47, hg48, hg49, hg50, hg51, hg52, hg53, hg54, hg55, hg56, hg57, hg58, hg59, hg60, hg61, hg62, hg63, hg64, hg65, hg66, hg67, hg68, hg69, hg70, hg71, hg72, hg73, hg1001, hg1002, hg1003, hg1000, hg2000, hs0, hs8, hs9, hs10, hs11, hs12, hs13, hs14, hs15, hs16, hs17, hs18, hs19, hs20, hs21, hs22, hs23, hs24, hs25, hs26, hs27, hs29, hs30, hs31, hs32, hs33, hs34, hs35, hs36, hs37, hs38, hs39, hs40, hs41, hs42, hs43, hs44, hs45, hs46, hs47, hs48, hs49, hs50, hs51, hs52, hs53, hs54, hs55, hs56, hs57, hs59, hs60, hs61, hs62, hs63, hs64, hs65, hs66, hs67, hs68, hs69, hs70, hs71, hs72, hs73, hw8, hw18, hw29, hw39, e1, sp_counted _ _ rg]
  · rw [cntA_n _ _ (by omega), cW_out A 8 C' (by omega)]
theorem rng_oT (g : Good (s 0)) (l f : Nat) : -2147483648 ≤ (oT (s 0) l f).1 ∧ (oT (s 0) l f).1 < 2147483648 := by
  have := g.n0
  have := g.n1
  unfold oT
  split
  · try dsimp only
    omega
  · split <;> dsimp only <;> omega
theorem cop_96 {N : Nat} {xs : Nat → Int32} {vf : Bool} (q : SInv s) {l f : Nat}  (hl : l ≤ 1) (hf : f ≤ 1) : COp (zro N xs vf) 96 [.int (iZ l), .int (iZ f)] (.int (iZ (oT (s 0) l f).1)) s (cntI (sU s 0 (oT (s 0) l f).2) (oT (s 0) l f).1) := by
  intro A L h
  obtain ⟨C', e1, R'⟩ := clT (ro := zro N xs vf) (hc8 A L) h.1 q.1 hl hf
  have rg := rng_oT (s := s) q.1 l f
  refine ⟨cntA (cW A 8 C') (oT (s 0) l f).1, L, ?_, (h.now R').cnt _, fun k hk => ⟨?_, rfl⟩⟩
  · show rn (zro N xs vf) 4 96 0 (lv_args 0 [.ref 0, .int (iZ l), .int (iZ f)]) [] (hp A L) = _
    simp only [q96_0, q96_1, q96_2, q96_5, q96_6, q96_7, q96_10, q96_13, zrk_121, zrk_16, kI_app, kJ_app, kP_app, kV_app, kS_app, kC_app, kN_app, kM_app, zsw_cons, zsw_nil, lv_args_I, lv_args_R, lv_args_L, lv_args_nil, zlook_cons, zrI_some, zrJ_some, zrP_some, zrC_some, zrA_rw, zrAS_rw, zrLen_rw, zst1_nil, zst1_cI, zst1_cR, zst1_cL, zrm1_nil, zrm1_cI, zrm1_cR, zrm1_cL, zst2_nil, zst2_cI, zst2_cR, zst2_cL, zrm2_nil, zrm2_cI, zrm2_cR, zrm2_cL, zkeep_nil, zkeep_cons, zsum_nil, zsum_I, zsum_R, zsum_L, zsum_N, toL_s, toL_n, List.cons_append, List.nil_append, List.mem_cons, List.not_mem_nil, reduceCtorEq, Nat.reduceAdd, Nat.reduceLT, Nat.reduceLeDiff, Nat.reduceEqDiff, Nat.zero_ne_one, Nat.one_ne_zero, Nat.add_zero, Nat.zero_add, or_false, false_or, or_true, true_or, and_true, true_and, and_self, ↓reduceIte, Nat.succ_ne_self, Nat.reduceGT, Nat.reduceSub, Nat.le_refl, Nat.zero_le, zis_O, cl_is, clG_0, clG_1, clG_2, clG_3, clG_4, clG_5, clG_6, clS_6, clG_7, clG_8, clG_9, clS_9, clG_10, clG_11, clS_11, clG_12, clS_12, clG_13, clS_13, clG_14, clS_14, clG_15, clS_15, clG_16, clG_17, clS_17, od_is, odG_0, odG_1, odS_1, odG_2, odG_3, odS_3, odG_4, re_is, reG_0, reS_0, reG_1, reG_2, reG_3, reS_3, reG_4, reS_4, reG_5, reS_5, reG_6, reS_6, wo_is, woG_0, woG_1, woG_2, woS_2, woG_3, lm_is, lmG_0, lmG_1, lmG_2, lmG_3, lmG_4, lmG_5, lmG_6, lmG_7, lmG_8, lmS_8, lmG_9, lmS_9, lmG_10, lmS_10, lmG_11, lmS_11, lmG_12, lmS_12, mo_is, moG_0, moG_1, moG_2, moG_3, moG_4, moG_5, moS_5, moG_6, moS_6, moG_7, moS_7, moG_8, moG_9, moS_9, moG_10, moS_10, moG_11, moS_11, moG_12, moS_12, moG_13, moS_13, moG_14, moG_15, moS_15, moG_16, moG_17, moS_17, moG_18, moG_19, moG_20, i32ne0, i32ne1, i32ne2, i32ne3, i32ne4, i32ne5, i32ne6, i32ne7, i32ne8, i32ne9, i32ne10, j64ne, Int32.reduceAdd, Int32.reduceSub, Int32.reduceMul, Int32.reduceLT, Int32.reduceOfNat, Int32.reduceToNatClampNeg, cU_at, Nat.reduceMul, Nat.reduceMod, catR, catI, cV_self, cU_self, hg0, hg1, hg2, hg3, hg4, hg5, hg6, hg7, hg8, hg9, hg10, hg11, hg12, hg13, hg14, hg15, hg16, hg17, hg18, hg19, hg20, hg21, hg22, hg23, hg24, hg25, hg26, hg27, hg28, hg29, hg30, hg31, hg32, hg33, hg34, hg35, hg36, hg37, hg38, hg39, hg40, hg41, hg42, hg43, hg44, hg45, hg46, hg47, hg48, hg49, hg50, hg51, hg52, hg53, hg54, hg55, hg56, hg57, hg58, hg59, hg60, hg61, hg62, hg63, hg64, hg65, hg66, hg67, hg68, hg69, hg70, hg71, hg72, hg73, hg1001, hg1002, hg1003, hg1000, hg2000, hs0, hs8, hs9, hs10, hs11, hs12, hs13, hs14, hs15, hs16, hs17, hs18, hs19, hs20, hs21, hs22, hs23, hs24, hs25, hs26, hs27, hs29, hs30, hs31, hs32, hs33, hs34, hs35, hs36, hs37, hs38, hs39, hs40, hs41, hs42, hs43, hs44, hs45, hs46, hs47, hs48, hs49, hs50, hs51, hs52, hs53, hs54, hs55, hs56, hs57, hs59, hs60, hs61, hs62, hs63, hs64, hs65, hs66, hs67, hs68, hs69, hs70, hs71, hs72, hs73, hw8, hw18, hw29, hw39, e1, sp_counted _ _ rg]
  · rw [cntA_n _ _ (by omega), cW_out A 8 C' (by omega)]
theorem rng_oR (g : Good (s 0)) : -2147483648 ≤ (oR (s 0)).1 ∧ (oR (s 0)).1 < 2147483648 := by
  unfold oR
  split
  · try dsimp only
    omega
  · try dsimp only
    split <;> omega
theorem cop_97 {N : Nat} {xs : Nat → Int32} {vf : Bool} (q : SInv s)  : COp (zro N xs vf) 97 [] (.int (iZ (oR (s 0)).1)) s (cntI (sU s 0 (oR (s 0)).2) (oR (s 0)).1) := by
  intro A L h
  obtain ⟨C', e1, R'⟩ := clR (ro := zro N xs vf) (hc8 A L) h.1 q.1
  have rg := rng_oR (s := s) q.1
  refine ⟨cntA (cW A 8 C') (oR (s 0)).1, L, ?_, (h.now R').cnt _, fun k hk => ⟨?_, rfl⟩⟩
  · show rn (zro N xs vf) 4 97 0 (lv_args 0 [.ref 0]) [] (hp A L) = _
    simp only [q97_0, q97_1, q97_2, q97_5, q97_8, q97_11, zrk_121, zrk_17, kI_app, kJ_app, kP_app, kV_app, kS_app, kC_app, kN_app, kM_app, zsw_cons, zsw_nil, lv_args_I, lv_args_R, lv_args_L, lv_args_nil, zlook_cons, zrI_some, zrJ_some, zrP_some, zrC_some, zrA_rw, zrAS_rw, zrLen_rw, zst1_nil, zst1_cI, zst1_cR, zst1_cL, zrm1_nil, zrm1_cI, zrm1_cR, zrm1_cL, zst2_nil, zst2_cI, zst2_cR, zst2_cL, zrm2_nil, zrm2_cI, zrm2_cR, zrm2_cL, zkeep_nil, zkeep_cons, zsum_nil, zsum_I, zsum_R, zsum_L, zsum_N, toL_s, toL_n, List.cons_append, List.nil_append, List.mem_cons, List.not_mem_nil, reduceCtorEq, Nat.reduceAdd, Nat.reduceLT, Nat.reduceLeDiff, Nat.reduceEqDiff, Nat.zero_ne_one, Nat.one_ne_zero, Nat.add_zero, Nat.zero_add, or_false, false_or, or_true, true_or, and_true, true_and, and_self, ↓reduceIte, Nat.succ_ne_self, Nat.reduceGT, Nat.reduceSub, Nat.le_refl, Nat.zero_le, zis_O, cl_is, clG_0, clG_1, clG_2, clG_3, clG_4, clG_5, clG_6, clS_6, clG_7, clG_8, clG_9, clS_9, clG_10, clG_11, clS_11, clG_12, clS_12, clG_13, clS_13, clG_14, clS_14, clG_15, clS_15, clG_16, clG_17, clS_17, od_is, odG_0, odG_1, odS_1, odG_2, odG_3, odS_3, odG_4, re_is, reG_0, reS_0, reG_1, reG_2, reG_3, reS_3, reG_4, reS_4, reG_5, reS_5, reG_6, reS_6, wo_is, woG_0, woG_1, woG_2, woS_2, woG_3, lm_is, lmG_0, lmG_1, lmG_2, lmG_3, lmG_4, lmG_5, lmG_6, lmG_7, lmG_8, lmS_8, lmG_9, lmS_9, lmG_10, lmS_10, lmG_11, lmS_11, lmG_12, lmS_12, mo_is, moG_0, moG_1, moG_2, moG_3, moG_4, moG_5, moS_5, moG_6, moS_6, moG_7, moS_7, moG_8, moG_9, moS_9, moG_10, moS_10, moG_11, moS_11, moG_12, moS_12, moG_13, moS_13, moG_14, moG_15, moS_15, moG_16, moG_17, moS_17, moG_18, moG_19, moG_20, i32ne0, i32ne1, i32ne2, i32ne3, i32ne4, i32ne5, i32ne6, i32ne7, i32ne8, i32ne9, i32ne10, j64ne, Int32.reduceAdd, Int32.reduceSub, Int32.reduceMul, Int32.reduceLT, Int32.reduceOfNat, Int32.reduceToNatClampNeg, cU_at, Nat.reduceMul, Nat.reduceMod, catR, catI, cV_self, cU_self, hg0, hg1, hg2, hg3, hg4, hg5, hg6, hg7, hg8, hg9, hg10, hg11, hg12, hg13, hg14, hg15, hg16, hg17, hg18, hg19, hg20, hg21, hg22, hg23, hg24, hg25, hg26, hg27, hg28, hg29, hg30, hg31, hg32, hg33, hg34, hg35, hg36, hg37, hg38, hg39, hg40, hg41, hg42, hg43, hg44, hg45, hg46, hg47, hg48, hg49, hg50, hg51, hg52, hg53, hg54, hg55, hg56, hg57, hg58, hg59, hg60, hg61, hg62, hg63, hg64, hg65, hg66, hg67, hg68, hg69, hg70, hg71, hg72, hg73, hg1001, hg1002, hg1003, hg1000, hg2000, hs0, hs8, hs9, hs10, hs11, hs12, hs13, hs14, hs15, hs16, hs17, hs18, hs19, hs20, hs21, hs22, hs23, hs24, hs25, hs26, hs27, hs29, hs30, hs31, hs32, hs33, hs34, hs35, hs36, hs37, hs38, hs39, hs40, hs41, hs42, hs43, hs44, hs45, hs46, hs47, hs48, hs49, hs50, hs51, hs52, hs53, hs54, hs55, hs56, hs57, hs59, hs60, hs61, hs62, hs63, hs64, hs65, hs66, hs67, hs68, hs69, hs70, hs71, hs72, hs73, hw8, hw18, hw29, hw39, e1, sp_counted _ _ rg]
  · rw [cntA_n _ _ (by omega), cW_out A 8 C' (by omega)]
theorem rng_oU (g : Good (s 0)) : -2147483648 ≤ (oU (s 0)).1 ∧ (oU (s 0)).1 < 2147483648 := by
  unfold oU
  split <;> dsimp only <;> omega
theorem cop_98 {N : Nat} {xs : Nat → Int32} {vf : Bool} (q : SInv s)  : COp (zro N xs vf) 98 [] (.int (iZ (oU (s 0)).1)) s (cntI (sU s 0 (oU (s 0)).2) (oU (s 0)).1) := by
  intro A L h
  obtain ⟨C', e1, R'⟩ := clU (ro := zro N xs vf) (hc8 A L) h.1 q.1
  have rg := rng_oU (s := s) q.1
  refine ⟨cntA (cW A 8 C') (oU (s 0)).1, L, ?_, (h.now R').cnt _, fun k hk => ⟨?_, rfl⟩⟩
  · show rn (zro N xs vf) 3 98 0 (lv_args 0 [.ref 0]) [] (hp A L) = _
    simp only [q98_0, q98_1, q98_2, q98_5, q98_8, q98_11, zrk_121, zrk_19, kI_app, kJ_app, kP_app, kV_app, kS_app, kC_app, kN_app, kM_app, zsw_cons, zsw_nil, lv_args_I, lv_args_R, lv_args_L, lv_args_nil, zlook_cons, zrI_some, zrJ_some, zrP_some, zrC_some, zrA_rw, zrAS_rw, zrLen_rw, zst1_nil, zst1_cI, zst1_cR, zst1_cL, zrm1_nil, zrm1_cI, zrm1_cR, zrm1_cL, zst2_nil, zst2_cI, zst2_cR, zst2_cL, zrm2_nil, zrm2_cI, zrm2_cR, zrm2_cL, zkeep_nil, zkeep_cons, zsum_nil, zsum_I, zsum_R, zsum_L, zsum_N, toL_s, toL_n, List.cons_append, List.nil_append, List.mem_cons, List.not_mem_nil, reduceCtorEq, Nat.reduceAdd, Nat.reduceLT, Nat.reduceLeDiff, Nat.reduceEqDiff, Nat.zero_ne_one, Nat.one_ne_zero, Nat.add_zero, Nat.zero_add, or_false, false_or, or_true, true_or, and_true, true_and, and_self, ↓reduceIte, Nat.succ_ne_self, Nat.reduceGT, Nat.reduceSub, Nat.le_refl, Nat.zero_le, zis_O, cl_is, clG_0, clG_1, clG_2, clG_3, clG_4, clG_5, clG_6, clS_6, clG_7, clG_8, clG_9, clS_9, clG_10, clG_11, clS_11, clG_12, clS_12, clG_13, clS_13, clG_14, clS_14, clG_15, clS_15, clG_16, clG_17, clS_17, od_is, odG_0, odG_1, odS_1, odG_2, odG_3, odS_3, odG_4, re_is, reG_0, reS_0, reG_1, reG_2, reG_3, reS_3, reG_4, reS_4, reG_5, reS_5, reG_6, reS_6, wo_is, woG_0, woG_1, woG_2, woS_2, woG_3, lm_is, lmG_0, lmG_1, lmG_2, lmG_3, lmG_4, lmG_5, lmG_6, lmG_7, lmG_8, lmS_8, lmG_9, lmS_9, lmG_10, lmS_10, lmG_11, lmS_11, lmG_12, lmS_12, mo_is, moG_0, moG_1, moG_2, moG_3, moG_4, moG_5, moS_5, moG_6, moS_6, moG_7, moS_7, moG_8, moG_9, moS_9, moG_10, moS_10, moG_11, moS_11, moG_12, moS_12, moG_13, moS_13, moG_14, moG_15, moS_15, moG_16, moG_17, moS_17, moG_18, moG_19, moG_20, i32ne0, i32ne1, i32ne2, i32ne3, i32ne4, i32ne5, i32ne6, i32ne7, i32ne8, i32ne9, i32ne10, j64ne, Int32.reduceAdd, Int32.reduceSub, Int32.reduceMul, Int32.reduceLT, Int32.reduceOfNat, Int32.reduceToNatClampNeg, cU_at, Nat.reduceMul, Nat.reduceMod, catR, catI, cV_self, cU_self, hg0, hg1, hg2, hg3, hg4, hg5, hg6, hg7, hg8, hg9, hg10, hg11, hg12, hg13, hg14, hg15, hg16, hg17, hg18, hg19, hg20, hg21, hg22, hg23, hg24, hg25, hg26, hg27, hg28, hg29, hg30, hg31, hg32, hg33, hg34, hg35, hg36, hg37, hg38, hg39, hg40, hg41, hg42, hg43, hg44, hg45, hg46, hg47, hg48, hg49, hg50, hg51, hg52, hg53, hg54, hg55, hg56, hg57, hg58, hg59, hg60, hg61, hg62, hg63, hg64, hg65, hg66, hg67, hg68, hg69, hg70, hg71, hg72, hg73, hg1001, hg1002, hg1003, hg1000, hg2000, hs0, hs8, hs9, hs10, hs11, hs12, hs13, hs14, hs15, hs16, hs17, hs18, hs19, hs20, hs21, hs22, hs23, hs24, hs25, hs26, hs27, hs29, hs30, hs31, hs32, hs33, hs34, hs35, hs36, hs37, hs38, hs39, hs40, hs41, hs42, hs43, hs44, hs45, hs46, hs47, hs48, hs49, hs50, hs51, hs52, hs53, hs54, hs55, hs56, hs57, hs59, hs60, hs61, hs62, hs63, hs64, hs65, hs66, hs67, hs68, hs69, hs70, hs71, hs72, hs73, hw8, hw18, hw29, hw39, e1, sp_counted _ _ rg]
  · rw [cntA_n _ _ (by omega), cW_out A 8 C' (by omega)]
end INV
