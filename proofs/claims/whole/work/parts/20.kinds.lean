/-! KINDS OF MATCHES: how likely one lights, how long it burns -/
def mx0 (x : Int32) : Int32 := if 0 < x then x else 0
def fP (h g w : Int32) : Int32 := mx0 (h - g - w)
def fHalf (h g w : Int32) : Int32 := fP h g w / 2
/-- by the kind's number -/
def fL (k : Nat) (h g w : Int32) : Int32 := match k with
  | 0 => fP h g w
  | 1 => mx0 (fP h g w - 2)
  | 2 => fP h 0 w
  | 3 => fP h 0 w
  | 4 => fHalf h g w
  | _ => if 0 < fHalf h g w then fHalf h g w + 1 else 0
def bStorm (n : Int32) : Int32 := if 1 < n - 1 then n - 1 else 1
def fB (k : Nat) (n : Int32) : Int32 := match k with
  | 0 => n
  | 1 => n
  | 2 => bStorm n
  | 3 => 2 * bStorm n
  | _ => (n + 1) / 2
/-- the kinds stand where the constructor makes them -/
def KdAt (σ : zW) : Prop := (∃ kq : Nat → Option Nat, σ[1]? = some (.inl (3, 6, .inr (.inr (.inr (.inr kq))))) ∧ ∀ j, j < 6 → kq j = some (2 + j)) ∧ zcl σ 2 = 5 ∧ zcl σ 3 = 2 ∧ zcl σ 4 = 8 ∧ zcl σ 5 = 9 ∧ zcl σ 6 = 3 ∧ zcl σ 7 = 7
section KND
variable {ro : zR} {σ : zW}
theorem sp_54 (r : Nat) (h g w : Int32) : rm ro 54 [.ref r, .int h, .int g, .int w] σ = some (some (.int (fP h g w)), σ) := by
  show rn ro 1 54 0 (lv_args 0 [.ref r, .int h, .int g, .int w]) [] σ = _
  simp only [q54_0, q54_1, q54_2, q54_3, q54_4, q54_5, q54_7, q54_9, q54_12, q54_14, q54_17, q54_18, zsw_cons, zsw_nil, lv_args_I, lv_args_R, lv_args_L, lv_args_nil, zlook_cons, zrI_some, zrJ_some, zrP_some, zrC_some, zrA_rw, zrAS_rw, zrLen_rw, zst1_nil, zst1_cI, zst1_cR, zst1_cL, zrm1_nil, zrm1_cI, zrm1_cR, zrm1_cL, zst2_nil, zst2_cI, zst2_cR, zst2_cL, zrm2_nil, zrm2_cI, zrm2_cR, zrm2_cL, zkeep_nil, zkeep_cons, zsum_nil, zsum_I, zsum_R, zsum_L, zsum_N, toL_s, toL_n, List.cons_append, List.nil_append, List.mem_cons, List.not_mem_nil, reduceCtorEq, Nat.reduceAdd, Nat.reduceLT, Nat.reduceLeDiff, Nat.reduceEqDiff, Nat.zero_ne_one, Nat.one_ne_zero, Nat.add_zero, Nat.zero_add, or_false, false_or, or_true, true_or, and_true, true_and, and_self, ↓reduceIte, Nat.succ_ne_self, Nat.reduceGT, Nat.reduceSub, Nat.le_refl, Nat.zero_le, fP, mx0]
  split <;> rfl
theorem sp_55 (r : Nat) (n : Int32) : rm ro 55 [.ref r, .int n] σ = some (some (.int n), σ) := by
  show rn ro 1 55 0 (lv_args 0 [.ref r, .int n]) [] σ = _
  simp only [q55_0, q55_1, zsw_cons, zsw_nil, lv_args_I, lv_args_R, lv_args_L, lv_args_nil, zlook_cons, zrI_some, zrJ_some, zrP_some, zrC_some, zrA_rw, zrAS_rw, zrLen_rw, zst1_nil, zst1_cI, zst1_cR, zst1_cL, zrm1_nil, zrm1_cI, zrm1_cR, zrm1_cL, zst2_nil, zst2_cI, zst2_cR, zst2_cL, zrm2_nil, zrm2_cI, zrm2_cR, zrm2_cL, zkeep_nil, zkeep_cons, zsum_nil, zsum_I, zsum_R, zsum_L, zsum_N, toL_s, toL_n, List.cons_append, List.nil_append, List.mem_cons, List.not_mem_nil, reduceCtorEq, Nat.reduceAdd, Nat.reduceLT, Nat.reduceLeDiff, Nat.reduceEqDiff, Nat.zero_ne_one, Nat.one_ne_zero, Nat.add_zero, Nat.zero_add, or_false, false_or, or_true, true_or, and_true, true_and, and_self, ↓reduceIte, Nat.succ_ne_self, Nat.reduceGT, Nat.reduceSub, Nat.le_refl, Nat.zero_le]
theorem sp_34 {r c : Nat} (hc : zcl σ r = c) (h13 : c < 13) (h g w : Int32) : rm ro 34 [.ref r, .int h, .int g, .int w] σ = some (some (.int (mx0 (fP h g w - 2))), σ) := by
  show rn ro 2 34 0 (lv_args 0 [.ref r, .int h, .int g, .int w]) [] σ = _
  simp only [q34_0, q34_1, q34_2, q34_3, q34_4, q34_5, q34_8, q34_9, q34_10, q34_13, zrk_54, zsw_cons, zsw_nil, lv_args_I, lv_args_R, lv_args_L, lv_args_nil, zlook_cons, zrI_some, zrJ_some, zrP_some, zrC_some, zrA_rw, zrAS_rw, zrLen_rw, zst1_nil, zst1_cI, zst1_cR, zst1_cL, zrm1_nil, zrm1_cI, zrm1_cR, zrm1_cL, zst2_nil, zst2_cI, zst2_cR, zst2_cL, zrm2_nil, zrm2_cI, zrm2_cR, zrm2_cL, zkeep_nil, zkeep_cons, zsum_nil, zsum_I, zsum_R, zsum_L, zsum_N, toL_s, toL_n, List.cons_append, List.nil_append, List.mem_cons, List.not_mem_nil, reduceCtorEq, Nat.reduceAdd, Nat.reduceLT, Nat.reduceLeDiff, Nat.reduceEqDiff, Nat.zero_ne_one, Nat.one_ne_zero, Nat.add_zero, Nat.zero_add, or_false, false_or, or_true, true_or, and_true, true_and, and_self, ↓reduceIte, Nat.succ_ne_self, Nat.reduceGT, Nat.reduceSub, Nat.le_refl, Nat.zero_le, hc, h13, decide_true, sp_54, mx0]
theorem sp_36 {r c : Nat} (hc : zcl σ r = c) (h13 : c < 13) (h g w : Int32) : rm ro 36 [.ref r, .int h, .int g, .int w] σ = some (some (.int (fHalf h g w)), σ) := by
  show rn ro 2 36 0 (lv_args 0 [.ref r, .int h, .int g, .int w]) [] σ = _
  simp only [q36_0, q36_1, q36_2, q36_3, q36_4, q36_7, q36_8, q36_9, zrk_54, zsw_cons, zsw_nil, lv_args_I, lv_args_R, lv_args_L, lv_args_nil, zlook_cons, zrI_some, zrJ_some, zrP_some, zrC_some, zrA_rw, zrAS_rw, zrLen_rw, zst1_nil, zst1_cI, zst1_cR, zst1_cL, zrm1_nil, zrm1_cI, zrm1_cR, zrm1_cL, zst2_nil, zst2_cI, zst2_cR, zst2_cL, zrm2_nil, zrm2_cI, zrm2_cR, zrm2_cL, zkeep_nil, zkeep_cons, zsum_nil, zsum_I, zsum_R, zsum_L, zsum_N, toL_s, toL_n, List.cons_append, List.nil_append, List.mem_cons, List.not_mem_nil, reduceCtorEq, Nat.reduceAdd, Nat.reduceLT, Nat.reduceLeDiff, Nat.reduceEqDiff, Nat.zero_ne_one, Nat.one_ne_zero, Nat.add_zero, Nat.zero_add, or_false, false_or, or_true, true_or, and_true, true_and, and_self, ↓reduceIte, Nat.succ_ne_self, Nat.reduceGT, Nat.reduceSub, Nat.le_refl, Nat.zero_le, hc, h13, decide_true, sp_54, fHalf]
  rfl
theorem sp_73 {r c : Nat} (hc : zcl σ r = c) (h13 : c < 13) (h g w : Int32) : rm ro 73 [.ref r, .int h, .int g, .int w] σ = some (some (.int (fP h 0 w)), σ) := by
  show rn ro 2 73 0 (lv_args 0 [.ref r, .int h, .int g, .int w]) [] σ = _
  simp only [q73_0, q73_1, q73_2, q73_3, q73_4, q73_7, zrk_54, zsw_cons, zsw_nil, lv_args_I, lv_args_R, lv_args_L, lv_args_nil, zlook_cons, zrI_some, zrJ_some, zrP_some, zrC_some, zrA_rw, zrAS_rw, zrLen_rw, zst1_nil, zst1_cI, zst1_cR, zst1_cL, zrm1_nil, zrm1_cI, zrm1_cR, zrm1_cL, zst2_nil, zst2_cI, zst2_cR, zst2_cL, zrm2_nil, zrm2_cI, zrm2_cR, zrm2_cL, zkeep_nil, zkeep_cons, zsum_nil, zsum_I, zsum_R, zsum_L, zsum_N, toL_s, toL_n, List.cons_append, List.nil_append, List.mem_cons, List.not_mem_nil, reduceCtorEq, Nat.reduceAdd, Nat.reduceLT, Nat.reduceLeDiff, Nat.reduceEqDiff, Nat.zero_ne_one, Nat.one_ne_zero, Nat.add_zero, Nat.zero_add, or_false, false_or, or_true, true_or, and_true, true_and, and_self, ↓reduceIte, Nat.succ_ne_self, Nat.reduceGT, Nat.reduceSub, Nat.le_refl, Nat.zero_le, hc, h13, decide_true, sp_54]
theorem sp_71 {r c : Nat} (hc : zcl σ r = c) (h13 : c < 13) (h g w : Int32) : rm ro 71 [.ref r, .int h, .int g, .int w] σ = some (some (.int (fL 5 h g w)), σ) := by
  show rn ro 3 71 0 (lv_args 0 [.ref r, .int h, .int g, .int w]) [] σ = _
  simp only [q71_0, q71_1, q71_2, q71_3, q71_4, q71_7, q71_9, q71_11, q71_14, q71_16, q71_17, q71_18, q71_21, q71_22, zrk_36, zsw_cons, zsw_nil, lv_args_I, lv_args_R, lv_args_L, lv_args_nil, zlook_cons, zrI_some, zrJ_some, zrP_some, zrC_some, zrA_rw, zrAS_rw, zrLen_rw, zst1_nil, zst1_cI, zst1_cR, zst1_cL, zrm1_nil, zrm1_cI, zrm1_cR, zrm1_cL, zst2_nil, zst2_cI, zst2_cR, zst2_cL, zrm2_nil, zrm2_cI, zrm2_cR, zrm2_cL, zkeep_nil, zkeep_cons, zsum_nil, zsum_I, zsum_R, zsum_L, zsum_N, toL_s, toL_n, List.cons_append, List.nil_append, List.mem_cons, List.not_mem_nil, reduceCtorEq, Nat.reduceAdd, Nat.reduceLT, Nat.reduceLeDiff, Nat.reduceEqDiff, Nat.zero_ne_one, Nat.one_ne_zero, Nat.add_zero, Nat.zero_add, or_false, false_or, or_true, true_or, and_true, true_and, and_self, ↓reduceIte, Nat.succ_ne_self, Nat.reduceGT, Nat.reduceSub, Nat.le_refl, Nat.zero_le, hc, h13, decide_true, sp_36 hc h13, fL]
  split <;> rfl
theorem sp_37 {r c : Nat} (hc : zcl σ r = c) (h13 : c < 13) (n : Int32) : rm ro 37 [.ref r, .int n] σ = some (some (.int ((n + 1) / 2)), σ) := by
  show rn ro 2 37 0 (lv_args 0 [.ref r, .int n]) [] σ = _
  simp only [q37_0, q37_1, q37_2, q37_5, q37_6, q37_7, q37_8, q37_9, zrk_55, zsw_cons, zsw_nil, lv_args_I, lv_args_R, lv_args_L, lv_args_nil, zlook_cons, zrI_some, zrJ_some, zrP_some, zrC_some, zrA_rw, zrAS_rw, zrLen_rw, zst1_nil, zst1_cI, zst1_cR, zst1_cL, zrm1_nil, zrm1_cI, zrm1_cR, zrm1_cL, zst2_nil, zst2_cI, zst2_cR, zst2_cL, zrm2_nil, zrm2_cI, zrm2_cR, zrm2_cL, zkeep_nil, zkeep_cons, zsum_nil, zsum_I, zsum_R, zsum_L, zsum_N, toL_s, toL_n, List.cons_append, List.nil_append, List.mem_cons, List.not_mem_nil, reduceCtorEq, Nat.reduceAdd, Nat.reduceLT, Nat.reduceLeDiff, Nat.reduceEqDiff, Nat.zero_ne_one, Nat.one_ne_zero, Nat.add_zero, Nat.zero_add, or_false, false_or, or_true, true_or, and_true, true_and, and_self, ↓reduceIte, Nat.succ_ne_self, Nat.reduceGT, Nat.reduceSub, Nat.le_refl, Nat.zero_le, hc, h13, decide_true, sp_55]
  rfl
theorem sp_74 {r c : Nat} (hc : zcl σ r = c) (h13 : c < 13) (n : Int32) : rm ro 74 [.ref r, .int n] σ = some (some (.int (bStorm n)), σ) := by
  show rn ro 2 74 0 (lv_args 0 [.ref r, .int n]) [] σ = _
  simp only [q74_0, q74_1, q74_2, q74_3, q74_6, q74_7, q74_8, q74_11, zrk_55, zsw_cons, zsw_nil, lv_args_I, lv_args_R, lv_args_L, lv_args_nil, zlook_cons, zrI_some, zrJ_some, zrP_some, zrC_some, zrA_rw, zrAS_rw, zrLen_rw, zst1_nil, zst1_cI, zst1_cR, zst1_cL, zrm1_nil, zrm1_cI, zrm1_cR, zrm1_cL, zst2_nil, zst2_cI, zst2_cR, zst2_cL, zrm2_nil, zrm2_cI, zrm2_cR, zrm2_cL, zkeep_nil, zkeep_cons, zsum_nil, zsum_I, zsum_R, zsum_L, zsum_N, toL_s, toL_n, List.cons_append, List.nil_append, List.mem_cons, List.not_mem_nil, reduceCtorEq, Nat.reduceAdd, Nat.reduceLT, Nat.reduceLeDiff, Nat.reduceEqDiff, Nat.zero_ne_one, Nat.one_ne_zero, Nat.add_zero, Nat.zero_add, or_false, false_or, or_true, true_or, and_true, true_and, and_self, ↓reduceIte, Nat.succ_ne_self, Nat.reduceGT, Nat.reduceSub, Nat.le_refl, Nat.zero_le, hc, h13, decide_true, sp_55, bStorm]
theorem sp_76 {r c : Nat} (hc : zcl σ r = c) (h13 : c < 13) (n : Int32) : rm ro 76 [.ref r, .int n] σ = some (some (.int (2 * bStorm n)), σ) := by
  show rn ro 3 76 0 (lv_args 0 [.ref r, .int n]) [] σ = _
  simp only [q76_0, q76_1, q76_2, q76_3, q76_6, q76_7, zrk_74, zsw_cons, zsw_nil, lv_args_I, lv_args_R, lv_args_L, lv_args_nil, zlook_cons, zrI_some, zrJ_some, zrP_some, zrC_some, zrA_rw, zrAS_rw, zrLen_rw, zst1_nil, zst1_cI, zst1_cR, zst1_cL, zrm1_nil, zrm1_cI, zrm1_cR, zrm1_cL, zst2_nil, zst2_cI, zst2_cR, zst2_cL, zrm2_nil, zrm2_cI, zrm2_cR, zrm2_cL, zkeep_nil, zkeep_cons, zsum_nil, zsum_I, zsum_R, zsum_L, zsum_N, toL_s, toL_n, List.cons_append, List.nil_append, List.mem_cons, List.not_mem_nil, reduceCtorEq, Nat.reduceAdd, Nat.reduceLT, Nat.reduceLeDiff, Nat.reduceEqDiff, Nat.zero_ne_one, Nat.one_ne_zero, Nat.add_zero, Nat.zero_add, or_false, false_or, or_true, true_or, and_true, true_and, and_self, ↓reduceIte, Nat.succ_ne_self, Nat.reduceGT, Nat.reduceSub, Nat.le_refl, Nat.zero_le, hc, h13, decide_true, sp_74 hc h13]
end KND
