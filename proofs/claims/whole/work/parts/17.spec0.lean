/-! FIRST WORDS AND THE SMALL METHODS OF THE CLASS -/
theorem zlook_cons (i j : Nat) (v : Value) (l : zL) : zlook ((i, v) :: l) j = if i = j then some v else zlook l j := rfl
theorem zrI_some (x : Int32) (f : Int32 → zO) : zrI (some (.int x)) f = f x := rfl
theorem zrJ_some (x : Int64) (f : Int64 → zO) : zrJ (some (.long x)) f = f x := rfl
theorem zrP_some (x : Nat) (f : Nat → zO) : zrP (some (.ref x)) f = f x := rfl
theorem zrC_some (ov : Option Value) (σ1 : zW) (f : Option Value → zW → zO) : zrC (some (ov, σ1)) f = f ov σ1 := rfl
theorem zrA_rw (ro : zR) (n : Nat) (g : Nat → Int32) (a : Nat) (i : Int32) (f : Int32 → zO) : zrA ro (some (.inl (0, n, .inl g))) a i f = if i < 0 ∨ n ≤ i.toNatClampNeg then none else f (g i.toNatClampNeg) := rfl
theorem zrAS_rw (n : Nat) (g : Nat → Int32) (i x : Int32) (f : zC → zO) : zrAS (some (.inl (0, n, .inl g))) i x f = if i < 0 ∨ n ≤ i.toNatClampNeg then none else f (.inl (0, n, .inl (upd g i.toNatClampNeg x))) := rfl
theorem zrLen_rw (ro : zR) (t : Nat) (x : vp_A) (a : Nat) (f : Int32 → zO) : zrLen ro (some (.inl (t, x))) a f = if t < 5 then f (Int32.ofNat x.1) else none := rfl
theorem zst1_nil (i : Nat) (v : Value) : zst1 i v [] = [(i, v)] := rfl
theorem zst1_cI (i j : Nat) (v : Value) (x : Int32) (l : zL) : zst1 i v ((j, .int x) :: l) = if j = i then zst1 i v l else if i < j then (i, v) :: (j, .int x) :: zrm1 i l else (j, .int x) :: zst1 i v l := by simp [zst1, Value.category]
theorem zst1_cR (i j : Nat) (v : Value) (x : Nat) (l : zL) : zst1 i v ((j, .ref x) :: l) = if j = i then zst1 i v l else if i < j then (i, v) :: (j, .ref x) :: zrm1 i l else (j, .ref x) :: zst1 i v l := by simp [zst1, Value.category]
theorem zst1_cL (i j : Nat) (v : Value) (x : Int64) (l : zL) : zst1 i v ((j, .long x) :: l) = if j = i ∨ j + 1 = i then zst1 i v l else if i < j then (i, v) :: (j, .long x) :: zrm1 i l else (j, .long x) :: zst1 i v l := by simp [zst1, Value.category]
theorem zrm1_nil (i : Nat) : zrm1 i [] = [] := rfl
theorem zrm1_cI (i j : Nat) (x : Int32) (l : zL) : zrm1 i ((j, .int x) :: l) = if j = i then zrm1 i l else (j, .int x) :: zrm1 i l := by simp [zrm1, Value.category]
theorem zrm1_cR (i j : Nat) (x : Nat) (l : zL) : zrm1 i ((j, .ref x) :: l) = if j = i then zrm1 i l else (j, .ref x) :: zrm1 i l := by simp [zrm1, Value.category]
theorem zrm1_cL (i j : Nat) (x : Int64) (l : zL) : zrm1 i ((j, .long x) :: l) = if j = i ∨ j + 1 = i then zrm1 i l else (j, .long x) :: zrm1 i l := by simp [zrm1, Value.category]
theorem zst2_nil (i : Nat) (v : Value) : zst2 i v [] = [(i, v)] := rfl
theorem zst2_cI (i j : Nat) (v : Value) (x : Int32) (l : zL) : zst2 i v ((j, .int x) :: l) = if j = i ∨ j = i + 1 then zst2 i v l else if i < j then (i, v) :: (j, .int x) :: zrm2 i l else (j, .int x) :: zst2 i v l := by simp [zst2, Value.category]
theorem zst2_cR (i j : Nat) (v : Value) (x : Nat) (l : zL) : zst2 i v ((j, .ref x) :: l) = if j = i ∨ j = i + 1 then zst2 i v l else if i < j then (i, v) :: (j, .ref x) :: zrm2 i l else (j, .ref x) :: zst2 i v l := by simp [zst2, Value.category]
theorem zst2_cL (i j : Nat) (v : Value) (x : Int64) (l : zL) : zst2 i v ((j, .long x) :: l) = if j = i ∨ j = i + 1 ∨ j + 1 = i then zst2 i v l else if i < j then (i, v) :: (j, .long x) :: zrm2 i l else (j, .long x) :: zst2 i v l := by simp [zst2, Value.category]
theorem zrm2_nil (i : Nat) : zrm2 i [] = [] := rfl
theorem zrm2_cI (i j : Nat) (x : Int32) (l : zL) : zrm2 i ((j, .int x) :: l) = if j = i ∨ j = i + 1 then zrm2 i l else (j, .int x) :: zrm2 i l := by simp [zrm2, Value.category]
theorem zrm2_cR (i j : Nat) (x : Nat) (l : zL) : zrm2 i ((j, .ref x) :: l) = if j = i ∨ j = i + 1 then zrm2 i l else (j, .ref x) :: zrm2 i l := by simp [zrm2, Value.category]
theorem zrm2_cL (i j : Nat) (x : Int64) (l : zL) : zrm2 i ((j, .long x) :: l) = if j = i ∨ j = i + 1 ∨ j + 1 = i then zrm2 i l else (j, .long x) :: zrm2 i l := by simp [zrm2, Value.category]
theorem zkeep_nil (ks : List Nat) : zkeep ks [] = [] := rfl
theorem zkeep_cons (ks : List Nat) (j : Nat) (w : Value) (l : zL) : zkeep ks ((j, w) :: l) = if j ∈ ks then (j, w) :: zkeep ks l else zkeep ks l := rfl
theorem zsum_nil : zsum [] = 0 := rfl
theorem zsum_I (x : Int32) (st : List Value) : zsum (.int x :: st) = 1 + zsum st := rfl
theorem zsum_R (x : Nat) (st : List Value) : zsum (.ref x :: st) = 1 + zsum st := rfl
theorem zsum_N (st : List Value) : zsum (.null :: st) = 1 + zsum st := rfl
theorem zsum_L (x : Int64) (st : List Value) : zsum (.long x :: st) = 2 + zsum st := rfl
theorem lv_args_nil (i : Nat) : lv_args i [] = [] := rfl
theorem lv_args_I (i : Nat) (x : Int32) (vs : List Value) : lv_args i (.int x :: vs) = (i, .int x) :: lv_args (i + 1) vs := rfl
theorem lv_args_R (i : Nat) (x : Nat) (vs : List Value) : lv_args i (.ref x :: vs) = (i, .ref x) :: lv_args (i + 1) vs := rfl
theorem lv_args_L (i : Nat) (x : Int64) (vs : List Value) : lv_args i (.long x :: vs) = (i, .long x) :: lv_args (i + 2) vs := rfl
theorem toL_s (v : Value) : (some v : Option Value).toList = [v] := rfl
theorem toL_n : (none : Option Value).toList = [] := rfl
/-- a read beside the row's ends answers 0 -/
def zat (n : Nat) (g : Nat → Int32) (i : Int32) : Int32 := if i < 0 ∨ n ≤ i.toNatClampNeg then 0 else g i.toNatClampNeg
theorem lt_ofNat {i : Int32} {n : Nat} (hn : n < 2 ^ 31) (h : ¬ i < 0) : i < Int32.ofNat n ↔ ¬ n ≤ i.toNatClampNeg := by
  obtain ⟨j, hj, rfl⟩ := nI_of h
  rw [nI_clamp hj]
  constructor
  · intro z q
    exact nI_nlt q hj z
  · intro z
    exact nI_lt (by omega) hn
theorem sp_at (ro : zR) {σ : zW} {r n : Nat} {g : Nat → Int32} (h : σ[r]? = some (.inl (0, n, .inl g))) (hn : n < 2 ^ 31) (i : Int32) : rm ro 127 [.ref r, .int i] σ = some (some (.int (zat n g i)), σ) := by
  show rn ro 1 127 0 (lv_args 0 [.ref r, .int i]) [] σ = _
  simp only [q127_0, q127_1, q127_4, q127_5, q127_6, q127_7, q127_10, q127_11, q127_12, q127_13, q127_16, q127_17, kI_app, kJ_app, kP_app, kV_app, kS_app, kC_app, kN_app, kM_app, zsw_cons, zsw_nil, lv_args_I, lv_args_R, lv_args_L, lv_args_nil, zlook_cons, zrI_some, zrJ_some, zrP_some, zrC_some, zrA_rw, zrAS_rw, zrLen_rw, zst1_nil, zst1_cI, zst1_cR, zst1_cL, zrm1_nil, zrm1_cI, zrm1_cR, zrm1_cL, zst2_nil, zst2_cI, zst2_cR, zst2_cL, zrm2_nil, zrm2_cI, zrm2_cR, zrm2_cL, zkeep_nil, zkeep_cons, zsum_nil, zsum_I, zsum_R, zsum_L, zsum_N, toL_s, toL_n, List.cons_append, List.nil_append, List.mem_cons, List.not_mem_nil, reduceCtorEq, Nat.reduceAdd, Nat.reduceLT, Nat.reduceLeDiff, Nat.reduceEqDiff, Nat.zero_ne_one, Nat.one_ne_zero, Nat.add_zero, Nat.zero_add, or_false, false_or, or_true, true_or, and_true, true_and, and_self, ↓reduceIte, Nat.succ_ne_self, Nat.reduceGT, Nat.reduceSub, Nat.le_refl, Nat.zero_le, h]
  unfold zat
  by_cases h0 : i < 0
  · simp only [h0, true_or, if_true]
  · simp only [h0, false_or, if_false, lt_ofNat hn h0]
    by_cases h1 : n ≤ i.toNatClampNeg
    · simp only [h1, not_true_eq_false, if_true, if_false]
    · simp only [h1, not_false_eq_true, if_true, if_false]
/-- a write beside the row's ends is none -/
def zup (n : Nat) (g : Nat → Int32) (i x : Int32) : Nat → Int32 := if i < 0 ∨ n ≤ i.toNatClampNeg then g else upd g i.toNatClampNeg x
theorem set_self {σ : zW} {k : Nat} {c : zC} (h : σ[k]? = some c) : σ.set k c = σ := by
  apply List.ext_getElem?
  intro j
  rw [List.getElem?_set]
  split
  · rename_i e
    subst e
    rw [if_pos (List.getElem?_eq_some_iff.mp h).1, h]
  · rfl
theorem sp_put (ro : zR) {σ : zW} {r n : Nat} {g : Nat → Int32} (h : σ[r]? = some (.inl (0, n, .inl g))) (hn : n < 2 ^ 31) (i x : Int32) : rm ro 128 [.ref r, .int i, .int x] σ = some (none, σ.set r (.inl (0, n, .inl (zup n g i x)))) := by
  show rn ro 1 128 0 (lv_args 0 [.ref r, .int i, .int x]) [] σ = _
  simp only [q128_0, q128_1, q128_4, q128_5, q128_6, q128_7, q128_10, q128_11, q128_12, q128_13, q128_14, kI_app, kJ_app, kP_app, kV_app, kS_app, kC_app, kN_app, kM_app, zsw_cons, zsw_nil, lv_args_I, lv_args_R, lv_args_L, lv_args_nil, zlook_cons, zrI_some, zrJ_some, zrP_some, zrC_some, zrA_rw, zrAS_rw, zrLen_rw, zst1_nil, zst1_cI, zst1_cR, zst1_cL, zrm1_nil, zrm1_cI, zrm1_cR, zrm1_cL, zst2_nil, zst2_cI, zst2_cR, zst2_cL, zrm2_nil, zrm2_cI, zrm2_cR, zrm2_cL, zkeep_nil, zkeep_cons, zsum_nil, zsum_I, zsum_R, zsum_L, zsum_N, toL_s, toL_n, List.cons_append, List.nil_append, List.mem_cons, List.not_mem_nil, reduceCtorEq, Nat.reduceAdd, Nat.reduceLT, Nat.reduceLeDiff, Nat.reduceEqDiff, Nat.zero_ne_one, Nat.one_ne_zero, Nat.add_zero, Nat.zero_add, or_false, false_or, or_true, true_or, and_true, true_and, and_self, ↓reduceIte, Nat.succ_ne_self, Nat.reduceGT, Nat.reduceSub, Nat.le_refl, Nat.zero_le, h]
  unfold zup
  by_cases h0 : i < 0
  · simp only [h0, true_or, if_true, set_self h]
  · simp only [h0, false_or, if_false, lt_ofNat hn h0]
    by_cases h1 : n ≤ i.toNatClampNeg
    · simp only [h1, not_true_eq_false, if_true, if_false, set_self h]
    · simp only [h1, not_false_eq_true, if_true, if_false]
theorem sp_isIn (ro : zR) (σ : zW) (b i : Int32) : rm ro 130 [.int b, .int i] σ = some (some (.int (if b >>> (i &&& 31) &&& 1 = 1 then 1 else 0)), σ) := by
  show rn ro 1 130 0 (lv_args 0 [.int b, .int i]) [] σ = _
  simp only [q130_0, q130_1, q130_2, q130_3, q130_4, q130_5, q130_6, q130_9, q130_10, q130_13, q130_14, kI_app, kJ_app, kP_app, kV_app, kS_app, kC_app, kN_app, kM_app, zsw_cons, zsw_nil, lv_args_I, lv_args_R, lv_args_L, lv_args_nil, zlook_cons, zrI_some, zrJ_some, zrP_some, zrC_some, zrA_rw, zrAS_rw, zrLen_rw, zst1_nil, zst1_cI, zst1_cR, zst1_cL, zrm1_nil, zrm1_cI, zrm1_cR, zrm1_cL, zst2_nil, zst2_cI, zst2_cR, zst2_cL, zrm2_nil, zrm2_cI, zrm2_cR, zrm2_cL, zkeep_nil, zkeep_cons, zsum_nil, zsum_I, zsum_R, zsum_L, zsum_N, toL_s, toL_n, List.cons_append, List.nil_append, List.mem_cons, List.not_mem_nil, reduceCtorEq, Nat.reduceAdd, Nat.reduceLT, Nat.reduceLeDiff, Nat.reduceEqDiff, Nat.zero_ne_one, Nat.one_ne_zero, Nat.add_zero, Nat.zero_add, or_false, false_or, or_true, true_or, and_true, true_and, and_self, ↓reduceIte, Nat.succ_ne_self, Nat.reduceGT, Nat.reduceSub, Nat.le_refl, Nat.zero_le]
  split <;> simp [*]
theorem lg_cmp_0 (a b : Int64) : lg_cmp a b = 0 ↔ a = b := by
  unfold lg_cmp
  by_cases h : b < a
  · rw [if_pos h]
    constructor
    · intro z; cases z
    · rintro rfl; exact absurd h Int64.lt_irrefl
  · rw [if_neg h]
    split
    · rename_i e; simp [e]
    · rename_i e; simp [e]
theorem lg_cmp_p (a b : Int64) : 0 < lg_cmp a b ↔ b < a := by
  unfold lg_cmp
  by_cases h : b < a
  · rw [if_pos h]; simp [h]
  · rw [if_neg h]
    split <;> simp [h]
theorem lg_cmp_n (a b : Int64) : lg_cmp a b < 0 ↔ a < b := by
  unfold lg_cmp
  by_cases h : b < a
  · rw [if_pos h]
    have : ¬ a < b := fun z => Int64.lt_irrefl (Int64.lt_trans z h)
    simp [this]
  · rw [if_neg h]
    split
    · rename_i e; subst e; simp
    · rename_i e
      have : a < b := by
        rw [Int64.lt_iff_toInt_lt] at h ⊢
        have h2 : a.toInt ≠ b.toInt := fun z => e (Int64.toInt_inj.mp z)
        omega
      simp [this]
theorem sp_compare (ro : zR) (σ : zW) (a b : Int64) : rm ro 126 [.long a, .long b] σ = some (some (.int (if a = b then 0 else if b < a then 1 else -1)), σ) := by
  show rn ro 1 126 0 (lv_args 0 [.long a, .long b]) [] σ = _
  simp only [q126_0, q126_1, q126_2, q126_3, q126_6, q126_7, q126_8, q126_9, q126_10, q126_11, q126_14, q126_15, q126_18, q126_19, kI_app, kJ_app, kP_app, kV_app, kS_app, kC_app, kN_app, kM_app, zsw_cons, zsw_nil, lv_args_I, lv_args_R, lv_args_L, lv_args_nil, zlook_cons, zrI_some, zrJ_some, zrP_some, zrC_some, zrA_rw, zrAS_rw, zrLen_rw, zst1_nil, zst1_cI, zst1_cR, zst1_cL, zrm1_nil, zrm1_cI, zrm1_cR, zrm1_cL, zst2_nil, zst2_cI, zst2_cR, zst2_cL, zrm2_nil, zrm2_cI, zrm2_cR, zrm2_cL, zkeep_nil, zkeep_cons, zsum_nil, zsum_I, zsum_R, zsum_L, zsum_N, toL_s, toL_n, List.cons_append, List.nil_append, List.mem_cons, List.not_mem_nil, reduceCtorEq, Nat.reduceAdd, Nat.reduceLT, Nat.reduceLeDiff, Nat.reduceEqDiff, Nat.zero_ne_one, Nat.one_ne_zero, Nat.add_zero, Nat.zero_add, or_false, false_or, or_true, true_or, and_true, true_and, and_self, ↓reduceIte, Nat.succ_ne_self, Nat.reduceGT, Nat.reduceSub, Nat.le_refl, Nat.zero_le, lg_cmp_0, lg_cmp_p]
  split
  · rfl
  · split <;> rfl
