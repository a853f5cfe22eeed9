/-! FIRST WORDS AND THE SMALL METHODS OF THE CLASS -/
theorem zlook_cons (i j : Nat) (v : Value) (l : zL) : zlook ((i, v) :: l) j = if i = j then some v else zlook l j := rfl
theorem zrI_some (x : Int32) (f : Int32 → zO) : zrI (some (.int x)) f = f x := rfl
theorem zrJ_some (x : Int64) (f : Int64 → zO) : zrJ (some (.long x)) f = f x := rfl
theorem zrP_some (x : Nat) (f : Nat → zO) : zrP (some (.ref x)) f = f x := rfl
theorem zrC_some (ov : Option Value) (σ1 : zW) (f : Option Value → zW → zO) : zrC (some (ov, σ1)) f = f ov σ1 := rfl
theorem zrA_rw (ro : zR) (n : Nat) (g : Nat → Int32) (a : Nat) (i : Int32) (f : Int32 → zO) : zrA ro (some (.inl (0, n, .inl g))) a i f = if i < 0 ∨ n ≤ i.toNatClampNeg then none else f (g i.toNatClampNeg) := rfl
theorem zrAS_rw (n : Nat) (g : Nat → Int32) (i x : Int32) (f : zC → zO) : zrAS (some (.inl (0, n, .inl g))) i x f = if i < 0 ∨ n ≤ i.toNatClampNeg then none else f (.inl (0, n, .inl (upd g i.toNatClampNeg x))) := rfl
theorem zrLen_rw (ro : zR) (t : Nat) (x : vp_A) (a : Nat) (f : Int32 → zO) : zrLen ro (some (.inl (t, x))) a f = if t < 5 then f (Int32.ofNat x.1) else none := rfl
theorem zst1_nil (i : Nat) (v : Value) : zst1 i v [] = [(i, v)] := rfl
theorem zst1_cI (i j : Nat) (v : Value) (x : Int32) (l : zL) : zst1 i v ((j, .int x) :: l) = if j = i then zst1 i v l else if i < j then (i, v) :: (j, .int x) :: zrm1 i l else (j, .int x) :: zst1 i v l := by simp [zst1, Value.category]
theorem zst1_cR (i j : Nat) (v : Value) (x : Nat) (l : zL) : zst1 i v ((j, .ref x) :: l) = if j = i then zst1 i v l else if i < j then (i, v) :: (j, .ref x) :: zrm1 i l else (j, .ref x) :: zst1 i v l := by simp [zst1, Value.category]
theorem zst1_cL (i j : Nat) (v : Value) (x : Int64) (l : zL) : zst1 i v ((j, .long x) :: l) = if j = i ∨ j + 1 = i then zst1 i v l else if i < j then (i, v) :: (j, .long x) :: zrm1 i l else (j, .long x) :: zst1 i v l := by simp [zst1, Value.category]
theorem zrm1_nil (i : Nat) : zrm1 i [] = [] := rfl
theorem zrm1_cI (i j : Nat) (x : Int32) (l : zL) : zrm1 i ((j, .int x) :: l) = if j = i then zrm1 i l else (j, .int x) :: zrm1 i l := by simp [zrm1, Value.category]
theorem zrm1_cR (i j : Nat) (x : Nat) (l : zL) : zrm1 i ((j, .ref x) :: l) = if j = i then zrm1 i l else (j, .ref x) :: zrm1 i l := by simp [zrm1, Value.category]
theorem zrm1_cL (i j : Nat) (x : Int64) (l : zL) : zrm1 i ((j, .long x) :: l) = if j = i ∨ j + 1 = i then zrm1 i l else (j, .long x) :: zrm1 i l := by simp [zrm1, Value.category]
theorem zst2_nil (i : Nat) (v : Value) : zst2 i v [] = [(i, v)] := rfl
theorem zst2_cI (i j : Nat) (v : Value) (x : Int32) (l : zL) : zst2 i v ((j, .int x) :: l) = if j = i ∨ j = i + 1 then zst2 i v l else if i < j then (i, v) :: (j, .int x) :: zrm2 i l else (j, .int x) :: zst2 i v l := by simp [zst2, Value.category]
theorem zst2_cR (i j : Nat) (v : Value) (x : Nat) (l : zL) : zst2 i v ((j, .ref x) :: l) = if j = i ∨ j = i + 1 then zst2 i v l else if i < j then (i, v) :: (j, .ref x) :: zrm2 i l else (j, .ref x) :: zst2 i v l := by simp [zst2, Value.category]
theorem zst2_cL (i j : Nat) (v : Value) (x : Int64) (l : zL) : zst2 i v ((j, .long x) :: l) = if j = i ∨ j = i + 1 ∨ j + 1 = i then zst2 i v l else if i < j then (i, v) :: (j, .long x) :: zrm2 i l else (j, .long x) :: zst2 i v l := by simp [zst2, Value.category]
theorem zrm2_nil (i : Nat) : zrm2 i [] = [] := rfl
theorem zrm2_cI (i j : Nat) (x : Int32) (l : zL) : zrm2 i ((j, .int x) :: l) = if j = i ∨ j = i + 1 then zrm2 i l else (j, .int x) :: zrm2 i l := by simp [zrm2, Value.category]
theorem zrm2_cR (i j : Nat) (x : Nat) (l : zL) : zrm2 i ((j, .ref x) :: l) = if j = i ∨ j = i + 1 then zrm2 i l else (j, .ref x) :: zrm2 i l := by simp [zrm2, Value.category]
theorem zrm2_cL (i j : Nat) (x : Int64) (l : zL) : zrm2 i ((j, .long x) :: l) = if j = i ∨ j = i + 1 ∨ j + 1 = i then zrm2 i l else (j, .long x) :: zrm2 i l := by simp [zrm2, Value.category]
theorem zkeep_nil (ks : List Nat) : zkeep ks [] = [] := rfl
theorem zkeep_cons (ks : List Nat) (j : Nat) (w : Value) (l : zL) : zkeep ks ((j, w) :: l) = if j ∈ ks then (j, w) :: zkeep ks l else zkeep ks l := rfl
theorem zsum_nil : zsum [] = 0 := rfl
theorem zsum_I (x : Int32) (st : List Value) : zsum (.int x :: st) = 1 + zsum st := rfl
theorem zsum_R (x : Nat) (st : List Value) : zsum (.ref x :: st) = 1 + zsum st := rfl
theorem zsum_N (st : List Value) : zsum (.null :: st) = 1 + zsum st := rfl
theorem zsum_L (x : Int64) (st : List Value) : zsum (.long x :: st) = 2 + zsum st := rfl
theorem lv_args_nil (i : Nat) : lv_args i [] = [] := rfl
theorem lv_args_I (i : Nat) (x : Int32) (vs : List Value) : lv_args i (.int x :: vs) = (i, .int x) :: lv_args (i + 1) vs := rfl
theorem lv_args_R (i : Nat) (x : Nat) (vs : List Value) : lv_args i (.ref x :: vs) = (i, .ref x) :: lv_args (i + 1) vs := rfl
theorem lv_args_L (i : Nat) (x : Int64) (vs : List Value) : lv_args i (.long x :: vs) = (i, .long x) :: lv_args (i + 2) vs := rfl
theorem toL_s (v : Value) : (some v : Option Value).toList = [v] := rfl
theorem toL_n : (none : Option Value).toList = [] := rfl
/-- a read beside the row's ends answers 0 -/
def zat (n : Nat) (g : Nat → Int32) (i : Int32) : Int32 := if i < 0 ∨ n ≤ i.toNatClampNeg then 0 else g i.toNatClampNeg
theorem lt_ofNat {i : Int32} {n : Nat} (hn : n < 2 ^ 31) (h : ¬ i < 0) : i < Int32.ofNat n ↔ ¬ n ≤ i.toNatClampNeg := by
  obtain ⟨j, hj, rfl⟩ := nI_of h
  rw [nI_clamp hj]
  constructor
  · intro z q
    exact nI_nlt q hj z
  · intro z
    exact nI_lt (by omega) hn
theorem sp_at (ro : zR) {σ : zW} {r n : Nat} {g : Nat → Int32} (h : σ[r]? = some (.inl (0, n, .inl g))) (hn : n < 2 ^ 31) (i : Int32) : rm ro 127 [.ref r, .int i] σ = some (some (.int (zat n g i)), σ) := by
  show rn ro 1 127 0 (lv_args 0 [.ref r, .int i]) [] σ = _
  simp only [lv_args_I, lv_args_R, lv_args_nil, q127_0, q127_1, q127_4, q127_5, q127_6, q127_7, q127_10, q127_11, q127_12, q127_13, q127_16, q127_17, zlook_cons, zrI_some, zrP_some, if_true, if_false, reduceCtorEq, h, zrLen_rw, zrA_rw, Nat.reduceAdd, Nat.reduceLT, Nat.reduceEqDiff, Nat.zero_ne_one, Nat.one_ne_zero, zero_ne_one, ↓reduceIte]
  sorry
