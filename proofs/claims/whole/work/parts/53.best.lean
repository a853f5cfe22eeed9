/-! THE BEST CHANCE: numbers, the class -/
def skN (a : Nat → Nat) (m t r k g : Nat) : Nat := pN a m t r * 100 ^ k + (100 - pN a m t r) * g
def bI (a : Nat → Nat) (prev : Nat → Nat → Nat → Nat) (k m : Nat) : Nat → Nat → Nat → Nat
  | 0, r, t => skN a m t r k (prev 0 r t)
  | f + 1, r, t => if skN a m t r k (prev (f + 1) r t) < bI a prev k m f (min 5 (r + 1)) (t + 1) then bI a prev k m f (min 5 (r + 1)) (t + 1) else skN a m t r k (prev (f + 1) r t)
/-- the best chance of the last k matches, when one may still get ready f times, out of 100 to the k -/
def bG (a : Nat → Nat) : Nat → Nat → Nat → Nat → Nat
  | 0 => fun _ _ _ => 0
  | k + 1 => bI a (bG a k) k (a 0 - (k + 1))
def bD (a : Nat → Nat) (k f r t : Nat) : Nat := match k with
  | 0 => 0
  | k + 1 => match f with
    | 0 => 1
    | f + 1 => if skN a (a 0 - (k + 1)) t r k (bG a k (f + 1) r t) < bG a (k + 1) f (min 5 (r + 1)) (t + 1) then 2 else 1
section BES
variable {a : Nat → Nat}
theorem sk_le (g : Good a) {m t r k x : Nat} (hm : m < a 0) (hr : r ≤ 5) (hx : x ≤ 100 ^ k) : skN a m t r k x ≤ 100 ^ (k + 1) := by
  have p := pN_le g (t := t) hm hr
  unfold skN
  have h1 : (100 - pN a m t r) * x ≤ (100 - pN a m t r) * 100 ^ k := Nat.mul_le_mul_left _ hx
  have h2 : pN a m t r * 100 ^ k + (100 - pN a m t r) * 100 ^ k = 100 ^ (k + 1) := by rw [← Nat.add_mul, Nat.add_sub_of_le p, Nat.pow_succ, Nat.mul_comm]
  omega
theorem bI_le (g : Good a) {prev : Nat → Nat → Nat → Nat} {k m : Nat} (hm : m < a 0) (hp : ∀ f r t, r ≤ 5 → prev f r t ≤ 100 ^ k) : ∀ f r t, r ≤ 5 → bI a prev k m f r t ≤ 100 ^ (k + 1)
  | 0, r, t, hr => sk_le g hm hr (hp 0 r t hr)
  | f + 1, r, t, hr => by
    have i := bI_le g hm hp f (min 5 (r + 1)) (t + 1) (by omega)
    have s := sk_le g (t := t) hm hr (hp (f + 1) r t hr)
    show (if _ < _ then _ else _) ≤ _
    split
    · exact i
    · exact s
theorem bG_le (g : Good a) : ∀ k, k ≤ a 0 → ∀ f r t, r ≤ 5 → bG a k f r t ≤ 100 ^ k
  | 0, _, f, r, t, _ => Nat.zero_le _
  | k + 1, hk, f, r, t, hr => bI_le g (by omega) (bG_le g k (by omega)) f r t hr
theorem bG_0 (k r t : Nat) : bG a (k + 1) 0 r t = skN a (a 0 - (k + 1)) t r k (bG a k 0 r t) := rfl
theorem bG_s (k f r t : Nat) : bG a (k + 1) (f + 1) r t = if skN a (a 0 - (k + 1)) t r k (bG a k (f + 1) r t) < bG a (k + 1) f (min 5 (r + 1)) (t + 1) then bG a (k + 1) f (min 5 (r + 1)) (t + 1) else skN a (a 0 - (k + 1)) t r k (bG a k (f + 1) r t) := rfl
end BES
section BEC
variable {ro : zR} {A : Nat → Nat → Int32} {L : Nat → Nat → Int64} {s : Nat → Nat → Nat}
theorem CInv.scr {A' : Nat → Nat → Int32} {L' : Nat → Nat → Int64} (h : CInv A L s) (e : ∀ k, (k < 18 ∨ (29 ≤ k ∧ k < 50) ∨ k = 59 ∨ k = 60) → A' k = A k) (l : L' 0 = L 0) : CInv A' L' s := by
  obtain ⟨h0, h1, h2, h3, h4, h5, h6⟩ := h
  refine ⟨RelL.congr h0 fun k hk => e _ (by omega), ?_, ?_, ?_, ?_, fun z => RelL.congr (h5 z) fun k hk => e _ (by omega), fun z => RelL.congr (h6 z) fun k hk => e _ (by omega)⟩
  · rw [e 0 (by decide)]
    exact h1
  · rw [l]
    exact h2
  · rw [e 59 (by decide), e 60 (by decide)]
    exact h3
  · rw [e 49 (by decide)]
    exact h4
theorem zrAL_rw (n : Nat) (g : Nat → Int64) (i : Int32) (f : Int64 → zO) : zrAL (some (.inl (1, n, .inr (.inl g)))) i f = if i < 0 ∨ n ≤ i.toNatClampNeg then none else f (g i.toNatClampNeg) := rfl
theorem zrLS_rw (n : Nat) (g : Nat → Int64) (i : Int32) (x : Int64) (f : zC → zO) : zrLS (some (.inl (1, n, .inr (.inl g)))) i x f = if i < 0 ∨ n ≤ i.toNatClampNeg then none else f (.inl (1, n, .inr (.inl (vp_updL g i.toNatClampNeg x)))) := rfl
theorem i_nn {g : Nat} (h : g < 2147483648) : ¬ iZ g < 0 := by
  rw [i_lt0 (by omega)]
  omega
theorem sp_45 (A : Nat → Nat → Int32) (L : Nat → Nat → Int64) {g : Nat} (hg : g < 13) : rm ro 45 [.ref 50, .int (iZ g)] (hp A L) = some (some (.long (L 53 g)), hp A L) := by
  have e : iZ g < 13 := by
    rw [i_ltk 13 13 rfl (by omega) (by omega)]
    omega
  show rn ro 1 45 0 (lv_args 0 [.ref 50, .int (iZ g)]) [] (hp A L) = _
  simp only [q45_0, q45_1, q45_4, q45_5, q45_6, q45_9, q45_10, q45_13, q45_14, q45_17, q45_18, q45_19, q45_22, q45_23, kI_app, kJ_app, kP_app, kV_app, kS_app, kC_app, kN_app, kM_app, zsw_cons, zsw_nil, lv_args_I, lv_args_R, lv_args_L, lv_args_nil, zlook_cons, zrI_some, zrJ_some, zrP_some, zrC_some, zrA_rw, zrAS_rw, zrLen_rw, zst1_nil, zst1_cI, zst1_cR, zst1_cL, zrm1_nil, zrm1_cI, zrm1_cR, zrm1_cL, zst2_nil, zst2_cI, zst2_cR, zst2_cL, zrm2_nil, zrm2_cI, zrm2_cR, zrm2_cL, zkeep_nil, zkeep_cons, zsum_nil, zsum_I, zsum_R, zsum_L, zsum_N, toL_s, toL_n, List.cons_append, List.nil_append, List.mem_cons, List.not_mem_nil, reduceCtorEq, Nat.reduceAdd, Nat.reduceLT, Nat.reduceLeDiff, Nat.reduceEqDiff, Nat.zero_ne_one, Nat.one_ne_zero, Nat.add_zero, Nat.zero_add, or_false, false_or, or_true, true_or, and_true, true_and, and_self, ↓reduceIte, Nat.succ_ne_self, Nat.reduceGT, Nat.reduceSub, Nat.le_refl, Nat.zero_le, zis_O, cl_is, clG_0, clG_1, clG_2, clG_3, clG_4, clG_5, clG_6, clS_6, clG_7, clG_8, clG_9, clS_9, clG_10, clG_11, clS_11, clG_12, clS_12, clG_13, clS_13, clG_14, clS_14, clG_15, clS_15, clG_16, clG_17, clS_17, od_is, odG_0, odG_1, odS_1, odG_2, odG_3, odS_3, odG_4, re_is, reG_0, reS_0, reG_1, reG_2, reG_3, reS_3, reG_4, reS_4, reG_5, reS_5, reG_6, reS_6, wo_is, woG_0, woG_1, woG_2, woS_2, woG_3, lm_is, lmG_0, lmG_1, lmG_2, lmG_3, lmG_4, lmG_5, lmG_6, lmG_7, lmG_8, lmS_8, lmG_9, lmS_9, lmG_10, lmS_10, lmG_11, lmS_11, lmG_12, lmS_12, mo_is, moG_0, moG_1, moG_2, moG_3, moG_4, moG_5, moS_5, moG_6, moS_6, moG_7, moS_7, moG_8, moG_9, moS_9, moG_10, moS_10, moG_11, moS_11, moG_12, moS_12, moG_13, moS_13, moG_14, moG_15, moS_15, moG_16, moG_17, moS_17, moG_18, moG_19, moG_20, i32ne0, i32ne1, i32ne2, i32ne3, i32ne4, i32ne5, i32ne6, i32ne7, i32ne8, i32ne9, i32ne10, j64ne, Int32.reduceAdd, Int32.reduceSub, Int32.reduceMul, Int32.reduceLT, Int32.reduceOfNat, Int32.reduceToNatClampNeg, cU_at, Nat.reduceMul, Nat.reduceMod, catR, catI, cV_self, cU_self, hg0, hg1, hg2, hg3, hg4, hg5, hg6, hg7, hg8, hg9, hg10, hg11, hg12, hg13, hg14, hg15, hg16, hg17, hg18, hg19, hg20, hg21, hg22, hg23, hg24, hg25, hg26, hg27, hg28, hg29, hg30, hg31, hg32, hg33, hg34, hg35, hg36, hg37, hg38, hg39, hg40, hg41, hg42, hg43, hg44, hg45, hg46, hg47, hg48, hg49, hg50, hg51, hg52, hg53, hg54, hg55, hg56, hg57, hg58, hg59, hg60, hg61, hg62, hg63, hg64, hg65, hg66, hg67, hg68, hg69, hg70, hg71, hg72, hg73, hg1001, hg1002, hg1003, hg1000, hg2000, hs0, hs8, hs9, hs10, hs11, hs12, hs13, hs14, hs15, hs16, hs17, hs18, hs19, hs20, hs21, hs22, hs23, hs24, hs25, hs26, hs27, hs29, hs30, hs31, hs32, hs33, hs34, hs35, hs36, hs37, hs38, hs39, hs40, hs41, hs42, hs43, hs44, hs45, hs46, hs47, hs48, hs49, hs50, hs51, hs52, hs53, hs54, hs55, hs56, hs57, hs59, hs60, hs61, hs62, hs63, hs64, hs65, hs66, hs67, hs68, hs69, hs70, hs71, hs72, hs73, hw8, hw18, hw29, hw39, i_nn (show g < 2147483648 by omega), e, if_false, if_true, zrAL_rw, iZ_ix (show g < 2147483648 by omega), show ¬ 13 ≤ g by omega]
theorem sp_46 (A : Nat → Nat → Int32) (L : Nat → Nat → Int64) {g : Nat} (hg : g < 13) (x : Int64) : rm ro 46 [.ref 50, .int (iZ g), .long x] (hp A L) = some (none, hp A (cV L 53 (vp_updL (L 53) g x))) := by
  have e : iZ g < 13 := by
    rw [i_ltk 13 13 rfl (by omega) (by omega)]
    omega
  show rn ro 1 46 0 (lv_args 0 [.ref 50, .int (iZ g), .long x]) [] (hp A L) = _
  simp only [q46_0, q46_1, q46_4, q46_5, q46_6, q46_9, q46_10, q46_13, q46_14, q46_17, q46_18, q46_19, q46_20, kI_app, kJ_app, kP_app, kV_app, kS_app, kC_app, kN_app, kM_app, zsw_cons, zsw_nil, lv_args_I, lv_args_R, lv_args_L, lv_args_nil, zlook_cons, zrI_some, zrJ_some, zrP_some, zrC_some, zrA_rw, zrAS_rw, zrLen_rw, zst1_nil, zst1_cI, zst1_cR, zst1_cL, zrm1_nil, zrm1_cI, zrm1_cR, zrm1_cL, zst2_nil, zst2_cI, zst2_cR, zst2_cL, zrm2_nil, zrm2_cI, zrm2_cR, zrm2_cL, zkeep_nil, zkeep_cons, zsum_nil, zsum_I, zsum_R, zsum_L, zsum_N, toL_s, toL_n, List.cons_append, List.nil_append, List.mem_cons, List.not_mem_nil, reduceCtorEq, Nat.reduceAdd, Nat.reduceLT, Nat.reduceLeDiff, Nat.reduceEqDiff, Nat.zero_ne_one, Nat.one_ne_zero, Nat.add_zero, Nat.zero_add, or_false, false_or, or_true, true_or, and_true, true_and, and_self, ↓reduceIte, Nat.succ_ne_self, Nat.reduceGT, Nat.reduceSub, Nat.le_refl, Nat.zero_le, zis_O, cl_is, clG_0, clG_1, clG_2, clG_3, clG_4, clG_5, clG_6, clS_6, clG_7, clG_8, clG_9, clS_9, clG_10, clG_11, clS_11, clG_12, clS_12, clG_13, clS_13, clG_14, clS_14, clG_15, clS_15, clG_16, clG_17, clS_17, od_is, odG_0, odG_1, odS_1, odG_2, odG_3, odS_3, odG_4, re_is, reG_0, reS_0, reG_1, reG_2, reG_3, reS_3, reG_4, reS_4, reG_5, reS_5, reG_6, reS_6, wo_is, woG_0, woG_1, woG_2, woS_2, woG_3, lm_is, lmG_0, lmG_1, lmG_2, lmG_3, lmG_4, lmG_5, lmG_6, lmG_7, lmG_8, lmS_8, lmG_9, lmS_9, lmG_10, lmS_10, lmG_11, lmS_11, lmG_12, lmS_12, mo_is, moG_0, moG_1, moG_2, moG_3, moG_4, moG_5, moS_5, moG_6, moS_6, moG_7, moS_7, moG_8, moG_9, moS_9, moG_10, moS_10, moG_11, moS_11, moG_12, moS_12, moG_13, moS_13, moG_14, moG_15, moS_15, moG_16, moG_17, moS_17, moG_18, moG_19, moG_20, i32ne0, i32ne1, i32ne2, i32ne3, i32ne4, i32ne5, i32ne6, i32ne7, i32ne8, i32ne9, i32ne10, j64ne, Int32.reduceAdd, Int32.reduceSub, Int32.reduceMul, Int32.reduceLT, Int32.reduceOfNat, Int32.reduceToNatClampNeg, cU_at, Nat.reduceMul, Nat.reduceMod, catR, catI, cV_self, cU_self, hg0, hg1, hg2, hg3, hg4, hg5, hg6, hg7, hg8, hg9, hg10, hg11, hg12, hg13, hg14, hg15, hg16, hg17, hg18, hg19, hg20, hg21, hg22, hg23, hg24, hg25, hg26, hg27, hg28, hg29, hg30, hg31, hg32, hg33, hg34, hg35, hg36, hg37, hg38, hg39, hg40, hg41, hg42, hg43, hg44, hg45, hg46, hg47, hg48, hg49, hg50, hg51, hg52, hg53, hg54, hg55, hg56, hg57, hg58, hg59, hg60, hg61, hg62, hg63, hg64, hg65, hg66, hg67, hg68, hg69, hg70, hg71, hg72, hg73, hg1001, hg1002, hg1003, hg1000, hg2000, hs0, hs8, hs9, hs10, hs11, hs12, hs13, hs14, hs15, hs16, hs17, hs18, hs19, hs20, hs21, hs22, hs23, hs24, hs25, hs26, hs27, hs29, hs30, hs31, hs32, hs33, hs34, hs35, hs36, hs37, hs38, hs39, hs40, hs41, hs42, hs43, hs44, hs45, hs46, hs47, hs48, hs49, hs50, hs51, hs52, hs53, hs54, hs55, hs56, hs57, hs59, hs60, hs61, hs62, hs63, hs64, hs65, hs66, hs67, hs68, hs69, hs70, hs71, hs72, hs73, hw8, hw18, hw29, hw39, i_nn (show g < 2147483648 by omega), e, if_false, if_true, zrLS_rw, iZ_ix (show g < 2147483648 by omega), show ¬ 13 ≤ g by omega]
theorem mn32 {x y : Nat} (hx : x < 2147483648) (hy : y < 2147483648) : (if iZ y < iZ x then iZ y else iZ x) = iZ ((min x y : Nat) : Int) := by
  simp only [iZ_lt (show (-2147483648 ≤ (y : Int) ∧ (y : Int) < 2147483648) ∧ -2147483648 ≤ (x : Int) ∧ (x : Int) < 2147483648 by omega)]
  by_cases c : y < x
  · rw [if_pos (by omega)]
    congr 1
    omega
  · rw [if_neg (by omega)]
    congr 1
    omega
/-- one deed is chosen; X is what the match behind has, Y what comes of getting ready -/
theorem sp_44 (h : CInv A L s) (q : SInv s) {m g k X Y : Nat} (hm : m < s 0 0) (hg : g + (if Y = 0 then 0 else 1) < 13) (h12 : s 0 3 + g ≤ 12) (hk6 : k ≤ 6) {b : Int32} (hX : L 53 g = jZ ((sc k * X : Nat) : Int)) (hXl : X ≤ 100 ^ k) (hb : (b = 0 ∧ Y = 0) ∨ (b = 1 ∧ g + 1 < 13 ∧ L 53 (g + 1) = jZ ((sc (k + 1) * Y : Nat) : Int))) (hYl : Y ≤ 100 ^ (k + 1)) : rm ro 44 [.ref 50, .ref 8, .int (iZ m), .int (iZ g), .int b] (hp A L) = some (none, hp (cU A 50 (upd (A 50) 1 (if skN (s 0) m (s 0 3 + g) (min 5 (s 0 2 + g)) k X < Y then 2 else 1))) (cV L 53 (vp_updL (L 53) g (jZ ((sc (k + 1) * (if skN (s 0) m (s 0 3 + g) (min 5 (s 0 2 + g)) k X < Y then Y else skN (s 0) m (s 0 3 + g) (min 5 (s 0 2 + g)) k X) : Nat) : Int))))) := by
  have n0 := q.1.n0
  have n2 := q.1.n2
  have n8 := q.1.n8
  have c2 : A 8 12 = iZ (s 0 2) := h.1.c2
  have c3 : A 8 13 = iZ (s 0 3) := h.1.c3
  have a2 : iZ (s 0 2) + iZ g = iZ ((s 0 2 + g : Nat) : Int) := by
    rw [iZ_add]
    congr 1
  have a3 : iZ (s 0 3) + iZ g = iZ ((s 0 3 + g : Nat) : Int) := by
    rw [iZ_add]
    congr 1
  have mn : (if iZ ((s 0 2 + g : Nat) : Int) < 5 then iZ ((s 0 2 + g : Nat) : Int) else 5) = iZ ((min 5 (s 0 2 + g) : Nat) : Int) := mn32 (x := 5) (y := s 0 2 + g) (by decide) (by omega)
  have z := zat_i (g := A 10) (show min 5 (s 0 2 + g) < 6 ∧ 6 < 2147483648 by omega)
  rw [show A 10 (min 5 (s 0 2 + g)) = iZ (s 0 (12 + min 5 (s 0 2 + g))) from h.1.c (by omega)] at z
  have l := clL (ro := ro) (hc8 A L) (hk A L) h.1 q.1 (m := m) (t := s 0 3 + g) (w := s 0 8) hm (by omega) (by omega)
  rw [← show A 9 0 = iZ (s 0 8) from h.1.g (i := 0) (by decide)] at l
  have wd : rm ro 25 [.ref 8] (hp A L) = some (some (.int (A 9 0)), hp A L) := sp_wind (hc8 A L)
  have p := pN_le q.1 (t := s 0 3 + g) (r := min 5 (s 0 2 + g)) hm (by omega)
  have ep : iZ (lgN (s 0) m (s 0 3 + g) (s 0 8 - s 0 9)) * iZ (s 0 (12 + min 5 (s 0 2 + g))) = iZ ((pN (s 0) m (s 0 3 + g) (min 5 (s 0 2 + g)) : Nat) : Int) := by
    rw [iZ_mul, ← Int.natCast_mul]
    rfl
  have sm := sc_m k (by omega)
  have ss := sc_s k (by omega)
  have sm1 := sc_m (k + 1) (by omega)
  have skl := sk_le q.1 (t := s 0 3 + g) (r := min 5 (s 0 2 + g)) hm (by omega) hXl
  have skd : skN (s 0) m (s 0 3 + g) (min 5 (s 0 2 + g)) k X = pN (s 0) m (s 0 3 + g) (min 5 (s 0 2 + g)) * 100 ^ k + (100 - pN (s 0) m (s 0 3 + g) (min 5 (s 0 2 + g))) * X := rfl
  generalize skN (s 0) m (s 0 3 + g) (min 5 (s 0 2 + g)) k X = K at *
  generalize pN (s 0) m (s 0 3 + g) (min 5 (s 0 2 + g)) = P at *
  have el : (iZ (P : Int)).toInt64 = jZ (P : Int) := iZ_l (by omega)
  have sb : 100 - jZ (P : Int) = jZ ((100 - P : Nat) : Int) := by
    rw [show (100 : Int64) = jZ 100 from rfl, jZ_sub]
    congr 1
    omega
  have tot : P * 100000000000000 + (100 - P) * (sc k * X) = 100 * (sc (k + 1) * K) := by
    rw [skd, ← sm, ss, Nat.mul_add, Nat.mul_add]
    congr 1
    · simp only [Nat.mul_assoc, Nat.mul_comm, Nat.mul_left_comm]
    · simp only [Nat.mul_assoc, Nat.mul_comm, Nat.mul_left_comm]
  have kb : sc (k + 1) * K ≤ 100000000000000 := by
    rw [← sm1]
    exact Nat.mul_le_mul_left _ skl
  have yb : sc (k + 1) * Y ≤ 100000000000000 := by
    rw [← sm1]
    exact Nat.mul_le_mul_left _ hYl
  have stv : (jZ (P : Int) * 100000000000000 + jZ ((100 - P : Nat) : Int) * jZ ((sc k * X : Nat) : Int)) / 100 = jZ ((sc (k + 1) * K : Nat) : Int) := by
    rw [show (100000000000000 : Int64) = jZ ((100000000000000 : Nat) : Int) from rfl, jZ_mul, jZ_mul, jZ_add, ← Int.natCast_mul, ← Int.natCast_mul, ← Int.natCast_add, tot, show (100 : Int64) = jZ ((100 : Nat) : Int) from rfl, jZ_divN (by omega) (by decide), Nat.mul_div_cancel_left _ (by decide)]
  have pos := sc_p (k + 1) (by omega)
  have cmp : (jZ ((sc (k + 1) * K : Nat) : Int) < jZ ((sc (k + 1) * Y : Nat) : Int)) = (K < Y) := by
    rw [jZ_lt (by omega)]
    apply propext
    constructor
    · intro z
      exact Nat.lt_of_mul_lt_mul_left (show sc (k + 1) * K < sc (k + 1) * Y by omega)
    · intro z
      have := Nat.mul_lt_mul_of_pos_left z pos
      omega
  have cmp2 : (jZ ((sc (k + 1) * Y : Nat) : Int) < jZ ((sc (k + 1) * K : Nat) : Int)) = (Y < K) := by
    rw [jZ_lt (by omega)]
    apply propext
    constructor
    · intro z
      exact Nat.lt_of_mul_lt_mul_left (show sc (k + 1) * Y < sc (k + 1) * K by omega)
    · intro z
      have := Nat.mul_lt_mul_of_pos_left z pos
      omega
  have mx : (if jZ ((sc (k + 1) * Y : Nat) : Int) < jZ ((sc (k + 1) * K : Nat) : Int) then jZ ((sc (k + 1) * K : Nat) : Int) else jZ ((sc (k + 1) * Y : Nat) : Int)) = jZ ((sc (k + 1) * (if K < Y then Y else K) : Nat) : Int) := by
    simp only [cmp2]
    by_cases d : K < Y
    · rw [if_pos d, if_neg (by omega)]
    · rw [if_neg d]
      by_cases d2 : Y < K
      · rw [if_pos d2]
      · rw [if_neg d2, show K = Y by omega]
  have s46 := fun A => sp_46 (ro := ro) A L (g := g) (by split at hg <;> omega) (jZ ((sc (k + 1) * (if K < Y then Y else K) : Nat) : Int))
  have s45 := sp_45 (ro := ro) A L (g := g) (by split at hg <;> omega)
  rw [hX] at s45
  show rn ro 5 44 0 (lv_args 0 [.ref 50, .ref 8, .int (iZ m), .int (iZ g), .int b]) [] (hp A L) = _
  rcases hb with ⟨rfl, hY⟩ | ⟨rfl, hg1, hY⟩
  · have zY : jZ ((sc (k + 1) * Y : Nat) : Int) = 0 := by
      rw [hY, Nat.mul_zero]
      rfl
    rw [zY] at mx cmp
    by_cases d : K < Y
    · simp only [d, if_true] at *
      simp only [q44_0, q44_1, q44_2, q44_3, q44_6, q44_7, q44_8, q44_11, q44_14, q44_16, q44_17, q44_18, q44_19, q44_22, q44_23, q44_24, q44_25, q44_28, q44_31, q44_33, q44_34, q44_35, q44_37, q44_39, q44_42, q44_43, q44_46, q44_48, q44_49, q44_50, q44_51, q44_54, q44_55, q44_56, q44_59, q44_60, q44_62, q44_64, q44_67, q44_68, q44_69, q44_70, q44_71, q44_74, q44_77, q44_78, q44_80, q44_81, q44_83, q44_85, q44_86, q44_89, q44_90, q44_93, q44_94, q44_97, q44_98, q44_99, q44_101, q44_103, q44_106, q44_109, zrk_24, zrk_25, zrk_27, zrk_45, zrk_46, kI_app, kJ_app, kP_app, kV_app, kS_app, kC_app, kN_app, kM_app, zsw_cons, zsw_nil, lv_args_I, lv_args_R, lv_args_L, lv_args_nil, zlook_cons, zrI_some, zrJ_some, zrP_some, zrC_some, zrA_rw, zrAS_rw, zrLen_rw, zst1_nil, zst1_cI, zst1_cR, zst1_cL, zrm1_nil, zrm1_cI, zrm1_cR, zrm1_cL, zst2_nil, zst2_cI, zst2_cR, zst2_cL, zrm2_nil, zrm2_cI, zrm2_cR, zrm2_cL, zkeep_nil, zkeep_cons, zsum_nil, zsum_I, zsum_R, zsum_L, zsum_N, toL_s, toL_n, List.cons_append, List.nil_append, List.mem_cons, List.not_mem_nil, reduceCtorEq, Nat.reduceAdd, Nat.reduceLT, Nat.reduceLeDiff, Nat.reduceEqDiff, Nat.zero_ne_one, Nat.one_ne_zero, Nat.add_zero, Nat.zero_add, or_false, false_or, or_true, true_or, and_true, true_and, and_self, ↓reduceIte, Nat.succ_ne_self, Nat.reduceGT, Nat.reduceSub, Nat.le_refl, Nat.zero_le, zis_O, cl_is, clG_0, clG_1, clG_2, clG_3, clG_4, clG_5, clG_6, clS_6, clG_7, clG_8, clG_9, clS_9, clG_10, clG_11, clS_11, clG_12, clS_12, clG_13, clS_13, clG_14, clS_14, clG_15, clS_15, clG_16, clG_17, clS_17, od_is, odG_0, odG_1, odS_1, odG_2, odG_3, odS_3, odG_4, re_is, reG_0, reS_0, reG_1, reG_2, reG_3, reS_3, reG_4, reS_4, reG_5, reS_5, reG_6, reS_6, wo_is, woG_0, woG_1, woG_2, woS_2, woG_3, lm_is, lmG_0, lmG_1, lmG_2, lmG_3, lmG_4, lmG_5, lmG_6, lmG_7, lmG_8, lmS_8, lmG_9, lmS_9, lmG_10, lmS_10, lmG_11, lmS_11, lmG_12, lmS_12, mo_is, moG_0, moG_1, moG_2, moG_3, moG_4, moG_5, moS_5, moG_6, moS_6, moG_7, moS_7, moG_8, moG_9, moS_9, moG_10, moS_10, moG_11, moS_11, moG_12, moS_12, moG_13, moS_13, moG_14, moG_15, moS_15, moG_16, moG_17, moS_17, moG_18, moG_19, moG_20, i32ne0, i32ne1, i32ne2, i32ne3, i32ne4, i32ne5, i32ne6, i32ne7, i32ne8, i32ne9, i32ne10, j64ne, Int32.reduceAdd, Int32.reduceSub, Int32.reduceMul, Int32.reduceLT, Int32.reduceOfNat, Int32.reduceToNatClampNeg, cU_at, Nat.reduceMul, Nat.reduceMod, catR, catI, cV_self, cU_self, hg0, hg1, hg2, hg3, hg4, hg5, hg6, hg7, hg8, hg9, hg10, hg11, hg12, hg13, hg14, hg15, hg16, hg17, hg18, hg19, hg20, hg21, hg22, hg23, hg24, hg25, hg26, hg27, hg28, hg29, hg30, hg31, hg32, hg33, hg34, hg35, hg36, hg37, hg38, hg39, hg40, hg41, hg42, hg43, hg44, hg45, hg46, hg47, hg48, hg49, hg50, hg51, hg52, hg53, hg54, hg55, hg56, hg57, hg58, hg59, hg60, hg61, hg62, hg63, hg64, hg65, hg66, hg67, hg68, hg69, hg70, hg71, hg72, hg73, hg1001, hg1002, hg1003, hg1000, hg2000, hs0, hs8, hs9, hs10, hs11, hs12, hs13, hs14, hs15, hs16, hs17, hs18, hs19, hs20, hs21, hs22, hs23, hs24, hs25, hs26, hs27, hs29, hs30, hs31, hs32, hs33, hs34, hs35, hs36, hs37, hs38, hs39, hs40, hs41, hs42, hs43, hs44, hs45, hs46, hs47, hs48, hs49, hs50, hs51, hs52, hs53, hs54, hs55, hs56, hs57, hs59, hs60, hs61, hs62, hs63, hs64, hs65, hs66, hs67, hs68, hs69, hs70, hs71, hs72, hs73, hw8, hw18, hw29, hw39, c2, c3, a2, a3, mn, sp_carryAt (hc8 A L), z, wd, l, ep, el, sb, s45, stv, lg_cmp_p, cmp, mx, s46]
    · simp only [d, if_false] at *
      simp only [q44_0, q44_1, q44_2, q44_3, q44_6, q44_7, q44_8, q44_11, q44_14, q44_16, q44_17, q44_18, q44_19, q44_22, q44_23, q44_24, q44_25, q44_28, q44_31, q44_33, q44_34, q44_35, q44_37, q44_39, q44_42, q44_43, q44_46, q44_48, q44_49, q44_50, q44_51, q44_54, q44_55, q44_56, q44_59, q44_60, q44_62, q44_64, q44_67, q44_68, q44_69, q44_70, q44_71, q44_74, q44_77, q44_78, q44_80, q44_81, q44_83, q44_85, q44_86, q44_89, q44_90, q44_93, q44_94, q44_97, q44_98, q44_99, q44_101, q44_103, q44_106, q44_109, zrk_24, zrk_25, zrk_27, zrk_45, zrk_46, kI_app, kJ_app, kP_app, kV_app, kS_app, kC_app, kN_app, kM_app, zsw_cons, zsw_nil, lv_args_I, lv_args_R, lv_args_L, lv_args_nil, zlook_cons, zrI_some, zrJ_some, zrP_some, zrC_some, zrA_rw, zrAS_rw, zrLen_rw, zst1_nil, zst1_cI, zst1_cR, zst1_cL, zrm1_nil, zrm1_cI, zrm1_cR, zrm1_cL, zst2_nil, zst2_cI, zst2_cR, zst2_cL, zrm2_nil, zrm2_cI, zrm2_cR, zrm2_cL, zkeep_nil, zkeep_cons, zsum_nil, zsum_I, zsum_R, zsum_L, zsum_N, toL_s, toL_n, List.cons_append, List.nil_append, List.mem_cons, List.not_mem_nil, reduceCtorEq, Nat.reduceAdd, Nat.reduceLT, Nat.reduceLeDiff, Nat.reduceEqDiff, Nat.zero_ne_one, Nat.one_ne_zero, Nat.add_zero, Nat.zero_add, or_false, false_or, or_true, true_or, and_true, true_and, and_self, ↓reduceIte, Nat.succ_ne_self, Nat.reduceGT, Nat.reduceSub, Nat.le_refl, Nat.zero_le, zis_O, cl_is, clG_0, clG_1, clG_2, clG_3, clG_4, clG_5, clG_6, clS_6, clG_7, clG_8, clG_9, clS_9, clG_10, clG_11, clS_11, clG_12, clS_12, clG_13, clS_13, clG_14, clS_14, clG_15, clS_15, clG_16, clG_17, clS_17, od_is, odG_0, odG_1, odS_1, odG_2, odG_3, odS_3, odG_4, re_is, reG_0, reS_0, reG_1, reG_2, reG_3, reS_3, reG_4, reS_4, reG_5, reS_5, reG_6, reS_6, wo_is, woG_0, woG_1, woG_2, woS_2, woG_3, lm_is, lmG_0, lmG_1, lmG_2, lmG_3, lmG_4, lmG_5, lmG_6, lmG_7, lmG_8, lmS_8, lmG_9, lmS_9, lmG_10, lmS_10, lmG_11, lmS_11, lmG_12, lmS_12, mo_is, moG_0, moG_1, moG_2, moG_3, moG_4, moG_5, moS_5, moG_6, moS_6, moG_7, moS_7, moG_8, moG_9, moS_9, moG_10, moS_10, moG_11, moS_11, moG_12, moS_12, moG_13, moS_13, moG_14, moG_15, moS_15, moG_16, moG_17, moS_17, moG_18, moG_19, moG_20, i32ne0, i32ne1, i32ne2, i32ne3, i32ne4, i32ne5, i32ne6, i32ne7, i32ne8, i32ne9, i32ne10, j64ne, Int32.reduceAdd, Int32.reduceSub, Int32.reduceMul, Int32.reduceLT, Int32.reduceOfNat, Int32.reduceToNatClampNeg, cU_at, Nat.reduceMul, Nat.reduceMod, catR, catI, cV_self, cU_self, hg0, hg1, hg2, hg3, hg4, hg5, hg6, hg7, hg8, hg9, hg10, hg11, hg12, hg13, hg14, hg15, hg16, hg17, hg18, hg19, hg20, hg21, hg22, hg23, hg24, hg25, hg26, hg27, hg28, hg29, hg30, hg31, hg32, hg33, hg34, hg35, hg36, hg37, hg38, hg39, hg40, hg41, hg42, hg43, hg44, hg45, hg46, hg47, hg48, hg49, hg50, hg51, hg52, hg53, hg54, hg55, hg56, hg57, hg58, hg59, hg60, hg61, hg62, hg63, hg64, hg65, hg66, hg67, hg68, hg69, hg70, hg71, hg72, hg73, hg1001, hg1002, hg1003, hg1000, hg2000, hs0, hs8, hs9, hs10, hs11, hs12, hs13, hs14, hs15, hs16, hs17, hs18, hs19, hs20, hs21, hs22, hs23, hs24, hs25, hs26, hs27, hs29, hs30, hs31, hs32, hs33, hs34, hs35, hs36, hs37, hs38, hs39, hs40, hs41, hs42, hs43, hs44, hs45, hs46, hs47, hs48, hs49, hs50, hs51, hs52, hs53, hs54, hs55, hs56, hs57, hs59, hs60, hs61, hs62, hs63, hs64, hs65, hs66, hs67, hs68, hs69, hs70, hs71, hs72, hs73, hw8, hw18, hw29, hw39, c2, c3, a2, a3, mn, sp_carryAt (hc8 A L), z, wd, l, ep, el, sb, s45, stv, lg_cmp_p, cmp, mx, s46]
  · have s45' := sp_45 (ro := ro) A L (g := g + 1) hg1
    rw [hY] at s45'
    by_cases d : K < Y
    · simp only [d, if_true] at *
      simp only [q44_0, q44_1, q44_2, q44_3, q44_6, q44_7, q44_8, q44_11, q44_14, q44_16, q44_17, q44_18, q44_19, q44_22, q44_23, q44_24, q44_25, q44_28, q44_31, q44_33, q44_34, q44_35, q44_37, q44_39, q44_42, q44_43, q44_46, q44_48, q44_49, q44_50, q44_51, q44_54, q44_55, q44_56, q44_59, q44_60, q44_62, q44_64, q44_67, q44_68, q44_69, q44_70, q44_71, q44_74, q44_77, q44_78, q44_80, q44_81, q44_83, q44_85, q44_86, q44_89, q44_90, q44_93, q44_94, q44_97, q44_98, q44_99, q44_101, q44_103, q44_106, q44_109, zrk_24, zrk_25, zrk_27, zrk_45, zrk_46, kI_app, kJ_app, kP_app, kV_app, kS_app, kC_app, kN_app, kM_app, zsw_cons, zsw_nil, lv_args_I, lv_args_R, lv_args_L, lv_args_nil, zlook_cons, zrI_some, zrJ_some, zrP_some, zrC_some, zrA_rw, zrAS_rw, zrLen_rw, zst1_nil, zst1_cI, zst1_cR, zst1_cL, zrm1_nil, zrm1_cI, zrm1_cR, zrm1_cL, zst2_nil, zst2_cI, zst2_cR, zst2_cL, zrm2_nil, zrm2_cI, zrm2_cR, zrm2_cL, zkeep_nil, zkeep_cons, zsum_nil, zsum_I, zsum_R, zsum_L, zsum_N, toL_s, toL_n, List.cons_append, List.nil_append, List.mem_cons, List.not_mem_nil, reduceCtorEq, Nat.reduceAdd, Nat.reduceLT, Nat.reduceLeDiff, Nat.reduceEqDiff, Nat.zero_ne_one, Nat.one_ne_zero, Nat.add_zero, Nat.zero_add, or_false, false_or, or_true, true_or, and_true, true_and, and_self, ↓reduceIte, Nat.succ_ne_self, Nat.reduceGT, Nat.reduceSub, Nat.le_refl, Nat.zero_le, zis_O, cl_is, clG_0, clG_1, clG_2, clG_3, clG_4, clG_5, clG_6, clS_6, clG_7, clG_8, clG_9, clS_9, clG_10, clG_11, clS_11, clG_12, clS_12, clG_13, clS_13, clG_14, clS_14, clG_15, clS_15, clG_16, clG_17, clS_17, od_is, odG_0, odG_1, odS_1, odG_2, odG_3, odS_3, odG_4, re_is, reG_0, reS_0, reG_1, reG_2, reG_3, reS_3, reG_4, reS_4, reG_5, reS_5, reG_6, reS_6, wo_is, woG_0, woG_1, woG_2, woS_2, woG_3, lm_is, lmG_0, lmG_1, lmG_2, lmG_3, lmG_4, lmG_5, lmG_6, lmG_7, lmG_8, lmS_8, lmG_9, lmS_9, lmG_10, lmS_10, lmG_11, lmS_11, lmG_12, lmS_12, mo_is, moG_0, moG_1, moG_2, moG_3, moG_4, moG_5, moS_5, moG_6, moS_6, moG_7, moS_7, moG_8, moG_9, moS_9, moG_10, moS_10, moG_11, moS_11, moG_12, moS_12, moG_13, moS_13, moG_14, moG_15, moS_15, moG_16, moG_17, moS_17, moG_18, moG_19, moG_20, i32ne0, i32ne1, i32ne2, i32ne3, i32ne4, i32ne5, i32ne6, i32ne7, i32ne8, i32ne9, i32ne10, j64ne, Int32.reduceAdd, Int32.reduceSub, Int32.reduceMul, Int32.reduceLT, Int32.reduceOfNat, Int32.reduceToNatClampNeg, cU_at, Nat.reduceMul, Nat.reduceMod, catR, catI, cV_self, cU_self, hg0, hg1, hg2, hg3, hg4, hg5, hg6, hg7, hg8, hg9, hg10, hg11, hg12, hg13, hg14, hg15, hg16, hg17, hg18, hg19, hg20, hg21, hg22, hg23, hg24, hg25, hg26, hg27, hg28, hg29, hg30, hg31, hg32, hg33, hg34, hg35, hg36, hg37, hg38, hg39, hg40, hg41, hg42, hg43, hg44, hg45, hg46, hg47, hg48, hg49, hg50, hg51, hg52, hg53, hg54, hg55, hg56, hg57, hg58, hg59, hg60, hg61, hg62, hg63, hg64, hg65, hg66, hg67, hg68, hg69, hg70, hg71, hg72, hg73, hg1001, hg1002, hg1003, hg1000, hg2000, hs0, hs8, hs9, hs10, hs11, hs12, hs13, hs14, hs15, hs16, hs17, hs18, hs19, hs20, hs21, hs22, hs23, hs24, hs25, hs26, hs27, hs29, hs30, hs31, hs32, hs33, hs34, hs35, hs36, hs37, hs38, hs39, hs40, hs41, hs42, hs43, hs44, hs45, hs46, hs47, hs48, hs49, hs50, hs51, hs52, hs53, hs54, hs55, hs56, hs57, hs59, hs60, hs61, hs62, hs63, hs64, hs65, hs66, hs67, hs68, hs69, hs70, hs71, hs72, hs73, hw8, hw18, hw29, hw39, c2, c3, a2, a3, mn, sp_carryAt (hc8 A L), z, wd, l, ep, el, sb, s45, z10, if_false, iZ_suc, s45', stv, lg_cmp_p, cmp, mx, s46]
    · simp only [d, if_false] at *
      simp only [q44_0, q44_1, q44_2, q44_3, q44_6, q44_7, q44_8, q44_11, q44_14, q44_16, q44_17, q44_18, q44_19, q44_22, q44_23, q44_24, q44_25, q44_28, q44_31, q44_33, q44_34, q44_35, q44_37, q44_39, q44_42, q44_43, q44_46, q44_48, q44_49, q44_50, q44_51, q44_54, q44_55, q44_56, q44_59, q44_60, q44_62, q44_64, q44_67, q44_68, q44_69, q44_70, q44_71, q44_74, q44_77, q44_78, q44_80, q44_81, q44_83, q44_85, q44_86, q44_89, q44_90, q44_93, q44_94, q44_97, q44_98, q44_99, q44_101, q44_103, q44_106, q44_109, zrk_24, zrk_25, zrk_27, zrk_45, zrk_46, kI_app, kJ_app, kP_app, kV_app, kS_app, kC_app, kN_app, kM_app, zsw_cons, zsw_nil, lv_args_I, lv_args_R, lv_args_L, lv_args_nil, zlook_cons, zrI_some, zrJ_some, zrP_some, zrC_some, zrA_rw, zrAS_rw, zrLen_rw, zst1_nil, zst1_cI, zst1_cR, zst1_cL, zrm1_nil, zrm1_cI, zrm1_cR, zrm1_cL, zst2_nil, zst2_cI, zst2_cR, zst2_cL, zrm2_nil, zrm2_cI, zrm2_cR, zrm2_cL, zkeep_nil, zkeep_cons, zsum_nil, zsum_I, zsum_R, zsum_L, zsum_N, toL_s, toL_n, List.cons_append, List.nil_append, List.mem_cons, List.not_mem_nil, reduceCtorEq, Nat.reduceAdd, Nat.reduceLT, Nat.reduceLeDiff, Nat.reduceEqDiff, Nat.zero_ne_one, Nat.one_ne_zero, Nat.add_zero, Nat.zero_add, or_false, false_or, or_true, true_or, and_true, true_and, and_self, ↓reduceIte, Nat.succ_ne_self, Nat.reduceGT, Nat.reduceSub, Nat.le_refl, Nat.zero_le, zis_O, cl_is, clG_0, clG_1, clG_2, clG_3, clG_4, clG_5, clG_6, clS_6, clG_7, clG_8, clG_9, clS_9, clG_10, clG_11, clS_11, clG_12, clS_12, clG_13, clS_13, clG_14, clS_14, clG_15, clS_15, clG_16, clG_17, clS_17, od_is, odG_0, odG_1, odS_1, odG_2, odG_3, odS_3, odG_4, re_is, reG_0, reS_0, reG_1, reG_2, reG_3, reS_3, reG_4, reS_4, reG_5, reS_5, reG_6, reS_6, wo_is, woG_0, woG_1, woG_2, woS_2, woG_3, lm_is, lmG_0, lmG_1, lmG_2, lmG_3, lmG_4, lmG_5, lmG_6, lmG_7, lmG_8, lmS_8, lmG_9, lmS_9, lmG_10, lmS_10, lmG_11, lmS_11, lmG_12, lmS_12, mo_is, moG_0, moG_1, moG_2, moG_3, moG_4, moG_5, moS_5, moG_6, moS_6, moG_7, moS_7, moG_8, moG_9, moS_9, moG_10, moS_10, moG_11, moS_11, moG_12, moS_12, moG_13, moS_13, moG_14, moG_15, moS_15, moG_16, moG_17, moS_17, moG_18, moG_19, moG_20, i32ne0, i32ne1, i32ne2, i32ne3, i32ne4, i32ne5, i32ne6, i32ne7, i32ne8, i32ne9, i32ne10, j64ne, Int32.reduceAdd, Int32.reduceSub, Int32.reduceMul, Int32.reduceLT, Int32.reduceOfNat, Int32.reduceToNatClampNeg, cU_at, Nat.reduceMul, Nat.reduceMod, catR, catI, cV_self, cU_self, hg0, hg1, hg2, hg3, hg4, hg5, hg6, hg7, hg8, hg9, hg10, hg11, hg12, hg13, hg14, hg15, hg16, hg17, hg18, hg19, hg20, hg21, hg22, hg23, hg24, hg25, hg26, hg27, hg28, hg29, hg30, hg31, hg32, hg33, hg34, hg35, hg36, hg37, hg38, hg39, hg40, hg41, hg42, hg43, hg44, hg45, hg46, hg47, hg48, hg49, hg50, hg51, hg52, hg53, hg54, hg55, hg56, hg57, hg58, hg59, hg60, hg61, hg62, hg63, hg64, hg65, hg66, hg67, hg68, hg69, hg70, hg71, hg72, hg73, hg1001, hg1002, hg1003, hg1000, hg2000, hs0, hs8, hs9, hs10, hs11, hs12, hs13, hs14, hs15, hs16, hs17, hs18, hs19, hs20, hs21, hs22, hs23, hs24, hs25, hs26, hs27, hs29, hs30, hs31, hs32, hs33, hs34, hs35, hs36, hs37, hs38, hs39, hs40, hs41, hs42, hs43, hs44, hs45, hs46, hs47, hs48, hs49, hs50, hs51, hs52, hs53, hs54, hs55, hs56, hs57, hs59, hs60, hs61, hs62, hs63, hs64, hs65, hs66, hs67, hs68, hs69, hs70, hs71, hs72, hs73, hw8, hw18, hw29, hw39, c2, c3, a2, a3, mn, sp_carryAt (hc8 A L), z, wd, l, ep, el, sb, s45, z10, if_false, iZ_suc, s45', stv, lg_cmp_p, cmp, mx, s46]
def mnM (a : Nat → Nat) : Nat := a 11 - a 3
/-- what stands at got, k matches being done -/
def chOk (L : Nat → Nat → Int64) (a : Nat → Nat) (k x : Nat) : Prop := L 53 x = jZ ((sc k * bG a k (mnM a - x) (min 5 (a 2 + x)) (a 3 + x) : Nat) : Int)
theorem f43a : ∀ j i : Nat, ∀ (M : Nat) (L : Nat → Nat → Int64), M ≤ 12 → j + i = M + 1 → (∀ x, x < i → L 53 x = 0) → ∃ L', rn ro 6 43 21 [(0, .ref 50), (1, .ref 8), (2, .int (iZ M)), (3, .int (iZ i))] [] (hp A L) = rn ro 6 43 38 [(0, .ref 50), (1, .ref 8), (2, .int (iZ M)), (3, .int (iZ ((M + 1 : Nat) : Int)))] [] (hp A L') ∧ (∀ x, x ≤ M → L' 53 x = 0) ∧ ∀ k, k ≠ 53 → L' k = L k := by
  intro j
  induction j with
  | zero =>
    intro i M L hM hi hx
    have e : i = M + 1 := by omega
    subst e
    have c : iZ M < iZ ((M + 1 : Nat) : Int) := by
      rw [iZ_lt (by omega)]
      omega
    refine ⟨L, ?_, fun x hx2 => hx x (by omega), fun k hk => rfl⟩
    rw [q43_21]
    simp only [q43_0, q43_1, q43_2, q43_5, q43_6, q43_9, q43_10, q43_11, q43_12, q43_15, q43_18, q43_19, q43_20, q43_22, q43_23, q43_26, q43_27, q43_28, q43_29, q43_32, q43_35, q43_39, q43_40, q43_43, q43_44, q43_47, q43_48, q43_49, q43_50, q43_51, q43_52, q43_55, q43_58, q43_59, q43_61, q43_63, q43_66, q43_67, q43_68, q43_69, q43_71, q43_73, q43_74, q43_77, q43_78, q43_81, q43_82, q43_85, q43_88, q43_91, q43_94, q43_97, q43_98, q43_99, q43_102, zrk_23, zrk_44, zrk_45, zrk_46, kI_app, kJ_app, kP_app, kV_app, kS_app, kC_app, kN_app, kM_app, zsw_cons, zsw_nil, lv_args_I, lv_args_R, lv_args_L, lv_args_nil, zlook_cons, zrI_some, zrJ_some, zrP_some, zrC_some, zrA_rw, zrAS_rw, zrLen_rw, zst1_nil, zst1_cI, zst1_cR, zst1_cL, zrm1_nil, zrm1_cI, zrm1_cR, zrm1_cL, zst2_nil, zst2_cI, zst2_cR, zst2_cL, zrm2_nil, zrm2_cI, zrm2_cR, zrm2_cL, zkeep_nil, zkeep_cons, zsum_nil, zsum_I, zsum_R, zsum_L, zsum_N, toL_s, toL_n, List.cons_append, List.nil_append, List.mem_cons, List.not_mem_nil, reduceCtorEq, Nat.reduceAdd, Nat.reduceLT, Nat.reduceLeDiff, Nat.reduceEqDiff, Nat.zero_ne_one, Nat.one_ne_zero, Nat.add_zero, Nat.zero_add, or_false, false_or, or_true, true_or, and_true, true_and, and_self, ↓reduceIte, Nat.succ_ne_self, Nat.reduceGT, Nat.reduceSub, Nat.le_refl, Nat.zero_le, zis_O, cl_is, clG_0, clG_1, clG_2, clG_3, clG_4, clG_5, clG_6, clS_6, clG_7, clG_8, clG_9, clS_9, clG_10, clG_11, clS_11, clG_12, clS_12, clG_13, clS_13, clG_14, clS_14, clG_15, clS_15, clG_16, clG_17, clS_17, od_is, odG_0, odG_1, odS_1, odG_2, odG_3, odS_3, odG_4, re_is, reG_0, reS_0, reG_1, reG_2, reG_3, reS_3, reG_4, reS_4, reG_5, reS_5, reG_6, reS_6, wo_is, woG_0, woG_1, woG_2, woS_2, woG_3, lm_is, lmG_0, lmG_1, lmG_2, lmG_3, lmG_4, lmG_5, lmG_6, lmG_7, lmG_8, lmS_8, lmG_9, lmS_9, lmG_10, lmS_10, lmG_11, lmS_11, lmG_12, lmS_12, mo_is, moG_0, moG_1, moG_2, moG_3, moG_4, moG_5, moS_5, moG_6, moS_6, moG_7, moS_7, moG_8, moG_9, moS_9, moG_10, moS_10, moG_11, moS_11, moG_12, moS_12, moG_13, moS_13, moG_14, moG_15, moS_15, moG_16, moG_17, moS_17, moG_18, moG_19, moG_20, i32ne0, i32ne1, i32ne2, i32ne3, i32ne4, i32ne5, i32ne6, i32ne7, i32ne8, i32ne9, i32ne10, j64ne, Int32.reduceAdd, Int32.reduceSub, Int32.reduceMul, Int32.reduceLT, Int32.reduceOfNat, Int32.reduceToNatClampNeg, cU_at, Nat.reduceMul, Nat.reduceMod, catR, catI, cV_self, cU_self, hg0, hg1, hg2, hg3, hg4, hg5, hg6, hg7, hg8, hg9, hg10, hg11, hg12, hg13, hg14, hg15, hg16, hg17, hg18, hg19, hg20, hg21, hg22, hg23, hg24, hg25, hg26, hg27, hg28, hg29, hg30, hg31, hg32, hg33, hg34, hg35, hg36, hg37, hg38, hg39, hg40, hg41, hg42, hg43, hg44, hg45, hg46, hg47, hg48, hg49, hg50, hg51, hg52, hg53, hg54, hg55, hg56, hg57, hg58, hg59, hg60, hg61, hg62, hg63, hg64, hg65, hg66, hg67, hg68, hg69, hg70, hg71, hg72, hg73, hg1001, hg1002, hg1003, hg1000, hg2000, hs0, hs8, hs9, hs10, hs11, hs12, hs13, hs14, hs15, hs16, hs17, hs18, hs19, hs20, hs21, hs22, hs23, hs24, hs25, hs26, hs27, hs29, hs30, hs31, hs32, hs33, hs34, hs35, hs36, hs37, hs38, hs39, hs40, hs41, hs42, hs43, hs44, hs45, hs46, hs47, hs48, hs49, hs50, hs51, hs52, hs53, hs54, hs55, hs56, hs57, hs59, hs60, hs61, hs62, hs63, hs64, hs65, hs66, hs67, hs68, hs69, hs70, hs71, hs72, hs73, hw8, hw18, hw29, hw39, c, if_true]
  | succ j ih =>
    intro i M L hM hi hx
    have c : ¬ iZ M < iZ i := by
      rw [iZ_lt (by omega)]
      omega
    obtain ⟨L', e1, e2, e3⟩ := ih (i + 1) M (cV L 53 (vp_updL (L 53) i 0)) hM (by omega) (fun x hx2 => by
      show (if x = i then 0 else L 53 x) = 0
      split
      · rfl
      · exact hx x (by omega))
    refine ⟨L', ?_, e2, fun k hk => (e3 k hk).trans (cU_nL hk)⟩
    rw [← e1, q43_21]
    simp only [q43_0, q43_1, q43_2, q43_5, q43_6, q43_9, q43_10, q43_11, q43_12, q43_15, q43_18, q43_19, q43_20, q43_22, q43_23, q43_26, q43_27, q43_28, q43_29, q43_32, q43_35, q43_38, q43_39, q43_40, q43_43, q43_44, q43_47, q43_48, q43_49, q43_50, q43_51, q43_52, q43_55, q43_58, q43_59, q43_61, q43_63, q43_66, q43_67, q43_68, q43_69, q43_71, q43_73, q43_74, q43_77, q43_78, q43_81, q43_82, q43_85, q43_88, q43_91, q43_94, q43_97, q43_98, q43_99, q43_102, zrk_23, zrk_44, zrk_45, zrk_46, kI_app, kJ_app, kP_app, kV_app, kS_app, kC_app, kN_app, kM_app, zsw_cons, zsw_nil, lv_args_I, lv_args_R, lv_args_L, lv_args_nil, zlook_cons, zrI_some, zrJ_some, zrP_some, zrC_some, zrA_rw, zrAS_rw, zrLen_rw, zst1_nil, zst1_cI, zst1_cR, zst1_cL, zrm1_nil, zrm1_cI, zrm1_cR, zrm1_cL, zst2_nil, zst2_cI, zst2_cR, zst2_cL, zrm2_nil, zrm2_cI, zrm2_cR, zrm2_cL, zkeep_nil, zkeep_cons, zsum_nil, zsum_I, zsum_R, zsum_L, zsum_N, toL_s, toL_n, List.cons_append, List.nil_append, List.mem_cons, List.not_mem_nil, reduceCtorEq, Nat.reduceAdd, Nat.reduceLT, Nat.reduceLeDiff, Nat.reduceEqDiff, Nat.zero_ne_one, Nat.one_ne_zero, Nat.add_zero, Nat.zero_add, or_false, false_or, or_true, true_or, and_true, true_and, and_self, ↓reduceIte, Nat.succ_ne_self, Nat.reduceGT, Nat.reduceSub, Nat.le_refl, Nat.zero_le, zis_O, cl_is, clG_0, clG_1, clG_2, clG_3, clG_4, clG_5, clG_6, clS_6, clG_7, clG_8, clG_9, clS_9, clG_10, clG_11, clS_11, clG_12, clS_12, clG_13, clS_13, clG_14, clS_14, clG_15, clS_15, clG_16, clG_17, clS_17, od_is, odG_0, odG_1, odS_1, odG_2, odG_3, odS_3, odG_4, re_is, reG_0, reS_0, reG_1, reG_2, reG_3, reS_3, reG_4, reS_4, reG_5, reS_5, reG_6, reS_6, wo_is, woG_0, woG_1, woG_2, woS_2, woG_3, lm_is, lmG_0, lmG_1, lmG_2, lmG_3, lmG_4, lmG_5, lmG_6, lmG_7, lmG_8, lmS_8, lmG_9, lmS_9, lmG_10, lmS_10, lmG_11, lmS_11, lmG_12, lmS_12, mo_is, moG_0, moG_1, moG_2, moG_3, moG_4, moG_5, moS_5, moG_6, moS_6, moG_7, moS_7, moG_8, moG_9, moS_9, moG_10, moS_10, moG_11, moS_11, moG_12, moS_12, moG_13, moS_13, moG_14, moG_15, moS_15, moG_16, moG_17, moS_17, moG_18, moG_19, moG_20, i32ne0, i32ne1, i32ne2, i32ne3, i32ne4, i32ne5, i32ne6, i32ne7, i32ne8, i32ne9, i32ne10, j64ne, Int32.reduceAdd, Int32.reduceSub, Int32.reduceMul, Int32.reduceLT, Int32.reduceOfNat, Int32.reduceToNatClampNeg, cU_at, Nat.reduceMul, Nat.reduceMod, catR, catI, cV_self, cU_self, hg0, hg1, hg2, hg3, hg4, hg5, hg6, hg7, hg8, hg9, hg10, hg11, hg12, hg13, hg14, hg15, hg16, hg17, hg18, hg19, hg20, hg21, hg22, hg23, hg24, hg25, hg26, hg27, hg28, hg29, hg30, hg31, hg32, hg33, hg34, hg35, hg36, hg37, hg38, hg39, hg40, hg41, hg42, hg43, hg44, hg45, hg46, hg47, hg48, hg49, hg50, hg51, hg52, hg53, hg54, hg55, hg56, hg57, hg58, hg59, hg60, hg61, hg62, hg63, hg64, hg65, hg66, hg67, hg68, hg69, hg70, hg71, hg72, hg73, hg1001, hg1002, hg1003, hg1000, hg2000, hs0, hs8, hs9, hs10, hs11, hs12, hs13, hs14, hs15, hs16, hs17, hs18, hs19, hs20, hs21, hs22, hs23, hs24, hs25, hs26, hs27, hs29, hs30, hs31, hs32, hs33, hs34, hs35, hs36, hs37, hs38, hs39, hs40, hs41, hs42, hs43, hs44, hs45, hs46, hs47, hs48, hs49, hs50, hs51, hs52, hs53, hs54, hs55, hs56, hs57, hs59, hs60, hs61, hs62, hs63, hs64, hs65, hs66, hs67, hs68, hs69, hs70, hs71, hs72, hs73, hw8, hw18, hw29, hw39, c, if_false, sp_46 A L (show i < 13 by omega), iZ_suc]
theorem f43i (q : SInv s) {m k : Nat} (hm : m + (k + 1) = s 0 0) : ∀ j : Nat, ∀ (A : Nat → Nat → Int32) (L : Nat → Nat → Int64), CInv A L s → j ≤ mnM (s 0) + 1 → (∀ x, x < j → chOk L (s 0) k x) → (∀ x, j ≤ x → x ≤ mnM (s 0) → chOk L (s 0) (k + 1) x) → (j = 0 → A 50 1 = iZ (bD (s 0) (k + 1) (mnM (s 0)) (s 0 2) (s 0 3))) → ∃ A' L', rn ro 6 43 61 [(0, .ref 50), (1, .ref 8), (2, .int (iZ (mnM (s 0)))), (3, .int (iZ m)), (4, .int (iZ ((j : Int) - 1)))] [] (hp A L) = rn ro 6 43 91 [(0, .ref 50), (1, .ref 8), (2, .int (iZ (mnM (s 0)))), (3, .int (iZ m)), (4, .int (iZ (-1)))] [] (hp A' L') ∧ (∀ x, x ≤ mnM (s 0) → chOk L' (s 0) (k + 1) x) ∧ A' 50 1 = iZ (bD (s 0) (k + 1) (mnM (s 0)) (s 0 2) (s 0 3)) ∧ (∀ i, i ≠ 50 → A' i = A i) ∧ ∀ i, i ≠ 53 → L' i = L i := by
  have n0 := q.1.n0
  have n2 := q.1.n2
  have n3 := q.1.n3
  have n11 := q.1.n11
  have hM : mnM (s 0) + s 0 3 ≤ 12 := by
    unfold mnM
    omega
  intro j
  induction j with
  | zero =>
    intro A L h hj h1 h2 hd
    refine ⟨A, L, ?_, fun x hx => h2 x (by omega) hx, hd rfl, fun _ _ => rfl, fun _ _ => rfl⟩
    have c : iZ (((0 : Nat) : Int) - 1) < 0 := by decide
    rw [q43_61]
    simp only [q43_0, q43_1, q43_2, q43_5, q43_6, q43_9, q43_10, q43_11, q43_12, q43_15, q43_18, q43_19, q43_20, q43_21, q43_22, q43_23, q43_26, q43_27, q43_28, q43_29, q43_32, q43_35, q43_38, q43_39, q43_40, q43_43, q43_44, q43_47, q43_48, q43_49, q43_50, q43_51, q43_52, q43_55, q43_58, q43_59, q43_63, q43_66, q43_67, q43_68, q43_69, q43_71, q43_73, q43_74, q43_77, q43_78, q43_81, q43_82, q43_85, q43_88, q43_94, q43_97, q43_98, q43_99, q43_102, zrk_23, zrk_44, zrk_45, zrk_46, kI_app, kJ_app, kP_app, kV_app, kS_app, kC_app, kN_app, kM_app, zsw_cons, zsw_nil, lv_args_I, lv_args_R, lv_args_L, lv_args_nil, zlook_cons, zrI_some, zrJ_some, zrP_some, zrC_some, zrA_rw, zrAS_rw, zrLen_rw, zst1_nil, zst1_cI, zst1_cR, zst1_cL, zrm1_nil, zrm1_cI, zrm1_cR, zrm1_cL, zst2_nil, zst2_cI, zst2_cR, zst2_cL, zrm2_nil, zrm2_cI, zrm2_cR, zrm2_cL, zkeep_nil, zkeep_cons, zsum_nil, zsum_I, zsum_R, zsum_L, zsum_N, toL_s, toL_n, List.cons_append, List.nil_append, List.mem_cons, List.not_mem_nil, reduceCtorEq, Nat.reduceAdd, Nat.reduceLT, Nat.reduceLeDiff, Nat.reduceEqDiff, Nat.zero_ne_one, Nat.one_ne_zero, Nat.add_zero, Nat.zero_add, or_false, false_or, or_true, true_or, and_true, true_and, and_self, ↓reduceIte, Nat.succ_ne_self, Nat.reduceGT, Nat.reduceSub, Nat.le_refl, Nat.zero_le, zis_O, cl_is, clG_0, clG_1, clG_2, clG_3, clG_4, clG_5, clG_6, clS_6, clG_7, clG_8, clG_9, clS_9, clG_10, clG_11, clS_11, clG_12, clS_12, clG_13, clS_13, clG_14, clS_14, clG_15, clS_15, clG_16, clG_17, clS_17, od_is, odG_0, odG_1, odS_1, odG_2, odG_3, odS_3, odG_4, re_is, reG_0, reS_0, reG_1, reG_2, reG_3, reS_3, reG_4, reS_4, reG_5, reS_5, reG_6, reS_6, wo_is, woG_0, woG_1, woG_2, woS_2, woG_3, lm_is, lmG_0, lmG_1, lmG_2, lmG_3, lmG_4, lmG_5, lmG_6, lmG_7, lmG_8, lmS_8, lmG_9, lmS_9, lmG_10, lmS_10, lmG_11, lmS_11, lmG_12, lmS_12, mo_is, moG_0, moG_1, moG_2, moG_3, moG_4, moG_5, moS_5, moG_6, moS_6, moG_7, moS_7, moG_8, moG_9, moS_9, moG_10, moS_10, moG_11, moS_11, moG_12, moS_12, moG_13, moS_13, moG_14, moG_15, moS_15, moG_16, moG_17, moS_17, moG_18, moG_19, moG_20, i32ne0, i32ne1, i32ne2, i32ne3, i32ne4, i32ne5, i32ne6, i32ne7, i32ne8, i32ne9, i32ne10, j64ne, Int32.reduceAdd, Int32.reduceSub, Int32.reduceMul, Int32.reduceLT, Int32.reduceOfNat, Int32.reduceToNatClampNeg, cU_at, Nat.reduceMul, Nat.reduceMod, catR, catI, cV_self, cU_self, hg0, hg1, hg2, hg3, hg4, hg5, hg6, hg7, hg8, hg9, hg10, hg11, hg12, hg13, hg14, hg15, hg16, hg17, hg18, hg19, hg20, hg21, hg22, hg23, hg24, hg25, hg26, hg27, hg28, hg29, hg30, hg31, hg32, hg33, hg34, hg35, hg36, hg37, hg38, hg39, hg40, hg41, hg42, hg43, hg44, hg45, hg46, hg47, hg48, hg49, hg50, hg51, hg52, hg53, hg54, hg55, hg56, hg57, hg58, hg59, hg60, hg61, hg62, hg63, hg64, hg65, hg66, hg67, hg68, hg69, hg70, hg71, hg72, hg73, hg1001, hg1002, hg1003, hg1000, hg2000, hs0, hs8, hs9, hs10, hs11, hs12, hs13, hs14, hs15, hs16, hs17, hs18, hs19, hs20, hs21, hs22, hs23, hs24, hs25, hs26, hs27, hs29, hs30, hs31, hs32, hs33, hs34, hs35, hs36, hs37, hs38, hs39, hs40, hs41, hs42, hs43, hs44, hs45, hs46, hs47, hs48, hs49, hs50, hs51, hs52, hs53, hs54, hs55, hs56, hs57, hs59, hs60, hs61, hs62, hs63, hs64, hs65, hs66, hs67, hs68, hs69, hs70, hs71, hs72, hs73, hw8, hw18, hw29, hw39, c, if_true]
    rfl
  | succ j ih =>
    intro A L h hj h1 h2 hd
    have c : ¬ iZ (((j + 1 : Nat) : Int) - 1) < 0 := by
      rw [show ((j + 1 : Nat) : Int) - 1 = (j : Int) by omega]
      exact i_nn (by omega)
    have ej : iZ (((j + 1 : Nat) : Int) - 1) = iZ (j : Int) := by
      congr 1
      omega
    have hX := h1 j (by omega)
    have b1 := bG_le q.1 k (by omega) (mnM (s 0) - j) (min 5 (s 0 2 + j)) (s 0 3 + j) (by omega)
    have ei : iZ (j : Int) + -1 = iZ ((j : Int) - 1) := by
      rw [iZ_m1, iZ_add]
      rfl
    by_cases cj : j < mnM (s 0)
    · have hY := h2 (j + 1) (by omega) (by omega)
      have b2 := bG_le q.1 (k + 1) (by omega) (mnM (s 0) - (j + 1)) (min 5 (s 0 2 + (j + 1))) (s 0 3 + (j + 1)) (by omega)
      have w := sp_44 (ro := ro) h q (m := m) (g := j) (k := k) (by omega) (by split <;> omega) (by omega) (by omega) hX b1 (Or.inr ⟨rfl, by omega, hY⟩) b2
      have gs := bG_s (a := s 0) k (mnM (s 0) - (j + 1)) (min 5 (s 0 2 + j)) (s 0 3 + j)
      rw [show mnM (s 0) - (j + 1) + 1 = mnM (s 0) - j by omega, show min 5 (min 5 (s 0 2 + j) + 1) = min 5 (s 0 2 + (j + 1)) by omega, show s 0 3 + j + 1 = s 0 3 + (j + 1) by omega, show s 0 0 - (k + 1) = m by omega] at gs
      rw [← gs] at w
      obtain ⟨A', L', e1, e2, e3, e4, e5⟩ := ih _ _ (h.scr (A' := cU A 50 (upd (A 50) 1 (if skN (s 0) m (s 0 3 + j) (min 5 (s 0 2 + j)) k (bG (s 0) k (mnM (s 0) - j) (min 5 (s 0 2 + j)) (s 0 3 + j)) < bG (s 0) (k + 1) (mnM (s 0) - (j + 1)) (min 5 (s 0 2 + (j + 1))) (s 0 3 + (j + 1)) then 2 else 1))) (L' := cV L 53 (vp_updL (L 53) j (jZ ((sc (k + 1) * bG (s 0) (k + 1) (mnM (s 0) - j) (min 5 (s 0 2 + j)) (s 0 3 + j) : Nat) : Int)))) (fun i hi => cU_n (by omega)) (cU_nL (by decide))) (by omega) (fun x hx => by
          show (if x = j then _ else L 53 x) = _
          rw [if_neg (by omega)]
          exact h1 x (by omega)) (fun x hx hx2 => by
          show (if x = j then _ else L 53 x) = _
          by_cases ex : x = j
          · rw [if_pos ex, ex]
          · rw [if_neg ex]
            exact h2 x (by omega) hx2) (fun hj0 => by
          show (if skN (s 0) m (s 0 3 + j) (min 5 (s 0 2 + j)) k (bG (s 0) k (mnM (s 0) - j) (min 5 (s 0 2 + j)) (s 0 3 + j)) < bG (s 0) (k + 1) (mnM (s 0) - (j + 1)) (min 5 (s 0 2 + (j + 1))) (s 0 3 + (j + 1)) then (2 : Int32) else 1) = _
          subst hj0
          obtain ⟨f, hf⟩ : ∃ f, mnM (s 0) = f + 1 := ⟨mnM (s 0) - 1, by omega⟩
          show _ = iZ ((bD (s 0) (k + 1) (mnM (s 0)) (s 0 2) (s 0 3) : Nat) : Int)
          rw [hf]
          show _ = iZ (((if skN (s 0) (s 0 0 - (k + 1)) (s 0 3) (s 0 2) k (bG (s 0) k (f + 1) (s 0 2) (s 0 3)) < bG (s 0) (k + 1) f (min 5 (s 0 2 + 1)) (s 0 3 + 1) then 2 else 1 : Nat)) : Int)
          rw [show s 0 0 - (k + 1) = m by omega, show min 5 (s 0 2 + 0) = s 0 2 by omega, show s 0 3 + 0 = s 0 3 from rfl, show f + 1 - 0 = f + 1 from rfl, show f + 1 - (0 + 1) = f by omega, show s 0 2 + (0 + 1) = s 0 2 + 1 from rfl, show s 0 3 + (0 + 1) = s 0 3 + 1 from rfl]
          split <;> rfl)
      refine ⟨A', L', ?_, e2, e3, fun i hi => (e4 i hi).trans (cU_n hi), fun i hi => (e5 i hi).trans (cU_nL hi)⟩
      have cl : iZ (j : Int) < iZ (mnM (s 0)) := by
        rw [iZ_lt (by omega)]
        omega
      rw [← e1, q43_61, ej]
      rw [ej] at c
      simp only [q43_0, q43_1, q43_2, q43_5, q43_6, q43_9, q43_10, q43_11, q43_12, q43_15, q43_18, q43_19, q43_20, q43_21, q43_22, q43_23, q43_26, q43_27, q43_28, q43_29, q43_32, q43_35, q43_38, q43_39, q43_40, q43_43, q43_44, q43_47, q43_48, q43_49, q43_50, q43_51, q43_52, q43_55, q43_58, q43_59, q43_63, q43_66, q43_67, q43_68, q43_69, q43_71, q43_73, q43_74, q43_77, q43_78, q43_81, q43_82, q43_85, q43_88, q43_91, q43_94, q43_97, q43_98, q43_99, q43_102, zrk_23, zrk_44, zrk_45, zrk_46, kI_app, kJ_app, kP_app, kV_app, kS_app, kC_app, kN_app, kM_app, zsw_cons, zsw_nil, lv_args_I, lv_args_R, lv_args_L, lv_args_nil, zlook_cons, zrI_some, zrJ_some, zrP_some, zrC_some, zrA_rw, zrAS_rw, zrLen_rw, zst1_nil, zst1_cI, zst1_cR, zst1_cL, zrm1_nil, zrm1_cI, zrm1_cR, zrm1_cL, zst2_nil, zst2_cI, zst2_cR, zst2_cL, zrm2_nil, zrm2_cI, zrm2_cR, zrm2_cL, zkeep_nil, zkeep_cons, zsum_nil, zsum_I, zsum_R, zsum_L, zsum_N, toL_s, toL_n, List.cons_append, List.nil_append, List.mem_cons, List.not_mem_nil, reduceCtorEq, Nat.reduceAdd, Nat.reduceLT, Nat.reduceLeDiff, Nat.reduceEqDiff, Nat.zero_ne_one, Nat.one_ne_zero, Nat.add_zero, Nat.zero_add, or_false, false_or, or_true, true_or, and_true, true_and, and_self, ↓reduceIte, Nat.succ_ne_self, Nat.reduceGT, Nat.reduceSub, Nat.le_refl, Nat.zero_le, zis_O, cl_is, clG_0, clG_1, clG_2, clG_3, clG_4, clG_5, clG_6, clS_6, clG_7, clG_8, clG_9, clS_9, clG_10, clG_11, clS_11, clG_12, clS_12, clG_13, clS_13, clG_14, clS_14, clG_15, clS_15, clG_16, clG_17, clS_17, od_is, odG_0, odG_1, odS_1, odG_2, odG_3, odS_3, odG_4, re_is, reG_0, reS_0, reG_1, reG_2, reG_3, reS_3, reG_4, reS_4, reG_5, reS_5, reG_6, reS_6, wo_is, woG_0, woG_1, woG_2, woS_2, woG_3, lm_is, lmG_0, lmG_1, lmG_2, lmG_3, lmG_4, lmG_5, lmG_6, lmG_7, lmG_8, lmS_8, lmG_9, lmS_9, lmG_10, lmS_10, lmG_11, lmS_11, lmG_12, lmS_12, mo_is, moG_0, moG_1, moG_2, moG_3, moG_4, moG_5, moS_5, moG_6, moS_6, moG_7, moS_7, moG_8, moG_9, moS_9, moG_10, moS_10, moG_11, moS_11, moG_12, moS_12, moG_13, moS_13, moG_14, moG_15, moS_15, moG_16, moG_17, moS_17, moG_18, moG_19, moG_20, i32ne0, i32ne1, i32ne2, i32ne3, i32ne4, i32ne5, i32ne6, i32ne7, i32ne8, i32ne9, i32ne10, j64ne, Int32.reduceAdd, Int32.reduceSub, Int32.reduceMul, Int32.reduceLT, Int32.reduceOfNat, Int32.reduceToNatClampNeg, cU_at, Nat.reduceMul, Nat.reduceMod, catR, catI, cV_self, cU_self, hg0, hg1, hg2, hg3, hg4, hg5, hg6, hg7, hg8, hg9, hg10, hg11, hg12, hg13, hg14, hg15, hg16, hg17, hg18, hg19, hg20, hg21, hg22, hg23, hg24, hg25, hg26, hg27, hg28, hg29, hg30, hg31, hg32, hg33, hg34, hg35, hg36, hg37, hg38, hg39, hg40, hg41, hg42, hg43, hg44, hg45, hg46, hg47, hg48, hg49, hg50, hg51, hg52, hg53, hg54, hg55, hg56, hg57, hg58, hg59, hg60, hg61, hg62, hg63, hg64, hg65, hg66, hg67, hg68, hg69, hg70, hg71, hg72, hg73, hg1001, hg1002, hg1003, hg1000, hg2000, hs0, hs8, hs9, hs10, hs11, hs12, hs13, hs14, hs15, hs16, hs17, hs18, hs19, hs20, hs21, hs22, hs23, hs24, hs25, hs26, hs27, hs29, hs30, hs31, hs32, hs33, hs34, hs35, hs36, hs37, hs38, hs39, hs40, hs41, hs42, hs43, hs44, hs45, hs46, hs47, hs48, hs49, hs50, hs51, hs52, hs53, hs54, hs55, hs56, hs57, hs59, hs60, hs61, hs62, hs63, hs64, hs65, hs66, hs67, hs68, hs69, hs70, hs71, hs72, hs73, hw8, hw18, hw29, hw39, c, if_false, cl, if_true, w, ei]
    · have ejm : j = mnM (s 0) := by omega
      have w := sp_44 (ro := ro) h q (m := m) (g := j) (k := k) (Y := 0) (by omega) (by rw [if_pos rfl]; omega) (by omega) (by omega) hX b1 (Or.inl ⟨rfl, rfl⟩) (Nat.zero_le _)
      simp only [Nat.not_lt_zero, if_false] at w
      have gs := bG_0 (a := s 0) k (min 5 (s 0 2 + j)) (s 0 3 + j)
      rw [show s 0 0 - (k + 1) = m by omega] at gs
      have z0 : mnM (s 0) - j = 0 := by omega
      rw [z0] at w
      rw [← gs] at w
      obtain ⟨A', L', e1, e2, e3, e4, e5⟩ := ih _ _ (h.scr (A' := cU A 50 (upd (A 50) 1 1)) (L' := cV L 53 (vp_updL (L 53) j (jZ ((sc (k + 1) * bG (s 0) (k + 1) 0 (min 5 (s 0 2 + j)) (s 0 3 + j) : Nat) : Int)))) (fun i hi => cU_n (by omega)) (cU_nL (by decide))) (by omega) (fun x hx => by
          show (if x = j then _ else L 53 x) = _
          rw [if_neg (by omega)]
          exact h1 x (by omega)) (fun x hx hx2 => by
          show (if x = j then _ else L 53 x) = _
          by_cases ex : x = j
          · rw [if_pos ex, ex, z0]
          · rw [if_neg ex]
            exact h2 x (by omega) hx2) (fun hj0 => by
          show (1 : Int32) = _
          subst hj0
          rw [← ejm]
          rfl)
      refine ⟨A', L', ?_, e2, e3, fun i hi => (e4 i hi).trans (cU_n hi), fun i hi => (e5 i hi).trans (cU_nL hi)⟩
      have cl : ¬ iZ (j : Int) < iZ (mnM (s 0)) := by
        rw [iZ_lt (by omega)]
        omega
      rw [← e1, q43_61, ej]
      rw [ej] at c
      simp only [q43_0, q43_1, q43_2, q43_5, q43_6, q43_9, q43_10, q43_11, q43_12, q43_15, q43_18, q43_19, q43_20, q43_21, q43_22, q43_23, q43_26, q43_27, q43_28, q43_29, q43_32, q43_35, q43_38, q43_39, q43_40, q43_43, q43_44, q43_47, q43_48, q43_49, q43_50, q43_51, q43_52, q43_55, q43_58, q43_59, q43_63, q43_66, q43_67, q43_68, q43_69, q43_71, q43_73, q43_74, q43_77, q43_78, q43_81, q43_82, q43_85, q43_88, q43_91, q43_94, q43_97, q43_98, q43_99, q43_102, zrk_23, zrk_44, zrk_45, zrk_46, kI_app, kJ_app, kP_app, kV_app, kS_app, kC_app, kN_app, kM_app, zsw_cons, zsw_nil, lv_args_I, lv_args_R, lv_args_L, lv_args_nil, zlook_cons, zrI_some, zrJ_some, zrP_some, zrC_some, zrA_rw, zrAS_rw, zrLen_rw, zst1_nil, zst1_cI, zst1_cR, zst1_cL, zrm1_nil, zrm1_cI, zrm1_cR, zrm1_cL, zst2_nil, zst2_cI, zst2_cR, zst2_cL, zrm2_nil, zrm2_cI, zrm2_cR, zrm2_cL, zkeep_nil, zkeep_cons, zsum_nil, zsum_I, zsum_R, zsum_L, zsum_N, toL_s, toL_n, List.cons_append, List.nil_append, List.mem_cons, List.not_mem_nil, reduceCtorEq, Nat.reduceAdd, Nat.reduceLT, Nat.reduceLeDiff, Nat.reduceEqDiff, Nat.zero_ne_one, Nat.one_ne_zero, Nat.add_zero, Nat.zero_add, or_false, false_or, or_true, true_or, and_true, true_and, and_self, ↓reduceIte, Nat.succ_ne_self, Nat.reduceGT, Nat.reduceSub, Nat.le_refl, Nat.zero_le, zis_O, cl_is, clG_0, clG_1, clG_2, clG_3, clG_4, clG_5, clG_6, clS_6, clG_7, clG_8, clG_9, clS_9, clG_10, clG_11, clS_11, clG_12, clS_12, clG_13, clS_13, clG_14, clS_14, clG_15, clS_15, clG_16, clG_17, clS_17, od_is, odG_0, odG_1, odS_1, odG_2, odG_3, odS_3, odG_4, re_is, reG_0, reS_0, reG_1, reG_2, reG_3, reS_3, reG_4, reS_4, reG_5, reS_5, reG_6, reS_6, wo_is, woG_0, woG_1, woG_2, woS_2, woG_3, lm_is, lmG_0, lmG_1, lmG_2, lmG_3, lmG_4, lmG_5, lmG_6, lmG_7, lmG_8, lmS_8, lmG_9, lmS_9, lmG_10, lmS_10, lmG_11, lmS_11, lmG_12, lmS_12, mo_is, moG_0, moG_1, moG_2, moG_3, moG_4, moG_5, moS_5, moG_6, moS_6, moG_7, moS_7, moG_8, moG_9, moS_9, moG_10, moS_10, moG_11, moS_11, moG_12, moS_12, moG_13, moS_13, moG_14, moG_15, moS_15, moG_16, moG_17, moS_17, moG_18, moG_19, moG_20, i32ne0, i32ne1, i32ne2, i32ne3, i32ne4, i32ne5, i32ne6, i32ne7, i32ne8, i32ne9, i32ne10, j64ne, Int32.reduceAdd, Int32.reduceSub, Int32.reduceMul, Int32.reduceLT, Int32.reduceOfNat, Int32.reduceToNatClampNeg, cU_at, Nat.reduceMul, Nat.reduceMod, catR, catI, cV_self, cU_self, hg0, hg1, hg2, hg3, hg4, hg5, hg6, hg7, hg8, hg9, hg10, hg11, hg12, hg13, hg14, hg15, hg16, hg17, hg18, hg19, hg20, hg21, hg22, hg23, hg24, hg25, hg26, hg27, hg28, hg29, hg30, hg31, hg32, hg33, hg34, hg35, hg36, hg37, hg38, hg39, hg40, hg41, hg42, hg43, hg44, hg45, hg46, hg47, hg48, hg49, hg50, hg51, hg52, hg53, hg54, hg55, hg56, hg57, hg58, hg59, hg60, hg61, hg62, hg63, hg64, hg65, hg66, hg67, hg68, hg69, hg70, hg71, hg72, hg73, hg1001, hg1002, hg1003, hg1000, hg2000, hs0, hs8, hs9, hs10, hs11, hs12, hs13, hs14, hs15, hs16, hs17, hs18, hs19, hs20, hs21, hs22, hs23, hs24, hs25, hs26, hs27, hs29, hs30, hs31, hs32, hs33, hs34, hs35, hs36, hs37, hs38, hs39, hs40, hs41, hs42, hs43, hs44, hs45, hs46, hs47, hs48, hs49, hs50, hs51, hs52, hs53, hs54, hs55, hs56, hs57, hs59, hs60, hs61, hs62, hs63, hs64, hs65, hs66, hs67, hs68, hs69, hs70, hs71, hs72, hs73, hw8, hw18, hw29, hw39, c, if_false, cl, w, ei]
end BEC
