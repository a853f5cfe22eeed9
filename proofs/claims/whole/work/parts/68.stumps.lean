/-! STUMPS: numbers -/
theorem iZ_divN {x y : Nat} (hx : x < 2147483648) (hy : 0 < y ∧ y < 2147483648) : iZ x / iZ y = iZ ((x / y : Nat) : Int) := by
  rw [iZ_div (by omega)]
  rfl
theorem iZ_remN {x y : Nat} (hx : x < 2147483648) (hy : 0 < y ∧ y < 2147483648) : iZ x - iZ x / iZ y * iZ y = iZ ((x % y : Nat) : Int) := by
  rw [iZ_rem (by omega)]
  rfl
theorem iZ_bit0 {n k : Nat} (hn : n < 2147483648) (hk : k < 31) : (iZ n >>> (iZ k &&& 31) &&& 1 = 0) = (n.testBit k = false) := by
  rw [← iZ_nI n, pk_shrN hn _ k (iZ_mask k hk), iZ_nI, iZ_1, iZ_and1, iZ_0, iZ_eq (by omega)]
  rw [Nat.testBit_eq_decide_div_mod_eq, decide_eq_false_iff_not]
  exact propext ⟨fun e => by omega, fun e => by omega⟩
def b01 (S : Bool) : Int32 := if S = true then 1 else 0
def soB (a : Nat → Nat) : Nat → Nat → Bool
  | 0, _ => true
  | i + 1, p => soB a i (p / a 0) && (!(uP (a 0) i (p / a 0)).testBit (p % a 0) && brN a (p % a 0) == a (50 + i))
def bkB (a : Nat → Nat) : Nat → Nat → Nat → Bool
  | 0, _, _ => true
  | i + 1, p, V => (!V.testBit (p % a 0) && brN a (p % a 0) == a (50 + i)) && bkB a i (p / a 0) (V ||| 2 ^ (p % a 0))
def oD (B : Nat) : Nat → Nat → Int → Int
  | 0, _, one => one
  | i + 1, p, _ => oD B i (p / B) ((p % B : Nat) : Int)
def cS (a : Nat → Nat) (c x : Nat) : Nat := x + if soB a (a 5) c = true then 1 else 0
def GS (a : Nat → Nat) (c : Nat) (x : Nat × Int) : Nat × Int := (x.1 + if soB a (a 5) c = true then 1 else 0, if soB a (a 5) c = true ∧ x.1 = 0 then oD (a 0) (a 5) c (-1) else x.2)
theorem bk_so {a : Nat → Nat} : ∀ i p V, bkB a i p V = true ↔ soB a i p = true ∧ ∀ b, (uP (a 0) i p).testBit b = true → V.testBit b = false
  | 0, p, V => ⟨fun _ => ⟨rfl, fun b h => by
      have h' : (0 : Nat).testBit b = true := h
      rw [Nat.zero_testBit] at h'
      cases h'⟩, fun _ => rfl⟩
  | i + 1, p, V => by
    have r := bk_so (a := a) i (p / a 0) (V ||| 2 ^ (p % a 0))
    show ((!V.testBit (p % a 0) && brN a (p % a 0) == a (50 + i)) && bkB a i (p / a 0) (V ||| 2 ^ (p % a 0))) = true ↔ (soB a i (p / a 0) && (!(uP (a 0) i (p / a 0)).testBit (p % a 0) && brN a (p % a 0) == a (50 + i))) = true ∧ ∀ b, (uP (a 0) i (p / a 0) ||| 2 ^ (p % a 0)).testBit b = true → V.testBit b = false
    rw [Bool.and_eq_true, Bool.and_eq_true, Bool.and_eq_true, Bool.and_eq_true, r, Bool.not_eq_true', Bool.not_eq_true']
    constructor
    · rintro ⟨⟨h1, h2⟩, h3, h4⟩
      refine ⟨⟨h3, ?_, h2⟩, ?_⟩
      · rw [tbf]
        intro z
        have y := h4 _ z
        rw [(tb2 V _ _).mpr (Or.inr rfl)] at y
        cases y
      · intro b hb
        rcases (tb2 _ _ _).mp hb with z | z
        · have y := h4 b z
          rw [tbf] at y ⊢
          exact fun x => y ((tb2 _ _ _).mpr (Or.inl x))
        · rw [z]
          exact h1
    · rintro ⟨⟨h3, h5, h2⟩, h4⟩
      refine ⟨⟨h4 _ ((tb2 _ _ _).mpr (Or.inr rfl)), h2⟩, h3, ?_⟩
      intro b hb
      rw [tbf]
      intro z
      rcases (tb2 _ _ _).mp z with y | y
      · have x := h4 b ((tb2 _ _ _).mpr (Or.inl hb))
        rw [y] at x
        cases x
      · rw [y, h5] at hb
        cases hb
theorem bk_0 {a : Nat → Nat} (i p : Nat) : bkB a i p 0 = soB a i p := by
  have r := bk_so (a := a) i p 0
  have z : (∀ b, (uP (a 0) i p).testBit b = true → (0 : Nat).testBit b = false) := fun b _ => Nat.zero_testBit b
  rw [Bool.eq_iff_iff, r]
  exact ⟨fun h => h.1, fun h => ⟨h, z⟩⟩
theorem oD_1 {B : Nat} : ∀ i p one, p < B ^ (i + 1) → oD B (i + 1) p one = ((p / B ^ i : Nat) : Int)
  | 0, p, one, h => by
    show ((p % B : Nat) : Int) = _
    rw [Nat.pow_zero, Nat.div_one, Nat.mod_eq_of_lt (by rwa [Nat.zero_add, Nat.pow_one] at h)]
  | i + 1, p, one, h => by
    show oD B (i + 1) (p / B) ((p % B : Nat) : Int) = _
    rw [oD_1 i (p / B) _ (Nat.div_lt_of_lt_mul (by rwa [Nat.mul_comm, ← Nat.pow_succ])), div_wp]
theorem so_pre {a : Nat → Nat} (j i c : Nat) (h : soB a (i + j) c = true) : soB a i (c / a 0 ^ j) = true := pre_of (Q := fun i p => soB a i p = true) (fun i p z => by
  have z' : (soB a i (p / a 0) && (!(uP (a 0) i (p / a 0)).testBit (p % a 0) && brN a (p % a 0) == a (50 + i))) = true := z
  rw [Bool.and_eq_true] at z'
  exact z'.1) j i c h
theorem so_s {a : Nat → Nat} {m : Nat} (h : m < a 0) (i p : Nat) : soB a (i + 1) (p * a 0 + m) = (soB a i p && (!(uP (a 0) i p).testBit m && brN a m == a (50 + i))) := by
  show (soB a i ((p * a 0 + m) / a 0) && (!(uP (a 0) i ((p * a 0 + m) / a 0)).testBit ((p * a 0 + m) % a 0) && brN a ((p * a 0 + m) % a 0) == a (50 + i))) = _
  rw [(dgd h).1, (dgd h).2]
abbrev cSN (a : Nat → Nat) (lo k : Nat) : Nat := fld (cS a) lo k 0
theorem cS_le (a : Nat → Nat) (lo x : Nat) : ∀ k, fld (cS a) lo k x ≤ x + k
  | 0 => Nat.le_refl _
  | k + 1 => by
    have := cS_le a lo x k
    show fld (cS a) lo k x + (if _ then 1 else 0) ≤ x + (k + 1)
    split <;> omega
theorem cS_add (a : Nat → Nat) (lo x : Nat) : ∀ k, fld (cS a) lo k x = x + fld (cS a) lo k 0
  | 0 => rfl
  | k + 1 => by
    show fld (cS a) lo k x + (if _ then 1 else 0) = x + (fld (cS a) lo k 0 + if _ then 1 else 0)
    rw [cS_add a lo x k, Nat.add_assoc]
theorem GS_1 (a : Nat → Nat) (lo : Nat) (x : Nat × Int) : ∀ k, (fld (GS a) lo k x).1 = x.1 + fld (cS a) lo k 0
  | 0 => rfl
  | k + 1 => by
    show (fld (GS a) lo k x).1 + (if _ then 1 else 0) = x.1 + (fld (cS a) lo k 0 + if _ then 1 else 0)
    rw [GS_1 a lo x k, Nat.add_assoc]
theorem GS_stay (a : Nat → Nat) (lo : Nat) {x : Nat × Int} (hx : 0 < x.1) : ∀ k, (fld (GS a) lo k x).2 = x.2
  | 0 => rfl
  | k + 1 => by
    have r := GS_1 a lo x k
    show (if soB a (a 5) (lo + k) = true ∧ (fld (GS a) lo k x).1 = 0 then _ else (fld (GS a) lo k x).2) = x.2
    rw [if_neg (by omega), GS_stay a lo hx k]
theorem GS_2 (a : Nat → Nat) {j m : Nat} (h5 : a 5 = j + 1) (lo : Nat) (x : Nat × Int) : ∀ k, (∀ r, r < k → (lo + r) / a 0 ^ j = m ∧ lo + r < a 0 ^ (j + 1)) → (fld (GS a) lo k x).2 = if x.1 = 0 ∧ 0 < fld (cS a) lo k 0 then (m : Int) else x.2
  | 0, _ => by
    rw [if_neg (fun z => Nat.lt_irrefl 0 z.2)]
    rfl
  | k + 1, h => by
    have r1 := GS_1 a lo x k
    have r2 := GS_2 a h5 lo x k (fun r hr => h r (by omega))
    show (if soB a (a 5) (lo + k) = true ∧ (fld (GS a) lo k x).1 = 0 then oD (a 0) (a 5) (lo + k) (-1) else (fld (GS a) lo k x).2) = if x.1 = 0 ∧ 0 < fld (cS a) lo k 0 + (if soB a (a 5) (lo + k) = true then 1 else 0) then (m : Int) else x.2
    rw [h5, oD_1 j (lo + k) (-1) (h k (by omega)).2, (h k (by omega)).1, r1, r2]
    by_cases c : soB a (j + 1) (lo + k) = true
    · rw [if_pos c]
      by_cases z : x.1 + fld (cS a) lo k 0 = 0
      · rw [if_pos ⟨c, z⟩, if_pos (by omega)]
      · rw [if_neg (fun y => z y.2)]
        by_cases y : x.1 = 0
        · rw [if_pos (by omega), if_pos (by omega)]
        · rw [if_neg (by omega), if_neg (by omega)]
    · rw [if_neg (fun y => c y.1), if_neg c, Nat.add_zero]
def stA (a : Nat → Nat) : Nat × Int := fld (GS a) 0 (a 0 ^ a 5) (0, -1)
def stI (s : Nat → Nat → Nat) (w : Int) : Int := if w = 0 then ((stA (s 0)).1 : Int) else (stA (s 0)).2
theorem p65 {B n : Nat} (h1 : B ≤ 6) (h2 : n ≤ 5) : B ^ n ≤ 7776 := Nat.le_trans (Nat.pow_le_pow_left h1 n) (Nat.pow_le_pow_right (n := 6) (by decide) h2)
theorem asis : zisO (some (Sum.inr (0, []))) 0 = true := rfl
section STU
variable {ro : zR} {s : Nat → Nat → Nat}
theorem zrk2 (i u : Nat) (hi : i ≤ 5) : zrk 2 [.ref 58, .ref 8, .int (iZ i), .int (iZ u)] = 5 + (10 - i) := by
  show zrk0 2 + (if zrec 2 = true then 10 - (iZ (i : Int)).toNatClampNeg else 0) = _
  rw [iZ_ix (by omega)]
  rfl
theorem sp_2 (q : SInv s) {A : Nat → Nat → Int32} {L : Nat → Nat → Int64} (h : CInv A L s) : ∀ j i p : Nat, i + j = s 0 5 → soB (s 0) i p = true → rm ro 2 [.ref 58, .ref 8, .int (iZ i), .int (iZ (uP (s 0 0) i p))] (hp A L) = some (some (.int (iZ (cSN (s 0) (p * s 0 0 ^ j) (s 0 0 ^ j)))), hp A L) := by
  have n0 := q.1.n0
  have n5 := q.1.n5
  have c5 : A 8 11 = iZ (s 0 5) := h.1.c5
  have c0 : A 8 6 = iZ (s 0 0) := h.1.c0
  intro j
  induction j with
  | zero =>
    intro i p hi hs
    have e : i = s 0 5 := by omega
    unfold rm
    rw [zrk2 i _ (by omega)]
    have r : cSN (s 0) (p * s 0 0 ^ 0) (s 0 0 ^ 0) = 1 := by
      show 0 + (if soB (s 0) (s 0 5) (p * s 0 0 ^ 0 + 0) = true then 1 else 0) = 1
      rw [Nat.pow_zero, Nat.mul_one, Nat.add_zero, ← e, if_pos hs]
    have ci : ¬ iZ (i : Int) < iZ (s 0 5) := by
      rw [e]
      exact Int32.lt_irrefl
    rw [r]
    simp only [q2_0, q2_1, q2_2, q2_5, q2_8, q2_9, q2_10, q2_11, q2_13, q2_14, q2_18, q2_19, q2_22, q2_25, q2_26, q2_28, q2_31, q2_34, q2_35, q2_37, q2_40, q2_41, q2_44, q2_45, q2_48, q2_51, q2_53, q2_54, q2_55, q2_56, q2_57, q2_58, q2_59, q2_60, q2_62, q2_63, q2_64, q2_67, q2_68, q2_70, q2_73, q2_76, q2_78, zrk_127, zrk_130, zrk_28, kI_app, kJ_app, kP_app, kV_app, kS_app, kC_app, kN_app, kM_app, zsw_cons, zsw_nil, lv_args_I, lv_args_R, lv_args_L, lv_args_nil, zlook_cons, zrI_some, zrJ_some, zrP_some, zrC_some, zrA_rw, zrAS_rw, zrLen_rw, zst1_nil, zst1_cI, zst1_cR, zst1_cL, zrm1_nil, zrm1_cI, zrm1_cR, zrm1_cL, zst2_nil, zst2_cI, zst2_cR, zst2_cL, zrm2_nil, zrm2_cI, zrm2_cR, zrm2_cL, zkeep_nil, zkeep_cons, zsum_nil, zsum_I, zsum_R, zsum_L, zsum_N, toL_s, toL_n, List.cons_append, List.nil_append, List.mem_cons, List.not_mem_nil, reduceCtorEq, Nat.reduceAdd, Nat.reduceLT, Nat.reduceLeDiff, Nat.reduceEqDiff, Nat.zero_ne_one, Nat.one_ne_zero, Nat.add_zero, Nat.zero_add, or_false, false_or, or_true, true_or, and_true, true_and, and_self, ↓reduceIte, Nat.succ_ne_self, Nat.reduceGT, Nat.reduceSub, Nat.le_refl, Nat.zero_le, zis_O, cl_is, clG_0, clG_1, clG_2, clG_3, clG_4, clG_5, clG_6, clS_6, clG_7, clG_8, clG_9, clS_9, clG_10, clG_11, clS_11, clG_12, clS_12, clG_13, clS_13, clG_14, clS_14, clG_15, clS_15, clG_16, clG_17, clS_17, od_is, odG_0, odG_1, odS_1, odG_2, odG_3, odS_3, odG_4, re_is, reG_0, reS_0, reG_1, reG_2, reG_3, reS_3, reG_4, reS_4, reG_5, reS_5, reG_6, reS_6, wo_is, woG_0, woG_1, woG_2, woS_2, woG_3, lm_is, lmG_0, lmG_1, lmG_2, lmG_3, lmG_4, lmG_5, lmG_6, lmG_7, lmG_8, lmS_8, lmG_9, lmS_9, lmG_10, lmS_10, lmG_11, lmS_11, lmG_12, lmS_12, mo_is, moG_0, moG_1, moG_2, moG_3, moG_4, moG_5, moS_5, moG_6, moS_6, moG_7, moS_7, moG_8, moG_9, moS_9, moG_10, moS_10, moG_11, moS_11, moG_12, moS_12, moG_13, moS_13, moG_14, moG_15, moS_15, moG_16, moG_17, moS_17, moG_18, moG_19, moG_20, i32ne0, i32ne1, i32ne2, i32ne3, i32ne4, i32ne5, i32ne6, i32ne7, i32ne8, i32ne9, i32ne10, j64ne, Int32.reduceAdd, Int32.reduceSub, Int32.reduceMul, Int32.reduceLT, Int32.reduceOfNat, Int32.reduceToNatClampNeg, cU_at, Nat.reduceMul, Nat.reduceMod, catR, catI, cV_self, cU_self, hg0, hg1, hg2, hg3, hg4, hg5, hg6, hg7, hg8, hg9, hg10, hg11, hg12, hg13, hg14, hg15, hg16, hg17, hg18, hg19, hg20, hg21, hg22, hg23, hg24, hg25, hg26, hg27, hg28, hg29, hg30, hg31, hg32, hg33, hg34, hg35, hg36, hg37, hg38, hg39, hg40, hg41, hg42, hg43, hg44, hg45, hg46, hg47, hg48, hg49, hg50, hg51, hg52, hg53, hg54, hg55, hg56, hg57, hg58, hg59, hg60, hg61, hg62, hg63, hg64, hg65, hg66, hg67, hg68, hg69, hg70, hg71, hg72, hg73, hg1001, hg1002, hg1003, hg1000, hg2000, hs0, hs8, hs9, hs10, hs11, hs12, hs13, hs14, hs15, hs16, hs17, hs18, hs19, hs20, hs21, hs22, hs23, hs24, hs25, hs26, hs27, hs29, hs30, hs31, hs32, hs33, hs34, hs35, hs36, hs37, hs38, hs39, hs40, hs41, hs42, hs43, hs44, hs45, hs46, hs47, hs48, hs49, hs50, hs51, hs52, hs53, hs54, hs55, hs56, hs57, hs59, hs60, hs61, hs62, hs63, hs64, hs65, hs66, hs67, hs68, hs69, hs70, hs71, hs72, hs73, hw8, hw18, hw29, hw39, c5, ci, if_false]
    rfl
  | succ j ih =>
    intro i p hi hs
    have hd : ∃ d, d = 5 + (10 - i) := ⟨_, rfl⟩
    obtain ⟨d, hd⟩ := hd
    have d0 : 0 < d := by omega
    have d1 : 1 < d := by omega
    have d2 : 2 < d := by omega
    have d3 : 3 < d := by omega
    have d4 : 4 < d := by omega
    have zu : ∀ i' p', i' = 0 ∨ 0 < s 0 0 → uP (s 0 0) i' p' < 128 := fun i' p' z => uP_7 (by omega) i' p' z
    have ci : iZ (i : Int) < iZ (s 0 5) := by
      rw [iZ_lt (by omega)]
      omega
    have zs := zat_i (g := A 16) (show i < 5 ∧ 5 < 2147483648 by omega)
    rw [show A 16 i = iZ (s 0 (50 + i)) from h.1.p n5 (by omega)] at zs
    have b50 := q.1.p (i := i) (by omega)
    have lp : ∀ k m : Nat, m + k = s 0 0 → rn ro d 2 16 [(0, .ref 58), (1, .ref 8), (2, .int (iZ i)), (3, .int (iZ (uP (s 0 0) i p))), (4, .int (iZ (cSN (s 0) (p * s 0 0 ^ (j + 1)) (m * s 0 0 ^ j)))), (5, .int (iZ m))] [] (hp A L) = some (some (.int (iZ (cSN (s 0) (p * s 0 0 ^ (j + 1)) (s 0 0 ^ (j + 1))))), hp A L) := by
      intro k
      induction k with
      | zero =>
        intro m hm
        have e : m = s 0 0 := by omega
        have c : ¬ iZ (m : Int) < iZ (s 0 0) := by
          rw [e]
          exact Int32.lt_irrefl
        rw [q2_16]
        simp only [q2_0, q2_1, q2_2, q2_5, q2_8, q2_9, q2_10, q2_11, q2_13, q2_14, q2_18, q2_19, q2_22, q2_25, q2_26, q2_28, q2_31, q2_34, q2_35, q2_37, q2_40, q2_41, q2_44, q2_45, q2_48, q2_51, q2_53, q2_54, q2_55, q2_56, q2_57, q2_58, q2_59, q2_60, q2_62, q2_63, q2_64, q2_67, q2_68, q2_70, q2_73, q2_76, q2_78, zrk_127, zrk_130, zrk_28, kI_app, kJ_app, kP_app, kV_app, kS_app, kC_app, kN_app, kM_app, zsw_cons, zsw_nil, lv_args_I, lv_args_R, lv_args_L, lv_args_nil, zlook_cons, zrI_some, zrJ_some, zrP_some, zrC_some, zrA_rw, zrAS_rw, zrLen_rw, zst1_nil, zst1_cI, zst1_cR, zst1_cL, zrm1_nil, zrm1_cI, zrm1_cR, zrm1_cL, zst2_nil, zst2_cI, zst2_cR, zst2_cL, zrm2_nil, zrm2_cI, zrm2_cR, zrm2_cL, zkeep_nil, zkeep_cons, zsum_nil, zsum_I, zsum_R, zsum_L, zsum_N, toL_s, toL_n, List.cons_append, List.nil_append, List.mem_cons, List.not_mem_nil, reduceCtorEq, Nat.reduceAdd, Nat.reduceLT, Nat.reduceLeDiff, Nat.reduceEqDiff, Nat.zero_ne_one, Nat.one_ne_zero, Nat.add_zero, Nat.zero_add, or_false, false_or, or_true, true_or, and_true, true_and, and_self, ↓reduceIte, Nat.succ_ne_self, Nat.reduceGT, Nat.reduceSub, Nat.le_refl, Nat.zero_le, zis_O, cl_is, clG_0, clG_1, clG_2, clG_3, clG_4, clG_5, clG_6, clS_6, clG_7, clG_8, clG_9, clS_9, clG_10, clG_11, clS_11, clG_12, clS_12, clG_13, clS_13, clG_14, clS_14, clG_15, clS_15, clG_16, clG_17, clS_17, od_is, odG_0, odG_1, odS_1, odG_2, odG_3, odS_3, odG_4, re_is, reG_0, reS_0, reG_1, reG_2, reG_3, reS_3, reG_4, reS_4, reG_5, reS_5, reG_6, reS_6, wo_is, woG_0, woG_1, woG_2, woS_2, woG_3, lm_is, lmG_0, lmG_1, lmG_2, lmG_3, lmG_4, lmG_5, lmG_6, lmG_7, lmG_8, lmS_8, lmG_9, lmS_9, lmG_10, lmS_10, lmG_11, lmS_11, lmG_12, lmS_12, mo_is, moG_0, moG_1, moG_2, moG_3, moG_4, moG_5, moS_5, moG_6, moS_6, moG_7, moS_7, moG_8, moG_9, moS_9, moG_10, moS_10, moG_11, moS_11, moG_12, moS_12, moG_13, moS_13, moG_14, moG_15, moS_15, moG_16, moG_17, moS_17, moG_18, moG_19, moG_20, i32ne0, i32ne1, i32ne2, i32ne3, i32ne4, i32ne5, i32ne6, i32ne7, i32ne8, i32ne9, i32ne10, j64ne, Int32.reduceAdd, Int32.reduceSub, Int32.reduceMul, Int32.reduceLT, Int32.reduceOfNat, Int32.reduceToNatClampNeg, cU_at, Nat.reduceMul, Nat.reduceMod, catR, catI, cV_self, cU_self, hg0, hg1, hg2, hg3, hg4, hg5, hg6, hg7, hg8, hg9, hg10, hg11, hg12, hg13, hg14, hg15, hg16, hg17, hg18, hg19, hg20, hg21, hg22, hg23, hg24, hg25, hg26, hg27, hg28, hg29, hg30, hg31, hg32, hg33, hg34, hg35, hg36, hg37, hg38, hg39, hg40, hg41, hg42, hg43, hg44, hg45, hg46, hg47, hg48, hg49, hg50, hg51, hg52, hg53, hg54, hg55, hg56, hg57, hg58, hg59, hg60, hg61, hg62, hg63, hg64, hg65, hg66, hg67, hg68, hg69, hg70, hg71, hg72, hg73, hg1001, hg1002, hg1003, hg1000, hg2000, hs0, hs8, hs9, hs10, hs11, hs12, hs13, hs14, hs15, hs16, hs17, hs18, hs19, hs20, hs21, hs22, hs23, hs24, hs25, hs26, hs27, hs29, hs30, hs31, hs32, hs33, hs34, hs35, hs36, hs37, hs38, hs39, hs40, hs41, hs42, hs43, hs44, hs45, hs46, hs47, hs48, hs49, hs50, hs51, hs52, hs53, hs54, hs55, hs56, hs57, hs59, hs60, hs61, hs62, hs63, hs64, hs65, hs66, hs67, hs68, hs69, hs70, hs71, hs72, hs73, hw8, hw18, hw29, hw39, c0, c, if_false]
        rw [e, Nat.mul_comm (s 0 0), ← Nat.pow_succ]
      | succ k ihk =>
        intro m hm
        have hm0 : m < s 0 0 := by omega
        have c : iZ (m : Int) < iZ (s 0 0) := by
          rw [iZ_lt (by omega)]
          omega
        have bt := iZ_bit (n := uP (s 0 0) i p) (k := m) (by have := zu i p (Or.inr (by omega)); omega) (by omega)
        have bu := clB (ro := ro) (hc8 A L) (hk A L) h.1 q.1 hm0
        have kl : brN (s 0) m ≤ 1000 := by
          have w := q.1.m hm0
          unfold brN bN
          split
          · split <;> omega
          · split
            · split <;> omega
            · split <;> omega
        have eb : (iZ (brN (s 0) m : Nat) = iZ (s 0 (50 + i))) = (brN (s 0) m = s 0 (50 + i)) := by
          rw [iZ_eq (by omega)]
          exact propext ⟨fun z => by omega, fun z => by omega⟩
        have blk := fld_blk (cS (s 0)) (s 0 0) j p m 0
        have i1 := ihk (m + 1) (by omega)
        have same : soB (s 0) (i + 1) (p * s 0 0 + m) = false → cSN (s 0) (p * s 0 0 ^ (j + 1)) ((m + 1) * s 0 0 ^ j) = cSN (s 0) (p * s 0 0 ^ (j + 1)) (m * s 0 0 ^ j) := by
          intro z
          rw [show cSN (s 0) (p * s 0 0 ^ (j + 1)) ((m + 1) * s 0 0 ^ j) = _ from blk]
          refine fld_same _ fun r hr => ?_
          show _ + (if soB (s 0) (s 0 5) _ = true then 1 else 0) = _
          rw [if_neg, Nat.add_zero]
          intro y
          rw [show s 0 5 = (i + 1) + j by omega] at y
          have x := so_pre j (i + 1) _ y
          rw [blk_in hr, z] at x
          cases x
        by_cases t : (uP (s 0 0) i p).testBit m = true
        · rw [same (by rw [so_s hm0, t]; simp)] at i1
          rw [← i1, q2_16]
          simp only [q2_0, q2_1, q2_2, q2_5, q2_8, q2_9, q2_10, q2_11, q2_13, q2_14, q2_18, q2_19, q2_22, q2_25, q2_26, q2_28, q2_31, q2_34, q2_35, q2_37, q2_40, q2_41, q2_44, q2_45, q2_48, q2_51, q2_53, q2_54, q2_55, q2_56, q2_57, q2_58, q2_59, q2_60, q2_62, q2_63, q2_64, q2_67, q2_68, q2_70, q2_73, q2_76, q2_78, zrk_127, zrk_130, zrk_28, kI_app, kJ_app, kP_app, kV_app, kS_app, kC_app, kN_app, kM_app, zsw_cons, zsw_nil, lv_args_I, lv_args_R, lv_args_L, lv_args_nil, zlook_cons, zrI_some, zrJ_some, zrP_some, zrC_some, zrA_rw, zrAS_rw, zrLen_rw, zst1_nil, zst1_cI, zst1_cR, zst1_cL, zrm1_nil, zrm1_cI, zrm1_cR, zrm1_cL, zst2_nil, zst2_cI, zst2_cR, zst2_cL, zrm2_nil, zrm2_cI, zrm2_cR, zrm2_cL, zkeep_nil, zkeep_cons, zsum_nil, zsum_I, zsum_R, zsum_L, zsum_N, toL_s, toL_n, List.cons_append, List.nil_append, List.mem_cons, List.not_mem_nil, reduceCtorEq, Nat.reduceAdd, Nat.reduceLT, Nat.reduceLeDiff, Nat.reduceEqDiff, Nat.zero_ne_one, Nat.one_ne_zero, Nat.add_zero, Nat.zero_add, or_false, false_or, or_true, true_or, and_true, true_and, and_self, ↓reduceIte, Nat.succ_ne_self, Nat.reduceGT, Nat.reduceSub, Nat.le_refl, Nat.zero_le, zis_O, cl_is, clG_0, clG_1, clG_2, clG_3, clG_4, clG_5, clG_6, clS_6, clG_7, clG_8, clG_9, clS_9, clG_10, clG_11, clS_11, clG_12, clS_12, clG_13, clS_13, clG_14, clS_14, clG_15, clS_15, clG_16, clG_17, clS_17, od_is, odG_0, odG_1, odS_1, odG_2, odG_3, odS_3, odG_4, re_is, reG_0, reS_0, reG_1, reG_2, reG_3, reS_3, reG_4, reS_4, reG_5, reS_5, reG_6, reS_6, wo_is, woG_0, woG_1, woG_2, woS_2, woG_3, lm_is, lmG_0, lmG_1, lmG_2, lmG_3, lmG_4, lmG_5, lmG_6, lmG_7, lmG_8, lmS_8, lmG_9, lmS_9, lmG_10, lmS_10, lmG_11, lmS_11, lmG_12, lmS_12, mo_is, moG_0, moG_1, moG_2, moG_3, moG_4, moG_5, moS_5, moG_6, moS_6, moG_7, moS_7, moG_8, moG_9, moS_9, moG_10, moS_10, moG_11, moS_11, moG_12, moS_12, moG_13, moS_13, moG_14, moG_15, moS_15, moG_16, moG_17, moS_17, moG_18, moG_19, moG_20, i32ne0, i32ne1, i32ne2, i32ne3, i32ne4, i32ne5, i32ne6, i32ne7, i32ne8, i32ne9, i32ne10, j64ne, Int32.reduceAdd, Int32.reduceSub, Int32.reduceMul, Int32.reduceLT, Int32.reduceOfNat, Int32.reduceToNatClampNeg, cU_at, Nat.reduceMul, Nat.reduceMod, catR, catI, cV_self, cU_self, hg0, hg1, hg2, hg3, hg4, hg5, hg6, hg7, hg8, hg9, hg10, hg11, hg12, hg13, hg14, hg15, hg16, hg17, hg18, hg19, hg20, hg21, hg22, hg23, hg24, hg25, hg26, hg27, hg28, hg29, hg30, hg31, hg32, hg33, hg34, hg35, hg36, hg37, hg38, hg39, hg40, hg41, hg42, hg43, hg44, hg45, hg46, hg47, hg48, hg49, hg50, hg51, hg52, hg53, hg54, hg55, hg56, hg57, hg58, hg59, hg60, hg61, hg62, hg63, hg64, hg65, hg66, hg67, hg68, hg69, hg70, hg71, hg72, hg73, hg1001, hg1002, hg1003, hg1000, hg2000, hs0, hs8, hs9, hs10, hs11, hs12, hs13, hs14, hs15, hs16, hs17, hs18, hs19, hs20, hs21, hs22, hs23, hs24, hs25, hs26, hs27, hs29, hs30, hs31, hs32, hs33, hs34, hs35, hs36, hs37, hs38, hs39, hs40, hs41, hs42, hs43, hs44, hs45, hs46, hs47, hs48, hs49, hs50, hs51, hs52, hs53, hs54, hs55, hs56, hs57, hs59, hs60, hs61, hs62, hs63, hs64, hs65, hs66, hs67, hs68, hs69, hs70, hs71, hs72, hs73, hw8, hw18, hw29, hw39, c0, c, if_true, d0, d1, d2, d3, d4, sp_isIn, bt, t, z10, if_false, iZ_suc]
        · by_cases y : brN (s 0) m = s 0 (50 + i)
          · have z : soB (s 0) (i + 1) (p * s 0 0 + m) = true := by
              rw [so_s hm0, hs, tbf.mpr t, y]
              simp
            have eu : iZ (uP (s 0 0) i p : Nat) ||| 1 <<< (iZ (m : Int) &&& 31) = iZ (uP (s 0 0) (i + 1) (p * s 0 0 + m) : Nat) := by
              rw [iZ_shl1 m (by omega), iZ_or, uP_s hm0]
            have r := ih (i + 1) (p * s 0 0 + m) (by omega) z
            have zk := zrk2 (i + 1) (uP (s 0 0) (i + 1) (p * s 0 0 + m)) (by omega)
            have zl : zrk 2 [.ref 58, .ref 8, .int (iZ ((i + 1 : Nat) : Int)), .int (iZ (uP (s 0 0) (i + 1) (p * s 0 0 + m) : Nat))] < d := by
              rw [zk]
              omega
            have ea : iZ (cSN (s 0) (p * s 0 0 ^ (j + 1)) (m * s 0 0 ^ j) : Nat) + iZ (cSN (s 0) ((p * s 0 0 + m) * s 0 0 ^ j) (s 0 0 ^ j) : Nat) = iZ (cSN (s 0) (p * s 0 0 ^ (j + 1)) ((m + 1) * s 0 0 ^ j) : Nat) := by
              rw [show cSN (s 0) (p * s 0 0 ^ (j + 1)) ((m + 1) * s 0 0 ^ j) = cSN (s 0) (p * s 0 0 ^ (j + 1)) (m * s 0 0 ^ j) + cSN (s 0) ((p * s 0 0 + m) * s 0 0 ^ j) (s 0 0 ^ j) from blk.trans (cS_add _ _ _ _), iZ_add]
              congr 1
            rw [← i1, q2_16]
            simp only [q2_0, q2_1, q2_2, q2_5, q2_8, q2_9, q2_10, q2_11, q2_13, q2_14, q2_18, q2_19, q2_22, q2_25, q2_26, q2_28, q2_31, q2_34, q2_35, q2_37, q2_40, q2_41, q2_44, q2_45, q2_48, q2_51, q2_53, q2_54, q2_55, q2_56, q2_57, q2_58, q2_59, q2_60, q2_62, q2_63, q2_64, q2_67, q2_68, q2_70, q2_73, q2_76, q2_78, zrk_127, zrk_130, zrk_28, kI_app, kJ_app, kP_app, kV_app, kS_app, kC_app, kN_app, kM_app, zsw_cons, zsw_nil, lv_args_I, lv_args_R, lv_args_L, lv_args_nil, zlook_cons, zrI_some, zrJ_some, zrP_some, zrC_some, zrA_rw, zrAS_rw, zrLen_rw, zst1_nil, zst1_cI, zst1_cR, zst1_cL, zrm1_nil, zrm1_cI, zrm1_cR, zrm1_cL, zst2_nil, zst2_cI, zst2_cR, zst2_cL, zrm2_nil, zrm2_cI, zrm2_cR, zrm2_cL, zkeep_nil, zkeep_cons, zsum_nil, zsum_I, zsum_R, zsum_L, zsum_N, toL_s, toL_n, List.cons_append, List.nil_append, List.mem_cons, List.not_mem_nil, reduceCtorEq, Nat.reduceAdd, Nat.reduceLT, Nat.reduceLeDiff, Nat.reduceEqDiff, Nat.zero_ne_one, Nat.one_ne_zero, Nat.add_zero, Nat.zero_add, or_false, false_or, or_true, true_or, and_true, true_and, and_self, ↓reduceIte, Nat.succ_ne_self, Nat.reduceGT, Nat.reduceSub, Nat.le_refl, Nat.zero_le, zis_O, cl_is, clG_0, clG_1, clG_2, clG_3, clG_4, clG_5, clG_6, clS_6, clG_7, clG_8, clG_9, clS_9, clG_10, clG_11, clS_11, clG_12, clS_12, clG_13, clS_13, clG_14, clS_14, clG_15, clS_15, clG_16, clG_17, clS_17, od_is, odG_0, odG_1, odS_1, odG_2, odG_3, odS_3, odG_4, re_is, reG_0, reS_0, reG_1, reG_2, reG_3, reS_3, reG_4, reS_4, reG_5, reS_5, reG_6, reS_6, wo_is, woG_0, woG_1, woG_2, woS_2, woG_3, lm_is, lmG_0, lmG_1, lmG_2, lmG_3, lmG_4, lmG_5, lmG_6, lmG_7, lmG_8, lmS_8, lmG_9, lmS_9, lmG_10, lmS_10, lmG_11, lmS_11, lmG_12, lmS_12, mo_is, moG_0, moG_1, moG_2, moG_3, moG_4, moG_5, moS_5, moG_6, moS_6, moG_7, moS_7, moG_8, moG_9, moS_9, moG_10, moS_10, moG_11, moS_11, moG_12, moS_12, moG_13, moS_13, moG_14, moG_15, moS_15, moG_16, moG_17, moS_17, moG_18, moG_19, moG_20, i32ne0, i32ne1, i32ne2, i32ne3, i32ne4, i32ne5, i32ne6, i32ne7, i32ne8, i32ne9, i32ne10, j64ne, Int32.reduceAdd, Int32.reduceSub, Int32.reduceMul, Int32.reduceLT, Int32.reduceOfNat, Int32.reduceToNatClampNeg, cU_at, Nat.reduceMul, Nat.reduceMod, catR, catI, cV_self, cU_self, hg0, hg1, hg2, hg3, hg4, hg5, hg6, hg7, hg8, hg9, hg10, hg11, hg12, hg13, hg14, hg15, hg16, hg17, hg18, hg19, hg20, hg21, hg22, hg23, hg24, hg25, hg26, hg27, hg28, hg29, hg30, hg31, hg32, hg33, hg34, hg35, hg36, hg37, hg38, hg39, hg40, hg41, hg42, hg43, hg44, hg45, hg46, hg47, hg48, hg49, hg50, hg51, hg52, hg53, hg54, hg55, hg56, hg57, hg58, hg59, hg60, hg61, hg62, hg63, hg64, hg65, hg66, hg67, hg68, hg69, hg70, hg71, hg72, hg73, hg1001, hg1002, hg1003, hg1000, hg2000, hs0, hs8, hs9, hs10, hs11, hs12, hs13, hs14, hs15, hs16, hs17, hs18, hs19, hs20, hs21, hs22, hs23, hs24, hs25, hs26, hs27, hs29, hs30, hs31, hs32, hs33, hs34, hs35, hs36, hs37, hs38, hs39, hs40, hs41, hs42, hs43, hs44, hs45, hs46, hs47, hs48, hs49, hs50, hs51, hs52, hs53, hs54, hs55, hs56, hs57, hs59, hs60, hs61, hs62, hs63, hs64, hs65, hs66, hs67, hs68, hs69, hs70, hs71, hs72, hs73, hw8, hw18, hw29, hw39, c0, c, if_true, d0, d1, d2, d3, d4, sp_isIn, bt, t, z10, if_false, iZ_suc, bu, sp_at ro (hg16 A L) (show 5 < 2 ^ 31 by decide), zs, eb, y, eu, zl, r, ea, show zisO (some (Sum.inr (0, []))) 0 = true from rfl]
          · rw [same (by rw [so_s hm0]; simp [y])] at i1
            rw [← i1, q2_16]
            simp only [q2_0, q2_1, q2_2, q2_5, q2_8, q2_9, q2_10, q2_11, q2_13, q2_14, q2_18, q2_19, q2_22, q2_25, q2_26, q2_28, q2_31, q2_34, q2_35, q2_37, q2_40, q2_41, q2_44, q2_45, q2_48, q2_51, q2_53, q2_54, q2_55, q2_56, q2_57, q2_58, q2_59, q2_60, q2_62, q2_63, q2_64, q2_67, q2_68, q2_70, q2_73, q2_76, q2_78, zrk_127, zrk_130, zrk_28, kI_app, kJ_app, kP_app, kV_app, kS_app, kC_app, kN_app, kM_app, zsw_cons, zsw_nil, lv_args_I, lv_args_R, lv_args_L, lv_args_nil, zlook_cons, zrI_some, zrJ_some, zrP_some, zrC_some, zrA_rw, zrAS_rw, zrLen_rw, zst1_nil, zst1_cI, zst1_cR, zst1_cL, zrm1_nil, zrm1_cI, zrm1_cR, zrm1_cL, zst2_nil, zst2_cI, zst2_cR, zst2_cL, zrm2_nil, zrm2_cI, zrm2_cR, zrm2_cL, zkeep_nil, zkeep_cons, zsum_nil, zsum_I, zsum_R, zsum_L, zsum_N, toL_s, toL_n, List.cons_append, List.nil_append, List.mem_cons, List.not_mem_nil, reduceCtorEq, Nat.reduceAdd, Nat.reduceLT, Nat.reduceLeDiff, Nat.reduceEqDiff, Nat.zero_ne_one, Nat.one_ne_zero, Nat.add_zero, Nat.zero_add, or_false, false_or, or_true, true_or, and_true, true_and, and_self, ↓reduceIte, Nat.succ_ne_self, Nat.reduceGT, Nat.reduceSub, Nat.le_refl, Nat.zero_le, zis_O, cl_is, clG_0, clG_1, clG_2, clG_3, clG_4, clG_5, clG_6, clS_6, clG_7, clG_8, clG_9, clS_9, clG_10, clG_11, clS_11, clG_12, clS_12, clG_13, clS_13, clG_14, clS_14, clG_15, clS_15, clG_16, clG_17, clS_17, od_is, odG_0, odG_1, odS_1, odG_2, odG_3, odS_3, odG_4, re_is, reG_0, reS_0, reG_1, reG_2, reG_3, reS_3, reG_4, reS_4, reG_5, reS_5, reG_6, reS_6, wo_is, woG_0, woG_1, woG_2, woS_2, woG_3, lm_is, lmG_0, lmG_1, lmG_2, lmG_3, lmG_4, lmG_5, lmG_6, lmG_7, lmG_8, lmS_8, lmG_9, lmS_9, lmG_10, lmS_10, lmG_11, lmS_11, lmG_12, lmS_12, mo_is, moG_0, moG_1, moG_2, moG_3, moG_4, moG_5, moS_5, moG_6, moS_6, moG_7, moS_7, moG_8, moG_9, moS_9, moG_10, moS_10, moG_11, moS_11, moG_12, moS_12, moG_13, moS_13, moG_14, moG_15, moS_15, moG_16, moG_17, moS_17, moG_18, moG_19, moG_20, i32ne0, i32ne1, i32ne2, i32ne3, i32ne4, i32ne5, i32ne6, i32ne7, i32ne8, i32ne9, i32ne10, j64ne, Int32.reduceAdd, Int32.reduceSub, Int32.reduceMul, Int32.reduceLT, Int32.reduceOfNat, Int32.reduceToNatClampNeg, cU_at, Nat.reduceMul, Nat.reduceMod, catR, catI, cV_self, cU_self, hg0, hg1, hg2, hg3, hg4, hg5, hg6, hg7, hg8, hg9, hg10, hg11, hg12, hg13, hg14, hg15, hg16, hg17, hg18, hg19, hg20, hg21, hg22, hg23, hg24, hg25, hg26, hg27, hg28, hg29, hg30, hg31, hg32, hg33, hg34, hg35, hg36, hg37, hg38, hg39, hg40, hg41, hg42, hg43, hg44, hg45, hg46, hg47, hg48, hg49, hg50, hg51, hg52, hg53, hg54, hg55, hg56, hg57, hg58, hg59, hg60, hg61, hg62, hg63, hg64, hg65, hg66, hg67, hg68, hg69, hg70, hg71, hg72, hg73, hg1001, hg1002, hg1003, hg1000, hg2000, hs0, hs8, hs9, hs10, hs11, hs12, hs13, hs14, hs15, hs16, hs17, hs18, hs19, hs20, hs21, hs22, hs23, hs24, hs25, hs26, hs27, hs29, hs30, hs31, hs32, hs33, hs34, hs35, hs36, hs37, hs38, hs39, hs40, hs41, hs42, hs43, hs44, hs45, hs46, hs47, hs48, hs49, hs50, hs51, hs52, hs53, hs54, hs55, hs56, hs57, hs59, hs60, hs61, hs62, hs63, hs64, hs65, hs66, hs67, hs68, hs69, hs70, hs71, hs72, hs73, hw8, hw18, hw29, hw39, c0, c, if_true, d0, d1, d2, d3, d4, sp_isIn, bt, t, z10, if_false, iZ_suc, bu, sp_at ro (hg16 A L) (show 5 < 2 ^ 31 by decide), zs, eb, y]
    unfold rm
    rw [zrk2 i _ (by omega), ← hd]
    have l0 := lp (s 0 0) 0 (by omega)
    rw [Nat.zero_mul, show iZ ((cSN (s 0) (p * s 0 0 ^ (j + 1)) 0 : Nat) : Int) = 0 from rfl, show iZ ((0 : Nat) : Int) = 0 from rfl] at l0
    rw [← l0]
    simp only [q2_0, q2_1, q2_2, q2_5, q2_8, q2_9, q2_10, q2_11, q2_13, q2_14, q2_18, q2_19, q2_22, q2_25, q2_26, q2_28, q2_31, q2_34, q2_35, q2_37, q2_40, q2_41, q2_44, q2_45, q2_48, q2_51, q2_53, q2_54, q2_55, q2_56, q2_57, q2_58, q2_59, q2_60, q2_62, q2_63, q2_64, q2_67, q2_68, q2_70, q2_73, q2_76, q2_78, zrk_127, zrk_130, zrk_28, kI_app, kJ_app, kP_app, kV_app, kS_app, kC_app, kN_app, kM_app, zsw_cons, zsw_nil, lv_args_I, lv_args_R, lv_args_L, lv_args_nil, zlook_cons, zrI_some, zrJ_some, zrP_some, zrC_some, zrA_rw, zrAS_rw, zrLen_rw, zst1_nil, zst1_cI, zst1_cR, zst1_cL, zrm1_nil, zrm1_cI, zrm1_cR, zrm1_cL, zst2_nil, zst2_cI, zst2_cR, zst2_cL, zrm2_nil, zrm2_cI, zrm2_cR, zrm2_cL, zkeep_nil, zkeep_cons, zsum_nil, zsum_I, zsum_R, zsum_L, zsum_N, toL_s, toL_n, List.cons_append, List.nil_append, List.mem_cons, List.not_mem_nil, reduceCtorEq, Nat.reduceAdd, Nat.reduceLT, Nat.reduceLeDiff, Nat.reduceEqDiff, Nat.zero_ne_one, Nat.one_ne_zero, Nat.add_zero, Nat.zero_add, or_false, false_or, or_true, true_or, and_true, true_and, and_self, ↓reduceIte, Nat.succ_ne_self, Nat.reduceGT, Nat.reduceSub, Nat.le_refl, Nat.zero_le, zis_O, cl_is, clG_0, clG_1, clG_2, clG_3, clG_4, clG_5, clG_6, clS_6, clG_7, clG_8, clG_9, clS_9, clG_10, clG_11, clS_11, clG_12, clS_12, clG_13, clS_13, clG_14, clS_14, clG_15, clS_15, clG_16, clG_17, clS_17, od_is, odG_0, odG_1, odS_1, odG_2, odG_3, odS_3, odG_4, re_is, reG_0, reS_0, reG_1, reG_2, reG_3, reS_3, reG_4, reS_4, reG_5, reS_5, reG_6, reS_6, wo_is, woG_0, woG_1, woG_2, woS_2, woG_3, lm_is, lmG_0, lmG_1, lmG_2, lmG_3, lmG_4, lmG_5, lmG_6, lmG_7, lmG_8, lmS_8, lmG_9, lmS_9, lmG_10, lmS_10, lmG_11, lmS_11, lmG_12, lmS_12, mo_is, moG_0, moG_1, moG_2, moG_3, moG_4, moG_5, moS_5, moG_6, moS_6, moG_7, moS_7, moG_8, moG_9, moS_9, moG_10, moS_10, moG_11, moS_11, moG_12, moS_12, moG_13, moS_13, moG_14, moG_15, moS_15, moG_16, moG_17, moS_17, moG_18, moG_19, moG_20, i32ne0, i32ne1, i32ne2, i32ne3, i32ne4, i32ne5, i32ne6, i32ne7, i32ne8, i32ne9, i32ne10, j64ne, Int32.reduceAdd, Int32.reduceSub, Int32.reduceMul, Int32.reduceLT, Int32.reduceOfNat, Int32.reduceToNatClampNeg, cU_at, Nat.reduceMul, Nat.reduceMod, catR, catI, cV_self, cU_self, hg0, hg1, hg2, hg3, hg4, hg5, hg6, hg7, hg8, hg9, hg10, hg11, hg12, hg13, hg14, hg15, hg16, hg17, hg18, hg19, hg20, hg21, hg22, hg23, hg24, hg25, hg26, hg27, hg28, hg29, hg30, hg31, hg32, hg33, hg34, hg35, hg36, hg37, hg38, hg39, hg40, hg41, hg42, hg43, hg44, hg45, hg46, hg47, hg48, hg49, hg50, hg51, hg52, hg53, hg54, hg55, hg56, hg57, hg58, hg59, hg60, hg61, hg62, hg63, hg64, hg65, hg66, hg67, hg68, hg69, hg70, hg71, hg72, hg73, hg1001, hg1002, hg1003, hg1000, hg2000, hs0, hs8, hs9, hs10, hs11, hs12, hs13, hs14, hs15, hs16, hs17, hs18, hs19, hs20, hs21, hs22, hs23, hs24, hs25, hs26, hs27, hs29, hs30, hs31, hs32, hs33, hs34, hs35, hs36, hs37, hs38, hs39, hs40, hs41, hs42, hs43, hs44, hs45, hs46, hs47, hs48, hs49, hs50, hs51, hs52, hs53, hs54, hs55, hs56, hs57, hs59, hs60, hs61, hs62, hs63, hs64, hs65, hs66, hs67, hs68, hs69, hs70, hs71, hs72, hs73, hw8, hw18, hw29, hw39, c5, ci, if_true]
theorem sp_1 (q : SInv s) {A : Nat → Nat → Int32} {L : Nat → Nat → Int64} (h : CInv A L s) : rm ro 1 [.ref 58, .ref 8] (hp A L) = some (some (.int (iZ (stA (s 0)).1)), hp A L) := by
  have r := sp_2 (ro := ro) q h (s 0 5) 0 0 (by omega) rfl
  have zk := zrk2 0 0 (by omega)
  rw [show uP (s 0 0) 0 0 = 0 from rfl, show iZ ((0 : Nat) : Int) = 0 from rfl, Nat.zero_mul] at r
  rw [show iZ ((0 : Nat) : Int) = 0 from rfl] at zk
  have zl : zrk 2 [.ref 58, .ref 8, .int 0, .int 0] < 18 := by
    rw [zk]
    decide
  show rn ro 18 1 0 (lv_args 0 [.ref 58, .ref 8]) [] (hp A L) = _
  unfold stA
  rw [GS_1, Nat.zero_add, show fld (cS (s 0)) 0 (s 0 0 ^ s 0 5) 0 = cSN (s 0) 0 (s 0 0 ^ s 0 5) from rfl]
  simp only [q1_0, q1_1, q1_2, q1_3, q1_4, q1_7, kI_app, kJ_app, kP_app, kV_app, kS_app, kC_app, kN_app, kM_app, zsw_cons, zsw_nil, lv_args_I, lv_args_R, lv_args_L, lv_args_nil, zlook_cons, zrI_some, zrJ_some, zrP_some, zrC_some, zrA_rw, zrAS_rw, zrLen_rw, zst1_nil, zst1_cI, zst1_cR, zst1_cL, zrm1_nil, zrm1_cI, zrm1_cR, zrm1_cL, zst2_nil, zst2_cI, zst2_cR, zst2_cL, zrm2_nil, zrm2_cI, zrm2_cR, zrm2_cL, zkeep_nil, zkeep_cons, zsum_nil, zsum_I, zsum_R, zsum_L, zsum_N, toL_s, toL_n, List.cons_append, List.nil_append, List.mem_cons, List.not_mem_nil, reduceCtorEq, Nat.reduceAdd, Nat.reduceLT, Nat.reduceLeDiff, Nat.reduceEqDiff, Nat.zero_ne_one, Nat.one_ne_zero, Nat.add_zero, Nat.zero_add, or_false, false_or, or_true, true_or, and_true, true_and, and_self, ↓reduceIte, Nat.succ_ne_self, Nat.reduceGT, Nat.reduceSub, Nat.le_refl, Nat.zero_le, zis_O, cl_is, clG_0, clG_1, clG_2, clG_3, clG_4, clG_5, clG_6, clS_6, clG_7, clG_8, clG_9, clS_9, clG_10, clG_11, clS_11, clG_12, clS_12, clG_13, clS_13, clG_14, clS_14, clG_15, clS_15, clG_16, clG_17, clS_17, od_is, odG_0, odG_1, odS_1, odG_2, odG_3, odS_3, odG_4, re_is, reG_0, reS_0, reG_1, reG_2, reG_3, reS_3, reG_4, reS_4, reG_5, reS_5, reG_6, reS_6, wo_is, woG_0, woG_1, woG_2, woS_2, woG_3, lm_is, lmG_0, lmG_1, lmG_2, lmG_3, lmG_4, lmG_5, lmG_6, lmG_7, lmG_8, lmS_8, lmG_9, lmS_9, lmG_10, lmS_10, lmG_11, lmS_11, lmG_12, lmS_12, mo_is, moG_0, moG_1, moG_2, moG_3, moG_4, moG_5, moS_5, moG_6, moS_6, moG_7, moS_7, moG_8, moG_9, moS_9, moG_10, moS_10, moG_11, moS_11, moG_12, moS_12, moG_13, moS_13, moG_14, moG_15, moS_15, moG_16, moG_17, moS_17, moG_18, moG_19, moG_20, i32ne0, i32ne1, i32ne2, i32ne3, i32ne4, i32ne5, i32ne6, i32ne7, i32ne8, i32ne9, i32ne10, j64ne, Int32.reduceAdd, Int32.reduceSub, Int32.reduceMul, Int32.reduceLT, Int32.reduceOfNat, Int32.reduceToNatClampNeg, cU_at, Nat.reduceMul, Nat.reduceMod, catR, catI, cV_self, cU_self, hg0, hg1, hg2, hg3, hg4, hg5, hg6, hg7, hg8, hg9, hg10, hg11, hg12, hg13, hg14, hg15, hg16, hg17, hg18, hg19, hg20, hg21, hg22, hg23, hg24, hg25, hg26, hg27, hg28, hg29, hg30, hg31, hg32, hg33, hg34, hg35, hg36, hg37, hg38, hg39, hg40, hg41, hg42, hg43, hg44, hg45, hg46, hg47, hg48, hg49, hg50, hg51, hg52, hg53, hg54, hg55, hg56, hg57, hg58, hg59, hg60, hg61, hg62, hg63, hg64, hg65, hg66, hg67, hg68, hg69, hg70, hg71, hg72, hg73, hg1001, hg1002, hg1003, hg1000, hg2000, hs0, hs8, hs9, hs10, hs11, hs12, hs13, hs14, hs15, hs16, hs17, hs18, hs19, hs20, hs21, hs22, hs23, hs24, hs25, hs26, hs27, hs29, hs30, hs31, hs32, hs33, hs34, hs35, hs36, hs37, hs38, hs39, hs40, hs41, hs42, hs43, hs44, hs45, hs46, hs47, hs48, hs49, hs50, hs51, hs52, hs53, hs54, hs55, hs56, hs57, hs59, hs60, hs61, hs62, hs63, hs64, hs65, hs66, hs67, hs68, hs69, hs70, hs71, hs72, hs73, hw8, hw18, hw29, hw39, zl, r, show zisO (some (Sum.inr (0, []))) 0 = true from rfl]
end STU
