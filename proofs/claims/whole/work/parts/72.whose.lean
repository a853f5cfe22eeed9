/-! WHOSE MATCH FIRST: numbers -/
def nl (a : Nat → Nat) : Nat := a 0 - a 1
def wQ (a : Nat → Nat) (k d : Nat) : Nat := 100 - pN a (a 1 + d) (a 3 + k) (a 2)
def wF (a : Nat → Nat) : Nat → Nat → Nat
  | 0, _ => 1
  | i + 1, p => wF a i (p / nl a) * wQ a i (p % nl a)
def GW (a : Nat → Nat) (c : Nat) (x : Nat × (Nat → Nat)) : Nat × (Nat → Nat) := if uP (nl a) (nl a) c = 2 ^ nl a - 1 ∧ wF a (nl a) c < x.1 then (wF a (nl a) c, rP (nl a) (nl a) c) else x
def lfN (a : Nat → Nat) (w : Nat) : Nat := if w ≤ 100 ^ nl a then sc (nl a) * w else 100000000000001
def Bst (A : Nat → Nat → Int32) (L : Nat → Nat → Int64) (a : Nat → Nat) (x : Nat × (Nat → Nat)) : Prop := L 50 3 = jZ ((lfN a x.1 : Nat) : Int) ∧ (x.1 ≤ 100 ^ nl a → ∀ k, k < nl a → A 51 k = iZ ((a 1 + x.2 k : Nat) : Int))
section WHN
variable {a : Nat → Nat}
theorem nl_le (g : Good a) : nl a ≤ 6 := by
  have := g.n0
  unfold nl
  omega
theorem wF_s {p m : Nat} (h : m < nl a) (i : Nat) : wF a (i + 1) (p * nl a + m) = wF a i p * wQ a i m := by
  show wF a i ((p * nl a + m) / nl a) * wQ a i ((p * nl a + m) % nl a) = _
  rw [(dgd h).1, (dgd h).2]
theorem wF_le : ∀ i p, wF a i p ≤ 100 ^ i
  | 0, _ => Nat.le_refl 1
  | i + 1, p => by
    show wF a i (p / nl a) * wQ a i (p % nl a) ≤ 100 ^ (i + 1)
    rw [Nat.pow_succ]
    exact Nat.mul_le_mul (wF_le i (p / nl a)) (Nat.sub_le _ _)
theorem GW_no {c : Nat} {x : Nat × (Nat → Nat)} (h : ¬ dst (nl a) (nl a) c) : GW a c x = x := if_neg (fun z => h (lays_iff.mp z.1))
theorem GW_blk {i j p : Nat} {x : Nat × (Nat → Nat)} (hi : i + j = nl a) (h : ¬ dst (nl a) i p) : fld (GW a) (p * nl a ^ j) (nl a ^ j) x = x := by
  refine fld_same _ fun r hr => GW_no fun z => h ?_
  have z' : dst (nl a) (i + j) (p * nl a ^ j + r) := by
    rw [hi]
    exact z
  have y := dst_pre j i _ z'
  rwa [blk_in hr] at y
theorem GW_st (c : Nat) (x : Nat × (Nat → Nat)) : (GW a c x).1 ≤ x.1 := by
  unfold GW
  split
  · rename_i z
    exact Nat.le_of_lt z.2
  · exact Nat.le_refl _
theorem GW_at {c : Nat} (h : dst (nl a) (nl a) c) (x : Nat × (Nat → Nat)) : (GW a c x).1 ≤ wF a (nl a) c := by
  unfold GW
  split
  · exact Nat.le_refl _
  · rename_i y
    have w : ¬ wF a (nl a) c < x.1 := fun w => y ⟨lays_iff.mpr h, w⟩
    omega
theorem GW_le (lo : Nat) (x : Nat × (Nat → Nat)) : ∀ k, (fld (GW a) lo k x).1 ≤ x.1
  | 0 => Nat.le_refl _
  | k + 1 => Nat.le_trans (GW_st (lo + k) (fld (GW a) lo k x)) (GW_le lo x k)
theorem GW_min {c : Nat} (h : dst (nl a) (nl a) c) (x : Nat × (Nat → Nat)) : ∀ k, c < k → (fld (GW a) 0 k x).1 ≤ wF a (nl a) c
  | 0, z => absurd z (Nat.not_lt_zero c)
  | k + 1, z => by
    show (GW a (0 + k) (fld (GW a) 0 k x)).1 ≤ _
    by_cases e : c = 0 + k
    · rw [← e]
      exact GW_at h _
    · exact Nat.le_trans (GW_st _ _) (GW_min h x k (by omega))
def whA (a : Nat → Nat) : Nat × (Nat → Nat) := fld (GW a) 0 (nl a ^ nl a) (100 ^ nl a + 1, fun _ => 0)
theorem whA_le : (whA a).1 ≤ 100 ^ nl a := by
  obtain ⟨h1, h2, -⟩ := idc_ok (B := nl a) (nl a) (Nat.le_refl _)
  exact Nat.le_trans (GW_min h2 _ _ h1) (wF_le _ _)
theorem lf_lt (g : Good a) {w x : Nat} (hw : w ≤ 100 ^ nl a) : (sc (nl a) * w < lfN a x) = (w < x) := by
  have n6 := nl_le g
  have m := sc_m (nl a) (by omega)
  have p := sc_p (nl a) (by omega)
  unfold lfN
  split
  · exact propext ⟨fun z => Nat.lt_of_mul_lt_mul_left z, fun z => Nat.mul_lt_mul_of_pos_left z p⟩
  · have : sc (nl a) * w ≤ sc (nl a) * 100 ^ nl a := Nat.mul_le_mul_left _ hw
    exact propext ⟨fun _ => by omega, fun _ => by omega⟩
theorem lf_le (g : Good a) (x : Nat) : lfN a x ≤ 100000000000001 := by
  have n6 := nl_le g
  have m := sc_m (nl a) (by omega)
  unfold lfN
  split
  · rename_i h
    have : sc (nl a) * x ≤ sc (nl a) * 100 ^ nl a := Nat.mul_le_mul_left _ h
    omega
  · omega
end WHN
section WHC
variable {ro : zR} {s : Nat → Nat → Nat}
theorem zrk52 (i : Nat) (u : Int32) (f : Int64) (hi : i ≤ 7) : zrk 52 [.ref 50, .ref 8, .int (iZ i), .int u, .long f] = 5 + (10 - i) := by
  show zrk0 52 + (if zrec 52 = true then 10 - (iZ (i : Int)).toNatClampNeg else 0) = _
  rw [iZ_ix (by omega)]
  rfl
def WOut (A : Nat → Nat → Int32) (L : Nat → Nat → Int64) (s : Nat → Nat → Nat) (i : Nat) (x : Nat × (Nat → Nat)) (A' : Nat → Nat → Int32) (L' : Nat → Nat → Int64) : Prop := (∀ k, k ≠ 51 → k ≠ 52 → A' k = A k) ∧ (∀ k, k ≠ 50 → L' k = L k) ∧ (∀ k, k < i → A' 52 k = A 52 k) ∧ Bst A' L' (s 0) x
theorem WOut.inv {A A' : Nat → Nat → Int32} {L L' : Nat → Nat → Int64} {i : Nat} {x : Nat × (Nat → Nat)} (o : WOut A L s i x A' L') (h : CInv A L s) : CInv A' L' s := h.scr (fun k hk => o.1 k (by omega) (by omega)) (o.2.1 0 (by decide))
theorem sp_52 (q : SInv s) : ∀ j i p : Nat, i + j = nl (s 0) → dst (nl (s 0)) i p → ∀ (A : Nat → Nat → Int32) (L : Nat → Nat → Int64) (x : Nat × (Nat → Nat)), CInv A L s → (∀ k, k < i → A 52 k = iZ ((s 0 1 + rP (nl (s 0)) i p k : Nat) : Int)) → Bst A L (s 0) x → ∃ A' L', rm ro 52 [.ref 50, .ref 8, .int (iZ i), .int (iZ (uQ (s 0 1) (nl (s 0)) i p)), .long (jZ ((sc i * wF (s 0) i p : Nat) : Int))] (hp A L) = some (none, hp A' L') ∧ WOut A L s i (fld (GW (s 0)) (p * nl (s 0) ^ j) (nl (s 0) ^ j) x) A' L' := by
  have n0 := q.1.n0
  have n1 := q.1.n1
  have n2 := q.1.n2
  have n3 := q.1.n3
  have n6 := nl_le q.1
  have en : (nl (s 0) : Int) = (s 0 0 : Int) - s 0 1 := by
    unfold nl
    omega
  intro j
  induction j with
  | zero =>
    intro i p hi hd A L x h hrow hb
    have ei : i = nl (s 0) := by omega
    subst ei
    have c0 : A 8 6 = iZ (s 0 0) := h.1.c0
    have c1 : A 8 14 = iZ (s 0 1) := h.1.c1
    have lf := sp_left (ro := ro) (hc8 A L)
    rw [show A (8 + 0) 6 = iZ (s 0 0) from h.1.c0, show A (8 + 0) 14 = iZ (s 0 1) from h.1.c1, iZ_sub, ← en] at lf
    have wl := wF_le (a := s 0) (nl (s 0)) p
    have ml := sc_m (nl (s 0)) (by omega)
    have fl : sc (nl (s 0)) * wF (s 0) (nl (s 0)) p ≤ 100000000000000 := by
      rw [← ml]
      exact Nat.mul_le_mul_left _ wl
    have ll := lf_le q.1 x.1
    have b1 : L 50 3 = jZ ((lfN (s 0) x.1 : Nat) : Int) := hb.1
    have cmp : (jZ ((sc (nl (s 0)) * wF (s 0) (nl (s 0)) p : Nat) : Int) < jZ ((lfN (s 0) x.1 : Nat) : Int)) = (wF (s 0) (nl (s 0)) p < x.1) := by
      rw [jZ_lt (by omega), ← lf_lt q.1 wl]
      exact propext ⟨fun z => by omega, fun z => by omega⟩
    have d0 : 1 < 5 + (10 - nl (s 0)) := by omega
    have ef : fld (GW (s 0)) (p * nl (s 0) ^ 0) (nl (s 0) ^ 0) x = if wF (s 0) (nl (s 0)) p < x.1 then (wF (s 0) (nl (s 0)) p, rP (nl (s 0)) (nl (s 0)) p) else x := by
      show GW (s 0) (p * nl (s 0) ^ 0 + 0) x = _
      rw [Nat.pow_zero, Nat.mul_one, Nat.add_zero]
      unfold GW
      by_cases z : wF (s 0) (nl (s 0)) p < x.1
      · rw [if_pos ⟨lays_iff.mpr hd, z⟩, if_pos z]
      · rw [if_neg (fun y => z y.2), if_neg z]
    rw [ef]
    unfold rm
    rw [zrk52 _ _ _ (by omega)]
    by_cases z : wF (s 0) (nl (s 0)) p < x.1
    · rw [if_pos z]
      have cp := sp_copyRow (ro := ro) (σ := hp A (cV L 50 (vp_updL (L 50) 3 (jZ ((sc (nl (s 0)) * wF (s 0) (nl (s 0)) p : Nat) : Int))))) (s := 52) (t := 51) (n := 6) rfl rfl (by decide)
      refine ⟨cU A 51 (va_cpy (A 52) (A 51) 0 0 6), cV L 50 (vp_updL (L 50) 3 (jZ ((sc (nl (s 0)) * wF (s 0) (nl (s 0)) p : Nat) : Int))), ?_, fun k h1 h2 => cU_n h1, fun k h1 => cU_nL h1, fun k _ => rfl, ?_, ?_⟩
      · simp only [q52_0, q52_1, q52_2, q52_5, q52_8, q52_10, q52_11, q52_14, q52_15, q52_18, q52_19, q52_21, q52_24, q52_25, q52_28, q52_29, q52_32, q52_35, q52_36, q52_37, q52_38, q52_41, q52_44, q52_46, q52_47, q52_50, q52_54, q52_55, q52_58, q52_61, q52_62, q52_64, q52_67, q52_70, q52_71, q52_74, q52_75, q52_77, q52_80, q52_82, q52_83, q52_85, q52_86, q52_89, q52_90, q52_91, q52_92, q52_95, q52_98, q52_100, q52_101, q52_102, q52_104, q52_105, q52_106, q52_107, q52_108, q52_109, q52_110, q52_111, q52_113, q52_114, q52_115, q52_117, q52_120, q52_121, q52_123, q52_124, q52_125, q52_128, q52_131, q52_134, zrk_128, zrk_129, zrk_130, zrk_22, zrk_24, zrk_25, zrk_27, kI_app, kJ_app, kP_app, kV_app, kS_app, kC_app, kN_app, kM_app, zsw_cons, zsw_nil, lv_args_I, lv_args_R, lv_args_L, lv_args_nil, zlook_cons, zrI_some, zrJ_some, zrP_some, zrC_some, zrA_rw, zrAS_rw, zrLen_rw, zst1_nil, zst1_cI, zst1_cR, zst1_cL, zrm1_nil, zrm1_cI, zrm1_cR, zrm1_cL, zst2_nil, zst2_cI, zst2_cR, zst2_cL, zrm2_nil, zrm2_cI, zrm2_cR, zrm2_cL, zkeep_nil, zkeep_cons, zsum_nil, zsum_I, zsum_R, zsum_L, zsum_N, toL_s, toL_n, List.cons_append, List.nil_append, List.mem_cons, List.not_mem_nil, reduceCtorEq, Nat.reduceAdd, Nat.reduceLT, Nat.reduceLeDiff, Nat.reduceEqDiff, Nat.zero_ne_one, Nat.one_ne_zero, Nat.add_zero, Nat.zero_add, or_false, false_or, or_true, true_or, and_true, true_and, and_self, ↓reduceIte, Nat.succ_ne_self, Nat.reduceGT, Nat.reduceSub, Nat.le_refl, Nat.zero_le, zis_O, cl_is, clG_0, clG_1, clG_2, clG_3, clG_4, clG_5, clG_6, clS_6, clG_7, clG_8, clG_9, clS_9, clG_10, clG_11, clS_11, clG_12, clS_12, clG_13, clS_13, clG_14, clS_14, clG_15, clS_15, clG_16, clG_17, clS_17, od_is, odG_0, odG_1, odS_1, odG_2, odG_3, odS_3, odG_4, re_is, reG_0, reS_0, reG_1, reG_2, reG_3, reS_3, reG_4, reS_4, reG_5, reS_5, reG_6, reS_6, wo_is, woG_0, woG_1, woG_2, woS_2, woG_3, lm_is, lmG_0, lmG_1, lmG_2, lmG_3, lmG_4, lmG_5, lmG_6, lmG_7, lmG_8, lmS_8, lmG_9, lmS_9, lmG_10, lmS_10, lmG_11, lmS_11, lmG_12, lmS_12, mo_is, moG_0, moG_1, moG_2, moG_3, moG_4, moG_5, moS_5, moG_6, moS_6, moG_7, moS_7, moG_8, moG_9, moS_9, moG_10, moS_10, moG_11, moS_11, moG_12, moS_12, moG_13, moS_13, moG_14, moG_15, moS_15, moG_16, moG_17, moS_17, moG_18, moG_19, moG_20, i32ne0, i32ne1, i32ne2, i32ne3, i32ne4, i32ne5, i32ne6, i32ne7, i32ne8, i32ne9, i32ne10, j64ne, Int32.reduceAdd, Int32.reduceSub, Int32.reduceMul, Int32.reduceLT, Int32.reduceOfNat, Int32.reduceToNatClampNeg, cU_at, Nat.reduceMul, Nat.reduceMod, catR, catI, cV_self, cU_self, hg0, hg1, hg2, hg3, hg4, hg5, hg6, hg7, hg8, hg9, hg10, hg11, hg12, hg13, hg14, hg15, hg16, hg17, hg18, hg19, hg20, hg21, hg22, hg23, hg24, hg25, hg26, hg27, hg28, hg29, hg30, hg31, hg32, hg33, hg34, hg35, hg36, hg37, hg38, hg39, hg40, hg41, hg42, hg43, hg44, hg45, hg46, hg47, hg48, hg49, hg50, hg51, hg52, hg53, hg54, hg55, hg56, hg57, hg58, hg59, hg60, hg61, hg62, hg63, hg64, hg65, hg66, hg67, hg68, hg69, hg70, hg71, hg72, hg73, hg1001, hg1002, hg1003, hg1000, hg2000, hs0, hs8, hs9, hs10, hs11, hs12, hs13, hs14, hs15, hs16, hs17, hs18, hs19, hs20, hs21, hs22, hs23, hs24, hs25, hs26, hs27, hs29, hs30, hs31, hs32, hs33, hs34, hs35, hs36, hs37, hs38, hs39, hs40, hs41, hs42, hs43, hs44, hs45, hs46, hs47, hs48, hs49, hs50, hs51, hs52, hs53, hs54, hs55, hs56, hs57, hs59, hs60, hs61, hs62, hs63, hs64, hs65, hs66, hs67, hs68, hs69, hs70, hs71, hs72, hs73, hw8, hw18, hw29, hw39, d0, lf, Int32.lt_irrefl, if_false, b1, lg_cmp_n, cmp, z, if_true, cp]
      · show jZ _ = _
        unfold lfN
        rw [if_pos wl]
      · intro _ k hk
        rw [← hrow k hk]
        show (if 0 ≤ k ∧ k < 0 + 6 then A 52 (0 + (k - 0)) else A 51 k) = A 52 k
        rw [if_pos (by omega)]
        congr 1
        omega
    · rw [if_neg z]
      refine ⟨A, L, ?_, fun k _ _ => rfl, fun k _ => rfl, fun k _ => rfl, hb⟩
      simp only [q52_0, q52_1, q52_2, q52_5, q52_8, q52_10, q52_11, q52_14, q52_15, q52_18, q52_19, q52_21, q52_24, q52_25, q52_28, q52_29, q52_32, q52_35, q52_36, q52_37, q52_38, q52_41, q52_44, q52_46, q52_47, q52_50, q52_54, q52_55, q52_58, q52_61, q52_62, q52_64, q52_67, q52_70, q52_71, q52_74, q52_75, q52_77, q52_80, q52_82, q52_83, q52_85, q52_86, q52_89, q52_90, q52_91, q52_92, q52_95, q52_98, q52_100, q52_101, q52_102, q52_104, q52_105, q52_106, q52_107, q52_108, q52_109, q52_110, q52_111, q52_113, q52_114, q52_115, q52_117, q52_120, q52_121, q52_123, q52_124, q52_125, q52_128, q52_131, q52_134, zrk_128, zrk_129, zrk_130, zrk_22, zrk_24, zrk_25, zrk_27, kI_app, kJ_app, kP_app, kV_app, kS_app, kC_app, kN_app, kM_app, zsw_cons, zsw_nil, lv_args_I, lv_args_R, lv_args_L, lv_args_nil, zlook_cons, zrI_some, zrJ_some, zrP_some, zrC_some, zrA_rw, zrAS_rw, zrLen_rw, zst1_nil, zst1_cI, zst1_cR, zst1_cL, zrm1_nil, zrm1_cI, zrm1_cR, zrm1_cL, zst2_nil, zst2_cI, zst2_cR, zst2_cL, zrm2_nil, zrm2_cI, zrm2_cR, zrm2_cL, zkeep_nil, zkeep_cons, zsum_nil, zsum_I, zsum_R, zsum_L, zsum_N, toL_s, toL_n, List.cons_append, List.nil_append, List.mem_cons, List.not_mem_nil, reduceCtorEq, Nat.reduceAdd, Nat.reduceLT, Nat.reduceLeDiff, Nat.reduceEqDiff, Nat.zero_ne_one, Nat.one_ne_zero, Nat.add_zero, Nat.zero_add, or_false, false_or, or_true, true_or, and_true, true_and, and_self, ↓reduceIte, Nat.succ_ne_self, Nat.reduceGT, Nat.reduceSub, Nat.le_refl, Nat.zero_le, zis_O, cl_is, clG_0, clG_1, clG_2, clG_3, clG_4, clG_5, clG_6, clS_6, clG_7, clG_8, clG_9, clS_9, clG_10, clG_11, clS_11, clG_12, clS_12, clG_13, clS_13, clG_14, clS_14, clG_15, clS_15, clG_16, clG_17, clS_17, od_is, odG_0, odG_1, odS_1, odG_2, odG_3, odS_3, odG_4, re_is, reG_0, reS_0, reG_1, reG_2, reG_3, reS_3, reG_4, reS_4, reG_5, reS_5, reG_6, reS_6, wo_is, woG_0, woG_1, woG_2, woS_2, woG_3, lm_is, lmG_0, lmG_1, lmG_2, lmG_3, lmG_4, lmG_5, lmG_6, lmG_7, lmG_8, lmS_8, lmG_9, lmS_9, lmG_10, lmS_10, lmG_11, lmS_11, lmG_12, lmS_12, mo_is, moG_0, moG_1, moG_2, moG_3, moG_4, moG_5, moS_5, moG_6, moS_6, moG_7, moS_7, moG_8, moG_9, moS_9, moG_10, moS_10, moG_11, moS_11, moG_12, moS_12, moG_13, moS_13, moG_14, moG_15, moS_15, moG_16, moG_17, moS_17, moG_18, moG_19, moG_20, i32ne0, i32ne1, i32ne2, i32ne3, i32ne4, i32ne5, i32ne6, i32ne7, i32ne8, i32ne9, i32ne10, j64ne, Int32.reduceAdd, Int32.reduceSub, Int32.reduceMul, Int32.reduceLT, Int32.reduceOfNat, Int32.reduceToNatClampNeg, cU_at, Nat.reduceMul, Nat.reduceMod, catR, catI, cV_self, cU_self, hg0, hg1, hg2, hg3, hg4, hg5, hg6, hg7, hg8, hg9, hg10, hg11, hg12, hg13, hg14, hg15, hg16, hg17, hg18, hg19, hg20, hg21, hg22, hg23, hg24, hg25, hg26, hg27, hg28, hg29, hg30, hg31, hg32, hg33, hg34, hg35, hg36, hg37, hg38, hg39, hg40, hg41, hg42, hg43, hg44, hg45, hg46, hg47, hg48, hg49, hg50, hg51, hg52, hg53, hg54, hg55, hg56, hg57, hg58, hg59, hg60, hg61, hg62, hg63, hg64, hg65, hg66, hg67, hg68, hg69, hg70, hg71, hg72, hg73, hg1001, hg1002, hg1003, hg1000, hg2000, hs0, hs8, hs9, hs10, hs11, hs12, hs13, hs14, hs15, hs16, hs17, hs18, hs19, hs20, hs21, hs22, hs23, hs24, hs25, hs26, hs27, hs29, hs30, hs31, hs32, hs33, hs34, hs35, hs36, hs37, hs38, hs39, hs40, hs41, hs42, hs43, hs44, hs45, hs46, hs47, hs48, hs49, hs50, hs51, hs52, hs53, hs54, hs55, hs56, hs57, hs59, hs60, hs61, hs62, hs63, hs64, hs65, hs66, hs67, hs68, hs69, hs70, hs71, hs72, hs73, hw8, hw18, hw29, hw39, d0, lf, Int32.lt_irrefl, if_false, b1, lg_cmp_n, cmp, z]
  | succ j ih =>
    intro i p hi hd A L x h hrow hb
    have hd' : ∃ d, d = 5 + (10 - i) := ⟨_, rfl⟩
    obtain ⟨d, ed⟩ := hd'
    have d1 : 1 < d := by omega
    have d2 : 2 < d := by omega
    have d4 : 4 < d := by omega
    have cli : iZ (i : Int) < iZ ((nl (s 0) : Nat) : Int) := by
      rw [iZ_lt (by omega)]
      omega
    have lp : ∀ k m : Nat, m + k = nl (s 0) → ∀ (A : Nat → Nat → Int32) (L : Nat → Nat → Int64) (x : Nat × (Nat → Nat)), CInv A L s → (∀ k, k < i → A 52 k = iZ ((s 0 1 + rP (nl (s 0)) i p k : Nat) : Int)) → Bst A L (s 0) (fld (GW (s 0)) (p * nl (s 0) ^ (j + 1)) (m * nl (s 0) ^ j) x) → ∃ A' L', rn ro d 52 52 [(0, .ref 50), (1, .ref 8), (2, .int (iZ i)), (3, .int (iZ (uQ (s 0 1) (nl (s 0)) i p))), (4, .long (jZ ((sc i * wF (s 0) i p : Nat) : Int))), (6, .int (iZ (s 0 (12 + s 0 2)))), (7, .int (iZ ((s 0 1 + m : Nat) : Int)))] [] (hp A L) = some (none, hp A' L') ∧ WOut A L s i (fld (GW (s 0)) (p * nl (s 0) ^ (j + 1)) (nl (s 0) ^ (j + 1)) x) A' L' := by
      intro k
      induction k with
      | zero =>
        intro m hm A L x h hrow hb
        have c0 : A 8 6 = iZ (s 0 0) := h.1.c0
        have c : ¬ iZ ((s 0 1 + m : Nat) : Int) < iZ (s 0 0) := by
          rw [iZ_lt (by omega)]
          omega
        refine ⟨A, L, ?_, fun k _ _ => rfl, fun k _ => rfl, fun k _ => rfl, ?_⟩
        · rw [q52_52]
          simp only [q52_0, q52_1, q52_2, q52_5, q52_8, q52_10, q52_11, q52_14, q52_15, q52_18, q52_19, q52_21, q52_24, q52_25, q52_28, q52_29, q52_32, q52_35, q52_36, q52_37, q52_38, q52_41, q52_44, q52_46, q52_47, q52_50, q52_54, q52_55, q52_58, q52_61, q52_62, q52_64, q52_67, q52_70, q52_71, q52_74, q52_75, q52_77, q52_80, q52_82, q52_83, q52_85, q52_86, q52_89, q52_90, q52_91, q52_92, q52_95, q52_98, q52_100, q52_101, q52_102, q52_104, q52_105, q52_106, q52_107, q52_108, q52_109, q52_110, q52_111, q52_113, q52_114, q52_115, q52_117, q52_120, q52_121, q52_123, q52_124, q52_125, q52_128, q52_131, q52_134, zrk_128, zrk_129, zrk_130, zrk_22, zrk_24, zrk_25, zrk_27, kI_app, kJ_app, kP_app, kV_app, kS_app, kC_app, kN_app, kM_app, zsw_cons, zsw_nil, lv_args_I, lv_args_R, lv_args_L, lv_args_nil, zlook_cons, zrI_some, zrJ_some, zrP_some, zrC_some, zrA_rw, zrAS_rw, zrLen_rw, zst1_nil, zst1_cI, zst1_cR, zst1_cL, zrm1_nil, zrm1_cI, zrm1_cR, zrm1_cL, zst2_nil, zst2_cI, zst2_cR, zst2_cL, zrm2_nil, zrm2_cI, zrm2_cR, zrm2_cL, zkeep_nil, zkeep_cons, zsum_nil, zsum_I, zsum_R, zsum_L, zsum_N, toL_s, toL_n, List.cons_append, List.nil_append, List.mem_cons, List.not_mem_nil, reduceCtorEq, Nat.reduceAdd, Nat.reduceLT, Nat.reduceLeDiff, Nat.reduceEqDiff, Nat.zero_ne_one, Nat.one_ne_zero, Nat.add_zero, Nat.zero_add, or_false, false_or, or_true, true_or, and_true, true_and, and_self, ↓reduceIte, Nat.succ_ne_self, Nat.reduceGT, Nat.reduceSub, Nat.le_refl, Nat.zero_le, zis_O, cl_is, clG_0, clG_1, clG_2, clG_3, clG_4, clG_5, clG_6, clS_6, clG_7, clG_8, clG_9, clS_9, clG_10, clG_11, clS_11, clG_12, clS_12, clG_13, clS_13, clG_14, clS_14, clG_15, clS_15, clG_16, clG_17, clS_17, od_is, odG_0, odG_1, odS_1, odG_2, odG_3, odS_3, odG_4, re_is, reG_0, reS_0, reG_1, reG_2, reG_3, reS_3, reG_4, reS_4, reG_5, reS_5, reG_6, reS_6, wo_is, woG_0, woG_1, woG_2, woS_2, woG_3, lm_is, lmG_0, lmG_1, lmG_2, lmG_3, lmG_4, lmG_5, lmG_6, lmG_7, lmG_8, lmS_8, lmG_9, lmS_9, lmG_10, lmS_10, lmG_11, lmS_11, lmG_12, lmS_12, mo_is, moG_0, moG_1, moG_2, moG_3, moG_4, moG_5, moS_5, moG_6, moS_6, moG_7, moS_7, moG_8, moG_9, moS_9, moG_10, moS_10, moG_11, moS_11, moG_12, moS_12, moG_13, moS_13, moG_14, moG_15, moS_15, moG_16, moG_17, moS_17, moG_18, moG_19, moG_20, i32ne0, i32ne1, i32ne2, i32ne3, i32ne4, i32ne5, i32ne6, i32ne7, i32ne8, i32ne9, i32ne10, j64ne, Int32.reduceAdd, Int32.reduceSub, Int32.reduceMul, Int32.reduceLT, Int32.reduceOfNat, Int32.reduceToNatClampNeg, cU_at, Nat.reduceMul, Nat.reduceMod, catR, catI, cV_self, cU_self, hg0, hg1, hg2, hg3, hg4, hg5, hg6, hg7, hg8, hg9, hg10, hg11, hg12, hg13, hg14, hg15, hg16, hg17, hg18, hg19, hg20, hg21, hg22, hg23, hg24, hg25, hg26, hg27, hg28, hg29, hg30, hg31, hg32, hg33, hg34, hg35, hg36, hg37, hg38, hg39, hg40, hg41, hg42, hg43, hg44, hg45, hg46, hg47, hg48, hg49, hg50, hg51, hg52, hg53, hg54, hg55, hg56, hg57, hg58, hg59, hg60, hg61, hg62, hg63, hg64, hg65, hg66, hg67, hg68, hg69, hg70, hg71, hg72, hg73, hg1001, hg1002, hg1003, hg1000, hg2000, hs0, hs8, hs9, hs10, hs11, hs12, hs13, hs14, hs15, hs16, hs17, hs18, hs19, hs20, hs21, hs22, hs23, hs24, hs25, hs26, hs27, hs29, hs30, hs31, hs32, hs33, hs34, hs35, hs36, hs37, hs38, hs39, hs40, hs41, hs42, hs43, hs44, hs45, hs46, hs47, hs48, hs49, hs50, hs51, hs52, hs53, hs54, hs55, hs56, hs57, hs59, hs60, hs61, hs62, hs63, hs64, hs65, hs66, hs67, hs68, hs69, hs70, hs71, hs72, hs73, hw8, hw18, hw29, hw39, c0, c, if_false]
        · rw [show m = nl (s 0) by omega, Nat.mul_comm (nl (s 0)), ← Nat.pow_succ] at hb
          exact hb
      | succ k ihk =>
        intro m hm A L x h hrow hb
        have c0 : A 8 6 = iZ (s 0 0) := h.1.c0
        have c3 : A 8 13 = iZ (s 0 3) := h.1.c3
        have hm0 : m < nl (s 0) := by omega
        have c : iZ ((s 0 1 + m : Nat) : Int) < iZ (s 0 0) := by
          rw [iZ_lt (by omega)]
          omega
        have u7 := uQ_128 (f := s 0 1) (B := nl (s 0)) (by unfold nl; omega) i p (Or.inr (by omega))
        have bt := iZ_bit (n := uQ (s 0 1) (nl (s 0)) i p) (k := s 0 1 + m) (by omega) (by omega)
        rw [uQ_bit] at bt
        have blk := fld_blk (GW (s 0)) (nl (s 0)) j p m x
        by_cases t : (uP (nl (s 0)) i p).testBit m = true
        · have nd : ¬ dst (nl (s 0)) (i + 1) (p * nl (s 0) + m) := fun z => by
            rw [dst_s hm0, t] at z
            cases z.2
          rw [GW_blk (by omega) nd] at blk
          obtain ⟨A', L', e1, e2⟩ := ihk (m + 1) (by omega) A L x h hrow (by
            rw [blk]
            exact hb)
          refine ⟨A', L', ?_, e2⟩
          rw [← e1, q52_52]
          simp only [q52_0, q52_1, q52_2, q52_5, q52_8, q52_10, q52_11, q52_14, q52_15, q52_18, q52_19, q52_21, q52_24, q52_25, q52_28, q52_29, q52_32, q52_35, q52_36, q52_37, q52_38, q52_41, q52_44, q52_46, q52_47, q52_50, q52_54, q52_55, q52_58, q52_61, q52_62, q52_64, q52_67, q52_70, q52_71, q52_74, q52_75, q52_77, q52_80, q52_82, q52_83, q52_85, q52_86, q52_89, q52_90, q52_91, q52_92, q52_95, q52_98, q52_100, q52_101, q52_102, q52_104, q52_105, q52_106, q52_107, q52_108, q52_109, q52_110, q52_111, q52_113, q52_114, q52_115, q52_117, q52_120, q52_121, q52_123, q52_124, q52_125, q52_128, q52_131, q52_134, zrk_128, zrk_129, zrk_130, zrk_22, zrk_24, zrk_25, zrk_27, kI_app, kJ_app, kP_app, kV_app, kS_app, kC_app, kN_app, kM_app, zsw_cons, zsw_nil, lv_args_I, lv_args_R, lv_args_L, lv_args_nil, zlook_cons, zrI_some, zrJ_some, zrP_some, zrC_some, zrA_rw, zrAS_rw, zrLen_rw, zst1_nil, zst1_cI, zst1_cR, zst1_cL, zrm1_nil, zrm1_cI, zrm1_cR, zrm1_cL, zst2_nil, zst2_cI, zst2_cR, zst2_cL, zrm2_nil, zrm2_cI, zrm2_cR, zrm2_cL, zkeep_nil, zkeep_cons, zsum_nil, zsum_I, zsum_R, zsum_L, zsum_N, toL_s, toL_n, List.cons_append, List.nil_append, List.mem_cons, List.not_mem_nil, reduceCtorEq, Nat.reduceAdd, Nat.reduceLT, Nat.reduceLeDiff, Nat.reduceEqDiff, Nat.zero_ne_one, Nat.one_ne_zero, Nat.add_zero, Nat.zero_add, or_false, false_or, or_true, true_or, and_true, true_and, and_self, ↓reduceIte, Nat.succ_ne_self, Nat.reduceGT, Nat.reduceSub, Nat.le_refl, Nat.zero_le, zis_O, cl_is, clG_0, clG_1, clG_2, clG_3, clG_4, clG_5, clG_6, clS_6, clG_7, clG_8, clG_9, clS_9, clG_10, clG_11, clS_11, clG_12, clS_12, clG_13, clS_13, clG_14, clS_14, clG_15, clS_15, clG_16, clG_17, clS_17, od_is, odG_0, odG_1, odS_1, odG_2, odG_3, odS_3, odG_4, re_is, reG_0, reS_0, reG_1, reG_2, reG_3, reS_3, reG_4, reS_4, reG_5, reS_5, reG_6, reS_6, wo_is, woG_0, woG_1, woG_2, woS_2, woG_3, lm_is, lmG_0, lmG_1, lmG_2, lmG_3, lmG_4, lmG_5, lmG_6, lmG_7, lmG_8, lmS_8, lmG_9, lmS_9, lmG_10, lmS_10, lmG_11, lmS_11, lmG_12, lmS_12, mo_is, moG_0, moG_1, moG_2, moG_3, moG_4, moG_5, moS_5, moG_6, moS_6, moG_7, moS_7, moG_8, moG_9, moS_9, moG_10, moS_10, moG_11, moS_11, moG_12, moS_12, moG_13, moS_13, moG_14, moG_15, moS_15, moG_16, moG_17, moS_17, moG_18, moG_19, moG_20, i32ne0, i32ne1, i32ne2, i32ne3, i32ne4, i32ne5, i32ne6, i32ne7, i32ne8, i32ne9, i32ne10, j64ne, Int32.reduceAdd, Int32.reduceSub, Int32.reduceMul, Int32.reduceLT, Int32.reduceOfNat, Int32.reduceToNatClampNeg, cU_at, Nat.reduceMul, Nat.reduceMod, catR, catI, cV_self, cU_self, hg0, hg1, hg2, hg3, hg4, hg5, hg6, hg7, hg8, hg9, hg10, hg11, hg12, hg13, hg14, hg15, hg16, hg17, hg18, hg19, hg20, hg21, hg22, hg23, hg24, hg25, hg26, hg27, hg28, hg29, hg30, hg31, hg32, hg33, hg34, hg35, hg36, hg37, hg38, hg39, hg40, hg41, hg42, hg43, hg44, hg45, hg46, hg47, hg48, hg49, hg50, hg51, hg52, hg53, hg54, hg55, hg56, hg57, hg58, hg59, hg60, hg61, hg62, hg63, hg64, hg65, hg66, hg67, hg68, hg69, hg70, hg71, hg72, hg73, hg1001, hg1002, hg1003, hg1000, hg2000, hs0, hs8, hs9, hs10, hs11, hs12, hs13, hs14, hs15, hs16, hs17, hs18, hs19, hs20, hs21, hs22, hs23, hs24, hs25, hs26, hs27, hs29, hs30, hs31, hs32, hs33, hs34, hs35, hs36, hs37, hs38, hs39, hs40, hs41, hs42, hs43, hs44, hs45, hs46, hs47, hs48, hs49, hs50, hs51, hs52, hs53, hs54, hs55, hs56, hs57, hs59, hs60, hs61, hs62, hs63, hs64, hs65, hs66, hs67, hs68, hs69, hs70, hs71, hs72, hs73, hw8, hw18, hw29, hw39, c0, c, if_true, d1, sp_isIn, bt, t, z10, if_false, iZ_suc]
          rfl
        · have dd : dst (nl (s 0)) (i + 1) (p * nl (s 0) + m) := (dst_s hm0 i).mpr ⟨hd, tbf.mpr t⟩
          have zu := zup_i (g := A 52) (m := i) (x := iZ ((s 0 1 + m : Nat) : Int)) (show i < 6 ∧ 6 < 2147483648 by omega)
          have pu := sp_putA (ro := ro) (σ := hp A L) (r := 52) (n := 6) (g := A 52) rfl (by decide) (iZ (i : Int)) (iZ ((s 0 1 + m : Nat) : Int))
          rw [zu] at pu
          have h1 : CInv (cU A 52 (upd (A 52) i (iZ ((s 0 1 + m : Nat) : Int)))) L s := h.scr (fun k hk => cU_n (by omega)) rfl
          have wi := sp_wind (ro := ro) (hc8 (cU A 52 (upd (A 52) i (iZ ((s 0 1 + m : Nat) : Int)))) L)
          have l := clL (ro := ro) (hc8 (cU A 52 (upd (A 52) i (iZ ((s 0 1 + m : Nat) : Int)))) L) (hk _ L) h1.1 q.1 (m := s 0 1 + m) (t := s 0 3 + i) (w := s 0 8) (by unfold nl at hm0; omega) (by omega) (by have := q.1.n8; omega)
          rw [show (cU A 52 (upd (A 52) i (iZ ((s 0 1 + m : Nat) : Int)))) (8 + 1) 0 = iZ (s 0 8) from h.1.g (i := 0) (by decide)] at wi
          have e3 : iZ (s 0 3) + iZ (i : Int) = iZ ((s 0 3 + i : Nat) : Int) := by
            rw [iZ_add]
            congr 1
          have pl := pN_le q.1 (m := s 0 1 + m) (t := s 0 3 + i) (r := s 0 2) (by unfold nl at hm0; omega) n2
          have ep : 100 - iZ (lgN (s 0) (s 0 1 + m) (s 0 3 + i) (s 0 8 - s 0 9)) * iZ (s 0 (12 + s 0 2)) = iZ ((wQ (s 0) i m : Nat) : Int) := by
            rw [iZ_mul, ← Int.natCast_mul, show (100 : Int32) = iZ 100 from rfl, iZ_sub]
            congr 1
            unfold wQ
            unfold pN at pl ⊢
            omega
          have el : (iZ ((wQ (s 0) i m : Nat) : Int)).toInt64 = jZ ((wQ (s 0) i m : Nat) : Int) := iZ_l (by unfold wQ; omega)
          have wl := wF_le (a := s 0) i p
          have ml := sc_m i (by omega)
          have fl : sc i * wF (s 0) i p ≤ 100000000000000 := by
            rw [← ml]
            exact Nat.mul_le_mul_left _ wl
          have dv : jZ ((sc i * wF (s 0) i p : Nat) : Int) / 100 = jZ ((sc (i + 1) * wF (s 0) i p : Nat) : Int) := by
            rw [show (100 : Int64) = jZ ((100 : Nat) : Int) from rfl, jZ_divN (by omega) (by decide), sc_s i (by omega), Nat.mul_assoc, Nat.mul_div_cancel_left _ (by decide)]
          have em : jZ ((sc (i + 1) * wF (s 0) i p : Nat) : Int) * jZ ((wQ (s 0) i m : Nat) : Int) = jZ ((sc (i + 1) * wF (s 0) (i + 1) (p * nl (s 0) + m) : Nat) : Int) := by
            rw [jZ_mul, ← Int.natCast_mul, wF_s hm0, Nat.mul_assoc]
          have eu : iZ ((uQ (s 0 1) (nl (s 0)) i p : Nat) : Int) ||| 1 <<< (iZ ((s 0 1 + m : Nat) : Int) &&& 31) = iZ ((uQ (s 0 1) (nl (s 0)) (i + 1) (p * nl (s 0) + m) : Nat) : Int) := by
            rw [iZ_shl1 _ (by omega), iZ_or, uQ_s hm0]
          obtain ⟨A1, L1, r1, r2⟩ := ih (i + 1) (p * nl (s 0) + m) (by omega) dd (cU A 52 (upd (A 52) i (iZ ((s 0 1 + m : Nat) : Int)))) L (fld (GW (s 0)) (p * nl (s 0) ^ (j + 1)) (m * nl (s 0) ^ j) x) h1 (fun k hk => by
            show (if k = i then iZ ((s 0 1 + m : Nat) : Int) else A 52 k) = _
            rw [rP_s hm0]
            by_cases z : k = i
            · rw [if_pos z, if_pos z]
            · rw [if_neg z, if_neg z]
              exact hrow k (by omega)) ⟨hb.1, hb.2⟩
          have zl : zrk 52 [.ref 50, .ref 8, .int (iZ ((i + 1 : Nat) : Int)), .int (iZ ((uQ (s 0 1) (nl (s 0)) (i + 1) (p * nl (s 0) + m) : Nat) : Int)), .long (jZ ((sc (i + 1) * wF (s 0) (i + 1) (p * nl (s 0) + m) : Nat) : Int))] < d := by
            rw [zrk52 _ _ _ (by omega)]
            omega
          rw [← blk] at r2
          obtain ⟨A', L', e1, e2⟩ := ihk (m + 1) (by omega) A1 L1 x (r2.inv h1) (fun k hk => by
            rw [r2.2.2.1 k (by omega)]
            show (if k = i then iZ ((s 0 1 + m : Nat) : Int) else A 52 k) = _
            rw [if_neg (by omega)]
            exact hrow k hk) r2.2.2.2
          refine ⟨A', L', ?_, fun k h1 h2 => (e2.1 k h1 h2).trans ((r2.1 k h1 h2).trans (cU_n h2)), fun k h1 => (e2.2.1 k h1).trans (r2.2.1 k h1), fun k hk => ?_, e2.2.2.2⟩
          · rw [← e1, q52_52]
            simp only [q52_0, q52_1, q52_2, q52_5, q52_8, q52_10, q52_11, q52_14, q52_15, q52_18, q52_19, q52_21, q52_24, q52_25, q52_28, q52_29, q52_32, q52_35, q52_36, q52_37, q52_38, q52_41, q52_44, q52_46, q52_47, q52_50, q52_54, q52_55, q52_58, q52_61, q52_62, q52_64, q52_67, q52_70, q52_71, q52_74, q52_75, q52_77, q52_80, q52_82, q52_83, q52_85, q52_86, q52_89, q52_90, q52_91, q52_92, q52_95, q52_98, q52_100, q52_101, q52_102, q52_104, q52_105, q52_106, q52_107, q52_108, q52_109, q52_110, q52_111, q52_113, q52_114, q52_115, q52_117, q52_120, q52_121, q52_123, q52_124, q52_125, q52_128, q52_131, q52_134, zrk_128, zrk_129, zrk_130, zrk_22, zrk_24, zrk_25, zrk_27, kI_app, kJ_app, kP_app, kV_app, kS_app, kC_app, kN_app, kM_app, zsw_cons, zsw_nil, lv_args_I, lv_args_R, lv_args_L, lv_args_nil, zlook_cons, zrI_some, zrJ_some, zrP_some, zrC_some, zrA_rw, zrAS_rw, zrLen_rw, zst1_nil, zst1_cI, zst1_cR, zst1_cL, zrm1_nil, zrm1_cI, zrm1_cR, zrm1_cL, zst2_nil, zst2_cI, zst2_cR, zst2_cL, zrm2_nil, zrm2_cI, zrm2_cR, zrm2_cL, zkeep_nil, zkeep_cons, zsum_nil, zsum_I, zsum_R, zsum_L, zsum_N, toL_s, toL_n, List.cons_append, List.nil_append, List.mem_cons, List.not_mem_nil, reduceCtorEq, Nat.reduceAdd, Nat.reduceLT, Nat.reduceLeDiff, Nat.reduceEqDiff, Nat.zero_ne_one, Nat.one_ne_zero, Nat.add_zero, Nat.zero_add, or_false, false_or, or_true, true_or, and_true, true_and, and_self, ↓reduceIte, Nat.succ_ne_self, Nat.reduceGT, Nat.reduceSub, Nat.le_refl, Nat.zero_le, zis_O, cl_is, clG_0, clG_1, clG_2, clG_3, clG_4, clG_5, clG_6, clS_6, clG_7, clG_8, clG_9, clS_9, clG_10, clG_11, clS_11, clG_12, clS_12, clG_13, clS_13, clG_14, clS_14, clG_15, clS_15, clG_16, clG_17, clS_17, od_is, odG_0, odG_1, odS_1, odG_2, odG_3, odS_3, odG_4, re_is, reG_0, reS_0, reG_1, reG_2, reG_3, reS_3, reG_4, reS_4, reG_5, reS_5, reG_6, reS_6, wo_is, woG_0, woG_1, woG_2, woS_2, woG_3, lm_is, lmG_0, lmG_1, lmG_2, lmG_3, lmG_4, lmG_5, lmG_6, lmG_7, lmG_8, lmS_8, lmG_9, lmS_9, lmG_10, lmS_10, lmG_11, lmS_11, lmG_12, lmS_12, mo_is, moG_0, moG_1, moG_2, moG_3, moG_4, moG_5, moS_5, moG_6, moS_6, moG_7, moS_7, moG_8, moG_9, moS_9, moG_10, moS_10, moG_11, moS_11, moG_12, moS_12, moG_13, moS_13, moG_14, moG_15, moS_15, moG_16, moG_17, moS_17, moG_18, moG_19, moG_20, i32ne0, i32ne1, i32ne2, i32ne3, i32ne4, i32ne5, i32ne6, i32ne7, i32ne8, i32ne9, i32ne10, j64ne, Int32.reduceAdd, Int32.reduceSub, Int32.reduceMul, Int32.reduceLT, Int32.reduceOfNat, Int32.reduceToNatClampNeg, cU_at, Nat.reduceMul, Nat.reduceMod, catR, catI, cV_self, cU_self, hg0, hg1, hg2, hg3, hg4, hg5, hg6, hg7, hg8, hg9, hg10, hg11, hg12, hg13, hg14, hg15, hg16, hg17, hg18, hg19, hg20, hg21, hg22, hg23, hg24, hg25, hg26, hg27, hg28, hg29, hg30, hg31, hg32, hg33, hg34, hg35, hg36, hg37, hg38, hg39, hg40, hg41, hg42, hg43, hg44, hg45, hg46, hg47, hg48, hg49, hg50, hg51, hg52, hg53, hg54, hg55, hg56, hg57, hg58, hg59, hg60, hg61, hg62, hg63, hg64, hg65, hg66, hg67, hg68, hg69, hg70, hg71, hg72, hg73, hg1001, hg1002, hg1003, hg1000, hg2000, hs0, hs8, hs9, hs10, hs11, hs12, hs13, hs14, hs15, hs16, hs17, hs18, hs19, hs20, hs21, hs22, hs23, hs24, hs25, hs26, hs27, hs29, hs30, hs31, hs32, hs33, hs34, hs35, hs36, hs37, hs38, hs39, hs40, hs41, hs42, hs43, hs44, hs45, hs46, hs47, hs48, hs49, hs50, hs51, hs52, hs53, hs54, hs55, hs56, hs57, hs59, hs60, hs61, hs62, hs63, hs64, hs65, hs66, hs67, hs68, hs69, hs70, hs71, hs72, hs73, hw8, hw18, hw29, hw39, c0, c, if_true, d1, d2, d4, sp_isIn, bt, t, z10, if_false, iZ_suc, pu, wi, c3, e3, l, ep, el, dv, em, eu, zl, r1]
            rfl
          · rw [e2.2.2.1 k hk, r2.2.2.1 k (by omega)]
            show (if k = i then iZ ((s 0 1 + m : Nat) : Int) else A 52 k) = _
            rw [if_neg (by omega)]
    have c0 : A 8 6 = iZ (s 0 0) := h.1.c0
    have c1 : A 8 14 = iZ (s 0 1) := h.1.c1
    have c2 : A 8 12 = iZ (s 0 2) := h.1.c2
    have lf := sp_left (ro := ro) (hc8 A L)
    rw [show A (8 + 0) 6 = iZ (s 0 0) from h.1.c0, show A (8 + 0) 14 = iZ (s 0 1) from h.1.c1, iZ_sub, ← en] at lf
    have z2 := zat_i (g := A 10) (show s 0 2 < 6 ∧ 6 < 2147483648 by omega)
    rw [show A 10 (s 0 2) = iZ (s 0 (12 + s 0 2)) from h.1.c (i := s 0 2) (by omega)] at z2
    have ca := sp_carryAt (ro := ro) (hc8 A L) (iZ (s 0 2))
    rw [show A (8 + 2) = A 10 from rfl, z2] at ca
    obtain ⟨A', L', e1, e2⟩ := lp (nl (s 0)) 0 (by omega) A L x h hrow (by
      rw [Nat.zero_mul]
      exact hb)
    rw [Nat.add_zero] at e1
    refine ⟨A', L', ?_, e2⟩
    unfold rm
    rw [zrk52 _ _ _ (by omega), ← ed, ← e1]
    simp only [q52_0, q52_1, q52_2, q52_5, q52_8, q52_10, q52_11, q52_14, q52_15, q52_18, q52_19, q52_21, q52_24, q52_25, q52_28, q52_29, q52_32, q52_35, q52_36, q52_37, q52_38, q52_41, q52_44, q52_46, q52_47, q52_50, q52_54, q52_55, q52_58, q52_61, q52_62, q52_64, q52_67, q52_70, q52_71, q52_74, q52_75, q52_77, q52_80, q52_82, q52_83, q52_85, q52_86, q52_89, q52_90, q52_91, q52_92, q52_95, q52_98, q52_100, q52_101, q52_102, q52_104, q52_105, q52_106, q52_107, q52_108, q52_109, q52_110, q52_111, q52_113, q52_114, q52_115, q52_117, q52_120, q52_121, q52_123, q52_124, q52_125, q52_128, q52_131, q52_134, zrk_128, zrk_129, zrk_130, zrk_22, zrk_24, zrk_25, zrk_27, kI_app, kJ_app, kP_app, kV_app, kS_app, kC_app, kN_app, kM_app, zsw_cons, zsw_nil, lv_args_I, lv_args_R, lv_args_L, lv_args_nil, zlook_cons, zrI_some, zrJ_some, zrP_some, zrC_some, zrA_rw, zrAS_rw, zrLen_rw, zst1_nil, zst1_cI, zst1_cR, zst1_cL, zrm1_nil, zrm1_cI, zrm1_cR, zrm1_cL, zst2_nil, zst2_cI, zst2_cR, zst2_cL, zrm2_nil, zrm2_cI, zrm2_cR, zrm2_cL, zkeep_nil, zkeep_cons, zsum_nil, zsum_I, zsum_R, zsum_L, zsum_N, toL_s, toL_n, List.cons_append, List.nil_append, List.mem_cons, List.not_mem_nil, reduceCtorEq, Nat.reduceAdd, Nat.reduceLT, Nat.reduceLeDiff, Nat.reduceEqDiff, Nat.zero_ne_one, Nat.one_ne_zero, Nat.add_zero, Nat.zero_add, or_false, false_or, or_true, true_or, and_true, true_and, and_self, ↓reduceIte, Nat.succ_ne_self, Nat.reduceGT, Nat.reduceSub, Nat.le_refl, Nat.zero_le, zis_O, cl_is, clG_0, clG_1, clG_2, clG_3, clG_4, clG_5, clG_6, clS_6, clG_7, clG_8, clG_9, clS_9, clG_10, clG_11, clS_11, clG_12, clS_12, clG_13, clS_13, clG_14, clS_14, clG_15, clS_15, clG_16, clG_17, clS_17, od_is, odG_0, odG_1, odS_1, odG_2, odG_3, odS_3, odG_4, re_is, reG_0, reS_0, reG_1, reG_2, reG_3, reS_3, reG_4, reS_4, reG_5, reS_5, reG_6, reS_6, wo_is, woG_0, woG_1, woG_2, woS_2, woG_3, lm_is, lmG_0, lmG_1, lmG_2, lmG_3, lmG_4, lmG_5, lmG_6, lmG_7, lmG_8, lmS_8, lmG_9, lmS_9, lmG_10, lmS_10, lmG_11, lmS_11, lmG_12, lmS_12, mo_is, moG_0, moG_1, moG_2, moG_3, moG_4, moG_5, moS_5, moG_6, moS_6, moG_7, moS_7, moG_8, moG_9, moS_9, moG_10, moS_10, moG_11, moS_11, moG_12, moS_12, moG_13, moS_13, moG_14, moG_15, moS_15, moG_16, moG_17, moS_17, moG_18, moG_19, moG_20, i32ne0, i32ne1, i32ne2, i32ne3, i32ne4, i32ne5, i32ne6, i32ne7, i32ne8, i32ne9, i32ne10, j64ne, Int32.reduceAdd, Int32.reduceSub, Int32.reduceMul, Int32.reduceLT, Int32.reduceOfNat, Int32.reduceToNatClampNeg, cU_at, Nat.reduceMul, Nat.reduceMod, catR, catI, cV_self, cU_self, hg0, hg1, hg2, hg3, hg4, hg5, hg6, hg7, hg8, hg9, hg10, hg11, hg12, hg13, hg14, hg15, hg16, hg17, hg18, hg19, hg20, hg21, hg22, hg23, hg24, hg25, hg26, hg27, hg28, hg29, hg30, hg31, hg32, hg33, hg34, hg35, hg36, hg37, hg38, hg39, hg40, hg41, hg42, hg43, hg44, hg45, hg46, hg47, hg48, hg49, hg50, hg51, hg52, hg53, hg54, hg55, hg56, hg57, hg58, hg59, hg60, hg61, hg62, hg63, hg64, hg65, hg66, hg67, hg68, hg69, hg70, hg71, hg72, hg73, hg1001, hg1002, hg1003, hg1000, hg2000, hs0, hs8, hs9, hs10, hs11, hs12, hs13, hs14, hs15, hs16, hs17, hs18, hs19, hs20, hs21, hs22, hs23, hs24, hs25, hs26, hs27, hs29, hs30, hs31, hs32, hs33, hs34, hs35, hs36, hs37, hs38, hs39, hs40, hs41, hs42, hs43, hs44, hs45, hs46, hs47, hs48, hs49, hs50, hs51, hs52, hs53, hs54, hs55, hs56, hs57, hs59, hs60, hs61, hs62, hs63, hs64, hs65, hs66, hs67, hs68, hs69, hs70, hs71, hs72, hs73, hw8, hw18, hw29, hw39, d1, d2, lf, cli, if_true, c2, ca, c1]
end WHC
