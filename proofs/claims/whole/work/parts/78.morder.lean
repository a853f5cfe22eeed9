/-! THE BEST ORDER: the first of the longest among all codes -/
def LC (a : Nat → Nat) (N : Nat) : Nat → Nat → Nat × Bool
  | 0, _ => (0, true)
  | i + 1, p => if (LC a N i (p / a 4)).2 = true ∧ th a (p % a 4) ≤ flm a N i (p / a 4) then ((LC a N i (p / a 4)).1 + 1, true) else ((LC a N i (p / a 4)).1, false)
def ltN (a : Nat → Nat) (N c : Nat) : Nat := (LC a N (a 4) c).1
def GO (a : Nat → Nat) (N c : Nat) (x : Nat × Nat) : Nat × Nat := if uP (a 4) (a 4) c = 2 ^ a 4 - 1 ∧ x.1 ≤ ltN a N c then (ltN a N c + 1, c) else x
section MON
variable {a : Nat → Nat} {N : Nat}
theorem LC_ok : ∀ i p, (LC a N i p).1 ≤ i ∧ ch a N (LC a N i p).1 (p / a 4 ^ (i - (LC a N i p).1)) ∧ (∀ m, m ≤ i → ch a N m (p / a 4 ^ (i - m)) → m ≤ (LC a N i p).1) ∧ ((LC a N i p).2 = true ↔ (LC a N i p).1 = i)
  | 0, p => ⟨Nat.le_refl _, trivial, fun m h _ => h, ⟨fun _ => rfl, fun _ => rfl⟩⟩
  | i + 1, p => by
    obtain ⟨r1, r2, r3, r4⟩ := LC_ok i (p / a 4)
    by_cases z : (LC a N i (p / a 4)).2 = true ∧ th a (p % a 4) ≤ flm a N i (p / a 4)
    · rw [show LC a N (i + 1) p = ((LC a N i (p / a 4)).1 + 1, true) from if_pos z]
      have e := r4.mp z.1
      rw [e] at r2 ⊢
      rw [Nat.sub_self, Nat.pow_zero, Nat.div_one] at r2
      refine ⟨Nat.le_refl _, ?_, fun m h _ => h, ⟨fun _ => rfl, fun _ => rfl⟩⟩
      show ch a N (i + 1) (p / a 4 ^ (i + 1 - (i + 1)))
      rw [Nat.sub_self, Nat.pow_zero, Nat.div_one]
      exact ⟨r2, z.2⟩
    · rw [show LC a N (i + 1) p = ((LC a N i (p / a 4)).1, false) from if_neg z]
      refine ⟨by
        show (LC a N i (p / a 4)).1 ≤ i + 1
        omega, ?_, fun m h hm => ?_, ⟨fun y => Bool.noConfusion y, fun y => ?_⟩⟩
      · show ch a N (LC a N i (p / a 4)).1 (p / a 4 ^ (i + 1 - (LC a N i (p / a 4)).1))
        rw [show i + 1 - (LC a N i (p / a 4)).1 = i - (LC a N i (p / a 4)).1 + 1 by omega, ← div_wp]
        exact r2
      · show m ≤ (LC a N i (p / a 4)).1
        by_cases y : m = i + 1
        · rw [y, Nat.sub_self, Nat.pow_zero, Nat.div_one] at hm
          have w := r3 i (Nat.le_refl _) (by
            rw [Nat.sub_self, Nat.pow_zero, Nat.div_one]
            exact hm.1)
          exact absurd ⟨r4.mpr (by omega), hm.2⟩ z
        · rw [show i + 1 - m = i - m + 1 by omega, ← div_wp] at hm
          exact r3 m (by omega) hm
      · have y' : (LC a N i (p / a 4)).1 = i + 1 := y
        omega
theorem LC_off : ∀ j i c, (LC a N i (c / a 4 ^ j)).2 = false → (LC a N (i + j) c).1 = (LC a N i (c / a 4 ^ j)).1 ∧ (LC a N (i + j) c).2 = false
  | 0, i, c, h => by
    rw [Nat.pow_zero, Nat.div_one] at h ⊢
    exact ⟨rfl, h⟩
  | j + 1, i, c, h => by
    rw [← div_wp] at h ⊢
    obtain ⟨r1, r2⟩ := LC_off j i (c / a 4) h
    have e : LC a N (i + (j + 1)) c = ((LC a N (i + j) (c / a 4)).1, false) := if_neg (fun z => by
      have z1 : (LC a N (i + j) (c / a 4)).2 = true := z.1
      rw [r2] at z1
      cases z1)
    rw [e]
    exact ⟨r1, rfl⟩
theorem lt_Ext {c : Nat} (hd : dst (a 4) (a 4) c) : Ext a N 0 (c / a 4 ^ (a 4)) (ltN a N c) (c / a 4 ^ (a 4 - ltN a N c)) := by
  obtain ⟨r1, r2, -, -⟩ := LC_ok (a := a) (N := N) (a 4) c
  have r1' : ltN a N c ≤ a 4 := r1
  refine ⟨dst_pre (a 4 - ltN a N c) (ltN a N c) c (by rwa [show ltN a N c + (a 4 - ltN a N c) = a 4 by omega]), r2, Nat.zero_le _, r1, ?_⟩
  rw [Nat.div_div_eq_div_mul, ← Nat.pow_add, show a 4 - ltN a N c + (ltN a N c - 0) = a 4 by omega]
theorem GO_ok : ∀ k, ((fld (GO a N) 0 k (0, 0)).1 = 0 ∧ ∀ c, c < k → ¬ dst (a 4) (a 4) c) ∨ ((fld (GO a N) 0 k (0, 0)).1 = ltN a N (fld (GO a N) 0 k (0, 0)).2 + 1 ∧ dst (a 4) (a 4) (fld (GO a N) 0 k (0, 0)).2 ∧ (fld (GO a N) 0 k (0, 0)).2 < k ∧ (∀ c, c < k → dst (a 4) (a 4) c → ltN a N c ≤ ltN a N (fld (GO a N) 0 k (0, 0)).2) ∧ ∀ c, c < (fld (GO a N) 0 k (0, 0)).2 → dst (a 4) (a 4) c → ltN a N c < ltN a N (fld (GO a N) 0 k (0, 0)).2)
  | 0 => Or.inl ⟨rfl, fun c h => absurd h (Nat.not_lt_zero c)⟩
  | k + 1 => by
    have r := GO_ok k
    rw [show fld (GO a N) 0 (k + 1) (0, 0) = GO a N (0 + k) (fld (GO a N) 0 k (0, 0)) from rfl, Nat.zero_add]
    generalize fld (GO a N) 0 k (0, 0) = x at *
    by_cases z : uP (a 4) (a 4) k = 2 ^ a 4 - 1 ∧ x.1 ≤ ltN a N k
    · rw [show GO a N k x = (ltN a N k + 1, k) from if_pos z]
      right
      refine ⟨rfl, lays_iff.mp z.1, Nat.lt_succ_self k, fun c h1 h2 => ?_, fun c h1 h2 => ?_⟩
      · show ltN a N c ≤ ltN a N k
        by_cases e : c = k
        · rw [e]
          exact Nat.le_refl _
        · rcases r with ⟨-, r2⟩ | ⟨r1, -, -, r4, -⟩
          · exact absurd h2 (r2 c (by omega))
          · have := r4 c (by omega) h2
            omega
      · show ltN a N c < ltN a N k
        have h1' : c < k := h1
        rcases r with ⟨-, r2⟩ | ⟨r1, -, -, r4, -⟩
        · exact absurd h2 (r2 c h1')
        · have := r4 c h1' h2
          omega
    · rw [show GO a N k x = x from if_neg z]
      rcases r with ⟨r1, r2⟩ | ⟨r1, r2, r3, r4, r5⟩
      · left
        refine ⟨r1, fun c h1 h2 => ?_⟩
        by_cases e : c = k
        · rw [e] at h2
          exact z ⟨lays_iff.mpr h2, by omega⟩
        · exact r2 c (by omega) h2
      · right
        refine ⟨r1, r2, by omega, fun c h1 h2 => ?_, r5⟩
        by_cases e : c = k
        · rw [e] at h2 ⊢
          have : ¬ x.1 ≤ ltN a N k := fun y => z ⟨lays_iff.mpr h2, y⟩
          omega
        · exact r4 c (by omega) h2
theorem orF_ok : dst (a 4) (a 4) (orF a N) ∧ orF a N / a 4 ^ (a 4 - (orD a N).1) = (orD a N).2 ∧ orF a N / a 4 ^ a 4 = 0 := by
  have ok := (orD_ok (a := a) (N := N)).1
  obtain ⟨r1, ⟨r2, r3⟩, -⟩ := fu_ok ok.1 (a 4) (Nat.le_refl _)
  have fn := fu_n ok.1 ok.2.2.2.1
  rw [fn] at r1 r3
  have e2 : orF a N / a 4 ^ (a 4 - (orD a N).1) = (orD a N).2 := r3
  refine ⟨r1, e2, ?_⟩
  have l := ok.2.2.2.1
  have e5 := ok.2.2.2.2
  rw [Nat.sub_zero] at e5
  rw [← e2, Nat.div_div_eq_div_mul, ← Nat.pow_add, show a 4 - (orD a N).1 + (orD a N).1 = a 4 by omega] at e5
  exact e5
theorem orF_lt : orF a N < a 4 ^ a 4 := by
  have h := (orF_ok (a := a) (N := N)).2.2
  rcases Nat.eq_zero_or_pos (a 4) with z | z
  · rw [z] at h ⊢
    rw [Nat.pow_zero, Nat.div_one] at h
    rw [h]
    decide
  · exact (Nat.div_eq_zero_iff_lt (Nat.pow_pos z)).mp h
theorem GO_end : fld (GO a N) 0 (a 4 ^ a 4) (0, 0) = ((orD a N).1 + 1, orF a N) := by
  obtain ⟨f1, f2, f3⟩ := orF_ok (a := a) (N := N)
  have fl := orF_lt (a := a) (N := N)
  obtain ⟨o1, o2, o3⟩ := orD_ok (a := a) (N := N)
  have le : ∀ c, c < a 4 ^ a 4 → dst (a 4) (a 4) c → ltN a N c ≤ (orD a N).1 := fun c hc hd => by
    have e := lt_Ext (N := N) hd
    rw [Nat.div_eq_of_lt hc] at e
    exact o3 _ _ e
  have lF : ltN a N (orF a N) = (orD a N).1 := by
    have l1 := le _ fl f1
    have l2 := (LC_ok (a := a) (N := N) (a 4) (orF a N)).2.2.1 (orD a N).1 o1.2.2.2.1 (by
      rw [f2]
      exact o1.2.1)
    have l2' : (orD a N).1 ≤ ltN a N (orF a N) := l2
    omega
  have lt : ∀ c, c < orF a N → dst (a 4) (a 4) c → ltN a N c < (orD a N).1 := fun c hc hd => by
    have l1 := le c (by omega) hd
    rcases Nat.lt_or_ge (ltN a N c) (orD a N).1 with y | y
    · exact y
    · exfalso
      have e0 : ltN a N c = (orD a N).1 := by omega
      have e := lt_Ext (N := N) hd
      rw [Nat.div_eq_of_lt (show c < a 4 ^ a 4 by omega), e0] at e
      have q1 := o2 _ e
      have q2 := Nat.div_le_div_right (c := a 4 ^ (a 4 - (orD a N).1)) (Nat.le_of_lt hc)
      rw [f2] at q2
      have q3 := fu_le o1.1 o1.2.2.2.1 hd (by omega) (a 4) (Nat.le_refl _)
      rw [fu_n o1.1 o1.2.2.2.1, Nat.sub_self, Nat.pow_zero, Nat.div_one] at q3
      have q3' : orF a N ≤ c := q3
      omega
  rcases GO_ok (a := a) (N := N) (a 4 ^ a 4) with ⟨-, r2⟩ | ⟨r1, r2, r3, r4, r5⟩
  · exact absurd f1 (r2 _ fl)
  · generalize fld (GO a N) 0 (a 4 ^ a 4) (0, 0) = x at *
    have x1 := r4 _ fl f1
    have x2 := le _ r3 r2
    have e2 : x.2 = orF a N := by
      rcases Nat.lt_trichotomy x.2 (orF a N) with y | y | y
      · have := lt _ y r2
        omega
      · exact y
      · have := r5 _ y f1
        omega
    have e1 : x.1 = (orD a N).1 + 1 := by
      rw [r1, e2, lF]
    exact Prod.ext e1 e2
end MON
def XO (A : Nat → Nat → Int32) (a : Nat → Nat) (x : Nat × Nat) : Prop := x.1 ≠ 0 → ∀ k, k < a 4 → A 72 k = iZ ((rP (a 4) (a 4) x.2 k : Nat) : Int)
section MO2
variable {ro : zR} {s : Nat → Nat → Nat}
theorem LC_dig (a : Nat → Nat) (N : Nat) {c k d : Nat} (h : k + (d + 1) = a 4) : c / a 4 ^ d / a 4 = c / a 4 ^ (d + 1) ∧ c / a 4 ^ d % a 4 = rP (a 4) (a 4) c k := by
  refine ⟨div_pw c (a 4) d, ?_⟩
  rw [rP_dig (a 4) c k (by omega), show a 4 - 1 - k = d by omega]
theorem f189i (q : SInv s) {N : Nat} (hN : N ≤ 9) {w : Int32} {ways c : Nat} (x : Nat × Nat) (hx : x.1 ≤ 8) (hd : dst (s 0 4) (s 0 4) c) {A : Nat → Nat → Int32} {L : Nat → Nat → Int64} (h : MInv A L s) (hr : ∀ k, k < s 0 4 → A 71 k = iZ ((rP (s 0 4) (s 0 4) c k : Nat) : Int)) (hX : XO A (s 0) x) : ∀ d k : Nat, k + d = s 0 4 → ∃ A', rn ro 2 189 71 [(0, .ref 62), (1, .int (iZ N)), (2, .int w), (3, .int (iZ (s 0 4))), (4, .int (iZ ((x.1 : Int) - 1))), (5, .int (iZ ways)), (6, .int (iZ c)), (7, .int (iZ ((LC (s 0) N k (c / s 0 4 ^ d)).1 : Nat))), (8, .int (b01 (LC (s 0) N k (c / s 0 4 ^ d)).2)), (9, .int (iZ k))] [] (hp A L) = rn ro 2 189 44 [(0, .ref 62), (1, .int (iZ N)), (2, .int w), (3, .int (iZ (s 0 4))), (4, .int (iZ (((GO (s 0) N c x).1 : Int) - 1))), (5, .int (iZ ways)), (6, .int (iZ ((c + 1 : Nat) : Int)))] [] (hp A' L) ∧ (∀ k, k ≠ 72 → A' k = A k) ∧ XO A' (s 0) (GO (s 0) N c x) := by
  have n4 := q.1.n4
  -- the end: most and the row
  have fin : ∀ (k : Int32) (on : Int32), ∃ A', rn ro 2 189 166 [(0, .ref 62), (1, .int (iZ N)), (2, .int w), (3, .int (iZ (s 0 4))), (4, .int (iZ ((x.1 : Int) - 1))), (5, .int (iZ ways)), (6, .int (iZ c)), (7, .int (iZ (ltN (s 0) N c : Nat))), (8, .int on), (9, .int k)] [] (hp A L) = rn ro 2 189 44 [(0, .ref 62), (1, .int (iZ N)), (2, .int w), (3, .int (iZ (s 0 4))), (4, .int (iZ (((GO (s 0) N c x).1 : Int) - 1))), (5, .int (iZ ways)), (6, .int (iZ ((c + 1 : Nat) : Int)))] [] (hp A' L) ∧ (∀ k, k ≠ 72 → A' k = A k) ∧ XO A' (s 0) (GO (s 0) N c x) := by
    intro k on
    have l7 : ltN (s 0) N c ≤ s 0 4 := (LC_ok (a := s 0) (N := N) (s 0 4) c).1
    have cm : (iZ ((x.1 : Int) - 1) < iZ (ltN (s 0) N c : Nat)) = (x.1 ≤ ltN (s 0) N c) := by
      rw [iZ_lt (by omega)]
      exact propext ⟨fun z => by omega, fun z => by omega⟩
    by_cases z : x.1 ≤ ltN (s 0) N c
    · have eG : GO (s 0) N c x = (ltN (s 0) N c + 1, c) := if_pos ⟨lays_iff.mpr hd, z⟩
      obtain ⟨A', k1, k2, k3⟩ := sp_184 (ro := ro) A L (n := s 0 4) n4
      have ev : iZ (((ltN (s 0) N c + 1 : Nat) : Int) - 1) = iZ (ltN (s 0) N c : Nat) := by
        congr 1
        omega
      rw [eG]
      refine ⟨A', ?_, fun k h2 => k2 k h2, fun _ k hk => by rw [k3 k hk, hr k hk]⟩
      simp only [q189_0, q189_1, q189_2, q189_3, q189_6, q189_9, q189_12, q189_13, q189_14, q189_17, q189_18, q189_19, q189_21, q189_24, q189_25, q189_26, q189_29, q189_30, q189_31, q189_32, q189_33, q189_35, q189_36, q189_39, q189_41, q189_42, q189_46, q189_48, q189_51, q189_52, q189_54, q189_55, q189_56, q189_59, q189_62, q189_63, q189_65, q189_66, q189_68, q189_69, q189_73, q189_74, q189_77, q189_79, q189_82, q189_84, q189_87, q189_88, q189_89, q189_90, q189_93, q189_94, q189_95, q189_98, q189_101, q189_102, q189_105, q189_106, q189_109, q189_110, q189_111, q189_114, q189_116, q189_117, q189_118, q189_119, q189_122, q189_123, q189_124, q189_127, q189_129, q189_130, q189_133, q189_134, q189_135, q189_138, q189_139, q189_142, q189_143, q189_145, q189_147, q189_149, q189_152, q189_153, q189_156, q189_157, q189_158, q189_160, q189_163, q189_166, q189_168, q189_170, q189_173, q189_175, q189_177, q189_178, q189_179, q189_182, q189_185, q189_188, q189_189, q189_190, q189_193, q189_195, q189_198, q189_199, q189_200, q189_203, q189_204, q189_207, q189_208, q189_209, q189_212, q189_214, zrk_131, zrk_135, zrk_183, zrk_184, zrk_185, zrk_187, kI_app, kJ_app, kP_app, kV_app, kS_app, kC_app, kN_app, kM_app, zsw_cons, zsw_nil, lv_args_I, lv_args_R, lv_args_L, lv_args_nil, zlook_cons, zrI_some, zrJ_some, zrP_some, zrC_some, zrA_rw, zrAS_rw, zrLen_rw, zst1_nil, zst1_cI, zst1_cR, zst1_cL, zrm1_nil, zrm1_cI, zrm1_cR, zrm1_cL, zst2_nil, zst2_cI, zst2_cR, zst2_cL, zrm2_nil, zrm2_cI, zrm2_cR, zrm2_cL, zkeep_nil, zkeep_cons, zsum_nil, zsum_I, zsum_R, zsum_L, zsum_N, toL_s, toL_n, List.cons_append, List.nil_append, List.mem_cons, List.not_mem_nil, reduceCtorEq, Nat.reduceAdd, Nat.reduceLT, Nat.reduceLeDiff, Nat.reduceEqDiff, Nat.zero_ne_one, Nat.one_ne_zero, Nat.add_zero, Nat.zero_add, or_false, false_or, or_true, true_or, and_true, true_and, and_self, ↓reduceIte, Nat.succ_ne_self, Nat.reduceGT, Nat.reduceSub, Nat.le_refl, Nat.zero_le, zis_O, cl_is, clG_0, clG_1, clG_2, clG_3, clG_4, clG_5, clG_6, clS_6, clG_7, clG_8, clG_9, clS_9, clG_10, clG_11, clS_11, clG_12, clS_12, clG_13, clS_13, clG_14, clS_14, clG_15, clS_15, clG_16, clG_17, clS_17, od_is, odG_0, odG_1, odS_1, odG_2, odG_3, odS_3, odG_4, re_is, reG_0, reS_0, reG_1, reG_2, reG_3, reS_3, reG_4, reS_4, reG_5, reS_5, reG_6, reS_6, wo_is, woG_0, woG_1, woG_2, woS_2, woG_3, lm_is, lmG_0, lmG_1, lmG_2, lmG_3, lmG_4, lmG_5, lmG_6, lmG_7, lmG_8, lmS_8, lmG_9, lmS_9, lmG_10, lmS_10, lmG_11, lmS_11, lmG_12, lmS_12, mo_is, moG_0, moG_1, moG_2, moG_3, moG_4, moG_5, moS_5, moG_6, moS_6, moG_7, moS_7, moG_8, moG_9, moS_9, moG_10, moS_10, moG_11, moS_11, moG_12, moS_12, moG_13, moS_13, moG_14, moG_15, moS_15, moG_16, moG_17, moS_17, moG_18, moG_19, moG_20, i32ne0, i32ne1, i32ne2, i32ne3, i32ne4, i32ne5, i32ne6, i32ne7, i32ne8, i32ne9, i32ne10, j64ne, Int32.reduceAdd, Int32.reduceSub, Int32.reduceMul, Int32.reduceLT, Int32.reduceOfNat, Int32.reduceToNatClampNeg, cU_at, Nat.reduceMul, Nat.reduceMod, catR, catI, cV_self, cU_self, hg0, hg1, hg2, hg3, hg4, hg5, hg6, hg7, hg8, hg9, hg10, hg11, hg12, hg13, hg14, hg15, hg16, hg17, hg18, hg19, hg20, hg21, hg22, hg23, hg24, hg25, hg26, hg27, hg28, hg29, hg30, hg31, hg32, hg33, hg34, hg35, hg36, hg37, hg38, hg39, hg40, hg41, hg42, hg43, hg44, hg45, hg46, hg47, hg48, hg49, hg50, hg51, hg52, hg53, hg54, hg55, hg56, hg57, hg58, hg59, hg60, hg61, hg62, hg63, hg64, hg65, hg66, hg67, hg68, hg69, hg70, hg71, hg72, hg73, hg1001, hg1002, hg1003, hg1000, hg2000, hs0, hs8, hs9, hs10, hs11, hs12, hs13, hs14, hs15, hs16, hs17, hs18, hs19, hs20, hs21, hs22, hs23, hs24, hs25, hs26, hs27, hs29, hs30, hs31, hs32, hs33, hs34, hs35, hs36, hs37, hs38, hs39, hs40, hs41, hs42, hs43, hs44, hs45, hs46, hs47, hs48, hs49, hs50, hs51, hs52, hs53, hs54, hs55, hs56, hs57, hs59, hs60, hs61, hs62, hs63, hs64, hs65, hs66, hs67, hs68, hs69, hs70, hs71, hs72, hs73, hw8, hw18, hw29, hw39, cm, z, if_true, k1, iZ_suc, ev]
    · have eG : GO (s 0) N c x = x := if_neg (fun y => z y.2)
      rw [eG]
      refine ⟨A, ?_, fun k _ => rfl, hX⟩
      simp only [q189_0, q189_1, q189_2, q189_3, q189_6, q189_9, q189_12, q189_13, q189_14, q189_17, q189_18, q189_19, q189_21, q189_24, q189_25, q189_26, q189_29, q189_30, q189_31, q189_32, q189_33, q189_35, q189_36, q189_39, q189_41, q189_42, q189_46, q189_48, q189_51, q189_52, q189_54, q189_55, q189_56, q189_59, q189_62, q189_63, q189_65, q189_66, q189_68, q189_69, q189_73, q189_74, q189_77, q189_79, q189_82, q189_84, q189_87, q189_88, q189_89, q189_90, q189_93, q189_94, q189_95, q189_98, q189_101, q189_102, q189_105, q189_106, q189_109, q189_110, q189_111, q189_114, q189_116, q189_117, q189_118, q189_119, q189_122, q189_123, q189_124, q189_127, q189_129, q189_130, q189_133, q189_134, q189_135, q189_138, q189_139, q189_142, q189_143, q189_145, q189_147, q189_149, q189_152, q189_153, q189_156, q189_157, q189_158, q189_160, q189_163, q189_166, q189_168, q189_170, q189_173, q189_175, q189_177, q189_178, q189_179, q189_182, q189_185, q189_188, q189_189, q189_190, q189_193, q189_195, q189_198, q189_199, q189_200, q189_203, q189_204, q189_207, q189_208, q189_209, q189_212, q189_214, zrk_131, zrk_135, zrk_183, zrk_184, zrk_185, zrk_187, kI_app, kJ_app, kP_app, kV_app, kS_app, kC_app, kN_app, kM_app, zsw_cons, zsw_nil, lv_args_I, lv_args_R, lv_args_L, lv_args_nil, zlook_cons, zrI_some, zrJ_some, zrP_some, zrC_some, zrA_rw, zrAS_rw, zrLen_rw, zst1_nil, zst1_cI, zst1_cR, zst1_cL, zrm1_nil, zrm1_cI, zrm1_cR, zrm1_cL, zst2_nil, zst2_cI, zst2_cR, zst2_cL, zrm2_nil, zrm2_cI, zrm2_cR, zrm2_cL, zkeep_nil, zkeep_cons, zsum_nil, zsum_I, zsum_R, zsum_L, zsum_N, toL_s, toL_n, List.cons_append, List.nil_append, List.mem_cons, List.not_mem_nil, reduceCtorEq, Nat.reduceAdd, Nat.reduceLT, Nat.reduceLeDiff, Nat.reduceEqDiff, Nat.zero_ne_one, Nat.one_ne_zero, Nat.add_zero, Nat.zero_add, or_false, false_or, or_true, true_or, and_true, true_and, and_self, ↓reduceIte, Nat.succ_ne_self, Nat.reduceGT, Nat.reduceSub, Nat.le_refl, Nat.zero_le, zis_O, cl_is, clG_0, clG_1, clG_2, clG_3, clG_4, clG_5, clG_6, clS_6, clG_7, clG_8, clG_9, clS_9, clG_10, clG_11, clS_11, clG_12, clS_12, clG_13, clS_13, clG_14, clS_14, clG_15, clS_15, clG_16, clG_17, clS_17, od_is, odG_0, odG_1, odS_1, odG_2, odG_3, odS_3, odG_4, re_is, reG_0, reS_0, reG_1, reG_2, reG_3, reS_3, reG_4, reS_4, reG_5, reS_5, reG_6, reS_6, wo_is, woG_0, woG_1, woG_2, woS_2, woG_3, lm_is, lmG_0, lmG_1, lmG_2, lmG_3, lmG_4, lmG_5, lmG_6, lmG_7, lmG_8, lmS_8, lmG_9, lmS_9, lmG_10, lmS_10, lmG_11, lmS_11, lmG_12, lmS_12, mo_is, moG_0, moG_1, moG_2, moG_3, moG_4, moG_5, moS_5, moG_6, moS_6, moG_7, moS_7, moG_8, moG_9, moS_9, moG_10, moS_10, moG_11, moS_11, moG_12, moS_12, moG_13, moS_13, moG_14, moG_15, moS_15, moG_16, moG_17, moS_17, moG_18, moG_19, moG_20, i32ne0, i32ne1, i32ne2, i32ne3, i32ne4, i32ne5, i32ne6, i32ne7, i32ne8, i32ne9, i32ne10, j64ne, Int32.reduceAdd, Int32.reduceSub, Int32.reduceMul, Int32.reduceLT, Int32.reduceOfNat, Int32.reduceToNatClampNeg, cU_at, Nat.reduceMul, Nat.reduceMod, catR, catI, cV_self, cU_self, hg0, hg1, hg2, hg3, hg4, hg5, hg6, hg7, hg8, hg9, hg10, hg11, hg12, hg13, hg14, hg15, hg16, hg17, hg18, hg19, hg20, hg21, hg22, hg23, hg24, hg25, hg26, hg27, hg28, hg29, hg30, hg31, hg32, hg33, hg34, hg35, hg36, hg37, hg38, hg39, hg40, hg41, hg42, hg43, hg44, hg45, hg46, hg47, hg48, hg49, hg50, hg51, hg52, hg53, hg54, hg55, hg56, hg57, hg58, hg59, hg60, hg61, hg62, hg63, hg64, hg65, hg66, hg67, hg68, hg69, hg70, hg71, hg72, hg73, hg1001, hg1002, hg1003, hg1000, hg2000, hs0, hs8, hs9, hs10, hs11, hs12, hs13, hs14, hs15, hs16, hs17, hs18, hs19, hs20, hs21, hs22, hs23, hs24, hs25, hs26, hs27, hs29, hs30, hs31, hs32, hs33, hs34, hs35, hs36, hs37, hs38, hs39, hs40, hs41, hs42, hs43, hs44, hs45, hs46, hs47, hs48, hs49, hs50, hs51, hs52, hs53, hs54, hs55, hs56, hs57, hs59, hs60, hs61, hs62, hs63, hs64, hs65, hs66, hs67, hs68, hs69, hs70, hs71, hs72, hs73, hw8, hw18, hw29, hw39, cm, z, if_false, iZ_suc]
  intro d
  induction d with
  | zero =>
    intro k hk
    have ek : k = s 0 4 := by omega
    have c9 : ¬ iZ (k : Int) < iZ (s 0 4) := by
      rw [ek]
      exact Int32.lt_irrefl
    rw [Nat.pow_zero, Nat.div_one, ek]
    rw [ek] at c9
    obtain ⟨A', k1, k2⟩ := fin (iZ (s 0 4)) (b01 (LC (s 0) N (s 0 4) c).2)
    refine ⟨A', ?_, k2⟩
    rw [← k1, q189_71]
    simp only [q189_0, q189_1, q189_2, q189_3, q189_6, q189_9, q189_12, q189_13, q189_14, q189_17, q189_18, q189_19, q189_21, q189_24, q189_25, q189_26, q189_29, q189_30, q189_31, q189_32, q189_33, q189_35, q189_36, q189_39, q189_41, q189_42, q189_46, q189_48, q189_51, q189_52, q189_54, q189_55, q189_56, q189_59, q189_62, q189_63, q189_65, q189_66, q189_68, q189_69, q189_73, q189_74, q189_77, q189_79, q189_82, q189_84, q189_87, q189_88, q189_89, q189_90, q189_93, q189_94, q189_95, q189_98, q189_101, q189_102, q189_105, q189_106, q189_109, q189_110, q189_111, q189_114, q189_116, q189_117, q189_118, q189_119, q189_122, q189_123, q189_124, q189_127, q189_129, q189_130, q189_133, q189_134, q189_135, q189_138, q189_139, q189_142, q189_143, q189_145, q189_147, q189_149, q189_152, q189_153, q189_156, q189_157, q189_158, q189_160, q189_163, q189_168, q189_170, q189_173, q189_175, q189_177, q189_178, q189_179, q189_182, q189_185, q189_188, q189_189, q189_190, q189_193, q189_195, q189_198, q189_199, q189_200, q189_203, q189_204, q189_207, q189_208, q189_209, q189_212, q189_214, zrk_131, zrk_135, zrk_183, zrk_184, zrk_185, zrk_187, kI_app, kJ_app, kP_app, kV_app, kS_app, kC_app, kN_app, kM_app, zsw_cons, zsw_nil, lv_args_I, lv_args_R, lv_args_L, lv_args_nil, zlook_cons, zrI_some, zrJ_some, zrP_some, zrC_some, zrA_rw, zrAS_rw, zrLen_rw, zst1_nil, zst1_cI, zst1_cR, zst1_cL, zrm1_nil, zrm1_cI, zrm1_cR, zrm1_cL, zst2_nil, zst2_cI, zst2_cR, zst2_cL, zrm2_nil, zrm2_cI, zrm2_cR, zrm2_cL, zkeep_nil, zkeep_cons, zsum_nil, zsum_I, zsum_R, zsum_L, zsum_N, toL_s, toL_n, List.cons_append, List.nil_append, List.mem_cons, List.not_mem_nil, reduceCtorEq, Nat.reduceAdd, Nat.reduceLT, Nat.reduceLeDiff, Nat.reduceEqDiff, Nat.zero_ne_one, Nat.one_ne_zero, Nat.add_zero, Nat.zero_add, or_false, false_or, or_true, true_or, and_true, true_and, and_self, ↓reduceIte, Nat.succ_ne_self, Nat.reduceGT, Nat.reduceSub, Nat.le_refl, Nat.zero_le, zis_O, cl_is, clG_0, clG_1, clG_2, clG_3, clG_4, clG_5, clG_6, clS_6, clG_7, clG_8, clG_9, clS_9, clG_10, clG_11, clS_11, clG_12, clS_12, clG_13, clS_13, clG_14, clS_14, clG_15, clS_15, clG_16, clG_17, clS_17, od_is, odG_0, odG_1, odS_1, odG_2, odG_3, odS_3, odG_4, re_is, reG_0, reS_0, reG_1, reG_2, reG_3, reS_3, reG_4, reS_4, reG_5, reS_5, reG_6, reS_6, wo_is, woG_0, woG_1, woG_2, woS_2, woG_3, lm_is, lmG_0, lmG_1, lmG_2, lmG_3, lmG_4, lmG_5, lmG_6, lmG_7, lmG_8, lmS_8, lmG_9, lmS_9, lmG_10, lmS_10, lmG_11, lmS_11, lmG_12, lmS_12, mo_is, moG_0, moG_1, moG_2, moG_3, moG_4, moG_5, moS_5, moG_6, moS_6, moG_7, moS_7, moG_8, moG_9, moS_9, moG_10, moS_10, moG_11, moS_11, moG_12, moS_12, moG_13, moS_13, moG_14, moG_15, moS_15, moG_16, moG_17, moS_17, moG_18, moG_19, moG_20, i32ne0, i32ne1, i32ne2, i32ne3, i32ne4, i32ne5, i32ne6, i32ne7, i32ne8, i32ne9, i32ne10, j64ne, Int32.reduceAdd, Int32.reduceSub, Int32.reduceMul, Int32.reduceLT, Int32.reduceOfNat, Int32.reduceToNatClampNeg, cU_at, Nat.reduceMul, Nat.reduceMod, c9, if_false]
    rfl
  | succ d ih =>
    intro k hk
    obtain ⟨g1, g2⟩ := LC_dig (s 0) N (c := c) (k := k) (d := d) hk
    have c9 : iZ (k : Int) < iZ (s 0 4) := by
      rw [iZ_lt (by omega)]
      omega
    have eL : LC (s 0) N (k + 1) (c / s 0 4 ^ d) = if (LC (s 0) N k (c / s 0 4 ^ (d + 1))).2 = true ∧ th (s 0) (rP (s 0 4) (s 0 4) c k) ≤ flm (s 0) N k (c / s 0 4 ^ (d + 1)) then ((LC (s 0) N k (c / s 0 4 ^ (d + 1))).1 + 1, true) else ((LC (s 0) N k (c / s 0 4 ^ (d + 1))).1, false) := by
      show (if (LC (s 0) N k (c / s 0 4 ^ d / s 0 4)).2 = true ∧ th (s 0) (c / s 0 4 ^ d % s 0 4) ≤ flm (s 0) N k (c / s 0 4 ^ d / s 0 4) then _ else _) = _
      rw [g1, g2]
    by_cases on : (LC (s 0) N k (c / s 0 4 ^ (d + 1))).2 = true
    · have i1 := ih (k + 1) (by omega)
      rw [eL] at i1
      have rl := rP_lt (B := s 0 4) (by omega) (s 0 4) c k
      have tk := (q.1.s rl).2.1
      have h71 := hr k (by omega)
      have t2 := sp_thick (ro := ro) h (k := rP (s 0 4) (s 0 4) c k) (by omega)
      have b1 : b01 (LC (s 0) N k (c / s 0 4 ^ (d + 1))).2 = 1 := by
        rw [on]
        rfl
      rw [b1]
      by_cases k0 : k = 0
      · have e0 : iZ (k : Int) = 0 := by
          rw [k0]
          rfl
        have cf : (iZ (N : Int) < iZ (s 0 (36 + 2 * rP (s 0 4) (s 0 4) c k))) = (¬ th (s 0) (rP (s 0 4) (s 0 4) c k) ≤ flm (s 0) N k (c / s 0 4 ^ (d + 1))) := by
          unfold flm th
          rw [if_pos k0, iZ_lt (by omega)]
          exact propext ⟨fun z => by omega, fun z => by omega⟩
        rw [k0] at h71 t2 cf
        rw [e0] at c9
        by_cases g : th (s 0) (rP (s 0 4) (s 0 4) c 0) ≤ flm (s 0) N 0 (c / s 0 4 ^ (d + 1))
        · rw [if_pos ⟨on, by rw [k0]; exact g⟩] at i1
          obtain ⟨A', k1, k2⟩ := i1
          rw [show b01 true = 1 from rfl] at k1
          refine ⟨A', ?_, k2⟩
          rw [← k1, q189_71]
          simp only [q189_0, q189_1, q189_2, q189_3, q189_6, q189_9, q189_12, q189_13, q189_14, q189_17, q189_18, q189_19, q189_21, q189_24, q189_25, q189_26, q189_29, q189_30, q189_31, q189_32, q189_33, q189_35, q189_36, q189_39, q189_41, q189_42, q189_46, q189_48, q189_51, q189_52, q189_54, q189_55, q189_56, q189_59, q189_62, q189_63, q189_65, q189_66, q189_68, q189_69, q189_73, q189_74, q189_77, q189_79, q189_82, q189_84, q189_87, q189_88, q189_89, q189_90, q189_93, q189_94, q189_95, q189_98, q189_101, q189_102, q189_105, q189_106, q189_109, q189_110, q189_111, q189_114, q189_116, q189_117, q189_118, q189_119, q189_122, q189_123, q189_124, q189_127, q189_129, q189_130, q189_133, q189_134, q189_135, q189_138, q189_139, q189_142, q189_143, q189_145, q189_147, q189_149, q189_152, q189_153, q189_156, q189_157, q189_158, q189_160, q189_163, q189_166, q189_168, q189_170, q189_173, q189_175, q189_177, q189_178, q189_179, q189_182, q189_185, q189_188, q189_189, q189_190, q189_193, q189_195, q189_198, q189_199, q189_200, q189_203, q189_204, q189_207, q189_208, q189_209, q189_212, q189_214, zrk_131, zrk_135, zrk_183, zrk_184, zrk_185, zrk_187, kI_app, kJ_app, kP_app, kV_app, kS_app, kC_app, kN_app, kM_app, zsw_cons, zsw_nil, lv_args_I, lv_args_R, lv_args_L, lv_args_nil, zlook_cons, zrI_some, zrJ_some, zrP_some, zrC_some, zrA_rw, zrAS_rw, zrLen_rw, zst1_nil, zst1_cI, zst1_cR, zst1_cL, zrm1_nil, zrm1_cI, zrm1_cR, zrm1_cL, zst2_nil, zst2_cI, zst2_cR, zst2_cL, zrm2_nil, zrm2_cI, zrm2_cR, zrm2_cL, zkeep_nil, zkeep_cons, zsum_nil, zsum_I, zsum_R, zsum_L, zsum_N, toL_s, toL_n, List.cons_append, List.nil_append, List.mem_cons, List.not_mem_nil, reduceCtorEq, Nat.reduceAdd, Nat.reduceLT, Nat.reduceLeDiff, Nat.reduceEqDiff, Nat.zero_ne_one, Nat.one_ne_zero, Nat.add_zero, Nat.zero_add, or_false, false_or, or_true, true_or, and_true, true_and, and_self, ↓reduceIte, Nat.succ_ne_self, Nat.reduceGT, Nat.reduceSub, Nat.le_refl, Nat.zero_le, zis_O, cl_is, clG_0, clG_1, clG_2, clG_3, clG_4, clG_5, clG_6, clS_6, clG_7, clG_8, clG_9, clS_9, clG_10, clG_11, clS_11, clG_12, clS_12, clG_13, clS_13, clG_14, clS_14, clG_15, clS_15, clG_16, clG_17, clS_17, od_is, odG_0, odG_1, odS_1, odG_2, odG_3, odS_3, odG_4, re_is, reG_0, reS_0, reG_1, reG_2, reG_3, reS_3, reG_4, reS_4, reG_5, reS_5, reG_6, reS_6, wo_is, woG_0, woG_1, woG_2, woS_2, woG_3, lm_is, lmG_0, lmG_1, lmG_2, lmG_3, lmG_4, lmG_5, lmG_6, lmG_7, lmG_8, lmS_8, lmG_9, lmS_9, lmG_10, lmS_10, lmG_11, lmS_11, lmG_12, lmS_12, mo_is, moG_0, moG_1, moG_2, moG_3, moG_4, moG_5, moS_5, moG_6, moS_6, moG_7, moS_7, moG_8, moG_9, moS_9, moG_10, moS_10, moG_11, moS_11, moG_12, moS_12, moG_13, moS_13, moG_14, moG_15, moS_15, moG_16, moG_17, moS_17, moG_18, moG_19, moG_20, i32ne0, i32ne1, i32ne2, i32ne3, i32ne4, i32ne5, i32ne6, i32ne7, i32ne8, i32ne9, i32ne10, j64ne, Int32.reduceAdd, Int32.reduceSub, Int32.reduceMul, Int32.reduceLT, Int32.reduceOfNat, Int32.reduceToNatClampNeg, cU_at, Nat.reduceMul, Nat.reduceMod, catR, catI, cV_self, cU_self, hg0, hg1, hg2, hg3, hg4, hg5, hg6, hg7, hg8, hg9, hg10, hg11, hg12, hg13, hg14, hg15, hg16, hg17, hg18, hg19, hg20, hg21, hg22, hg23, hg24, hg25, hg26, hg27, hg28, hg29, hg30, hg31, hg32, hg33, hg34, hg35, hg36, hg37, hg38, hg39, hg40, hg41, hg42, hg43, hg44, hg45, hg46, hg47, hg48, hg49, hg50, hg51, hg52, hg53, hg54, hg55, hg56, hg57, hg58, hg59, hg60, hg61, hg62, hg63, hg64, hg65, hg66, hg67, hg68, hg69, hg70, hg71, hg72, hg73, hg1001, hg1002, hg1003, hg1000, hg2000, hs0, hs8, hs9, hs10, hs11, hs12, hs13, hs14, hs15, hs16, hs17, hs18, hs19, hs20, hs21, hs22, hs23, hs24, hs25, hs26, hs27, hs29, hs30, hs31, hs32, hs33, hs34, hs35, hs36, hs37, hs38, hs39, hs40, hs41, hs42, hs43, hs44, hs45, hs46, hs47, hs48, hs49, hs50, hs51, hs52, hs53, hs54, hs55, hs56, hs57, hs59, hs60, hs61, hs62, hs63, hs64, hs65, hs66, hs67, hs68, hs69, hs70, hs71, hs72, hs73, hw8, hw18, hw29, hw39, c9, if_true, z10, if_false, e0, h71, t2, cf, g, not_true_eq_false, iZ_suc]
          rw [← iZ_suc k, e0]
          rfl
        · rw [if_neg (fun z => g (by have y := z.2; rw [k0] at y; exact y))] at i1
          obtain ⟨A', k1, k2⟩ := i1
          rw [show b01 false = 0 from rfl] at k1
          refine ⟨A', ?_, k2⟩
          rw [← k1, q189_71]
          simp only [q189_0, q189_1, q189_2, q189_3, q189_6, q189_9, q189_12, q189_13, q189_14, q189_17, q189_18, q189_19, q189_21, q189_24, q189_25, q189_26, q189_29, q189_30, q189_31, q189_32, q189_33, q189_35, q189_36, q189_39, q189_41, q189_42, q189_46, q189_48, q189_51, q189_52, q189_54, q189_55, q189_56, q189_59, q189_62, q189_63, q189_65, q189_66, q189_68, q189_69, q189_73, q189_74, q189_77, q189_79, q189_82, q189_84, q189_87, q189_88, q189_89, q189_90, q189_93, q189_94, q189_95, q189_98, q189_101, q189_102, q189_105, q189_106, q189_109, q189_110, q189_111, q189_114, q189_116, q189_117, q189_118, q189_119, q189_122, q189_123, q189_124, q189_127, q189_129, q189_130, q189_133, q189_134, q189_135, q189_138, q189_139, q189_142, q189_143, q189_145, q189_147, q189_149, q189_152, q189_153, q189_156, q189_157, q189_158, q189_160, q189_163, q189_166, q189_168, q189_170, q189_173, q189_175, q189_177, q189_178, q189_179, q189_182, q189_185, q189_188, q189_189, q189_190, q189_193, q189_195, q189_198, q189_199, q189_200, q189_203, q189_204, q189_207, q189_208, q189_209, q189_212, q189_214, zrk_131, zrk_135, zrk_183, zrk_184, zrk_185, zrk_187, kI_app, kJ_app, kP_app, kV_app, kS_app, kC_app, kN_app, kM_app, zsw_cons, zsw_nil, lv_args_I, lv_args_R, lv_args_L, lv_args_nil, zlook_cons, zrI_some, zrJ_some, zrP_some, zrC_some, zrA_rw, zrAS_rw, zrLen_rw, zst1_nil, zst1_cI, zst1_cR, zst1_cL, zrm1_nil, zrm1_cI, zrm1_cR, zrm1_cL, zst2_nil, zst2_cI, zst2_cR, zst2_cL, zrm2_nil, zrm2_cI, zrm2_cR, zrm2_cL, zkeep_nil, zkeep_cons, zsum_nil, zsum_I, zsum_R, zsum_L, zsum_N, toL_s, toL_n, List.cons_append, List.nil_append, List.mem_cons, List.not_mem_nil, reduceCtorEq, Nat.reduceAdd, Nat.reduceLT, Nat.reduceLeDiff, Nat.reduceEqDiff, Nat.zero_ne_one, Nat.one_ne_zero, Nat.add_zero, Nat.zero_add, or_false, false_or, or_true, true_or, and_true, true_and, and_self, ↓reduceIte, Nat.succ_ne_self, Nat.reduceGT, Nat.reduceSub, Nat.le_refl, Nat.zero_le, zis_O, cl_is, clG_0, clG_1, clG_2, clG_3, clG_4, clG_5, clG_6, clS_6, clG_7, clG_8, clG_9, clS_9, clG_10, clG_11, clS_11, clG_12, clS_12, clG_13, clS_13, clG_14, clS_14, clG_15, clS_15, clG_16, clG_17, clS_17, od_is, odG_0, odG_1, odS_1, odG_2, odG_3, odS_3, odG_4, re_is, reG_0, reS_0, reG_1, reG_2, reG_3, reS_3, reG_4, reS_4, reG_5, reS_5, reG_6, reS_6, wo_is, woG_0, woG_1, woG_2, woS_2, woG_3, lm_is, lmG_0, lmG_1, lmG_2, lmG_3, lmG_4, lmG_5, lmG_6, lmG_7, lmG_8, lmS_8, lmG_9, lmS_9, lmG_10, lmS_10, lmG_11, lmS_11, lmG_12, lmS_12, mo_is, moG_0, moG_1, moG_2, moG_3, moG_4, moG_5, moS_5, moG_6, moS_6, moG_7, moS_7, moG_8, moG_9, moS_9, moG_10, moS_10, moG_11, moS_11, moG_12, moS_12, moG_13, moS_13, moG_14, moG_15, moS_15, moG_16, moG_17, moS_17, moG_18, moG_19, moG_20, i32ne0, i32ne1, i32ne2, i32ne3, i32ne4, i32ne5, i32ne6, i32ne7, i32ne8, i32ne9, i32ne10, j64ne, Int32.reduceAdd, Int32.reduceSub, Int32.reduceMul, Int32.reduceLT, Int32.reduceOfNat, Int32.reduceToNatClampNeg, cU_at, Nat.reduceMul, Nat.reduceMod, catR, catI, cV_self, cU_self, hg0, hg1, hg2, hg3, hg4, hg5, hg6, hg7, hg8, hg9, hg10, hg11, hg12, hg13, hg14, hg15, hg16, hg17, hg18, hg19, hg20, hg21, hg22, hg23, hg24, hg25, hg26, hg27, hg28, hg29, hg30, hg31, hg32, hg33, hg34, hg35, hg36, hg37, hg38, hg39, hg40, hg41, hg42, hg43, hg44, hg45, hg46, hg47, hg48, hg49, hg50, hg51, hg52, hg53, hg54, hg55, hg56, hg57, hg58, hg59, hg60, hg61, hg62, hg63, hg64, hg65, hg66, hg67, hg68, hg69, hg70, hg71, hg72, hg73, hg1001, hg1002, hg1003, hg1000, hg2000, hs0, hs8, hs9, hs10, hs11, hs12, hs13, hs14, hs15, hs16, hs17, hs18, hs19, hs20, hs21, hs22, hs23, hs24, hs25, hs26, hs27, hs29, hs30, hs31, hs32, hs33, hs34, hs35, hs36, hs37, hs38, hs39, hs40, hs41, hs42, hs43, hs44, hs45, hs46, hs47, hs48, hs49, hs50, hs51, hs52, hs53, hs54, hs55, hs56, hs57, hs59, hs60, hs61, hs62, hs63, hs64, hs65, hs66, hs67, hs68, hs69, hs70, hs71, hs72, hs73, hw8, hw18, hw29, hw39, c9, if_true, z10, if_false, e0, h71, t2, cf, g, not_false_eq_true, Int32.add_zero, iZ_suc]
          rw [← iZ_suc k, e0]
          rfl
      · have e0 : ¬ iZ (k : Int) = 0 := by
          rw [i_eqk 0 0 rfl (by omega) (by omega)]
          omega
        obtain ⟨k', ek'⟩ : ∃ k', k = k' + 1 := ⟨k - 1, by omega⟩
        have rl' := rP_lt (B := s 0 4) (by omega) (s 0 4) c k'
        have tk' := (q.1.s rl').2.1
        have h71' := hr k' (by omega)
        have t2' := sp_thick (ro := ro) h (k := rP (s 0 4) (s 0 4) c k') (by omega)
        have em : iZ (k : Int) - 1 = iZ (k' : Int) := by
          rw [iZ_1, iZ_sub]
          congr 1
          omega
        have pd : c / s 0 4 ^ (d + 1) % s 0 4 = rP (s 0 4) (s 0 4) c k' := (LC_dig (s 0) N (c := c) (k := k') (d := d + 1) (by omega)).2
        have e2 : iZ (s 0 (36 + 2 * rP (s 0 4) (s 0 4) c k)) - 2 = iZ ((s 0 (36 + 2 * rP (s 0 4) (s 0 4) c k) : Int) - 2) := by rw [show (2 : Int32) = iZ 2 from rfl, iZ_sub]
        have cf : (iZ (s 0 (36 + 2 * rP (s 0 4) (s 0 4) c k')) < iZ ((s 0 (36 + 2 * rP (s 0 4) (s 0 4) c k) : Int) - 2)) = (¬ th (s 0) (rP (s 0 4) (s 0 4) c k) ≤ flm (s 0) N k (c / s 0 4 ^ (d + 1))) := by
          unfold flm
          rw [if_neg k0, pd]
          unfold th
          rw [iZ_lt (by omega)]
          exact propext ⟨fun z => by omega, fun z => by omega⟩
        by_cases g : th (s 0) (rP (s 0 4) (s 0 4) c k) ≤ flm (s 0) N k (c / s 0 4 ^ (d + 1))
        · rw [if_pos ⟨on, g⟩] at i1
          obtain ⟨A', k1, k2⟩ := i1
          rw [show b01 true = 1 from rfl] at k1
          refine ⟨A', ?_, k2⟩
          rw [← k1, q189_71]
          simp only [q189_0, q189_1, q189_2, q189_3, q189_6, q189_9, q189_12, q189_13, q189_14, q189_17, q189_18, q189_19, q189_21, q189_24, q189_25, q189_26, q189_29, q189_30, q189_31, q189_32, q189_33, q189_35, q189_36, q189_39, q189_41, q189_42, q189_46, q189_48, q189_51, q189_52, q189_54, q189_55, q189_56, q189_59, q189_62, q189_63, q189_65, q189_66, q189_68, q189_69, q189_73, q189_74, q189_77, q189_79, q189_82, q189_84, q189_87, q189_88, q189_89, q189_90, q189_93, q189_94, q189_95, q189_98, q189_101, q189_102, q189_105, q189_106, q189_109, q189_110, q189_111, q189_114, q189_116, q189_117, q189_118, q189_119, q189_122, q189_123, q189_124, q189_127, q189_129, q189_130, q189_133, q189_134, q189_135, q189_138, q189_139, q189_142, q189_143, q189_145, q189_147, q189_149, q189_152, q189_153, q189_156, q189_157, q189_158, q189_160, q189_163, q189_166, q189_168, q189_170, q189_173, q189_175, q189_177, q189_178, q189_179, q189_182, q189_185, q189_188, q189_189, q189_190, q189_193, q189_195, q189_198, q189_199, q189_200, q189_203, q189_204, q189_207, q189_208, q189_209, q189_212, q189_214, zrk_131, zrk_135, zrk_183, zrk_184, zrk_185, zrk_187, kI_app, kJ_app, kP_app, kV_app, kS_app, kC_app, kN_app, kM_app, zsw_cons, zsw_nil, lv_args_I, lv_args_R, lv_args_L, lv_args_nil, zlook_cons, zrI_some, zrJ_some, zrP_some, zrC_some, zrA_rw, zrAS_rw, zrLen_rw, zst1_nil, zst1_cI, zst1_cR, zst1_cL, zrm1_nil, zrm1_cI, zrm1_cR, zrm1_cL, zst2_nil, zst2_cI, zst2_cR, zst2_cL, zrm2_nil, zrm2_cI, zrm2_cR, zrm2_cL, zkeep_nil, zkeep_cons, zsum_nil, zsum_I, zsum_R, zsum_L, zsum_N, toL_s, toL_n, List.cons_append, List.nil_append, List.mem_cons, List.not_mem_nil, reduceCtorEq, Nat.reduceAdd, Nat.reduceLT, Nat.reduceLeDiff, Nat.reduceEqDiff, Nat.zero_ne_one, Nat.one_ne_zero, Nat.add_zero, Nat.zero_add, or_false, false_or, or_true, true_or, and_true, true_and, and_self, ↓reduceIte, Nat.succ_ne_self, Nat.reduceGT, Nat.reduceSub, Nat.le_refl, Nat.zero_le, zis_O, cl_is, clG_0, clG_1, clG_2, clG_3, clG_4, clG_5, clG_6, clS_6, clG_7, clG_8, clG_9, clS_9, clG_10, clG_11, clS_11, clG_12, clS_12, clG_13, clS_13, clG_14, clS_14, clG_15, clS_15, clG_16, clG_17, clS_17, od_is, odG_0, odG_1, odS_1, odG_2, odG_3, odS_3, odG_4, re_is, reG_0, reS_0, reG_1, reG_2, reG_3, reS_3, reG_4, reS_4, reG_5, reS_5, reG_6, reS_6, wo_is, woG_0, woG_1, woG_2, woS_2, woG_3, lm_is, lmG_0, lmG_1, lmG_2, lmG_3, lmG_4, lmG_5, lmG_6, lmG_7, lmG_8, lmS_8, lmG_9, lmS_9, lmG_10, lmS_10, lmG_11, lmS_11, lmG_12, lmS_12, mo_is, moG_0, moG_1, moG_2, moG_3, moG_4, moG_5, moS_5, moG_6, moS_6, moG_7, moS_7, moG_8, moG_9, moS_9, moG_10, moS_10, moG_11, moS_11, moG_12, moS_12, moG_13, moS_13, moG_14, moG_15, moS_15, moG_16, moG_17, moS_17, moG_18, moG_19, moG_20, i32ne0, i32ne1, i32ne2, i32ne3, i32ne4, i32ne5, i32ne6, i32ne7, i32ne8, i32ne9, i32ne10, j64ne, Int32.reduceAdd, Int32.reduceSub, Int32.reduceMul, Int32.reduceLT, Int32.reduceOfNat, Int32.reduceToNatClampNeg, cU_at, Nat.reduceMul, Nat.reduceMod, catR, catI, cV_self, cU_self, hg0, hg1, hg2, hg3, hg4, hg5, hg6, hg7, hg8, hg9, hg10, hg11, hg12, hg13, hg14, hg15, hg16, hg17, hg18, hg19, hg20, hg21, hg22, hg23, hg24, hg25, hg26, hg27, hg28, hg29, hg30, hg31, hg32, hg33, hg34, hg35, hg36, hg37, hg38, hg39, hg40, hg41, hg42, hg43, hg44, hg45, hg46, hg47, hg48, hg49, hg50, hg51, hg52, hg53, hg54, hg55, hg56, hg57, hg58, hg59, hg60, hg61, hg62, hg63, hg64, hg65, hg66, hg67, hg68, hg69, hg70, hg71, hg72, hg73, hg1001, hg1002, hg1003, hg1000, hg2000, hs0, hs8, hs9, hs10, hs11, hs12, hs13, hs14, hs15, hs16, hs17, hs18, hs19, hs20, hs21, hs22, hs23, hs24, hs25, hs26, hs27, hs29, hs30, hs31, hs32, hs33, hs34, hs35, hs36, hs37, hs38, hs39, hs40, hs41, hs42, hs43, hs44, hs45, hs46, hs47, hs48, hs49, hs50, hs51, hs52, hs53, hs54, hs55, hs56, hs57, hs59, hs60, hs61, hs62, hs63, hs64, hs65, hs66, hs67, hs68, hs69, hs70, hs71, hs72, hs73, hw8, hw18, hw29, hw39, c9, if_true, z10, if_false, e0, em, i_nn (show k' < 2147483648 by omega), i_nn (show k < 2147483648 by omega), show ¬ 7 ≤ k' by omega, show ¬ 7 ≤ k by omega, iZ_ix (show k' < 2147483648 by omega), iZ_ix (show k < 2147483648 by omega), h71, h71', t2, t2', e2, cf, g, not_true_eq_false, iZ_suc]
        · rw [if_neg (fun z => g z.2)] at i1
          obtain ⟨A', k1, k2⟩ := i1
          rw [show b01 false = 0 from rfl] at k1
          refine ⟨A', ?_, k2⟩
          rw [← k1, q189_71]
          simp only [q189_0, q189_1, q189_2, q189_3, q189_6, q189_9, q189_12, q189_13, q189_14, q189_17, q189_18, q189_19, q189_21, q189_24, q189_25, q189_26, q189_29, q189_30, q189_31, q189_32, q189_33, q189_35, q189_36, q189_39, q189_41, q189_42, q189_46, q189_48, q189_51, q189_52, q189_54, q189_55, q189_56, q189_59, q189_62, q189_63, q189_65, q189_66, q189_68, q189_69, q189_73, q189_74, q189_77, q189_79, q189_82, q189_84, q189_87, q189_88, q189_89, q189_90, q189_93, q189_94, q189_95, q189_98, q189_101, q189_102, q189_105, q189_106, q189_109, q189_110, q189_111, q189_114, q189_116, q189_117, q189_118, q189_119, q189_122, q189_123, q189_124, q189_127, q189_129, q189_130, q189_133, q189_134, q189_135, q189_138, q189_139, q189_142, q189_143, q189_145, q189_147, q189_149, q189_152, q189_153, q189_156, q189_157, q189_158, q189_160, q189_163, q189_166, q189_168, q189_170, q189_173, q189_175, q189_177, q189_178, q189_179, q189_182, q189_185, q189_188, q189_189, q189_190, q189_193, q189_195, q189_198, q189_199, q189_200, q189_203, q189_204, q189_207, q189_208, q189_209, q189_212, q189_214, zrk_131, zrk_135, zrk_183, zrk_184, zrk_185, zrk_187, kI_app, kJ_app, kP_app, kV_app, kS_app, kC_app, kN_app, kM_app, zsw_cons, zsw_nil, lv_args_I, lv_args_R, lv_args_L, lv_args_nil, zlook_cons, zrI_some, zrJ_some, zrP_some, zrC_some, zrA_rw, zrAS_rw, zrLen_rw, zst1_nil, zst1_cI, zst1_cR, zst1_cL, zrm1_nil, zrm1_cI, zrm1_cR, zrm1_cL, zst2_nil, zst2_cI, zst2_cR, zst2_cL, zrm2_nil, zrm2_cI, zrm2_cR, zrm2_cL, zkeep_nil, zkeep_cons, zsum_nil, zsum_I, zsum_R, zsum_L, zsum_N, toL_s, toL_n, List.cons_append, List.nil_append, List.mem_cons, List.not_mem_nil, reduceCtorEq, Nat.reduceAdd, Nat.reduceLT, Nat.reduceLeDiff, Nat.reduceEqDiff, Nat.zero_ne_one, Nat.one_ne_zero, Nat.add_zero, Nat.zero_add, or_false, false_or, or_true, true_or, and_true, true_and, and_self, ↓reduceIte, Nat.succ_ne_self, Nat.reduceGT, Nat.reduceSub, Nat.le_refl, Nat.zero_le, zis_O, cl_is, clG_0, clG_1, clG_2, clG_3, clG_4, clG_5, clG_6, clS_6, clG_7, clG_8, clG_9, clS_9, clG_10, clG_11, clS_11, clG_12, clS_12, clG_13, clS_13, clG_14, clS_14, clG_15, clS_15, clG_16, clG_17, clS_17, od_is, odG_0, odG_1, odS_1, odG_2, odG_3, odS_3, odG_4, re_is, reG_0, reS_0, reG_1, reG_2, reG_3, reS_3, reG_4, reS_4, reG_5, reS_5, reG_6, reS_6, wo_is, woG_0, woG_1, woG_2, woS_2, woG_3, lm_is, lmG_0, lmG_1, lmG_2, lmG_3, lmG_4, lmG_5, lmG_6, lmG_7, lmG_8, lmS_8, lmG_9, lmS_9, lmG_10, lmS_10, lmG_11, lmS_11, lmG_12, lmS_12, mo_is, moG_0, moG_1, moG_2, moG_3, moG_4, moG_5, moS_5, moG_6, moS_6, moG_7, moS_7, moG_8, moG_9, moS_9, moG_10, moS_10, moG_11, moS_11, moG_12, moS_12, moG_13, moS_13, moG_14, moG_15, moS_15, moG_16, moG_17, moS_17, moG_18, moG_19, moG_20, i32ne0, i32ne1, i32ne2, i32ne3, i32ne4, i32ne5, i32ne6, i32ne7, i32ne8, i32ne9, i32ne10, j64ne, Int32.reduceAdd, Int32.reduceSub, Int32.reduceMul, Int32.reduceLT, Int32.reduceOfNat, Int32.reduceToNatClampNeg, cU_at, Nat.reduceMul, Nat.reduceMod, catR, catI, cV_self, cU_self, hg0, hg1, hg2, hg3, hg4, hg5, hg6, hg7, hg8, hg9, hg10, hg11, hg12, hg13, hg14, hg15, hg16, hg17, hg18, hg19, hg20, hg21, hg22, hg23, hg24, hg25, hg26, hg27, hg28, hg29, hg30, hg31, hg32, hg33, hg34, hg35, hg36, hg37, hg38, hg39, hg40, hg41, hg42, hg43, hg44, hg45, hg46, hg47, hg48, hg49, hg50, hg51, hg52, hg53, hg54, hg55, hg56, hg57, hg58, hg59, hg60, hg61, hg62, hg63, hg64, hg65, hg66, hg67, hg68, hg69, hg70, hg71, hg72, hg73, hg1001, hg1002, hg1003, hg1000, hg2000, hs0, hs8, hs9, hs10, hs11, hs12, hs13, hs14, hs15, hs16, hs17, hs18, hs19, hs20, hs21, hs22, hs23, hs24, hs25, hs26, hs27, hs29, hs30, hs31, hs32, hs33, hs34, hs35, hs36, hs37, hs38, hs39, hs40, hs41, hs42, hs43, hs44, hs45, hs46, hs47, hs48, hs49, hs50, hs51, hs52, hs53, hs54, hs55, hs56, hs57, hs59, hs60, hs61, hs62, hs63, hs64, hs65, hs66, hs67, hs68, hs69, hs70, hs71, hs72, hs73, hw8, hw18, hw29, hw39, c9, if_true, z10, if_false, e0, em, i_nn (show k' < 2147483648 by omega), i_nn (show k < 2147483648 by omega), show ¬ 7 ≤ k' by omega, show ¬ 7 ≤ k by omega, iZ_ix (show k' < 2147483648 by omega), iZ_ix (show k < 2147483648 by omega), h71, h71', t2, t2', e2, cf, g, not_false_eq_true, Int32.add_zero, iZ_suc]
    · have off : (LC (s 0) N k (c / s 0 4 ^ (d + 1))).2 = false := by
        cases z : (LC (s 0) N k (c / s 0 4 ^ (d + 1))).2
        · rfl
        · exact absurd z on
      have eo := (LC_off (d + 1) k c off).1
      rw [hk] at eo
      have eo' : ltN (s 0) N c = (LC (s 0) N k (c / s 0 4 ^ (d + 1))).1 := eo
      rw [off, ← eo', show b01 false = 0 from rfl]
      obtain ⟨A', k1, k2⟩ := fin (iZ (k : Int)) 0
      refine ⟨A', ?_, k2⟩
      rw [← k1, q189_71]
      simp only [q189_0, q189_1, q189_2, q189_3, q189_6, q189_9, q189_12, q189_13, q189_14, q189_17, q189_18, q189_19, q189_21, q189_24, q189_25, q189_26, q189_29, q189_30, q189_31, q189_32, q189_33, q189_35, q189_36, q189_39, q189_41, q189_42, q189_46, q189_48, q189_51, q189_52, q189_54, q189_55, q189_56, q189_59, q189_62, q189_63, q189_65, q189_66, q189_68, q189_69, q189_73, q189_74, q189_77, q189_79, q189_82, q189_84, q189_87, q189_88, q189_89, q189_90, q189_93, q189_94, q189_95, q189_98, q189_101, q189_102, q189_105, q189_106, q189_109, q189_110, q189_111, q189_114, q189_116, q189_117, q189_118, q189_119, q189_122, q189_123, q189_124, q189_127, q189_129, q189_130, q189_133, q189_134, q189_135, q189_138, q189_139, q189_142, q189_143, q189_145, q189_147, q189_149, q189_152, q189_153, q189_156, q189_157, q189_158, q189_160, q189_163, q189_168, q189_170, q189_173, q189_175, q189_177, q189_178, q189_179, q189_182, q189_185, q189_188, q189_189, q189_190, q189_193, q189_195, q189_198, q189_199, q189_200, q189_203, q189_204, q189_207, q189_208, q189_209, q189_212, q189_214, zrk_131, zrk_135, zrk_183, zrk_184, zrk_185, zrk_187, kI_app, kJ_app, kP_app, kV_app, kS_app, kC_app, kN_app, kM_app, zsw_cons, zsw_nil, lv_args_I, lv_args_R, lv_args_L, lv_args_nil, zlook_cons, zrI_some, zrJ_some, zrP_some, zrC_some, zrA_rw, zrAS_rw, zrLen_rw, zst1_nil, zst1_cI, zst1_cR, zst1_cL, zrm1_nil, zrm1_cI, zrm1_cR, zrm1_cL, zst2_nil, zst2_cI, zst2_cR, zst2_cL, zrm2_nil, zrm2_cI, zrm2_cR, zrm2_cL, zkeep_nil, zkeep_cons, zsum_nil, zsum_I, zsum_R, zsum_L, zsum_N, toL_s, toL_n, List.cons_append, List.nil_append, List.mem_cons, List.not_mem_nil, reduceCtorEq, Nat.reduceAdd, Nat.reduceLT, Nat.reduceLeDiff, Nat.reduceEqDiff, Nat.zero_ne_one, Nat.one_ne_zero, Nat.add_zero, Nat.zero_add, or_false, false_or, or_true, true_or, and_true, true_and, and_self, ↓reduceIte, Nat.succ_ne_self, Nat.reduceGT, Nat.reduceSub, Nat.le_refl, Nat.zero_le, zis_O, cl_is, clG_0, clG_1, clG_2, clG_3, clG_4, clG_5, clG_6, clS_6, clG_7, clG_8, clG_9, clS_9, clG_10, clG_11, clS_11, clG_12, clS_12, clG_13, clS_13, clG_14, clS_14, clG_15, clS_15, clG_16, clG_17, clS_17, od_is, odG_0, odG_1, odS_1, odG_2, odG_3, odS_3, odG_4, re_is, reG_0, reS_0, reG_1, reG_2, reG_3, reS_3, reG_4, reS_4, reG_5, reS_5, reG_6, reS_6, wo_is, woG_0, woG_1, woG_2, woS_2, woG_3, lm_is, lmG_0, lmG_1, lmG_2, lmG_3, lmG_4, lmG_5, lmG_6, lmG_7, lmG_8, lmS_8, lmG_9, lmS_9, lmG_10, lmS_10, lmG_11, lmS_11, lmG_12, lmS_12, mo_is, moG_0, moG_1, moG_2, moG_3, moG_4, moG_5, moS_5, moG_6, moS_6, moG_7, moS_7, moG_8, moG_9, moS_9, moG_10, moS_10, moG_11, moS_11, moG_12, moS_12, moG_13, moS_13, moG_14, moG_15, moS_15, moG_16, moG_17, moS_17, moG_18, moG_19, moG_20, i32ne0, i32ne1, i32ne2, i32ne3, i32ne4, i32ne5, i32ne6, i32ne7, i32ne8, i32ne9, i32ne10, j64ne, Int32.reduceAdd, Int32.reduceSub, Int32.reduceMul, Int32.reduceLT, Int32.reduceOfNat, Int32.reduceToNatClampNeg, cU_at, Nat.reduceMul, Nat.reduceMod, c9, if_true]
end MO2
