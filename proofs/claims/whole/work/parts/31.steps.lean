/-! WHAT THE WRITING CALLS DO, over numbers: the answer and the new book -/
def oG (a : Nat → Nat) (w n : Int) : Int × (Nat → Nat) := if (0 ≤ w ∧ w ≤ 3) ∧ (if w = 3 then (a 3 : Int) else 0) ≤ n ∧ n ≤ (if w < 2 then 9 else if w = 2 then 3 else 12) then ((a (8 + w.toNat) : Int), nU a (8 + w.toNat) n.toNat) else (-2, a)
def oC (a : Nat → Nat) (r n : Int) : Int × (Nat → Nat) := if (0 ≤ r ∧ r ≤ 5) ∧ 0 ≤ n ∧ n ≤ 10 then ((a (12 + r.toNat) : Int), nU a (12 + r.toNat) n.toNat) else (-2, a)
def oM (a : Nat → Nat) (k h l : Int) : Int × (Nat → Nat) := if (0 ≤ k ∧ k ≤ 5) ∧ (0 ≤ h ∧ h ≤ 10) ∧ 1 ≤ l ∧ l ≤ 9 then (if a 0 = 6 then (-4, a) else ((a 0 : Int), nU (nU (nU (nU a (18 + 3 * a 0) k.toNat) (19 + 3 * a 0) h.toNat) (20 + 3 * a 0) l.toNat) 0 (a 0 + 1))) else (-2, a)
def oS (a : Nat → Nat) (t b : Int) : Int × (Nat → Nat) := if (1 ≤ t ∧ t ≤ 9) ∧ 0 ≤ b ∧ b < ((2 ^ a 4 : Nat) : Int) then (if a 4 = 7 then (-4, a) else ((a 4 : Int), nU (nU (nU a (36 + 2 * a 4) t.toNat) (37 + 2 * a 4) b.toNat) 4 (a 4 + 1))) else (-2, a)
def oP (a : Nat → Nat) (n : Int) : Int × (Nat → Nat) := if 0 ≤ n ∧ n ≤ 18 then (if a 5 = 5 then (-4, a) else ((a 5 + 1 : Nat), nU (nU a (50 + a 5) n.toNat) 5 (a 5 + 1))) else (-2, a)
def oN (a : Nat → Nat) (w : Int) : Int × (Nat → Nat) := if w = 0 then ((a 4 : Int), nU a 4 0) else if w = 1 then ((a 5 : Int), nU a 5 0) else (-2, a)
section STP
variable {a : Nat → Nat}
theorem live_nU {j k v : Nat} (h : live (nU a k v) j) (h0 : k ≠ 0) (h4 : k ≠ 4) (h5 : k ≠ 5) (h6 : k ≠ 6) : live a j := by
  unfold live at h ⊢
  rw [nU_n (Ne.symm h0), nU_n (Ne.symm h4), nU_n (Ne.symm h5), nU_n (Ne.symm h6)] at h
  exact h
/-- a place that is not a count and not a next is written -/
theorem Good.u (g : Good a) {k v : Nat} (hk : k < 18 ∧ k ≠ 0 ∧ k ≠ 1 ∧ k ≠ 4 ∧ k ≠ 5 ∧ k ≠ 6) (hv : v ≤ bnd k) : Good (nU a k v) := by
  refine ⟨fun j hj hl => ?_, ?_, fun m hm => ?_, fun s hs => ?_, fun u hu => ?_⟩
  · by_cases e : j = k
    · subst e
      rw [nU_s]
      exact hv
    · rw [nU_n e]
      exact g.1 j hj (live_nU hl (by omega) (by omega) (by omega) (by omega))
  · rw [nU_n (by omega), nU_n (by omega)]
    exact g.2.1
  · rw [nU_n (by omega)] at hm ⊢
    exact g.2.2.1 m hm
  · rw [nU_n (by omega)] at hs
    rw [nU_n (by omega), nU_n (by omega)]
    exact g.2.2.2.1 s hs
  · rw [nU_n (by omega)] at hu
    rw [nU_n (by omega), nU_n (by omega)]
    exact g.2.2.2.2 u hu
theorem good_oG (g : Good a) (w n : Int) : Good (oG a w n).2 := by
  unfold oG
  by_cases h : (0 ≤ w ∧ w ≤ 3) ∧ (if w = 3 then (a 3 : Int) else 0) ≤ n ∧ n ≤ (if w < 2 then 9 else if w = 2 then 3 else 12)
  · rw [if_pos h]
    obtain ⟨hw, h1, h2⟩ := h
    have e8 : bnd 8 = 9 := rfl
    have e9 : bnd 9 = 9 := rfl
    have e10 : bnd 10 = 3 := rfl
    have e11 : bnd 11 = 12 := rfl
    rcases (show w = 0 ∨ w = 1 ∨ w = 2 ∨ w = 3 by omega) with rfl | rfl | rfl | rfl
    · exact g.u (k := 8) (v := n.toNat) (by decide) (by rw [if_pos (by decide)] at h2; omega)
    · exact g.u (k := 9) (v := n.toNat) (by decide) (by rw [if_pos (by decide)] at h2; omega)
    · exact g.u (k := 10) (v := n.toNat) (by decide) (by rw [if_neg (by decide), if_pos rfl] at h2; omega)
    · exact g.u (k := 11) (v := n.toNat) (by decide) (by rw [if_neg (by decide), if_neg (by decide)] at h2; omega)
  · rw [if_neg h]
    exact g
theorem good_oC (g : Good a) (r n : Int) : Good (oC a r n).2 := by
  unfold oC
  split
  · rename_i h
    refine g.u (by omega) ?_
    rw [bnd_c _ (by omega)]
    omega
  · exact g
theorem good_oM (g : Good a) (k h l : Int) : Good (oM a k h l).2 := by
  unfold oM
  split
  · rename_i q
    split
    · exact g
    · rename_i q6
      have n0 := g.n0
      have bm := bnd_m (a 0) (by omega)
      dsimp only
      refine ⟨fun j hj hl => ?_, ?_, fun m hm => ?_, fun s hs => ?_, fun u hu => ?_⟩
      · simp only [nU_at]
        simp only [live, nU_at] at hl
        split
        · have e : bnd 0 = 6 := rfl
          subst j
          omega
        · split
          · subst j
            omega
          · split
            · subst j
              omega
            · split
              · subst j
                omega
              · refine g.1 j hj ?_
                unfold live
                simp only [if_true] at hl
                have z4 : ¬ (4 = 0) := by decide
                rw [if_neg (by omega), if_neg (by omega), if_neg (by omega), if_neg (by omega), if_neg (by omega), if_neg (by omega), if_neg (by omega), if_neg (by omega), if_neg (by omega), if_neg (by omega), if_neg (by omega), if_neg (by omega)] at hl
                omega
      · rw [nU_n (by omega), nU_n (by omega), nU_n (by omega), nU_n (by omega), nU_s]
        have := g.2.1
        omega
      · rw [nU_s] at hm
        by_cases e : m = a 0
        · subst e
          rw [nU_n (by omega), nU_s]
          omega
        · rw [nU_n (by omega), nU_n (by omega), nU_n (by omega), nU_n (by omega)]
          exact g.2.2.1 m (by omega)
      · rw [nU_n (by omega), nU_n (by omega), nU_n (by omega), nU_n (by omega)] at hs
        have n4 := g.n4
        rw [nU_n (by omega), nU_n (by omega), nU_n (by omega), nU_n (by omega), nU_n (by omega), nU_n (by omega), nU_n (by omega), nU_n (by omega)]
        exact g.2.2.2.1 s hs
      · rw [nU_n (by omega), nU_n (by omega), nU_n (by omega), nU_n (by omega)] at hu
        rw [nU_n (by omega), nU_n (by omega), nU_n (by omega), nU_n (by omega), nU_s]
        have := g.2.2.2.2 u hu
        omega
  · exact g
theorem good_oS (g : Good a) (t b : Int) : Good (oS a t b).2 := by
  unfold oS
  split
  · rename_i q
    split
    · exact g
    · rename_i q6
      have n4 := g.n4
      have bm := bnd_s (a 4) (by omega)
      have p7 : 2 ^ a 4 ≤ 64 := by
        have := Nat.pow_le_pow_right (n := 2) (by decide) (show a 4 ≤ 6 by omega)
        exact this
      dsimp only
      refine ⟨fun j hj hl => ?_, ?_, fun m hm => ?_, fun s hs => ?_, fun u hu => ?_⟩
      · simp only [nU_at]
        simp only [live, nU_at] at hl
        split
        · have e : bnd 4 = 7 := rfl
          subst j
          omega
        · split
          · subst j
            omega
          · split
            · subst j
              omega
            · refine g.1 j hj ?_
              unfold live
              simp only [if_true] at hl
              rw [if_neg (by omega), if_neg (by omega), if_neg (by omega), if_neg (by omega), if_neg (by omega), if_neg (by omega), if_neg (by omega), if_neg (by omega), if_neg (by omega)] at hl
              omega
      · rw [nU_n (by omega), nU_n (by omega), nU_n (by omega), nU_n (by omega), nU_n (by omega), nU_n (by omega)]
        exact g.2.1
      · rw [nU_n (by omega), nU_n (by omega), nU_n (by omega)] at hm
        have n0 := g.n0
        rw [nU_n (by omega), nU_n (by omega), nU_n (by omega)]
        exact g.2.2.1 m hm
      · rw [nU_s] at hs
        by_cases e : s = a 4
        · subst e
          rw [nU_n (by omega), nU_n (by omega), nU_s, nU_n (by omega), nU_s]
          omega
        · rw [nU_n (by omega), nU_n (by omega), nU_n (by omega), nU_n (by omega), nU_n (by omega), nU_n (by omega)]
          exact g.2.2.2.1 s (by omega)
      · rw [nU_n (by omega), nU_n (by omega), nU_n (by omega)] at hu
        rw [nU_n (by omega), nU_n (by omega), nU_n (by omega), nU_n (by omega), nU_n (by omega), nU_n (by omega)]
        exact g.2.2.2.2 u hu
  · exact g
theorem good_oP (g : Good a) (n : Int) : Good (oP a n).2 := by
  unfold oP
  split
  · rename_i q
    split
    · exact g
    · rename_i q6
      have n5 := g.n5
      have bm := bnd_p (a 5) (by omega)
      dsimp only
      refine ⟨fun j hj hl => ?_, ?_, fun m hm => ?_, fun s hs => ?_, fun u hu => ?_⟩
      · simp only [nU_at]
        simp only [live, nU_at] at hl
        split
        · have e : bnd 5 = 5 := rfl
          subst j
          omega
        · split
          · subst j
            omega
          · refine g.1 j hj ?_
            unfold live
            simp only [if_true] at hl
            rw [if_neg (by omega), if_neg (by omega), if_neg (by omega), if_neg (by omega), if_neg (by omega), if_neg (by omega)] at hl
            omega
      · rw [nU_n (by omega), nU_n (by omega), nU_n (by omega), nU_n (by omega)]
        exact g.2.1
      · rw [nU_n (by omega), nU_n (by omega)] at hm
        have n0 := g.n0
        rw [nU_n (by omega), nU_n (by omega)]
        exact g.2.2.1 m hm
      · rw [nU_n (by omega), nU_n (by omega)] at hs
        have n4 := g.n4
        rw [nU_n (by omega), nU_n (by omega), nU_n (by omega), nU_n (by omega)]
        exact g.2.2.2.1 s hs
      · rw [nU_n (by omega), nU_n (by omega)] at hu
        rw [nU_n (by omega), nU_n (by omega), nU_n (by omega), nU_n (by omega)]
        exact g.2.2.2.2 u hu
  · exact g
theorem good_c4 (g : Good a) : Good (nU a 4 0) := by
  have n4 := g.n4
  have n0 := g.n0
  refine ⟨fun j hj hl => ?_, ?_, fun m hm => ?_, fun s hs => ?_, fun u hu => ?_⟩
  · simp only [nU_at]
    split
    · exact Nat.zero_le _
    · refine g.1 j hj ?_
      unfold live at hl ⊢
      rw [show nU a 4 0 0 = a 0 from rfl, show nU a 4 0 4 = 0 from rfl, show nU a 4 0 5 = a 5 from rfl, show nU a 4 0 6 = a 6 from rfl] at hl
      omega
  · rw [nU_n (by omega), nU_n (by omega)]
    exact g.2.1
  · rw [nU_n (by omega)] at hm ⊢
    exact g.2.2.1 m hm
  · rw [nU_s] at hs
    exact absurd hs (Nat.not_lt_zero s)
  · rw [nU_n (by omega)] at hu
    rw [nU_n (by omega), nU_n (by omega)]
    exact g.2.2.2.2 u hu
theorem good_c5 (g : Good a) : Good (nU a 5 0) := by
  have n4 := g.n4
  have n0 := g.n0
  refine ⟨fun j hj hl => ?_, ?_, fun m hm => ?_, fun s hs => ?_, fun u hu => ?_⟩
  · simp only [nU_at]
    split
    · exact Nat.zero_le _
    · refine g.1 j hj ?_
      unfold live at hl ⊢
      rw [show nU a 5 0 0 = a 0 from rfl, show nU a 5 0 4 = a 4 from rfl, show nU a 5 0 5 = 0 from rfl, show nU a 5 0 6 = a 6 from rfl] at hl
      omega
  · rw [nU_n (by omega), nU_n (by omega)]
    exact g.2.1
  · rw [nU_n (by omega)] at hm ⊢
    exact g.2.2.1 m hm
  · rw [nU_n (by omega)] at hs
    rw [nU_n (by omega), nU_n (by omega)]
    exact g.2.2.2.1 s hs
  · rw [nU_n (by omega)] at hu
    rw [nU_n (by omega), nU_n (by omega)]
    exact g.2.2.2.2 u hu
theorem good_oN (g : Good a) (w : Int) : Good (oN a w).2 := by
  unfold oN
  split
  · exact good_c4 g
  · split
    · exact good_c5 g
    · exact g
end STP
