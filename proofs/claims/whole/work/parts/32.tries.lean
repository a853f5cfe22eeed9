/-! TRIES OVER NUMBERS -/
def remA (a : Nat → Nat) : Nat → Nat := if a 6 = 8 then (fun j => if j = 83 then a 1 else if j = 84 then a 2 else if j = 85 then a 3 else if j = 86 then a 7 else if 55 ≤ j ∧ j < 83 then a (j + 4) else a j) else nU (nU (nU (nU (nU a (55 + 4 * a 6) (a 1)) (56 + 4 * a 6) (a 2)) (57 + 4 * a 6) (a 3)) (58 + 4 * a 6) (a 7)) 6 (a 6 + 1)
def oT (a : Nat → Nat) (l f : Nat) : Int × (Nat → Nat) := if f ≠ 0 ∧ l = 0 then (-2, a) else if a 7 ≠ 0 ∨ a 1 = a 0 then (-3, a) else ((a 1 : Int), nU (nU (remA a) 7 f) 1 (a 1 + 1))
def oR (a : Nat → Nat) : Int × (Nat → Nat) := if a 7 ≠ 0 ∨ a 11 ≤ a 3 then (-3, a) else (((if a 2 < 5 then a 2 + 1 else 5 : Nat) : Int), nU (nU (remA a) 2 (if a 2 < 5 then a 2 + 1 else 5)) 3 (a 3 + 1))
def oU (a : Nat → Nat) : Int × (Nat → Nat) := if a 6 = 0 then (-3, a) else (1, nU (nU (nU (nU (nU a 6 (a 6 - 1)) 2 (a (52 + 4 * a 6))) 3 (a (53 + 4 * a 6))) 1 (a (51 + 4 * a 6))) 7 (a (54 + 4 * a 6)))
section TRN
variable {a : Nat → Nat}
theorem bnd_4 : ∀ j, j < 83 → 55 ≤ j → bnd (j + 4) = bnd j := by decide +kernel
theorem remA_l (g : Good a) {j : Nat} (h : j < 55) (h6 : j ≠ 6) : remA a j = a j := by
  unfold remA
  split
  · dsimp only
    rw [if_neg (by omega), if_neg (by omega), if_neg (by omega), if_neg (by omega), if_neg (by omega)]
  · rw [nU_n h6, nU_n (by omega), nU_n (by omega), nU_n (by omega), nU_n (by omega)]
theorem remA_6 (g : Good a) : remA a 6 = if a 6 = 8 then 8 else a 6 + 1 := by
  unfold remA
  split
  · rename_i e
    dsimp only
    rw [if_neg (show ¬ 6 = 83 by decide), if_neg (show ¬ 6 = 84 by decide), if_neg (show ¬ 6 = 85 by decide), if_neg (show ¬ 6 = 86 by decide), if_neg (show ¬ (55 ≤ 6 ∧ 6 < 83) by decide)]
    exact e
  · exact nU_s _ _ _
theorem good_remA (g : Good a) : Good (remA a) := by
  have n6 := g.n6
  have n0 := g.n0
  have n1 := g.n1
  have n2 := g.n2
  have n3 := g.n3
  have n4 := g.n4
  have n7 := g.n7
  have l0 := remA_l g (j := 0) (by decide) (by decide)
  have l1 := remA_l g (j := 1) (by decide) (by decide)
  have l4 := remA_l g (j := 4) (by decide) (by decide)
  have l5 := remA_l g (j := 5) (by decide) (by decide)
  have l6 := remA_6 g
  refine ⟨fun j hj hl => ?_, ?_, fun m hm => ?_, fun s hs => ?_, fun u hu => ?_⟩
  · unfold live at hl
    rw [l0, l4, l5, l6] at hl
    by_cases e6 : j = 6
    · subst e6
      rw [l6]
      have : bnd 6 = 8 := rfl
      split <;> omega
    · by_cases e : j < 55
      · rw [remA_l g e e6]
        exact g.1 j hj (by unfold live; omega)
      · unfold remA
        split
        · rename_i e8
          have b : bnd 83 = 6 ∧ bnd 84 = 5 ∧ bnd 85 = 12 ∧ bnd 86 = 1 := bnd_w 7 (by decide)
          dsimp only
          split
          · subst j
            have := b.1
            omega
          · split
            · subst j
              have := b.2.1
              omega
            · split
              · subst j
                have := b.2.2.1
                omega
              · split
                · subst j
                  have := b.2.2.2
                  omega
                · rw [if_pos (by omega), ← bnd_4 j (by omega) (by omega)]
                  exact g.1 (j + 4) (by omega) (by unfold live; omega)
        · rename_i e8
          have b := bnd_w (a 6) (by omega)
          simp only [nU_at]
          rw [if_neg e6]
          split
          · subst j
            omega
          · split
            · subst j
              omega
            · split
              · subst j
                omega
              · split
                · subst j
                  omega
                · rw [if_neg e8] at hl
                  exact g.1 j hj (by unfold live; omega)
  · rw [l1, l0]
    exact n1
  · rw [l0] at hm
    rw [remA_l g (by omega) (by omega)]
    exact g.2.2.1 m hm
  · rw [l4] at hs
    rw [remA_l g (by omega) (by omega), remA_l g (by omega) (by omega)]
    exact g.2.2.2.1 s hs
  · rw [l6] at hu
    rw [l0]
    unfold remA
    split
    · rename_i e8
      rw [if_pos e8] at hu
      by_cases e : u = 7
      · subst e
        exact n1
      · dsimp only
        rw [if_neg (by omega), if_neg (by omega), if_neg (by omega), if_neg (by omega), if_pos (by omega)]
        have := g.2.2.2.2 (u + 1) (by omega)
        rw [show 55 + 4 * u + 4 = 55 + 4 * (u + 1) by omega]
        exact this
    · rename_i e8
      rw [if_neg e8] at hu
      simp only [nU_at]
      by_cases e : u = a 6
      · subst e
        rw [if_neg (by omega), if_neg (by omega), if_neg (by omega), if_neg (by omega), if_pos rfl]
        exact n1
      · rw [if_neg (by omega), if_neg (by omega), if_neg (by omega), if_neg (by omega), if_neg (by omega)]
        exact g.2.2.2.2 u (by omega)
/-- next is written -/
theorem Good.u1 (g : Good a) {v : Nat} (hv : v ≤ a 0) : Good (nU a 1 v) := by
  have n0 := g.n0
  refine ⟨fun j hj hl => ?_, hv, fun m hm => ?_, fun s hs => ?_, fun u hu => ?_⟩
  · by_cases e : j = 1
    · subst e
      rw [nU_s]
      have : bnd 1 = 6 := rfl
      omega
    · rw [nU_n e]
      exact g.1 j hj (live_nU hl (by omega) (by omega) (by omega) (by omega))
  · rw [nU_n (by omega)] at hm ⊢
    exact g.2.2.1 m hm
  · rw [nU_n (by omega)] at hs
    rw [nU_n (by omega), nU_n (by omega)]
    exact g.2.2.2.1 s hs
  · rw [nU_n (by omega)] at hu
    rw [nU_n (by omega), nU_n (by omega)]
    exact g.2.2.2.2 u hu
/-- fewer undos are kept -/
theorem Good.u6 (g : Good a) {v : Nat} (hv : v ≤ a 6) : Good (nU a 6 v) := by
  have n6 := g.n6
  refine ⟨fun j hj hl => ?_, ?_, fun m hm => ?_, fun s hs => ?_, fun u hu => ?_⟩
  · by_cases e : j = 6
    · subst e
      rw [nU_s]
      have : bnd 6 = 8 := rfl
      omega
    · rw [nU_n e]
      refine g.1 j hj ?_
      unfold live at hl ⊢
      rw [show nU a 6 v 0 = a 0 from rfl, show nU a 6 v 4 = a 4 from rfl, show nU a 6 v 5 = a 5 from rfl, show nU a 6 v 6 = v from rfl] at hl
      omega
  · exact g.2.1
  · rw [nU_n (by omega)] at hm ⊢
    exact g.2.2.1 m hm
  · rw [nU_n (by omega)] at hs
    rw [nU_n (by omega), nU_n (by omega)]
    exact g.2.2.2.1 s hs
  · rw [nU_s] at hu
    rw [nU_n (by omega), nU_n (by omega)]
    exact g.2.2.2.2 u (by omega)
theorem good_oT (g : Good a) {l f : Nat} (hf : f ≤ 1) : Good (oT a l f).2 := by
  unfold oT
  split
  · exact g
  · split
    · exact g
    · rename_i h
      have gr := good_remA g
      have n1 := g.n1
      refine (gr.u (k := 7) (by decide) (show f ≤ bnd 7 from hf)).u1 ?_
      rw [nU_n (by omega), remA_l g (by decide) (by decide)]
      omega
theorem good_oR (g : Good a) : Good (oR a).2 := by
  unfold oR
  split
  · exact g
  · rename_i h
    have gr := good_remA g
    have n11 := g.n11
    refine (gr.u (k := 2) (by decide) (show _ ≤ bnd 2 from ?_)).u (k := 3) (by decide) (show a 3 + 1 ≤ bnd 3 from ?_)
    · have : bnd 2 = 5 := rfl
      split <;> omega
    · have : bnd 3 = 12 := rfl
      omega
theorem good_oU (g : Good a) : Good (oU a).2 := by
  unfold oU
  split
  · exact g
  · rename_i h
    have n6 := g.n6
    have w := g.w (i := a 6 - 1) (by omega)
    rw [show 55 + 4 * (a 6 - 1) = 51 + 4 * a 6 by omega, show 56 + 4 * (a 6 - 1) = 52 + 4 * a 6 by omega, show 57 + 4 * (a 6 - 1) = 53 + 4 * a 6 by omega, show 58 + 4 * (a 6 - 1) = 54 + 4 * a 6 by omega] at w
    have b2 : bnd 2 = 5 := rfl
    have b3 : bnd 3 = 12 := rfl
    have b7 : bnd 7 = 1 := rfl
    refine ((((g.u6 (v := a 6 - 1) (by omega)).u (k := 2) (by decide) ?_).u (k := 3) (by decide) ?_).u1 ?_).u (k := 7) (by decide) ?_
    · omega
    · omega
    · exact w.1
    · omega
end TRN
