/-! LAID: all is over by the minute 54; the class -/
/-- how many of the first n were lit before v -/
def ctN (z : Nat → Nat) (v : Nat) : Nat → Nat
  | 0 => 0
  | i + 1 => ctN z v i + (if z i ≠ 0 ∧ z i < v then 1 else 0)
section LA1
variable {a : Nat → Nat}
theorem ct_le (z : Nat → Nat) (v : Nat) : ∀ n, ctN z v n ≤ n
  | 0 => Nat.le_refl 0
  | n + 1 => by
    have := ct_le z v n
    show _ + (if _ then 1 else 0) ≤ _
    split <;> omega
theorem ct_out {z : Nat → Nat} (v : Nat) {s : Nat} (h : z s = 0) : ∀ n, s < n → ctN z v n + 1 ≤ n
  | 0, q => absurd q (Nat.not_lt_zero s)
  | n + 1, q => by
    show ctN z v n + (if _ then 1 else 0) + 1 ≤ n + 1
    by_cases e : s = n
    · subst e
      have := ct_le z v s
      rw [if_neg (fun c => c.1 h)]
      omega
    · have := ct_out v h n (by omega)
      split <;> omega
theorem ct_mono {z y : Nat → Nat} {v w : Nat} (h : ∀ i, z i ≠ 0 ∧ z i < v → y i ≠ 0 ∧ y i < w) : ∀ n, ctN z v n ≤ ctN y w n
  | 0 => Nat.le_refl 0
  | n + 1 => by
    have := ct_mono h n
    show ctN z v n + (if _ then 1 else 0) ≤ ctN y w n + (if _ then 1 else 0)
    by_cases c : z n ≠ 0 ∧ z n < v
    · rw [if_pos c, if_pos (h n c)]
      omega
    · rw [if_neg c]
      split <;> omega
theorem ct_strict {z : Nat → Nat} {v w i : Nat} (h1 : z i ≠ 0) (h2 : z i = v) (h3 : v < w) : ∀ n, i < n → ctN z v n + 1 ≤ ctN z w n
  | 0, q => absurd q (Nat.not_lt_zero i)
  | n + 1, q => by
    show ctN z v n + (if _ then 1 else 0) + 1 ≤ ctN z w n + (if _ then 1 else 0)
    by_cases e : i = n
    · subst e
      have := ct_mono (z := z) (y := z) (v := v) (w := w) (fun j c => ⟨c.1, by omega⟩) i
      rw [if_neg (by omega), if_pos ⟨h1, by omega⟩]
      omega
    · have := ct_strict h1 h2 h3 n (by omega)
      by_cases c : z n ≠ 0 ∧ z n < v
      · rw [if_pos c, if_pos ⟨c.1, by omega⟩]
        omega
      · rw [if_neg c]
        split <;> omega
/-- what is lit was lit by one not long before -/
def chain (n : Nat) (z : Nat → Nat) : Prop := ∀ s, s < n → z s ≠ 0 → z s ≤ 9 * ctN z (z s) n + 1
theorem heat_some {z : Nat → Nat} {μ s : Nat} : ∀ k, 0 < hN a z μ s k → ∃ i, i < k ∧ burD a z μ i ≠ 0
  | 0, h => absurd h (Nat.lt_irrefl 0)
  | k + 1, h => by
    have h' : 0 < hN a z μ s k + (if (a (37 + 2 * s)).testBit k = true then (if burD a z μ k = 0 then 0 else a (36 + 2 * k)) else 0) := h
    by_cases c : 0 < hN a z μ s k
    · obtain ⟨i, h1, h2⟩ := heat_some k c
      exact ⟨i, by omega, h2⟩
    · refine ⟨k, by omega, fun e => ?_⟩
      rw [if_pos e] at h'
      split at h' <;> omega
theorem lit_when (g : Good a) {z : Nat → Nat} {μ s : Nat} (hc : chain (a 4) z) (hs : s < a 4) (hh : a (36 + 2 * s) ≤ hN a z μ s (a 4)) : μ ≤ 9 * ctN z (μ + 1) (a 4) := by
  have t1 := (g.s hs).1
  obtain ⟨i, hi, hb⟩ := heat_some (a := a) (z := z) (μ := μ) (s := s) (a 4) (by omega)
  have ti := (g.s hi).2.1
  unfold burD at hb
  by_cases c1 : z i = 0
  · rw [if_pos c1] at hb
    exact absurd rfl hb
  · rw [if_neg c1] at hb
    by_cases c2 : μ < z i
    · rw [if_pos c2] at hb
      exact absurd rfl hb
    · rw [if_neg c2] at hb
      by_cases c3 : z i + a (36 + 2 * i) < μ + 1
      · rw [if_pos c3] at hb
        exact absurd rfl hb
      · have q := hc i hi c1
        have st := ct_strict (z := z) (v := z i) (w := μ + 1) (i := i) c1 rfl (by omega) (a 4) hi
        omega
theorem chain_put (g : Good a) {z : Nat → Nat} {μ s : Nat} (hc : chain (a 4) z) (hs : s < a 4) (h0 : z s = 0) (hle : ∀ i, z i ≤ μ + 1) (hh : a (36 + 2 * s) ≤ hN a z μ s (a 4)) : chain (a 4) (nU z s (μ + 1)) := by
  have l := lit_when g hc hs hh
  have mono : ∀ v, ctN z v (a 4) ≤ ctN (nU z s (μ + 1)) v (a 4) := fun v => ct_mono (fun i c => by
    have e : i ≠ s := fun e => c.1 (e ▸ h0)
    rw [nU_n e]
    exact c) (a 4)
  intro i hi h1
  by_cases e : i = s
  · subst e
    rw [nU_s]
    have := mono (μ + 1)
    omega
  · rw [nU_n e] at h1 ⊢
    have := hc i hi h1
    have := mono (z i)
    omega
theorem ps_chain (g : Good a) {z : Nat → Nat} {μ : Nat} (hc : chain (a 4) z) (hle : ∀ i, z i ≤ μ + 1) : ∀ s, s ≤ a 4 → chain (a 4) (ps a μ z s)
  | 0, _ => hc
  | s + 1, hs => by
    have i := ps_chain g hc hle s (by omega)
    show chain (a 4) (if _ then (if _ then _ else _) else _)
    split
    · rename_i h0
      split
      · rename_i hh
        exact chain_put g i (by omega) h0 (ps_le hle (Nat.le_refl _) s) hh
      · exact i
    · exact i
theorem mz_chain (g : Good a) {z0 : Nat → Nat} (h0 : ∀ s, z0 s ≤ 1) : ∀ μ, chain (a 4) (mz a z0 μ)
  | 0 => fun s _ _ => by
    have := h0 s
    show z0 s ≤ _
    omega
  | μ + 1 => ps_chain g (mz_chain g h0 μ) (fun i => Nat.le_trans (mz_le h0 μ i) (by omega)) (a 4) (Nat.le_refl _)
theorem ps_over (g : Good a) {z : Nat → Nat} {μ : Nat} (hc : chain (a 4) z) (h55 : 55 ≤ μ) : ∀ s, s ≤ a 4 → ps a μ z s = z
  | 0, _ => rfl
  | s + 1, hs => by
    have i := ps_over g hc h55 s (by omega)
    have n4 := g.n4
    show (if ps a μ z s s = 0 then (if a (36 + 2 * s) ≤ hN a (ps a μ z s) μ s (a 4) then nU (ps a μ z s) s (μ + 1) else ps a μ z s) else ps a μ z s) = z
    rw [i]
    split
    · rename_i h0
      split
      · rename_i hh
        have l := lit_when g hc (by omega) hh
        have o := ct_out (z := z) (μ + 1) h0 (a 4) (by omega)
        omega
      · rfl
    · rfl
theorem mz_over (g : Good a) {z0 : Nat → Nat} (h0 : ∀ s, z0 s ≤ 1) : ∀ j, mz a z0 (63 + j) = mz a z0 63
  | 0 => rfl
  | j + 1 => by
    show ps a (63 + j + 1) (mz a z0 (63 + j)) (a 4) = _
    rw [ps_over g (mz_chain g h0 (63 + j)) (by omega) (a 4) (Nat.le_refl _)]
    exact mz_over g h0 j
end LA1
