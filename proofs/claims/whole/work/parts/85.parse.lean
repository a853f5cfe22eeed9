/-! READ: items, as numbers -/
def Ep (t : Nat → Nat) (n : Nat) : Nat → Nat → Nat
  | 0, p => p
  | i + 1, p => tE t n (Ep t n i p)
def wn (v : Int) : Nat := if v = 5 then 3 else if v = 4 ∨ v = 6 then 2 else 1
def nb (t : Nat → Nat) (n p : Nat) : Nat → Nat → Nat
  | 0, i => i
  | d + 1, i => if tK t n (Ep t n i p) = 2 then nb t n p d (i + 1) else i
def ir (t : Nat → Nat) (n p : Nat) : Nat := if tK t n p < 4 then 0 else nb t n p (wn (tW t n p)) 1
def iok (t : Nat → Nat) (n p : Nat) : Prop := 4 ≤ tK t n p ∧ ir t n p = wn (tW t n p) + 1 ∧ tK t n (Ep t n (ir t n p) p) = 3
def inx (t : Nat → Nat) (n p : Nat) : Nat := Ep t n (ir t n p + 1) p
def ips (t : Nat → Nat) (n : Nat) : Nat → Nat
  | 0 => 0
  | i + 1 => inx t n (ips t n i)
def tval (t : Nat → Nat) (n p j : Nat) : Nat := tV t n (Ep t n (j + 1) p)
def apI (a : Nat → Nat) (v : Int) (x y z : Nat) : Int × (Nat → Nat) := if v = 4 then oC a x y else if v = 5 then oM a x y z else if v = 6 then oS a x y else if v = 7 then oP a x else oG a v x
def apP (a : Nat → Nat) (t : Nat → Nat) (n p : Nat) : Int × (Nat → Nat) := apI a (tW t n p) (tval t n p 0) (tval t n p 1) (tval t n p 2)
def dr (t : Nat → Nat) (n : Nat) : Nat → Int × (Nat → Nat)
  | 0 => (-1, aN)
  | i + 1 => if (dr t n i).1 = -1 then (if (apP (dr t n i).2 t n (ips t n i)).1 < 0 then ((i : Int), (apP (dr t n i).2 t n (ips t n i)).2) else (-1, (apP (dr t n i).2 t n (ips t n i)).2)) else dr t n i
def rdA (t : Nat → Nat) (n M : Nat) : Int := if tK t n (ips t n M) = 0 then (if (dr t n M).1 = -1 then (M : Int) else -1000 - (dr t n M).1) else -10 - (tB t n (Ep t n (ir t n (ips t n M)) (ips t n M)) : Int)
section PAR
variable {t : Nat → Nat} {n : Nat}
theorem tK_4 {p : Nat} (h : 4 ≤ tK t n p) : tB t n p < n ∧ isLt t (tB t n p) = true ∧ (0 ≤ tW t n p ∧ tW t n p ≤ 7) ∧ tK t n p = 4 + tW t n p := by
  have r := tW_ran (t := t) (n := n) p
  unfold tK at h ⊢
  split at h
  · omega
  · rename_i c
    rw [if_neg c]
    split at h
    · rename_i c1
      rw [if_pos c1]
      split at h
      · omega
      · rename_i c2
        rw [if_neg c2]
        exact ⟨by omega, c1, by omega, rfl⟩
    · split at h
      · split at h <;> omega
      · split at h <;> omega
theorem tKC (p : Nat) : (tC t n p = 4 ↔ tK t n p = 0) ∧ (tC t n p = 2 ↔ tK t n p = 2) ∧ (tC t n p = 3 ↔ tK t n p = 3) ∧ (tC t n p = 1 ↔ tB t n p < n ∧ isLt t (tB t n p) = true) := by
  have r := tW_ran (t := t) (n := n) p
  unfold tK tC
  by_cases c : n ≤ tB t n p
  · rw [if_pos c, if_pos c]
    exact ⟨by decide, by decide, by decide, ⟨fun z => absurd z (by decide), fun z => absurd z.1 (by omega)⟩⟩
  · rw [if_neg c, if_neg c]
    by_cases c1 : isLt t (tB t n p) = true
    · rw [if_pos c1, if_pos c1]
      refine ⟨⟨fun z => absurd z (by decide), fun z => ?_⟩, ⟨fun z => absurd z (by decide), fun z => ?_⟩, ⟨fun z => absurd z (by decide), fun z => ?_⟩, ⟨fun _ => ⟨by omega, c1⟩, fun _ => rfl⟩⟩
      all_goals (split at z <;> omega)
    · rw [if_neg c1, if_neg c1]
      by_cases c2 : isFg t (tB t n p) = true
      · rw [if_pos c2, if_pos c2]
        by_cases c3 : 3 < tE t n p - tB t n p
        · rw [if_pos c3, if_pos c3]
          exact ⟨by decide, by decide, by decide, ⟨fun z => absurd z (by decide), fun z => absurd z.2 c1⟩⟩
        · rw [if_neg c3, if_neg c3]
          exact ⟨by decide, by decide, by decide, ⟨fun z => absurd z (by decide), fun z => absurd z.2 c1⟩⟩
      · rw [if_neg c2, if_neg c2]
        by_cases c3 : t (tB t n p) = 59
        · rw [if_pos c3, if_pos c3]
          exact ⟨by decide, by decide, by decide, ⟨fun z => absurd z (by decide), fun z => absurd z.2 c1⟩⟩
        · rw [if_neg c3, if_neg c3]
          exact ⟨by decide, by decide, by decide, ⟨fun z => absurd z (by decide), fun z => absurd z.2 c1⟩⟩
theorem tK_in {p : Nat} (h : tK t n p ≠ 0) : tB t n p < n := by
  unfold tK at h
  split at h
  · exact absurd rfl h
  · omega
theorem tE_lt {p : Nat} (hb : tB t n p < n) (h : isLt t (tB t n p) = true) : ∀ i, i < tE t n p - tB t n p → 97 ≤ t (tB t n p + i) ∧ t (tB t n p + i) ≤ 122 := fun i hi => by
  have e : tE t n p = ru (isLt t) n (tB t n p) := (if_neg (by omega)).trans (if_pos h)
  have z := ru_in (P := isLt t) (n := n) (p := tB t n p) (i := tB t n p + i) (by omega) (by omega)
  unfold isLt at z
  simpa using z
theorem tE_fg {p : Nat} (h : tK t n p = 2) : ∀ i, i < tE t n p - tB t n p → t (tB t n p + i) ≤ 57 := fun i hi => by
  have hb := tK_in (t := t) (n := n) (p := p) (by omega)
  have h1 : ¬ isLt t (tB t n p) = true := fun z => by
    have r := tW_ran (t := t) (n := n) p
    unfold tK at h
    rw [if_neg (by omega), if_pos z] at h
    split at h <;> omega
  have h2 : isFg t (tB t n p) = true := by
    unfold tK at h
    rw [if_neg (by omega), if_neg h1] at h
    by_cases z : isFg t (tB t n p) = true
    · exact z
    · rw [if_neg z] at h
      split at h <;> omega
  have e : tE t n p = ru (isFg t) n (tB t n p) := (if_neg (by omega)).trans ((if_neg h1).trans (if_pos h2))
  have z := ru_in (P := isFg t) (n := n) (p := tB t n p) (i := tB t n p + i) (by omega) (by omega)
  unfold isFg at z
  have y : 48 ≤ t (tB t n p + i) ∧ t (tB t n p + i) ≤ 57 := by simpa using z
  exact y.2
theorem tV_999 {p : Nat} (h : tK t n p = 2) : tV t n p ≤ 999 := vN_999 _ _ (tE_fg h)
theorem Ep_le {p : Nat} (hp' : p ≤ n) : ∀ i, Ep t n i p ≤ n
  | 0 => hp'
  | i + 1 => (tE_le (t := t) (Ep_le hp' i)).2.1
theorem Ep_mono {p : Nat} (hp' : p ≤ n) (i : Nat) : Ep t n i p ≤ Ep t n (i + 1) p := by
  have l := Ep_le (t := t) hp' i
  have b := tB_le (t := t) l
  have e := tE_le (t := t) l
  show Ep t n i p ≤ tE t n (Ep t n i p)
  omega
theorem Ep_st {p : Nat} (hp' : p ≤ n) {i : Nat} (h : tK t n (Ep t n i p) ≠ 0) : Ep t n i p + 1 ≤ Ep t n (i + 1) p := by
  have l := Ep_le (t := t) hp' i
  have b := tB_le (t := t) l
  have e := (tE_le (t := t) l).2.2 (tK_in h)
  show Ep t n i p + 1 ≤ tE t n (Ep t n i p)
  omega
theorem nb_le {p : Nat} : ∀ d i, i ≤ nb t n p d i ∧ nb t n p d i ≤ i + d
  | 0, i => ⟨Nat.le_refl i, Nat.le_refl i⟩
  | d + 1, i => by
    have r := nb_le (p := p) d (i + 1)
    show i ≤ (if _ then _ else i) ∧ (if _ then _ else i) ≤ i + (d + 1)
    split
    · omega
    · omega
theorem nb_all {p : Nat} : ∀ d i, nb t n p d i = i + d → ∀ j, i ≤ j → j < i + d → tK t n (Ep t n j p) = 2
  | 0, i, _, j, h1, h2 => by omega
  | d + 1, i, h, j, h1, h2 => by
    have h' : (if tK t n (Ep t n i p) = 2 then nb t n p d (i + 1) else i) = i + (d + 1) := h
    split at h'
    · rename_i c
      by_cases e : j = i
      · rw [e]
        exact c
      · exact nb_all d (i + 1) (by omega) j (by omega) (by omega)
    · omega
theorem wn_r (v : Int) : 1 ≤ wn v ∧ wn v ≤ 3 := by
  unfold wn
  split
  · omega
  · split <;> omega
theorem iok_num {p : Nat} (h : iok t n p) : ∀ j, j < wn (tW t n p) → tK t n (Ep t n (j + 1) p) = 2 := fun j hj => by
  obtain ⟨h1, h2, h3⟩ := h
  have e : ir t n p = nb t n p (wn (tW t n p)) 1 := if_neg (by omega)
  exact nb_all (wn (tW t n p)) 1 (by omega) (j + 1) (by omega) (by omega)
theorem iok_adv {p : Nat} (hp' : p ≤ n) (h : iok t n p) : p + 5 ≤ inx t n p ∧ inx t n p ≤ n := by
  obtain ⟨h1, h2, h3⟩ := id h
  obtain ⟨k1, k2, k3, k4⟩ := tK_4 h1
  have w := wn_r (tW t n p)
  have hn := iok_num h
  have b := tB_le (t := t) hp'
  have t3 := wv_3 (tE_lt k1 k2) (show wvN t (tB t n p) (tE t n p - tB t n p) ≠ -1 from fun z => by
    have z' : tW t n p = -1 := z
    omega)
  have e1 : Ep t n 1 p = tE t n p := rfl
  have s1 : Ep t n 1 p + 1 ≤ Ep t n 2 p := Ep_st (t := t) hp' (i := 1) (by rw [hn 0 (by omega)]; decide)
  have s2 := Ep_st (t := t) hp' (i := ir t n p) (by rw [h3]; decide)
  have mono : ∀ d, Ep t n 2 p ≤ Ep t n (2 + d) p := fun d => by
    induction d with
    | zero => exact Nat.le_refl _
    | succ d ih => exact Nat.le_trans ih (Ep_mono hp' (2 + d))
  have m := mono (ir t n p - 2)
  rw [show 2 + (ir t n p - 2) = ir t n p by omega] at m
  have l := Ep_le (t := t) hp' (ir t n p + 1)
  unfold inx
  exact ⟨by omega, l⟩
theorem ips_le : ∀ i, (∀ j, j < i → iok t n (ips t n j)) → 5 * i ≤ ips t n i ∧ ips t n i ≤ n
  | 0, _ => ⟨Nat.le_refl 0, Nat.zero_le n⟩
  | i + 1, h => by
    have r := ips_le i (fun j hj => h j (by omega))
    have a := iok_adv r.2 (h i (by omega))
    show 5 * (i + 1) ≤ inx t n (ips t n i) ∧ inx t n (ips t n i) ≤ n
    omega
theorem rd_ex (hn : n ≤ 150) : ∃ M, M ≤ 30 ∧ (∀ i, i < M → iok t n (ips t n i)) ∧ ¬ iok t n (ips t n M) := by
  have st : ∀ d i, i + d = 31 → (∀ j, j < i → iok t n (ips t n j)) → ∃ M, M ≤ 30 ∧ (∀ i, i < M → iok t n (ips t n i)) ∧ ¬ iok t n (ips t n M) := by
    intro d
    induction d with
    | zero =>
      intro i hi h
      have := ips_le i h
      omega
    | succ d ih =>
      intro i hi h
      by_cases z : iok t n (ips t n i)
      · exact ih (i + 1) (by omega) (fun j hj => by
          by_cases e : j = i
          · rw [e]
            exact z
          · exact h j (by omega))
      · exact ⟨i, by omega, h, z⟩
  exact st 31 0 (by omega) (fun j hj => absurd hj (Nat.not_lt_zero j))
theorem good_apI {a : Nat → Nat} (g : Good a) (v : Int) (x y z : Nat) : Good (apI a v x y z).2 := by
  unfold apI
  split
  · exact good_oC g _ _
  · split
    · exact good_oM g _ _ _
    · split
      · exact good_oS g _ _
      · split
        · exact good_oP g _
        · exact good_oG g _ _
theorem apI_ran {a : Nat → Nat} (g : Good a) (v : Int) (x y z : Nat) : -4 ≤ (apI a v x y z).1 ∧ (apI a v x y z).1 ≤ 100 := by
  have b12 : ∀ j, j < 18 → bnd j ≤ 12 := by decide +kernel
  unfold apI
  split
  · unfold oC
    split
    · rename_i c
      have h1 := g.b (j := 12 + (x : Int).toNat) (by omega)
      have h2 := b12 (12 + (x : Int).toNat) (by omega)
      (try dsimp only)
      omega
    · (try dsimp only)
      omega
  · split
    · have n0 := g.n0
      unfold oM
      split
      · split <;> (try dsimp only) <;> omega
      · (try dsimp only)
        omega
    · split
      · have n4 := g.n4
        unfold oS
        split
        · split <;> (try dsimp only) <;> omega
        · (try dsimp only)
          omega
      · split
        · have n5 := g.n5
          unfold oP
          split
          · split <;> (try dsimp only) <;> omega
          · (try dsimp only)
            omega
        · unfold oG
          by_cases c : (0 ≤ v ∧ v ≤ 3) ∧ (if v = 3 then (a 3 : Int) else 0) ≤ (x : Int) ∧ (x : Int) ≤ (if v < 2 then 9 else if v = 2 then 3 else 12)
          · rw [if_pos c]
            have h1 := g.b (j := 8 + v.toNat) (by omega)
            have h2 := b12 (8 + v.toNat) (by omega)
            show -4 ≤ (a (8 + v.toNat) : Int) ∧ (a (8 + v.toNat) : Int) ≤ 100
            omega
          · rw [if_neg c]
            show -4 ≤ (-2 : Int) ∧ (-2 : Int) ≤ 100
            omega
theorem good_dr : ∀ i, Good (dr t n i).2
  | 0 => good_aN
  | i + 1 => by
    have g := good_dr i
    show Good (if (dr t n i).1 = -1 then _ else _ : Int × (Nat → Nat)).2
    split
    · split
      · exact good_apI g _ _ _ _
      · exact good_apI g _ _ _ _
    · exact g
theorem dr_ran : ∀ i, -1 ≤ (dr t n i).1 ∧ (dr t n i).1 < (i : Int)
  | 0 => ⟨by
      show (-1 : Int) ≤ -1
      omega, by
      show (-1 : Int) < 0
      omega⟩
  | i + 1 => by
    have r := dr_ran i
    show -1 ≤ (if (dr t n i).1 = -1 then _ else _ : Int × (Nat → Nat)).1 ∧ (if (dr t n i).1 = -1 then _ else _ : Int × (Nat → Nat)).1 < ((i + 1 : Nat) : Int)
    split
    · split
      · show -1 ≤ (i : Int) ∧ (i : Int) < ((i + 1 : Nat) : Int)
        omega
      · show (-1 : Int) ≤ -1 ∧ (-1 : Int) < ((i + 1 : Nat) : Int)
        omega
    · omega
theorem dr_stay {i : Nat} (h : (dr t n i).1 ≠ -1) : ∀ d, dr t n (i + d) = dr t n i
  | 0 => rfl
  | d + 1 => by
    have r := dr_stay h d
    show (if (dr t n (i + d)).1 = -1 then _ else dr t n (i + d)) = _
    rw [if_neg (by rw [r]; exact h), r]
end PAR
