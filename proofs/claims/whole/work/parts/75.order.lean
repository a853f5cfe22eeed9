/-! THE BEST ORDER: numbers -/
def th (a : Nat → Nat) (s : Nat) : Nat := a (36 + 2 * s)
def flm (a : Nat → Nat) (N i p : Nat) : Nat := if i = 0 then N else th a (p % a 4) + 2
def ch (a : Nat → Nat) (N : Nat) : Nat → Nat → Prop
  | 0, _ => True
  | i + 1, p => ch a N i (p / a 4) ∧ th a (p % a 4) ≤ flm a N i (p / a 4)
/-- a row of m that all light, that goes on from the row p of i -/
def Ext (a : Nat → Nat) (N i p m c : Nat) : Prop := dst (a 4) m c ∧ ch a N m c ∧ i ≤ m ∧ m ≤ a 4 ∧ c / a 4 ^ (m - i) = p
def dfs (a : Nat → Nat) (N : Nat) : Nat → Nat → Nat → Nat × Nat → Nat × Nat
  | 0, i, p, y => if y.1 < i then (i, p) else y
  | j + 1, i, p, y => fld (fun t y => if y.1 < a 4 ∧ (uP (a 4) i p).testBit t = false ∧ th a t ≤ flm a N i p then dfs a N j (i + 1) (p * a 4 + t) y else y) 0 (a 4) (if y.1 < i then (i, p) else y)
def FM (S : Nat → Nat → Prop) (y y' : Nat × Nat) : Prop := (y' = y ∨ (y.1 < y'.1 ∧ S y'.1 y'.2 ∧ ∀ c, S y'.1 c → y'.2 ≤ c)) ∧ ∀ m c, S m c → m ≤ y'.1
theorem FM_step {S T U : Nat → Nat → Prop} {y y1 y2 : Nat × Nat} (h1 : FM S y y1) (h2 : FM T y1 y2) (hU : ∀ m c, U m c ↔ S m c ∨ T m c) (ho : ∀ m c d, S m c → T m d → c ≤ d) : FM U y y2 := by
  obtain ⟨a1, b1⟩ := h1
  obtain ⟨a2, b2⟩ := h2
  have lb : ∀ m c, S m c → m ≤ y2.1 := fun m c h => by
    have := b1 m c h
    rcases a2 with z | z
    · rw [z]
      exact this
    · omega
  refine ⟨?_, fun m c h => ?_⟩
  · rcases a2 with z2 | ⟨z2, w2, v2⟩
    · rcases a1 with z1 | ⟨z1, w1, v1⟩
      · left
        rw [z2, z1]
      · right
        rw [z2]
        refine ⟨z1, (hU _ _).mpr (Or.inl w1), fun c hc => ?_⟩
        rcases (hU _ _).mp hc with k | k
        · exact v1 c k
        · exact ho _ _ _ w1 k
    · right
      have l1 : y.1 ≤ y1.1 := by
        rcases a1 with z1 | ⟨z1, -, -⟩
        · rw [z1]
          exact Nat.le_refl _
        · omega
      refine ⟨by omega, (hU _ _).mpr (Or.inr w2), fun c hc => ?_⟩
      rcases (hU _ _).mp hc with k | k
      · have := b1 _ _ k
        omega
      · exact v2 c k
  · rcases (hU _ _).mp h with k | k
    · exact lb m c k
    · exact b2 m c k
theorem FM_none {S : Nat → Nat → Prop} {y : Nat × Nat} (h : ∀ m c, S m c → m ≤ y.1) : FM S y y := ⟨Or.inl rfl, h⟩
section ORN
variable {a : Nat → Nat} {N : Nat}
theorem ch_s {p m : Nat} (h : m < a 4) (i : Nat) : ch a N (i + 1) (p * a 4 + m) ↔ ch a N i p ∧ th a m ≤ flm a N i p := by
  show ch a N i ((p * a 4 + m) / a 4) ∧ th a ((p * a 4 + m) % a 4) ≤ flm a N i ((p * a 4 + m) / a 4) ↔ _
  rw [(dgd h).1, (dgd h).2]
theorem ch_pre (j i c : Nat) (h : ch a N (i + j) c) : ch a N i (c / a 4 ^ j) := pre_of (Q := ch a N) (fun _ _ z => z.1) j i c h
theorem Ext_iff {i p : Nat} (hd : dst (a 4) i p) (hc : ch a N i p) (hi : i < a 4) (m c : Nat) : Ext a N i p m c ↔ (m = i ∧ c = p) ∨ ∃ t, t < a 4 ∧ ((uP (a 4) i p).testBit t = false ∧ th a t ≤ flm a N i p) ∧ Ext a N (i + 1) (p * a 4 + t) m c := by
  constructor
  · rintro ⟨h1, h2, h3, h4, h5⟩
    by_cases e : m = i
    · left
      rw [e, Nat.sub_self, Nat.pow_zero, Nat.div_one] at h5
      exact ⟨e, h5⟩
    · right
      obtain ⟨j, hj⟩ : ∃ j, m = i + 1 + j := ⟨m - i - 1, by omega⟩
      subst hj
      have d1 := dst_pre j (i + 1) c h1
      have d2 := ch_pre j (i + 1) c h2
      have hm := Nat.mod_lt (c / a 4 ^ j) (show 0 < a 4 by omega)
      rw [show i + 1 + j - i = j + 1 by omega, ← div_pw] at h5
      have e2 : c / a 4 ^ j = p * a 4 + c / a 4 ^ j % a 4 := by
        rw [← h5, Nat.mul_comm]
        exact (Nat.div_add_mod _ _).symm
      refine ⟨c / a 4 ^ j % a 4, hm, ?_, h1, h2, by omega, h4, ?_⟩
      · rw [e2, dst_s hm] at d1
        rw [e2, ch_s hm] at d2
        exact ⟨d1.2, d2.2⟩
      · rw [show i + 1 + j - (i + 1) = j by omega]
        exact e2
  · rintro (⟨e1, e2⟩ | ⟨t, ht, -, h1, h2, h3, h4, h5⟩)
    · subst e1 e2
      exact ⟨hd, hc, Nat.le_refl _, by omega, by rw [Nat.sub_self, Nat.pow_zero, Nat.div_one]⟩
    · refine ⟨h1, h2, by omega, h4, ?_⟩
      rw [show m - i = m - (i + 1) + 1 by omega, ← div_pw, h5, (dgd ht).1]
theorem Ext_lt {i p t u m c d : Nat} (h1 : Ext a N i (p * a 4 + t) m c) (h2 : Ext a N i (p * a 4 + u) m d) (h : t < u) : c ≤ d := by
  rcases Nat.lt_or_ge d c with z | z
  · have := Nat.div_le_div_right (c := a 4 ^ (m - i)) (Nat.le_of_lt z)
    rw [h1.2.2.2.2, h2.2.2.2.2] at this
    omega
  · exact z
theorem FM_first {i p : Nat} (y : Nat × Nat) : FM (fun m c => m = i ∧ c = p) y (if y.1 < i then (i, p) else y) := by
  by_cases z : y.1 < i
  · rw [if_pos z]
    refine ⟨Or.inr ⟨z, ⟨rfl, rfl⟩, fun c h => by
      rw [h.2]
      exact Nat.le_refl _⟩, fun m c h => by
      rw [h.1]
      exact Nat.le_refl _⟩
  · rw [if_neg z]
    refine FM_none fun m c h => ?_
    rw [h.1]
    omega
theorem dfs_FM : ∀ j i p : Nat, i + j = a 4 → dst (a 4) i p → ch a N i p → ∀ y : Nat × Nat, FM (Ext a N i p) y (dfs a N j i p y)
  | 0, i, p, hi, hd, hc, y => by
    have f := FM_first (i := i) (p := p) y
    have e : ∀ m c, Ext a N i p m c ↔ (m = i ∧ c = p) := fun m c => by
      constructor
      · rintro ⟨h1, h2, h3, h4, h5⟩
        have : m = i := by omega
        subst this
        rw [Nat.sub_self, Nat.pow_zero, Nat.div_one] at h5
        exact ⟨rfl, h5⟩
      · rintro ⟨h1, h2⟩
        subst h1 h2
        exact ⟨hd, hc, Nat.le_refl _, by omega, by rw [Nat.sub_self, Nat.pow_zero, Nat.div_one]⟩
    have e2 : Ext a N i p = fun m c => m = i ∧ c = p := by
      funext m c
      exact propext (e m c)
    rw [e2]
    exact f
  | j + 1, i, p, hi, hd, hc, y => by
    have lp : ∀ k, k ≤ a 4 → FM (fun m c => (m = i ∧ c = p) ∨ ∃ t, t < k ∧ ((uP (a 4) i p).testBit t = false ∧ th a t ≤ flm a N i p) ∧ Ext a N (i + 1) (p * a 4 + t) m c) y (fld (fun t y => if y.1 < a 4 ∧ (uP (a 4) i p).testBit t = false ∧ th a t ≤ flm a N i p then dfs a N j (i + 1) (p * a 4 + t) y else y) 0 k (if y.1 < i then (i, p) else y)) := by
      intro k
      induction k with
      | zero =>
        intro _
        have e2 : (fun m c => (m = i ∧ c = p) ∨ ∃ t, t < 0 ∧ ((uP (a 4) i p).testBit t = false ∧ th a t ≤ flm a N i p) ∧ Ext a N (i + 1) (p * a 4 + t) m c) = fun m c => m = i ∧ c = p := by
          funext m c
          exact propext ⟨fun h => h.elim id (fun ⟨t, ht, _⟩ => absurd ht (Nat.not_lt_zero t)), Or.inl⟩
        rw [e2]
        exact FM_first y
      | succ k ih =>
        intro hk
        have i1 := ih (by omega)
        refine FM_step (T := fun m c => ((uP (a 4) i p).testBit k = false ∧ th a k ≤ flm a N i p) ∧ Ext a N (i + 1) (p * a 4 + k) m c) i1 (y2 := fld (fun t y => if y.1 < a 4 ∧ (uP (a 4) i p).testBit t = false ∧ th a t ≤ flm a N i p then dfs a N j (i + 1) (p * a 4 + t) y else y) 0 (k + 1) (if y.1 < i then (i, p) else y)) ?_ ?_ ?_
        · show FM _ _ ((fun t y => if y.1 < a 4 ∧ (uP (a 4) i p).testBit t = false ∧ th a t ≤ flm a N i p then dfs a N j (i + 1) (p * a 4 + t) y else y) (0 + k) _)
          rw [Nat.zero_add]
          generalize fld (fun t y => if y.1 < a 4 ∧ (uP (a 4) i p).testBit t = false ∧ th a t ≤ flm a N i p then dfs a N j (i + 1) (p * a 4 + t) y else y) 0 k (if y.1 < i then (i, p) else y) = y1
          show FM _ _ (if y1.1 < a 4 ∧ (uP (a 4) i p).testBit k = false ∧ th a k ≤ flm a N i p then dfs a N j (i + 1) (p * a 4 + k) y1 else y1)
          by_cases z : (uP (a 4) i p).testBit k = false ∧ th a k ≤ flm a N i p
          · by_cases w : y1.1 < a 4
            · rw [if_pos ⟨w, z⟩]
              have r := dfs_FM j (i + 1) (p * a 4 + k) (by omega) ((dst_s (by omega) i).mpr ⟨hd, z.1⟩) ((ch_s (by omega) i).mpr ⟨hc, z.2⟩) y1
              have e2 : (fun m c => ((uP (a 4) i p).testBit k = false ∧ th a k ≤ flm a N i p) ∧ Ext a N (i + 1) (p * a 4 + k) m c) = Ext a N (i + 1) (p * a 4 + k) := by
                funext m c
                exact propext ⟨fun h => h.2, fun h => ⟨z, h⟩⟩
              rw [e2]
              exact r
            · rw [if_neg (fun h => w h.1)]
              refine FM_none fun m c h => ?_
              have := h.2.2.2.2.1
              omega
          · rw [if_neg (fun h => z h.2)]
            exact FM_none fun m c h => absurd h.1 z
        · intro m c
          constructor
          · rintro (h | ⟨t, ht, h⟩)
            · exact Or.inl (Or.inl h)
            · by_cases e : t = k
              · rw [e] at h
                exact Or.inr h
              · exact Or.inl (Or.inr ⟨t, by omega, h⟩)
          · rintro ((h | ⟨t, ht, h⟩) | h)
            · exact Or.inl h
            · exact Or.inr ⟨t, by omega, h⟩
            · exact Or.inr ⟨k, by omega, h⟩
        · rintro m c d (h | ⟨t, ht, h⟩) h2
          · have := h2.2.2.2.1
            omega
          · exact Ext_lt h.2 h2.2 ht
    have r := lp (a 4) (Nat.le_refl _)
    have e2 : Ext a N i p = fun m c => (m = i ∧ c = p) ∨ ∃ t, t < a 4 ∧ ((uP (a 4) i p).testBit t = false ∧ th a t ≤ flm a N i p) ∧ Ext a N (i + 1) (p * a 4 + t) m c := by
      funext m c
      exact propext (Ext_iff hd hc (by omega) m c)
    rw [e2]
    exact r
theorem dfs_le : ∀ j i p : Nat, i + j = a 4 → ∀ y : Nat × Nat, y.1 ≤ a 4 → (dfs a N j i p y).1 ≤ a 4
  | 0, i, p, hi, y, hy => by
    show (if y.1 < i then (i, p) else y).1 ≤ a 4
    split
    · show i ≤ a 4
      omega
    · exact hy
  | j + 1, i, p, hi, y, hy => by
    have lp : ∀ k, (fld (fun t y => if y.1 < a 4 ∧ (uP (a 4) i p).testBit t = false ∧ th a t ≤ flm a N i p then dfs a N j (i + 1) (p * a 4 + t) y else y) 0 k (if y.1 < i then (i, p) else y)).1 ≤ a 4 := by
      intro k
      induction k with
      | zero =>
        show (if y.1 < i then (i, p) else y).1 ≤ a 4
        split
        · show i ≤ a 4
          omega
        · exact hy
      | succ k ih =>
        have st : ∀ (t : Nat) (y1 : Nat × Nat), y1.1 ≤ a 4 → ((fun t y => if y.1 < a 4 ∧ (uP (a 4) i p).testBit t = false ∧ th a t ≤ flm a N i p then dfs a N j (i + 1) (p * a 4 + t) y else y) t y1).1 ≤ a 4 := by
          intro t y1 h1
          dsimp only
          split
          · exact dfs_le j (i + 1) _ (by omega) _ h1
          · exact h1
        exact st (0 + k) _ ih
    exact lp (a 4)
/-- how long, and the row's code -/
def orD (a : Nat → Nat) (N : Nat) : Nat × Nat := dfs a N (a 4) 0 0 (0, 0)
theorem orD_ok : Ext a N 0 0 (orD a N).1 (orD a N).2 ∧ (∀ c, Ext a N 0 0 (orD a N).1 c → (orD a N).2 ≤ c) ∧ ∀ m c, Ext a N 0 0 m c → m ≤ (orD a N).1 := by
  obtain ⟨h1, h2⟩ := dfs_FM (a := a) (N := N) (a 4) 0 0 (by omega) trivial trivial (0, 0)
  refine ⟨?_, ?_, h2⟩
  · rcases h1 with z | z
    · unfold orD
      rw [z]
      exact ⟨trivial, trivial, Nat.le_refl _, Nat.zero_le _, Nat.zero_div _⟩
    · exact z.2.1
  · rcases h1 with z | z
    · unfold orD
      rw [z]
      intro c _
      exact Nat.zero_le _
    · exact z.2.2
/-- filled up by the numbers -/
def fu (n L q : Nat) : Nat → Nat × Nat
  | 0 => (L, q)
  | t + 1 => if (uP n L q).testBit t = true then fu n L q t else ((fu n L q t).1 + 1, (fu n L q t).2 * n + t)
theorem fu_ok {n L q : Nat} (hd : dst n L q) : ∀ t, t ≤ n → dst n (fu n L q t).1 (fu n L q t).2 ∧ (L ≤ (fu n L q t).1 ∧ (fu n L q t).2 / n ^ ((fu n L q t).1 - L) = q) ∧ ∀ d, (uP n (fu n L q t).1 (fu n L q t).2).testBit d = true ↔ ((uP n L q).testBit d = true ∨ d < t)
  | 0, _ => ⟨hd, ⟨Nat.le_refl _, by
      show q / n ^ (L - L) = q
      rw [Nat.sub_self, Nat.pow_zero, Nat.div_one]⟩, fun d => ⟨Or.inl, fun h => h.elim id (fun z => absurd z (Nat.not_lt_zero d))⟩⟩
  | t + 1, h => by
    obtain ⟨r1, ⟨r2, r3⟩, r4⟩ := fu_ok hd t (by omega)
    by_cases z : (uP n L q).testBit t = true
    · rw [show fu n L q (t + 1) = fu n L q t from if_pos z]
      refine ⟨r1, ⟨r2, r3⟩, fun d => ?_⟩
      rw [r4 d]
      constructor
      · rintro (y | y)
        · exact Or.inl y
        · exact Or.inr (by omega)
      · rintro (y | y)
        · exact Or.inl y
        · by_cases e : d = t
          · rw [e]
            exact Or.inl z
          · exact Or.inr (by omega)
    · rw [show fu n L q (t + 1) = ((fu n L q t).1 + 1, (fu n L q t).2 * n + t) from if_neg z]
      have nt : (uP n (fu n L q t).1 (fu n L q t).2).testBit t = false := by
        rw [tbf, r4 t]
        rintro (y | y)
        · exact z y
        · omega
      refine ⟨(dst_s (by omega) _).mpr ⟨r1, nt⟩, ⟨by
        show L ≤ (fu n L q t).1 + 1
        omega, ?_⟩, fun d => ?_⟩
      · show ((fu n L q t).2 * n + t) / n ^ ((fu n L q t).1 + 1 - L) = q
        rw [show (fu n L q t).1 + 1 - L = (fu n L q t).1 - L + 1 by omega, ← div_wp, (dgd (by omega)).1, r3]
      · show (uP n ((fu n L q t).1 + 1) ((fu n L q t).2 * n + t)).testBit d = true ↔ _
        rw [uP_s (by omega), tb2, r4 d]
        constructor
        · rintro ((y | y) | y)
          · exact Or.inl y
          · exact Or.inr (by omega)
          · exact Or.inr (by omega)
        · rintro (y | y)
          · exact Or.inl (Or.inl y)
          · by_cases e : d = t
            · exact Or.inr e
            · exact Or.inl (Or.inr (by omega))
theorem fu_n {n L q : Nat} (hd : dst n L q) (hL : L ≤ n) : (fu n L q n).1 = n := by
  obtain ⟨r1, r2, r4⟩ := fu_ok hd n (Nat.le_refl _)
  rcases Nat.eq_zero_or_pos n with z | z
  · subst z
    show L = 0
    omega
  · rw [dst_pc z] at r1
    rw [← r1]
    exact pc_of n (fun i hi => (r4 i).mpr (Or.inr hi))
theorem fu_le {n L q c : Nat} (hd : dst n L q) (hL : L ≤ n) (hc : dst n n c) (hq : c / n ^ (n - L) = q) : ∀ t, t ≤ n → (fu n L q t).2 ≤ c / n ^ (n - (fu n L q t).1)
  | 0, _ => by
    show q ≤ c / n ^ (n - L)
    rw [hq]
    exact Nat.le_refl _
  | t + 1, h => by
    have r := fu_le hd hL hc hq t (by omega)
    by_cases z : (uP n L q).testBit t = true
    · rw [show fu n L q (t + 1) = fu n L q t from if_pos z]
      exact r
    · rw [show fu n L q (t + 1) = ((fu n L q t).1 + 1, (fu n L q t).2 * n + t) from if_neg z]
      show (fu n L q t).2 * n + t ≤ c / n ^ (n - ((fu n L q t).1 + 1))
      obtain ⟨r1, ⟨r2, r3⟩, r4⟩ := fu_ok hd t (by omega)
      obtain ⟨s1, -, -⟩ := fu_ok hd (t + 1) h
      rw [show fu n L q (t + 1) = ((fu n L q t).1 + 1, (fu n L q t).2 * n + t) from if_neg z] at s1
      have hn : 0 < n := by omega
      have lz : (fu n L q t).1 + 1 ≤ n := by
        have y : pc (uP n ((fu n L q t).1 + 1) ((fu n L q t).2 * n + t)) n = (fu n L q t).1 + 1 := (dst_pc hn _ _).mp s1
        have x := pc_le (uP n ((fu n L q t).1 + 1) ((fu n L q t).2 * n + t)) n
        omega
      generalize (fu n L q t).1 = pl at *
      generalize (fu n L q t).2 = p' at *
      obtain ⟨j, hj⟩ : ∃ j, n - pl = j + 1 := ⟨n - pl - 1, by omega⟩
      rw [show n - (pl + 1) = j by omega]
      rw [hj, ← div_pw] at r
      have dm := Nat.div_add_mod (c / n ^ j) n
      rw [Nat.mul_comm] at dm
      rcases Nat.lt_or_ge p' (c / n ^ j / n) with g | g
      · have : (p' + 1) * n ≤ c / n ^ j / n * n := Nat.mul_le_mul_right n g
        rw [Nat.add_mul] at this
        omega
      · have e : c / n ^ j / n = p' := by omega
        have d1 : dst n (pl + 1) (c / n ^ j) := dst_pre j (pl + 1) c (by rwa [show pl + 1 + j = n by omega])
        have d2 := d1.2
        rw [e] at d2 dm
        have : ¬ c / n ^ j % n < t := fun y => by
          rw [tbf, r4] at d2
          exact d2 (Or.inr y)
        omega
end ORN
