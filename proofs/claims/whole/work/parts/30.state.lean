/-! THE STATE AS NUMBERS: a is the book (0 matches 1 next 2 ready 3 minute 4 sticks 5 stumps 6 undos 7 fire, 8.. ground, 12.. carry, 18.. matches, 36.. sticks, 50.. stumps, 55.. past) -/
/-- where a book's place lies in a clearing -/
def kf (j : Nat) : Nat := if j < 8 then 0 else if j < 12 then 1 else if j < 18 then 2 else if j < 36 then 3 + (j - 18) % 3 else if j < 50 then 6 + (j - 36) % 2 else if j < 55 then 8 else 9
def jf (j : Nat) : Nat := if j < 8 then [6, 14, 12, 13, 9, 11, 17, 15].getD j 0 else if j < 12 then j - 8 else if j < 18 then j - 12 else if j < 36 then (j - 18) / 3 else if j < 50 then (j - 36) / 2 else if j < 55 then j - 50 else 4 * ((j - 55) / 4) + [2, 0, 1, 3].getD ((j - 55) % 4) 0
def bnd (j : Nat) : Nat := if j < 18 then [6, 6, 5, 12, 7, 5, 8, 1, 9, 9, 3, 12, 10, 10, 10, 10, 10, 10].getD j 0 else if j < 36 then [5, 10, 9].getD ((j - 18) % 3) 0 else if j < 50 then [9, 127].getD ((j - 36) % 2) 0 else if j < 55 then 18 else [6, 5, 12, 1].getD ((j - 55) % 4) 0
theorem kj_inj : ∀ i, i < 87 → ∀ j, j < 87 → kf i = kf j → jf i = jf j → i = j := by decide +kernel
/-- the places that count -/
def live (a : Nat → Nat) (j : Nat) : Prop := j < 18 ∨ (18 ≤ j ∧ j < 36 ∧ j < 18 + 3 * a 0) ∨ (36 ≤ j ∧ j < 50 ∧ j < 36 + 2 * a 4) ∨ (50 ≤ j ∧ j < 55 ∧ j < 50 + a 5) ∨ (55 ≤ j ∧ j < 87 ∧ j < 55 + 4 * a 6)
def nU (a : Nat → Nat) (k v : Nat) : Nat → Nat := fun j => if j = k then v else a j
theorem nU_s (a : Nat → Nat) (k v : Nat) : nU a k v k = v := if_pos rfl
theorem nU_n {a : Nat → Nat} {k v j : Nat} (h : j ≠ k) : nU a k v j = a j := if_neg h
theorem nU_at (a : Nat → Nat) (k v j : Nat) : nU a k v j = if j = k then v else a j := rfl
def Good (a : Nat → Nat) : Prop := (∀ j, j < 87 → live a j → a j ≤ bnd j) ∧ a 1 ≤ a 0 ∧ (∀ m, m < a 0 → 1 ≤ a (20 + 3 * m)) ∧ (∀ s, s < a 4 → 1 ≤ a (36 + 2 * s) ∧ a (37 + 2 * s) < 2 ^ s) ∧ ∀ u, u < a 6 → a (55 + 4 * u) ≤ a 0
def RelL (lv : Nat → Prop) (C : Nat → Nat → Int32) (a : Nat → Nat) : Prop := ∀ j, j < 87 → lv j → C (kf j) (jf j) = iZ (a j)
abbrev Rel (C : Nat → Nat → Int32) (a : Nat → Nat) : Prop := RelL (live a) C a
def pC (C : Nat → Nat → Int32) (k i : Nat) (x : Int32) : Nat → Nat → Int32 := fun k' i' => if k' = k ∧ i' = i then x else C k' i'
theorem cU_upd (C : Nat → Nat → Int32) (k i : Nat) (x : Int32) : cU C k (upd (C k) i x) = pC C k i x := by
  funext k' i'
  show (if k' = k then upd (C k) i x else C k') i' = _
  unfold pC
  by_cases e : k' = k
  · subst e
    rw [if_pos rfl]
    show (if i' = i then x else C k' i') = _
    simp only [true_and]
  · rw [if_neg e, if_neg (fun z => e z.1)]
theorem RelL.put {lv : Nat → Prop} {C : Nat → Nat → Int32} {a : Nat → Nat} (h : RelL lv C a) {j : Nat} (hj : j < 87) (v : Nat) {k i : Nat} (hk : kf j = k) (hi : jf j = i) : RelL (fun l => lv l ∨ l = j) (pC C k i (iZ v)) (nU a j v) := by
  intro l hl hlv
  by_cases e : l = j
  · subst e
    rw [nU_s]
    exact if_pos ⟨hk, hi⟩
  · rw [nU_n e]
    refine (if_neg fun z => e (kj_inj l hl j hj (z.1.trans hk.symm) (z.2.trans hi.symm))).trans (h l hl (hlv.resolve_right e))
theorem RelL.mono {lv lw : Nat → Prop} {C : Nat → Nat → Int32} {a : Nat → Nat} (h : RelL lv C a) (w : ∀ j, j < 87 → lw j → lv j) : RelL lw C a := fun j hj hw => h j hj (w j hj hw)
section RLA
variable {C : Nat → Nat → Int32} {a : Nat → Nat}
theorem Rel.c0 (h : Rel C a) : C 0 6 = iZ (a 0) := h 0 (by decide) (Or.inl (by decide))
theorem Rel.c1 (h : Rel C a) : C 0 14 = iZ (a 1) := h 1 (by decide) (Or.inl (by decide))
theorem Rel.c2 (h : Rel C a) : C 0 12 = iZ (a 2) := h 2 (by decide) (Or.inl (by decide))
theorem Rel.c3 (h : Rel C a) : C 0 13 = iZ (a 3) := h 3 (by decide) (Or.inl (by decide))
theorem Rel.c4 (h : Rel C a) : C 0 9 = iZ (a 4) := h 4 (by decide) (Or.inl (by decide))
theorem Rel.c5 (h : Rel C a) : C 0 11 = iZ (a 5) := h 5 (by decide) (Or.inl (by decide))
theorem Rel.c6 (h : Rel C a) : C 0 17 = iZ (a 6) := h 6 (by decide) (Or.inl (by decide))
theorem Rel.c7 (h : Rel C a) : C 0 15 = iZ (a 7) := h 7 (by decide) (Or.inl (by decide))
theorem kj_g : ∀ i, i < 4 → kf (8 + i) = 1 ∧ jf (8 + i) = i := by decide +kernel
theorem kj_c : ∀ i, i < 6 → kf (12 + i) = 2 ∧ jf (12 + i) = i := by decide +kernel
theorem kj_m : ∀ i, i < 6 → (kf (18 + 3 * i) = 3 ∧ jf (18 + 3 * i) = i) ∧ (kf (19 + 3 * i) = 4 ∧ jf (19 + 3 * i) = i) ∧ kf (20 + 3 * i) = 5 ∧ jf (20 + 3 * i) = i := by decide +kernel
theorem kj_s : ∀ i, i < 7 → (kf (36 + 2 * i) = 6 ∧ jf (36 + 2 * i) = i) ∧ kf (37 + 2 * i) = 7 ∧ jf (37 + 2 * i) = i := by decide +kernel
theorem kj_p : ∀ i, i < 5 → kf (50 + i) = 8 ∧ jf (50 + i) = i := by decide +kernel
theorem kj_w : ∀ i, i < 8 → (kf (55 + 4 * i) = 9 ∧ jf (55 + 4 * i) = 4 * i + 2) ∧ (kf (56 + 4 * i) = 9 ∧ jf (56 + 4 * i) = 4 * i) ∧ (kf (57 + 4 * i) = 9 ∧ jf (57 + 4 * i) = 4 * i + 1) ∧ kf (58 + 4 * i) = 9 ∧ jf (58 + 4 * i) = 4 * i + 3 := by decide +kernel
theorem Rel.g (h : Rel C a) {i : Nat} (hi : i < 4) : C 1 i = iZ (a (8 + i)) := by
  have e := h (8 + i) (by omega) (Or.inl (by omega))
  rwa [(kj_g i hi).1, (kj_g i hi).2] at e
theorem Rel.c (h : Rel C a) {i : Nat} (hi : i < 6) : C 2 i = iZ (a (12 + i)) := by
  have e := h (12 + i) (by omega) (Or.inl (by omega))
  rwa [(kj_c i hi).1, (kj_c i hi).2] at e
theorem Rel.m (h : Rel C a) (g : a 0 ≤ 6) {i : Nat} (hi : i < a 0) : C 3 i = iZ (a (18 + 3 * i)) ∧ C 4 i = iZ (a (19 + 3 * i)) ∧ C 5 i = iZ (a (20 + 3 * i)) := by
  have k := kj_m i (by omega)
  refine ⟨?_, ?_, ?_⟩
  · have e := h (18 + 3 * i) (by omega) (Or.inr (Or.inl (by omega)))
    rwa [k.1.1, k.1.2] at e
  · have e := h (19 + 3 * i) (by omega) (Or.inr (Or.inl (by omega)))
    rwa [k.2.1.1, k.2.1.2] at e
  · have e := h (20 + 3 * i) (by omega) (Or.inr (Or.inl (by omega)))
    rwa [k.2.2.1, k.2.2.2] at e
theorem Rel.s (h : Rel C a) (g : a 4 ≤ 7) {i : Nat} (hi : i < a 4) : C 6 i = iZ (a (36 + 2 * i)) ∧ C 7 i = iZ (a (37 + 2 * i)) := by
  have k := kj_s i (by omega)
  refine ⟨?_, ?_⟩
  · have e := h (36 + 2 * i) (by omega) (Or.inr (Or.inr (Or.inl (by omega))))
    rwa [k.1.1, k.1.2] at e
  · have e := h (37 + 2 * i) (by omega) (Or.inr (Or.inr (Or.inl (by omega))))
    rwa [k.2.1, k.2.2] at e
theorem Rel.p (h : Rel C a) (g : a 5 ≤ 5) {i : Nat} (hi : i < a 5) : C 8 i = iZ (a (50 + i)) := by
  have k := kj_p i (by omega)
  have e := h (50 + i) (by omega) (Or.inr (Or.inr (Or.inr (Or.inl (by omega)))))
  rwa [k.1, k.2] at e
theorem Rel.w (h : Rel C a) (g : a 6 ≤ 8) {i : Nat} (hi : i < a 6) : C 9 (4 * i + 2) = iZ (a (55 + 4 * i)) ∧ C 9 (4 * i) = iZ (a (56 + 4 * i)) ∧ C 9 (4 * i + 1) = iZ (a (57 + 4 * i)) ∧ C 9 (4 * i + 3) = iZ (a (58 + 4 * i)) := by
  have k := kj_w i (by omega)
  refine ⟨?_, ?_, ?_, ?_⟩
  · have e := h (55 + 4 * i) (by omega) (Or.inr (Or.inr (Or.inr (Or.inr (by omega)))))
    rwa [k.1.1, k.1.2] at e
  · have e := h (56 + 4 * i) (by omega) (Or.inr (Or.inr (Or.inr (Or.inr (by omega)))))
    rwa [k.2.1.1, k.2.1.2] at e
  · have e := h (57 + 4 * i) (by omega) (Or.inr (Or.inr (Or.inr (Or.inr (by omega)))))
    rwa [k.2.2.1.1, k.2.2.1.2] at e
  · have e := h (58 + 4 * i) (by omega) (Or.inr (Or.inr (Or.inr (Or.inr (by omega)))))
    rwa [k.2.2.2.1, k.2.2.2.2] at e
theorem Good.b (g : Good a) {j : Nat} (h : j < 18) : a j ≤ bnd j := g.1 j (by omega) (Or.inl h)
theorem Good.n0 (g : Good a) : a 0 ≤ 6 := g.b (j := 0) (by decide)
theorem Good.n1 (g : Good a) : a 1 ≤ a 0 := g.2.1
theorem Good.n2 (g : Good a) : a 2 ≤ 5 := g.b (j := 2) (by decide)
theorem Good.n3 (g : Good a) : a 3 ≤ 12 := g.b (j := 3) (by decide)
theorem Good.n4 (g : Good a) : a 4 ≤ 7 := g.b (j := 4) (by decide)
theorem Good.n5 (g : Good a) : a 5 ≤ 5 := g.b (j := 5) (by decide)
theorem Good.n6 (g : Good a) : a 6 ≤ 8 := g.b (j := 6) (by decide)
theorem Good.n7 (g : Good a) : a 7 ≤ 1 := g.b (j := 7) (by decide)
theorem Good.n8 (g : Good a) : a 8 ≤ 9 := g.b (j := 8) (by decide)
theorem Good.n9 (g : Good a) : a 9 ≤ 9 := g.b (j := 9) (by decide)
theorem Good.n10 (g : Good a) : a 10 ≤ 3 := g.b (j := 10) (by decide)
theorem Good.n11 (g : Good a) : a 11 ≤ 12 := g.b (j := 11) (by decide)
theorem bnd_c : ∀ i, i < 6 → bnd (12 + i) = 10 := by decide +kernel
theorem bnd_m : ∀ i, i < 6 → bnd (18 + 3 * i) = 5 ∧ bnd (19 + 3 * i) = 10 ∧ bnd (20 + 3 * i) = 9 := by decide +kernel
theorem bnd_s : ∀ i, i < 7 → bnd (36 + 2 * i) = 9 ∧ bnd (37 + 2 * i) = 127 := by decide +kernel
theorem bnd_p : ∀ i, i < 5 → bnd (50 + i) = 18 := by decide +kernel
theorem bnd_w : ∀ i, i < 8 → bnd (55 + 4 * i) = 6 ∧ bnd (56 + 4 * i) = 5 ∧ bnd (57 + 4 * i) = 12 ∧ bnd (58 + 4 * i) = 1 := by decide +kernel
theorem Good.c (g : Good a) {i : Nat} (hi : i < 6) : a (12 + i) ≤ 10 := by
  have e := g.b (j := 12 + i) (by omega)
  rwa [bnd_c i hi] at e
theorem Good.m (g : Good a) {i : Nat} (hi : i < a 0) : a (18 + 3 * i) ≤ 5 ∧ a (19 + 3 * i) ≤ 10 ∧ a (20 + 3 * i) ≤ 9 := by
  have n := g.n0
  have k := bnd_m i (by omega)
  have e1 := g.1 (18 + 3 * i) (by omega) (Or.inr (Or.inl (by omega)))
  have e2 := g.1 (19 + 3 * i) (by omega) (Or.inr (Or.inl (by omega)))
  have e3 := g.1 (20 + 3 * i) (by omega) (Or.inr (Or.inl (by omega)))
  rw [k.1] at e1
  rw [k.2.1] at e2
  rw [k.2.2] at e3
  exact ⟨e1, e2, e3⟩
theorem Good.s (g : Good a) {i : Nat} (hi : i < a 4) : 1 ≤ a (36 + 2 * i) ∧ a (36 + 2 * i) ≤ 9 ∧ a (37 + 2 * i) < 2 ^ i := by
  have n := g.n4
  have k := bnd_s i (by omega)
  have e1 := g.1 (36 + 2 * i) (by omega) (Or.inr (Or.inr (Or.inl (by omega))))
  rw [k.1] at e1
  exact ⟨(g.2.2.2.1 i hi).1, e1, (g.2.2.2.1 i hi).2⟩
theorem Good.p (g : Good a) {i : Nat} (hi : i < a 5) : a (50 + i) ≤ 18 := by
  have n := g.n5
  have e1 := g.1 (50 + i) (by omega) (Or.inr (Or.inr (Or.inr (Or.inl (by omega)))))
  rwa [bnd_p i (by omega)] at e1
theorem Good.w (g : Good a) {i : Nat} (hi : i < a 6) : a (55 + 4 * i) ≤ a 0 ∧ a (56 + 4 * i) ≤ 5 ∧ a (57 + 4 * i) ≤ 12 ∧ a (58 + 4 * i) ≤ 1 := by
  have n := g.n6
  have k := bnd_w i (by omega)
  have e2 := g.1 (56 + 4 * i) (by omega) (Or.inr (Or.inr (Or.inr (Or.inr (by omega)))))
  have e3 := g.1 (57 + 4 * i) (by omega) (Or.inr (Or.inr (Or.inr (Or.inr (by omega)))))
  have e4 := g.1 (58 + 4 * i) (by omega) (Or.inr (Or.inr (Or.inr (Or.inr (by omega)))))
  rw [k.2.1] at e2
  rw [k.2.2.1] at e3
  rw [k.2.2.2] at e4
  exact ⟨g.2.2.2.2 i hi, e2, e3, e4⟩
end RLA
