/-! A CLEARING WRITTEN WHOLE -/
section CLW2
variable {ro : zR} {σ : zW} {o : Nat} {C : Nat → Nat → Int32}
/-- σ with the clearing at o being C -/
def clW (σ : zW) (o : Nat) (C : Nat → Nat → Int32) : zW := ((((((((((σ).set o (clO o (C 0))).set (o + 1) (ar 4 (C 1))).set (o + 2) (ar 6 (C 2))).set (o + 3) (ar 6 (C 3))).set (o + 4) (ar 6 (C 4))).set (o + 5) (ar 6 (C 5))).set (o + 6) (ar 7 (C 6))).set (o + 7) (ar 7 (C 7))).set (o + 8) (ar 5 (C 8))).set (o + 9) (ar 32 (C 9))
theorem clW_self (h : ClAt σ o C) : clW σ o C = σ := by
  unfold clW
  rw [set_self h.a0, set_self h.a1, set_self h.a2, set_self h.a3, set_self h.a4, set_self h.a5, set_self h.a6, set_self h.a7, set_self h.a8, set_self h.a9]
theorem clW_w0 (h : ClAt σ o C) (V : Nat → Int32) : σ.set o (clO o V) = clW σ o (cU C 0 V) := by
  show _ = ((((((((((σ).set o (clO o V)).set (o + 1) (ar 4 (cU C 0 V 1))).set (o + 2) (ar 6 (cU C 0 V 2))).set (o + 3) (ar 6 (cU C 0 V 3))).set (o + 4) (ar 6 (cU C 0 V 4))).set (o + 5) (ar 6 (cU C 0 V 5))).set (o + 6) (ar 7 (cU C 0 V 6))).set (o + 7) (ar 7 (cU C 0 V 7))).set (o + 8) (ar 5 (cU C 0 V 8))).set (o + 9) (ar 32 (cU C 0 V 9))
  rw [set_self (h.w0 V).a1]
  rw [set_self (h.w0 V).a2]
  rw [set_self (h.w0 V).a3]
  rw [set_self (h.w0 V).a4]
  rw [set_self (h.w0 V).a5]
  rw [set_self (h.w0 V).a6]
  rw [set_self (h.w0 V).a7]
  rw [set_self (h.w0 V).a8]
  rw [set_self (h.w0 V).a9]
theorem clW_w1 (h : ClAt σ o C) (V : Nat → Int32) : σ.set (o + 1) (ar 4 V) = clW σ o (cU C 1 V) := by
  show _ = ((((((((((σ).set o (clO o (C 0))).set (o + 1) (ar 4 V)).set (o + 2) (ar 6 (cU C 1 V 2))).set (o + 3) (ar 6 (cU C 1 V 3))).set (o + 4) (ar 6 (cU C 1 V 4))).set (o + 5) (ar 6 (cU C 1 V 5))).set (o + 6) (ar 7 (cU C 1 V 6))).set (o + 7) (ar 7 (cU C 1 V 7))).set (o + 8) (ar 5 (cU C 1 V 8))).set (o + 9) (ar 32 (cU C 1 V 9))
  rw [set_self h.a0]
  rw [set_self (h.w1 V).a2]
  rw [set_self (h.w1 V).a3]
  rw [set_self (h.w1 V).a4]
  rw [set_self (h.w1 V).a5]
  rw [set_self (h.w1 V).a6]
  rw [set_self (h.w1 V).a7]
  rw [set_self (h.w1 V).a8]
  rw [set_self (h.w1 V).a9]
theorem clW_w2 (h : ClAt σ o C) (V : Nat → Int32) : σ.set (o + 2) (ar 6 V) = clW σ o (cU C 2 V) := by
  show _ = ((((((((((σ).set o (clO o (C 0))).set (o + 1) (ar 4 (C 1))).set (o + 2) (ar 6 V)).set (o + 3) (ar 6 (cU C 2 V 3))).set (o + 4) (ar 6 (cU C 2 V 4))).set (o + 5) (ar 6 (cU C 2 V 5))).set (o + 6) (ar 7 (cU C 2 V 6))).set (o + 7) (ar 7 (cU C 2 V 7))).set (o + 8) (ar 5 (cU C 2 V 8))).set (o + 9) (ar 32 (cU C 2 V 9))
  rw [set_self h.a0]
  rw [set_self h.a1]
  rw [set_self (h.w2 V).a3]
  rw [set_self (h.w2 V).a4]
  rw [set_self (h.w2 V).a5]
  rw [set_self (h.w2 V).a6]
  rw [set_self (h.w2 V).a7]
  rw [set_self (h.w2 V).a8]
  rw [set_self (h.w2 V).a9]
theorem clW_w3 (h : ClAt σ o C) (V : Nat → Int32) : σ.set (o + 3) (ar 6 V) = clW σ o (cU C 3 V) := by
  show _ = ((((((((((σ).set o (clO o (C 0))).set (o + 1) (ar 4 (C 1))).set (o + 2) (ar 6 (C 2))).set (o + 3) (ar 6 V)).set (o + 4) (ar 6 (cU C 3 V 4))).set (o + 5) (ar 6 (cU C 3 V 5))).set (o + 6) (ar 7 (cU C 3 V 6))).set (o + 7) (ar 7 (cU C 3 V 7))).set (o + 8) (ar 5 (cU C 3 V 8))).set (o + 9) (ar 32 (cU C 3 V 9))
  rw [set_self h.a0]
  rw [set_self h.a1]
  rw [set_self h.a2]
  rw [set_self (h.w3 V).a4]
  rw [set_self (h.w3 V).a5]
  rw [set_self (h.w3 V).a6]
  rw [set_self (h.w3 V).a7]
  rw [set_self (h.w3 V).a8]
  rw [set_self (h.w3 V).a9]
theorem clW_w4 (h : ClAt σ o C) (V : Nat → Int32) : σ.set (o + 4) (ar 6 V) = clW σ o (cU C 4 V) := by
  show _ = ((((((((((σ).set o (clO o (C 0))).set (o + 1) (ar 4 (C 1))).set (o + 2) (ar 6 (C 2))).set (o + 3) (ar 6 (C 3))).set (o + 4) (ar 6 V)).set (o + 5) (ar 6 (cU C 4 V 5))).set (o + 6) (ar 7 (cU C 4 V 6))).set (o + 7) (ar 7 (cU C 4 V 7))).set (o + 8) (ar 5 (cU C 4 V 8))).set (o + 9) (ar 32 (cU C 4 V 9))
  rw [set_self h.a0]
  rw [set_self h.a1]
  rw [set_self h.a2]
  rw [set_self h.a3]
  rw [set_self (h.w4 V).a5]
  rw [set_self (h.w4 V).a6]
  rw [set_self (h.w4 V).a7]
  rw [set_self (h.w4 V).a8]
  rw [set_self (h.w4 V).a9]
theorem clW_w5 (h : ClAt σ o C) (V : Nat → Int32) : σ.set (o + 5) (ar 6 V) = clW σ o (cU C 5 V) := by
  show _ = ((((((((((σ).set o (clO o (C 0))).set (o + 1) (ar 4 (C 1))).set (o + 2) (ar 6 (C 2))).set (o + 3) (ar 6 (C 3))).set (o + 4) (ar 6 (C 4))).set (o + 5) (ar 6 V)).set (o + 6) (ar 7 (cU C 5 V 6))).set (o + 7) (ar 7 (cU C 5 V 7))).set (o + 8) (ar 5 (cU C 5 V 8))).set (o + 9) (ar 32 (cU C 5 V 9))
  rw [set_self h.a0]
  rw [set_self h.a1]
  rw [set_self h.a2]
  rw [set_self h.a3]
  rw [set_self h.a4]
  rw [set_self (h.w5 V).a6]
  rw [set_self (h.w5 V).a7]
  rw [set_self (h.w5 V).a8]
  rw [set_self (h.w5 V).a9]
theorem clW_w6 (h : ClAt σ o C) (V : Nat → Int32) : σ.set (o + 6) (ar 7 V) = clW σ o (cU C 6 V) := by
  show _ = ((((((((((σ).set o (clO o (C 0))).set (o + 1) (ar 4 (C 1))).set (o + 2) (ar 6 (C 2))).set (o + 3) (ar 6 (C 3))).set (o + 4) (ar 6 (C 4))).set (o + 5) (ar 6 (C 5))).set (o + 6) (ar 7 V)).set (o + 7) (ar 7 (cU C 6 V 7))).set (o + 8) (ar 5 (cU C 6 V 8))).set (o + 9) (ar 32 (cU C 6 V 9))
  rw [set_self h.a0]
  rw [set_self h.a1]
  rw [set_self h.a2]
  rw [set_self h.a3]
  rw [set_self h.a4]
  rw [set_self h.a5]
  rw [set_self (h.w6 V).a7]
  rw [set_self (h.w6 V).a8]
  rw [set_self (h.w6 V).a9]
theorem clW_w7 (h : ClAt σ o C) (V : Nat → Int32) : σ.set (o + 7) (ar 7 V) = clW σ o (cU C 7 V) := by
  show _ = ((((((((((σ).set o (clO o (C 0))).set (o + 1) (ar 4 (C 1))).set (o + 2) (ar 6 (C 2))).set (o + 3) (ar 6 (C 3))).set (o + 4) (ar 6 (C 4))).set (o + 5) (ar 6 (C 5))).set (o + 6) (ar 7 (C 6))).set (o + 7) (ar 7 V)).set (o + 8) (ar 5 (cU C 7 V 8))).set (o + 9) (ar 32 (cU C 7 V 9))
  rw [set_self h.a0]
  rw [set_self h.a1]
  rw [set_self h.a2]
  rw [set_self h.a3]
  rw [set_self h.a4]
  rw [set_self h.a5]
  rw [set_self h.a6]
  rw [set_self (h.w7 V).a8]
  rw [set_self (h.w7 V).a9]
theorem clW_w8 (h : ClAt σ o C) (V : Nat → Int32) : σ.set (o + 8) (ar 5 V) = clW σ o (cU C 8 V) := by
  show _ = ((((((((((σ).set o (clO o (C 0))).set (o + 1) (ar 4 (C 1))).set (o + 2) (ar 6 (C 2))).set (o + 3) (ar 6 (C 3))).set (o + 4) (ar 6 (C 4))).set (o + 5) (ar 6 (C 5))).set (o + 6) (ar 7 (C 6))).set (o + 7) (ar 7 (C 7))).set (o + 8) (ar 5 V)).set (o + 9) (ar 32 (cU C 8 V 9))
  rw [set_self h.a0]
  rw [set_self h.a1]
  rw [set_self h.a2]
  rw [set_self h.a3]
  rw [set_self h.a4]
  rw [set_self h.a5]
  rw [set_self h.a6]
  rw [set_self h.a7]
  rw [set_self (h.w8 V).a9]
theorem clW_w9 (h : ClAt σ o C) (V : Nat → Int32) : σ.set (o + 9) (ar 32 V) = clW σ o (cU C 9 V) := by
  show _ = ((((((((((σ).set o (clO o (C 0))).set (o + 1) (ar 4 (C 1))).set (o + 2) (ar 6 (C 2))).set (o + 3) (ar 6 (C 3))).set (o + 4) (ar 6 (C 4))).set (o + 5) (ar 6 (C 5))).set (o + 6) (ar 7 (C 6))).set (o + 7) (ar 7 (C 7))).set (o + 8) (ar 5 (C 8))).set (o + 9) (ar 32 V)
  rw [set_self h.a0]
  rw [set_self h.a1]
  rw [set_self h.a2]
  rw [set_self h.a3]
  rw [set_self h.a4]
  rw [set_self h.a5]
  rw [set_self h.a6]
  rw [set_self h.a7]
  rw [set_self h.a8]
theorem clW_get (σ : zW) (o : Nat) (C : Nat → Nat → Int32) {j : Nat} (h : j < o ∨ o + 9 < j) : (clW σ o C)[j]? = σ[j]? := by
  simp only [clW, getset]
  rw [if_neg (by omega), if_neg (by omega), if_neg (by omega), if_neg (by omega), if_neg (by omega), if_neg (by omega), if_neg (by omega), if_neg (by omega), if_neg (by omega), if_neg (by omega)]
theorem mapmap (x : Option zC) (a b : zC) : (x.map (fun _ => a)).map (fun _ => b) = x.map (fun _ => b) := by cases x <;> rfl
theorem clW_s0 (σ : zW) (o : Nat) (C : Nat → Nat → Int32) (X : zC) : clW (σ.set o X) o C = clW σ o C := by
  apply List.ext_getElem?
  intro j
  simp only [clW, getset]
  by_cases e : o = j
  · subst e
    simp
    rfl
  · simp [e]
theorem clW_s1 (σ : zW) (o : Nat) (C : Nat → Nat → Int32) (X : zC) : clW (σ.set (o + 1) X) o C = clW σ o C := by
  apply List.ext_getElem?
  intro j
  simp only [clW, getset]
  by_cases e : o + 1 = j
  · subst e
    simp
    rfl
  · simp [e]
theorem clW_s2 (σ : zW) (o : Nat) (C : Nat → Nat → Int32) (X : zC) : clW (σ.set (o + 2) X) o C = clW σ o C := by
  apply List.ext_getElem?
  intro j
  simp only [clW, getset]
  by_cases e : o + 2 = j
  · subst e
    simp
    rfl
  · simp [e]
theorem clW_s3 (σ : zW) (o : Nat) (C : Nat → Nat → Int32) (X : zC) : clW (σ.set (o + 3) X) o C = clW σ o C := by
  apply List.ext_getElem?
  intro j
  simp only [clW, getset]
  by_cases e : o + 3 = j
  · subst e
    simp
    rfl
  · simp [e]
theorem clW_s4 (σ : zW) (o : Nat) (C : Nat → Nat → Int32) (X : zC) : clW (σ.set (o + 4) X) o C = clW σ o C := by
  apply List.ext_getElem?
  intro j
  simp only [clW, getset]
  by_cases e : o + 4 = j
  · subst e
    simp
    rfl
  · simp [e]
theorem clW_s5 (σ : zW) (o : Nat) (C : Nat → Nat → Int32) (X : zC) : clW (σ.set (o + 5) X) o C = clW σ o C := by
  apply List.ext_getElem?
  intro j
  simp only [clW, getset]
  by_cases e : o + 5 = j
  · subst e
    simp
    rfl
  · simp [e]
theorem clW_s6 (σ : zW) (o : Nat) (C : Nat → Nat → Int32) (X : zC) : clW (σ.set (o + 6) X) o C = clW σ o C := by
  apply List.ext_getElem?
  intro j
  simp only [clW, getset]
  by_cases e : o + 6 = j
  · subst e
    simp
    rfl
  · simp [e]
theorem clW_s7 (σ : zW) (o : Nat) (C : Nat → Nat → Int32) (X : zC) : clW (σ.set (o + 7) X) o C = clW σ o C := by
  apply List.ext_getElem?
  intro j
  simp only [clW, getset]
  by_cases e : o + 7 = j
  · subst e
    simp
    rfl
  · simp [e]
theorem clW_s8 (σ : zW) (o : Nat) (C : Nat → Nat → Int32) (X : zC) : clW (σ.set (o + 8) X) o C = clW σ o C := by
  apply List.ext_getElem?
  intro j
  simp only [clW, getset]
  by_cases e : o + 8 = j
  · subst e
    simp
    rfl
  · simp [e]
theorem clW_s9 (σ : zW) (o : Nat) (C : Nat → Nat → Int32) (X : zC) : clW (σ.set (o + 9) X) o C = clW σ o C := by
  apply List.ext_getElem?
  intro j
  simp only [clW, getset]
  by_cases e : o + 9 = j
  · subst e
    simp
    rfl
  · simp [e]
theorem catR (o : Nat) : ((Value.ref o).category = 1) = True := eq_true rfl
theorem catI (i : Int32) : ((Value.int i).category = 1) = True := eq_true rfl
end CLW2
