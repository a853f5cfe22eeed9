/-! READ: the tokens of a text, as numbers -/
def ruF (P : Nat → Bool) (n : Nat) : Nat → Nat → Nat
  | 0, p => p
  | d + 1, p => if p < n ∧ P p = true then ruF P n d (p + 1) else p
def ru (P : Nat → Bool) (n p : Nat) : Nat := ruF P n (n - p) p
theorem ru_s {P : Nat → Bool} {n p : Nat} (h : p < n) (hp : P p = true) : ru P n p = ru P n (p + 1) := by
  unfold ru
  obtain ⟨d, hd⟩ : ∃ d, n - p = d + 1 := ⟨n - p - 1, by omega⟩
  rw [hd, show n - (p + 1) = d by omega]
  exact if_pos ⟨h, hp⟩
theorem ru_e {P : Nat → Bool} {n p : Nat} (h : ¬ (p < n ∧ P p = true)) : ru P n p = p := by
  unfold ru
  cases n - p with
  | zero => rfl
  | succ d => exact if_neg h
theorem ruF_le {P : Nat → Bool} {n : Nat} : ∀ d p, p ≤ ruF P n d p ∧ (p ≤ n → ruF P n d p ≤ n)
  | 0, p => ⟨Nat.le_refl p, fun h => h⟩
  | d + 1, p => by
    have r := ruF_le (P := P) (n := n) d (p + 1)
    show p ≤ (if _ then _ else p) ∧ (p ≤ n → (if _ then _ else p) ≤ n)
    split
    · rename_i h
      exact ⟨by omega, fun _ => r.2 (by omega)⟩
    · exact ⟨Nat.le_refl p, fun h => h⟩
theorem ru_ge (P : Nat → Bool) (n p : Nat) : p ≤ ru P n p := (ruF_le _ _).1
theorem ru_le (P : Nat → Bool) {n p : Nat} (h : p ≤ n) : ru P n p ≤ n := (ruF_le _ _).2 h
theorem ruF_in {P : Nat → Bool} {n : Nat} : ∀ d p i, p ≤ i → i < ruF P n d p → P i = true
  | 0, p, i, h1, h2 => by
    have h2' : i < p := h2
    omega
  | d + 1, p, i, h1, h2 => by
    have h2' : i < (if p < n ∧ P p = true then ruF P n d (p + 1) else p) := h2
    split at h2'
    · rename_i c
      by_cases e : i = p
      · rw [e]
        exact c.2
      · exact ruF_in d (p + 1) i (by omega) h2'
    · omega
theorem ru_in {P : Nat → Bool} {n p i : Nat} (h1 : p ≤ i) (h2 : i < ru P n p) : P i = true := ruF_in _ p i h1 h2
def isSp (t : Nat → Nat) (i : Nat) : Bool := decide (t i = 32)
def isLt (t : Nat → Nat) (i : Nat) : Bool := decide (97 ≤ t i ∧ t i ≤ 122)
def isFg (t : Nat → Nat) (i : Nat) : Bool := decide (48 ≤ t i ∧ t i ≤ 57)
def tB (t : Nat → Nat) (n p : Nat) : Nat := ru (isSp t) n p
def tE (t : Nat → Nat) (n p : Nat) : Nat := if n ≤ tB t n p then tB t n p else if isLt t (tB t n p) = true then ru (isLt t) n (tB t n p) else if isFg t (tB t n p) = true then ru (isFg t) n (tB t n p) else tB t n p + 1
def hsN (t : Nat → Nat) (b : Nat) : Nat → Nat
  | 0 => 0
  | k + 1 => if 6 < k then 0 else 32 * hsN t b k + (t (b + k) - 96)
def vN (t : Nat → Nat) (b : Nat) : Nat → Nat
  | 0 => 0
  | k + 1 => if k < 3 then 10 * vN t b k + t (b + k) - 48 else vN t b k
def vbC (w : Nat) : Nat := [763332, 20675186866, 23732, 5572, 3197529, 13684840, 20587627, 20600240].getD w 0
def vb (h : Nat) : Int := if h = 763332 then 0 else if h = 20675186866 then 1 else if h = 23732 then 2 else if h = 5572 then 3 else if h = 3197529 then 4 else if h = 13684840 then 5 else if h = 20587627 then 6 else if h = 20600240 then 7 else -1
def wvN (t : Nat → Nat) (b k : Nat) : Int := if 7 < k then -1 else vb (hsN t b k)
def tW (t : Nat → Nat) (n p : Nat) : Int := wvN t (tB t n p) (tE t n p - tB t n p)
def tV (t : Nat → Nat) (n p : Nat) : Nat := vN t (tB t n p) (tE t n p - tB t n p)
/-- a token: 0 the end, 1 a wrong one, 2 a number, 3 a semicolon, 4 and on a word's number -/
def tK (t : Nat → Nat) (n p : Nat) : Int := if n ≤ tB t n p then 0 else if isLt t (tB t n p) = true then (if tW t n p = -1 then 1 else 4 + tW t n p) else if isFg t (tB t n p) = true then (if 3 < tE t n p - tB t n p then 1 else 2) else if t (tB t n p) = 59 then 3 else 1
/-- the class's: 0 a wrong one, 1 a word, 2 a number, 3 a semicolon, 4 the end -/
def tC (t : Nat → Nat) (n p : Nat) : Int := if n ≤ tB t n p then 4 else if isLt t (tB t n p) = true then 1 else if isFg t (tB t n p) = true then (if 3 < tE t n p - tB t n p then 0 else 2) else if t (tB t n p) = 59 then 3 else 0
section TOK
variable {t : Nat → Nat} {n : Nat}
theorem tB_le {p : Nat} (h : p ≤ n) : p ≤ tB t n p ∧ tB t n p ≤ n := ⟨ru_ge _ _ _, ru_le _ h⟩
theorem tE_le {p : Nat} (h : p ≤ n) : tB t n p ≤ tE t n p ∧ tE t n p ≤ n ∧ (tB t n p < n → tB t n p < tE t n p) := by
  have b := tB_le (t := t) h
  unfold tE
  split
  · exact ⟨Nat.le_refl _, b.2, fun h => by omega⟩
  · split
    · rename_i h1 h2
      have r := ru_s (P := isLt t) (n := n) (p := tB t n p) (by omega) h2
      have g := ru_ge (isLt t) n (tB t n p + 1)
      have l := ru_le (isLt t) (n := n) (p := tB t n p) b.2
      exact ⟨by omega, l, fun _ => by omega⟩
    · split
      · rename_i h1 h2 h3
        have r := ru_s (P := isFg t) (n := n) (p := tB t n p) (by omega) h3
        have g := ru_ge (isFg t) n (tB t n p + 1)
        have l := ru_le (isFg t) (n := n) (p := tB t n p) b.2
        exact ⟨by omega, l, fun _ => by omega⟩
      · exact ⟨by omega, by omega, fun _ => by omega⟩
theorem vb_ran (h : Nat) : -1 ≤ vb h ∧ vb h ≤ 7 := by
  unfold vb
  repeat' split
  all_goals omega
theorem vb_of {h : Nat} {w : Nat} (hw : w < 8) : vb h = (w : Int) ↔ h = vbC w := by
  constructor
  · intro z
    unfold vb at z
    rcases (show w = 0 ∨ w = 1 ∨ w = 2 ∨ w = 3 ∨ w = 4 ∨ w = 5 ∨ w = 6 ∨ w = 7 by omega) with rfl | rfl | rfl | rfl | rfl | rfl | rfl | rfl
    all_goals (show h = _)
    all_goals (repeat' split at z)
    all_goals first | omega | (rename_i e; exact e) | skip
  · intro e
    rw [e]
    rcases (show w = 0 ∨ w = 1 ∨ w = 2 ∨ w = 3 ∨ w = 4 ∨ w = 5 ∨ w = 6 ∨ w = 7 by omega) with rfl | rfl | rfl | rfl | rfl | rfl | rfl | rfl <;> decide
theorem tW_ran (p : Nat) : -1 ≤ tW t n p ∧ tW t n p ≤ 7 := by
  unfold tW wvN
  split
  · omega
  · exact vb_ran _
theorem hsN_lt (b : Nat) : ∀ k, k ≤ 7 → (∀ i, i < k → t (b + i) ≤ 122) → hsN t b k < 32 ^ k
  | 0, _, _ => by
    show (0 : Nat) < 32 ^ 0
    rw [Nat.pow_zero]
    omega
  | k + 1, h, hl => by
    have r := hsN_lt b k (by omega) (fun i hi => hl i (by omega))
    have l := hl k (by omega)
    show (if 6 < k then 0 else 32 * hsN t b k + (t (b + k) - 96)) < 32 ^ (k + 1)
    rw [if_neg (by omega), Nat.pow_succ]
    omega
theorem hsN_le (b : Nat) {k : Nat} (hl : ∀ i, i < k → t (b + i) ≤ 122) : hsN t b k ≤ 40000000000 := by
  by_cases h : k ≤ 7
  · have r := hsN_lt b k h hl
    have := Nat.pow_le_pow_right (n := 32) (j := 7) (by decide) h
    omega
  · obtain ⟨j, rfl⟩ : ∃ j, k = j + 1 := ⟨k - 1, by omega⟩
    show (if 6 < j then 0 else _) ≤ _
    rw [if_pos (by omega)]
    omega
theorem vN_le (b : Nat) : ∀ k, (∀ i, i < k → t (b + i) ≤ 57) → vN t b k ≤ 10 ^ (min k 3) - 1
  | 0, _ => Nat.le_refl 0
  | k + 1, hl => by
    have r := vN_le b k (fun i hi => hl i (by omega))
    have l := hl k (by omega)
    show (if k < 3 then 10 * vN t b k + t (b + k) - 48 else vN t b k) ≤ _
    rcases (show k = 0 ∨ k = 1 ∨ k = 2 ∨ 3 ≤ k by omega) with e | e | e | e
    · subst e
      rw [if_pos (by omega), show min (0 + 1) 3 = 1 by omega]
      rw [show min 0 3 = 0 by omega] at r
      omega
    · subst e
      rw [if_pos (by omega), show min (1 + 1) 3 = 2 by omega]
      rw [show min 1 3 = 1 by omega] at r
      omega
    · subst e
      rw [if_pos (by omega), show min (2 + 1) 3 = 3 by omega]
      rw [show min 2 3 = 2 by omega] at r
      omega
    · rw [if_neg (by omega), show min (k + 1) 3 = 3 by omega]
      rw [show min k 3 = 3 by omega] at r
      exact r
theorem vN_999 (b k : Nat) (hl : ∀ i, i < k → t (b + i) ≤ 57) : vN t b k ≤ 999 := by
  have r := vN_le b k hl
  have := Nat.pow_le_pow_right (n := 10) (j := 3) (i := min k 3) (by decide) (by omega)
  omega
/-- a word spelled -/
def Spl (t : Nat → Nat) (b k w : Nat) : Prop := k = nmL w ∧ ∀ i, i < nmL w → t (b + i) = nmB w i
theorem hsN_peel {b k K : Nat} (hk : k ≤ 7) (hl : ∀ i, i < k → 97 ≤ t (b + i) ∧ t (b + i) ≤ 122) (hK : 0 < K) : hsN t b k = K ↔ ∃ j, k = j + 1 ∧ t (b + j) = K % 32 + 96 ∧ hsN t b j = K / 32 := by
  constructor
  · intro h
    cases k with
    | zero =>
      have h' : (0 : Nat) = K := h
      omega
    | succ j =>
      have h' : (if 6 < j then 0 else 32 * hsN t b j + (t (b + j) - 96)) = K := h
      rw [if_neg (by omega)] at h'
      have l := hl j (by omega)
      exact ⟨j, rfl, by omega, by omega⟩
  · rintro ⟨j, rfl, h1, h2⟩
    show (if 6 < j then 0 else 32 * hsN t b j + (t (b + j) - 96)) = K
    rw [if_neg (by omega)]
    omega
theorem hsN_zero {b k : Nat} (hk : k ≤ 7) (hl : ∀ i, i < k → 97 ≤ t (b + i) ∧ t (b + i) ≤ 122) : hsN t b k = 0 ↔ k = 0 := by
  constructor
  · intro h
    cases k with
    | zero => rfl
    | succ j =>
      have h' : (if 6 < j then 0 else 32 * hsN t b j + (t (b + j) - 96)) = 0 := h
      rw [if_neg (by omega)] at h'
      have l := hl j (by omega)
      omega
  · intro e
    subst e
    rfl
/-- the number of the first i letters of a word -/
def pfN (w : Nat) : Nat → Nat
  | 0 => 0
  | i + 1 => 32 * pfN w i + (nmB w i - 96)
theorem pfN_ok : ∀ w, w < 8 → ∀ i, i < nmL w → 0 < pfN w (i + 1) ∧ pfN w (i + 1) % 32 + 96 = nmB w i ∧ pfN w (i + 1) / 32 = pfN w i := by decide +kernel
theorem pfN_C : ∀ w, w < 8 → pfN w (nmL w) = vbC w := by decide +kernel
theorem hsN_pf {w : Nat} (hw : w < 8) {b : Nat} : ∀ i k, i ≤ nmL w → k ≤ 7 → (∀ i, i < k → 97 ≤ t (b + i) ∧ t (b + i) ≤ 122) → (hsN t b k = pfN w i ↔ k = i ∧ ∀ j, j < i → t (b + j) = nmB w j)
  | 0, k, _, hk, hl => by
    show hsN t b k = 0 ↔ _
    rw [hsN_zero hk hl]
    exact ⟨fun h => ⟨h, fun j hj => absurd hj (Nat.not_lt_zero j)⟩, fun h => h.1⟩
  | i + 1, k, hi, hk, hl => by
    obtain ⟨o1, o2, o3⟩ := pfN_ok w hw i (by omega)
    rw [hsN_peel hk hl o1, o2, o3]
    constructor
    · rintro ⟨j, rfl, h1, h2⟩
      obtain ⟨e, r⟩ := (hsN_pf hw i j (by omega) (by omega) (fun i hi => hl i (by omega))).mp h2
      subst e
      refine ⟨rfl, fun x hx => ?_⟩
      by_cases e : x = j
      · rw [e]
        exact h1
      · exact r x (by omega)
    · rintro ⟨e, r⟩
      subst e
      exact ⟨i, rfl, r i (by omega), (hsN_pf hw i i (by omega) (by omega) (fun x hx => hl x (by omega))).mpr ⟨rfl, fun j hj => r j (by omega)⟩⟩
theorem spl_iff {w : Nat} (hw : w < 8) {b k : Nat} (hl : ∀ i, i < k → 97 ≤ t (b + i) ∧ t (b + i) ≤ 122) : Spl t b k w ↔ wvN t b k = (w : Int) := by
  have l7 := (nm_len w hw).2.2
  unfold wvN Spl
  by_cases h : 7 < k
  · rw [if_pos h]
    exact ⟨fun z => by omega, fun z => by omega⟩
  · rw [if_neg h, vb_of hw, ← pfN_C w hw, hsN_pf hw (nmL w) k (Nat.le_refl _) (by omega) hl]
theorem wv_ran (b k : Nat) : -1 ≤ wvN t b k ∧ wvN t b k ≤ 7 := by
  unfold wvN
  split
  · omega
  · exact vb_ran _
/-- a word that is told has three letters or more -/
theorem wv_3 {b k : Nat} (hl : ∀ i, i < k → 97 ≤ t (b + i) ∧ t (b + i) ≤ 122) (h : wvN t b k ≠ -1) : 3 ≤ k := by
  have r := wv_ran (t := t) b k
  obtain ⟨w, hw⟩ : ∃ w : Nat, wvN t b k = (w : Int) := ⟨(wvN t b k).toNat, by omega⟩
  have w8 : w < 8 := by omega
  have z := (spl_iff w8 hl).mpr hw
  have : ∀ w, w < 8 → 3 ≤ nmL w := by decide
  have := this w w8
  have := z.1
  omega
end TOK
