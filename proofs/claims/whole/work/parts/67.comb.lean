/-! ROWS AS NUMBERS: folds over codes, digits, which digits stand in a prefix -/
def fld {α : Type} (g : Nat → α → α) (lo : Nat) : Nat → α → α
  | 0, x => x
  | k + 1, x => g (lo + k) (fld g lo k x)
theorem fld_add {α : Type} (g : Nat → α → α) (lo m : Nat) (x : α) : ∀ n, fld g lo (m + n) x = fld g (lo + m) n (fld g lo m x)
  | 0 => rfl
  | n + 1 => by
    show g (lo + (m + n)) (fld g lo (m + n) x) = g (lo + m + n) (fld g (lo + m) n (fld g lo m x))
    rw [fld_add g lo m x n, Nat.add_assoc]
theorem fld_same {α : Type} {g : Nat → α → α} {lo : Nat} {x : α} : ∀ k, (∀ r, r < k → g (lo + r) x = x) → fld g lo k x = x
  | 0, _ => rfl
  | k + 1, h => by
    show g (lo + k) (fld g lo k x) = x
    rw [fld_same k (fun r hr => h r (by omega)), h k (by omega)]
theorem fld_blk {α : Type} (g : Nat → α → α) (B j p d : Nat) (x : α) : fld g (p * B ^ (j + 1)) ((d + 1) * B ^ j) x = fld g ((p * B + d) * B ^ j) (B ^ j) (fld g (p * B ^ (j + 1)) (d * B ^ j) x) := by
  have e : p * B ^ (j + 1) + d * B ^ j = (p * B + d) * B ^ j := by
    rw [Nat.pow_succ, Nat.add_mul, Nat.mul_assoc p B, Nat.mul_comm B]
  rw [Nat.succ_mul, fld_add, e]
theorem blk_in {B j p r : Nat} (h : r < B ^ j) : (p * B ^ j + r) / B ^ j = p := by
  rw [Nat.add_comm, Nat.add_mul_div_right _ _ (by omega), Nat.div_eq_of_lt h, Nat.zero_add]
theorem dgd {B p m : Nat} (h : m < B) : (p * B + m) / B = p ∧ (p * B + m) % B = m := by
  refine ⟨?_, Nat.mul_add_mod_of_lt h⟩
  rw [Nat.add_comm, Nat.add_mul_div_right _ _ (by omega), Nat.div_eq_of_lt h, Nat.zero_add]
theorem div_pw (c B j : Nat) : c / B ^ j / B = c / B ^ (j + 1) := by rw [Nat.div_div_eq_div_mul, ← Nat.pow_succ]
theorem div_wp (c B j : Nat) : c / B / B ^ j = c / B ^ (j + 1) := by rw [Nat.div_div_eq_div_mul, Nat.mul_comm B, ← Nat.pow_succ]
theorem pre_of {B : Nat} {Q : Nat → Nat → Prop} (st : ∀ i p, Q (i + 1) p → Q i (p / B)) : ∀ j i c, Q (i + j) c → Q i (c / B ^ j)
  | 0, i, c, h => by
    rw [Nat.pow_zero, Nat.div_one]
    exact h
  | j + 1, i, c, h => by
    have r := pre_of st j i (c / B) (st (i + j) c h)
    rwa [div_wp] at r
theorem tb2 (x d m : Nat) : (x ||| 2 ^ d).testBit m = true ↔ x.testBit m = true ∨ m = d := by
  rw [Nat.testBit_or, Nat.testBit_two_pow, Bool.or_eq_true, decide_eq_true_eq]
  exact ⟨fun h => h.imp id Eq.symm, fun h => h.imp id Eq.symm⟩
theorem tbf {x m : Nat} : x.testBit m = false ↔ ¬ x.testBit m = true := by
  cases x.testBit m <;> simp
/-- the digits of a prefix, as bits -/
def uP (B : Nat) : Nat → Nat → Nat
  | 0, _ => 0
  | i + 1, p => uP B i (p / B) ||| 2 ^ (p % B)
theorem uP_s {B p m : Nat} (h : m < B) (i : Nat) : uP B (i + 1) (p * B + m) = uP B i p ||| 2 ^ m := by
  show uP B i ((p * B + m) / B) ||| 2 ^ ((p * B + m) % B) = _
  rw [(dgd h).1, (dgd h).2]
theorem uP_lt {B : Nat} (hB : 0 < B) : ∀ i p, uP B i p < 2 ^ B
  | 0, _ => Nat.two_pow_pos B
  | i + 1, p => Nat.or_lt_two_pow (uP_lt hB i (p / B)) (Nat.pow_lt_pow_right (by decide) (Nat.mod_lt _ hB))
theorem uP_7 {B : Nat} (hB : B ≤ 7) (i p : Nat) (h : i = 0 ∨ 0 < B) : uP B i p < 128 := by
  rcases h with h | h
  · subst h
    show 0 < 128
    omega
  · exact Nat.lt_of_lt_of_le (uP_lt h i p) (Nat.pow_le_pow_right (n := 2) (j := 7) (by decide) hB)
/-- how many of the bits below n are there -/
def pc (u : Nat) : Nat → Nat
  | 0 => 0
  | n + 1 => pc u n + if u.testBit n = true then 1 else 0
theorem or_in {u d : Nat} (h : u.testBit d = true) : u ||| 2 ^ d = u := by
  apply Nat.eq_of_testBit_eq
  intro i
  by_cases e : (u ||| 2 ^ d).testBit i = true
  · rw [e]
    rcases (tb2 u d i).mp e with z | z
    · exact z.symm
    · rw [z, h]
  · rw [Bool.not_eq_true] at e
    rw [e]
    symm
    rw [tbf]
    intro z
    rw [(tb2 u d i).mpr (Or.inl z)] at e
    cases e
theorem pc_new {u d : Nat} (h : u.testBit d = false) : ∀ n, pc (u ||| 2 ^ d) n = pc u n + if d < n then 1 else 0
  | 0 => by
    rw [if_neg (by omega)]
    rfl
  | n + 1 => by
    show pc (u ||| 2 ^ d) n + (if (u ||| 2 ^ d).testBit n = true then 1 else 0) = pc u n + (if u.testBit n = true then 1 else 0) + if d < n + 1 then 1 else 0
    rw [pc_new h n]
    by_cases e : n = d
    · have t1 : (u ||| 2 ^ d).testBit n = true := (tb2 _ _ _).mpr (Or.inr e)
      have t2 : ¬ (u.testBit n = true) := by
        rw [e, h]
        decide
      rw [if_pos t1, if_neg t2, if_neg (show ¬ d < n by omega), if_pos (show d < n + 1 by omega)]
    · have t : ((u ||| 2 ^ d).testBit n = true) = (u.testBit n = true) := propext ((tb2 _ _ _).trans ⟨fun z => z.resolve_right e, Or.inl⟩)
      have t3 : (if d < n then 1 else 0) = (if d < n + 1 then 1 else 0) := by
        by_cases z : d < n
        · rw [if_pos z, if_pos (show d < n + 1 by omega)]
        · rw [if_neg z, if_neg (show ¬ d < n + 1 by omega)]
      simp only [t]
      rw [t3, Nat.add_right_comm]
theorem pc_le (u : Nat) : ∀ n, pc u n ≤ n
  | 0 => Nat.le_refl 0
  | n + 1 => by
    have := pc_le u n
    show pc u n + (if _ then 1 else 0) ≤ n + 1
    split <;> omega
theorem pc_all {u : Nat} : ∀ n, pc u n = n → ∀ i, i < n → u.testBit i = true
  | 0, _, i, h => absurd h (Nat.not_lt_zero i)
  | n + 1, h, i, hi => by
    have l := pc_le u n
    have h' : pc u n + (if u.testBit n = true then 1 else 0) = n + 1 := h
    by_cases t : u.testBit n = true
    · rw [if_pos t] at h'
      by_cases e : i = n
      · rw [e]
        exact t
      · exact pc_all n (by omega) i (by omega)
    · rw [if_neg t] at h'
      omega
theorem pc_of {u : Nat} : ∀ n, (∀ i, i < n → u.testBit i = true) → pc u n = n
  | 0, _ => rfl
  | n + 1, h => by
    show pc u n + (if u.testBit n = true then 1 else 0) = n + 1
    rw [pc_of n (fun i hi => h i (by omega)), if_pos (h n (by omega))]
/-- no digit of a prefix stands in it twice -/
def dst (B : Nat) : Nat → Nat → Prop
  | 0, _ => True
  | i + 1, p => dst B i (p / B) ∧ (uP B i (p / B)).testBit (p % B) = false
theorem dst_s {B p m : Nat} (h : m < B) (i : Nat) : dst B (i + 1) (p * B + m) ↔ dst B i p ∧ (uP B i p).testBit m = false := by
  show dst B i ((p * B + m) / B) ∧ (uP B i ((p * B + m) / B)).testBit ((p * B + m) % B) = false ↔ _
  rw [(dgd h).1, (dgd h).2]
theorem dst_pre {B : Nat} (j i c : Nat) (h : dst B (i + j) c) : dst B i (c / B ^ j) := pre_of (Q := dst B) (fun _ _ z => z.1) j i c h
theorem pc_uP_le (B : Nat) : ∀ i p, pc (uP B i p) B ≤ i
  | 0, _ => by
    have e : ∀ n, pc 0 n = 0 := fun n => by
      induction n with
      | zero => rfl
      | succ n ih =>
        show pc 0 n + (if (0 : Nat).testBit n = true then 1 else 0) = 0
        rw [ih, Nat.zero_testBit]
        rfl
    show pc 0 B ≤ 0
    rw [e]
    exact Nat.le_refl 0
  | i + 1, p => by
    have r := pc_uP_le B i (p / B)
    show pc (uP B i (p / B) ||| 2 ^ (p % B)) B ≤ i + 1
    by_cases t : (uP B i (p / B)).testBit (p % B) = true
    · rw [or_in t]
      omega
    · rw [pc_new (tbf.mpr t)]
      split <;> omega
theorem dst_pc {B : Nat} (hB : 0 < B) : ∀ i p, dst B i p ↔ pc (uP B i p) B = i
  | 0, p => by
    have := pc_uP_le B 0 p
    exact ⟨fun _ => by omega, fun _ => trivial⟩
  | i + 1, p => by
    have r := dst_pc hB i (p / B)
    have l := pc_uP_le B i (p / B)
    have hm := Nat.mod_lt p hB
    show (dst B i (p / B) ∧ (uP B i (p / B)).testBit (p % B) = false) ↔ pc (uP B i (p / B) ||| 2 ^ (p % B)) B = i + 1
    by_cases t : (uP B i (p / B)).testBit (p % B) = true
    · rw [or_in t, t]
      exact ⟨fun z => Bool.noConfusion z.2, fun z => by omega⟩
    · have t' := tbf.mpr t
      rw [pc_new t', if_pos hm, r]
      exact ⟨fun z => by omega, fun z => ⟨by omega, t'⟩⟩
theorem full_iff {n u : Nat} (hu : u < 2 ^ n) : u = 2 ^ n - 1 ↔ pc u n = n := by
  constructor
  · intro e
    apply pc_of
    intro i hi
    rw [e, Nat.testBit_two_pow_sub_one]
    simp [hi]
  · intro e
    apply Nat.eq_of_testBit_eq
    intro i
    rw [Nat.testBit_two_pow_sub_one]
    by_cases hi : i < n
    · rw [pc_all n e i hi]
      simp [hi]
    · rw [Nat.testBit_lt_two_pow (Nat.lt_of_lt_of_le hu (Nat.pow_le_pow_right (by decide) (by omega)))]
      simp [hi]
theorem lays_iff {n c : Nat} : uP n n c = 2 ^ n - 1 ↔ dst n n c := by
  rcases Nat.eq_zero_or_pos n with h | h
  · subst h
    exact ⟨fun _ => trivial, fun _ => rfl⟩
  · rw [full_iff (uP_lt h n c), dst_pc h]
/-- a prefix as a row -/
def rP (B : Nat) : Nat → Nat → Nat → Nat
  | 0, _, _ => 0
  | i + 1, p, k => if k = i then p % B else rP B i (p / B) k
theorem rP_s {B p m : Nat} (h : m < B) (i k : Nat) : rP B (i + 1) (p * B + m) k = if k = i then m else rP B i p k := by
  show (if k = i then (p * B + m) % B else rP B i ((p * B + m) / B) k) = _
  rw [(dgd h).1, (dgd h).2]
theorem rP_lt {B : Nat} (hB : 0 < B) : ∀ i p k, rP B i p k < B
  | 0, _, _ => hB
  | i + 1, p, k => by
    show (if k = i then p % B else rP B i (p / B) k) < B
    split
    · exact Nat.mod_lt _ hB
    · exact rP_lt hB i (p / B) k
theorem rP_pre {B : Nat} : ∀ j i c k, k < i → rP B (i + j) c k = rP B i (c / B ^ j) k
  | 0, i, c, k, _ => by rw [Nat.pow_zero, Nat.div_one, Nat.add_zero]
  | j + 1, i, c, k, h => by
    have r := rP_pre (B := B) j i (c / B) k h
    rw [div_wp] at r
    show (if k = i + j then c % B else rP B (i + j) (c / B) k) = _
    rw [if_neg (show ¬ k = i + j by omega), r]
theorem rP_dig {B : Nat} : ∀ i c k, k < i → rP B i c k = c / B ^ (i - 1 - k) % B
  | 0, _, k, h => absurd h (Nat.not_lt_zero k)
  | i + 1, c, k, h => by
    show (if k = i then c % B else rP B i (c / B) k) = _
    by_cases e : k = i
    · rw [if_pos e, show i + 1 - 1 - k = 0 by omega, Nat.pow_zero, Nat.div_one]
    · rw [if_neg e, rP_dig i (c / B) k (by omega), div_wp, show i + 1 - 1 - k = i - 1 - k + 1 by omega]
/-- the digits of a prefix, as bits from f on -/
def uQ (f B : Nat) : Nat → Nat → Nat
  | 0, _ => 0
  | i + 1, p => uQ f B i (p / B) ||| 2 ^ (f + p % B)
theorem uQ_s {f B p m : Nat} (h : m < B) (i : Nat) : uQ f B (i + 1) (p * B + m) = uQ f B i p ||| 2 ^ (f + m) := by
  show uQ f B i ((p * B + m) / B) ||| 2 ^ (f + (p * B + m) % B) = _
  rw [(dgd h).1, (dgd h).2]
theorem uQ_lt {f B : Nat} (hB : 0 < B) : ∀ i p, uQ f B i p < 2 ^ (f + B)
  | 0, _ => Nat.two_pow_pos _
  | i + 1, p => Nat.or_lt_two_pow (uQ_lt hB i (p / B)) (Nat.pow_lt_pow_right (by decide) (by have := Nat.mod_lt p hB; omega))
theorem uQ_bit {f B : Nat} : ∀ i p d, (uQ f B i p).testBit (f + d) = (uP B i p).testBit d
  | 0, _, d => by
    show (0 : Nat).testBit (f + d) = (0 : Nat).testBit d
    rw [Nat.zero_testBit, Nat.zero_testBit]
  | i + 1, p, d => by
    have r := uQ_bit (f := f) (B := B) i (p / B) d
    show (uQ f B i (p / B) ||| 2 ^ (f + p % B)).testBit (f + d) = (uP B i (p / B) ||| 2 ^ (p % B)).testBit d
    rw [Bool.eq_iff_iff, tb2, tb2, r]
    exact ⟨fun z => z.imp id (fun y => by omega), fun z => z.imp id (fun y => by omega)⟩
theorem uQ_128 {f B : Nat} (hB : f + B ≤ 7) (i p : Nat) (h : i = 0 ∨ 0 < B) : uQ f B i p < 128 := by
  rcases h with h | h
  · subst h
    show 0 < 128
    omega
  · exact Nat.lt_of_lt_of_le (uQ_lt h i p) (Nat.pow_le_pow_right (n := 2) (j := 7) (by decide) hB)
/-- the row 0, 1, 2 .. as a code -/
def idc (B : Nat) : Nat → Nat
  | 0 => 0
  | i + 1 => idc B i * B + i
theorem idc_ok {B : Nat} : ∀ i, i ≤ B → idc B i < B ^ i ∧ dst B i (idc B i) ∧ ∀ d, (uP B i (idc B i)).testBit d = true → d < i
  | 0, _ => ⟨by rw [Nat.pow_zero]; exact Nat.zero_lt_one, trivial, fun d h => by
      have h' : (0 : Nat).testBit d = true := h
      rw [Nat.zero_testBit] at h'
      cases h'⟩
  | i + 1, h => by
    obtain ⟨r1, r2, r3⟩ := idc_ok (B := B) i (by omega)
    have hi : i < B := by omega
    refine ⟨?_, ?_, ?_⟩
    · show idc B i * B + i < B ^ (i + 1)
      rw [Nat.pow_succ]
      have : (idc B i + 1) * B ≤ B ^ i * B := Nat.mul_le_mul_right B r1
      rw [Nat.add_mul] at this
      omega
    · show dst B (i + 1) (idc B i * B + i)
      rw [dst_s hi]
      refine ⟨r2, ?_⟩
      rw [tbf]
      intro z
      have := r3 i z
      omega
    · intro d
      show (uP B (i + 1) (idc B i * B + i)).testBit d = true → d < i + 1
      rw [uP_s hi, tb2]
      rintro (z | z)
      · have := r3 d z
        omega
      · omega
