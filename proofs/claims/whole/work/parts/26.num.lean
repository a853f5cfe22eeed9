/-! NUMBERS: Int32 and Int64 as pictures of whole numbers -/
def iZ (e : Int) : Int32 := Int32.ofInt e
def jZ (e : Int) : Int64 := Int64.ofInt e
def iB (e : Int) : Prop := -2147483648 ≤ e ∧ e < 2147483648
def jB (e : Int) : Prop := -9223372036854775808 ≤ e ∧ e < 9223372036854775808
theorem iZ_nI (n : Nat) : nI n = iZ n := Int32.ofInt_eq_ofNat.symm
theorem iZ_ofNat (n : Nat) : Int32.ofNat n = iZ n := Int32.ofInt_eq_ofNat.symm
theorem jZ_lN (n : Nat) : lN n = jZ n := Int64.ofInt_eq_ofNat.symm
theorem iZ_lit (n : Nat) : (OfNat.ofNat n : Int32) = iZ (OfNat.ofNat n) := Int32.ofInt_eq_ofNat.symm
theorem jZ_lit (n : Nat) : (OfNat.ofNat n : Int64) = jZ (OfNat.ofNat n) := Int64.ofInt_eq_ofNat.symm
theorem i32ne0 : ¬ (0 : Int32) = 1 ∧ ¬ (0 : Int32) = 2 ∧ ¬ (0 : Int32) = 3 ∧ ¬ (0 : Int32) = 4 ∧ ¬ (0 : Int32) = 5 ∧ ¬ (0 : Int32) = 6 ∧ ¬ (0 : Int32) = 7 ∧ ¬ (0 : Int32) = 8 ∧ ¬ (0 : Int32) = 9 ∧ ¬ (0 : Int32) = 10 := by decide +kernel
theorem i32ne1 : ¬ (1 : Int32) = 0 ∧ ¬ (1 : Int32) = 2 ∧ ¬ (1 : Int32) = 3 ∧ ¬ (1 : Int32) = 4 ∧ ¬ (1 : Int32) = 5 ∧ ¬ (1 : Int32) = 6 ∧ ¬ (1 : Int32) = 7 ∧ ¬ (1 : Int32) = 8 ∧ ¬ (1 : Int32) = 9 ∧ ¬ (1 : Int32) = 10 := by decide +kernel
theorem i32ne2 : ¬ (2 : Int32) = 0 ∧ ¬ (2 : Int32) = 1 ∧ ¬ (2 : Int32) = 3 ∧ ¬ (2 : Int32) = 4 ∧ ¬ (2 : Int32) = 5 ∧ ¬ (2 : Int32) = 6 ∧ ¬ (2 : Int32) = 7 ∧ ¬ (2 : Int32) = 8 ∧ ¬ (2 : Int32) = 9 ∧ ¬ (2 : Int32) = 10 := by decide +kernel
theorem i32ne3 : ¬ (3 : Int32) = 0 ∧ ¬ (3 : Int32) = 1 ∧ ¬ (3 : Int32) = 2 ∧ ¬ (3 : Int32) = 4 ∧ ¬ (3 : Int32) = 5 ∧ ¬ (3 : Int32) = 6 ∧ ¬ (3 : Int32) = 7 ∧ ¬ (3 : Int32) = 8 ∧ ¬ (3 : Int32) = 9 ∧ ¬ (3 : Int32) = 10 := by decide +kernel
theorem i32ne4 : ¬ (4 : Int32) = 0 ∧ ¬ (4 : Int32) = 1 ∧ ¬ (4 : Int32) = 2 ∧ ¬ (4 : Int32) = 3 ∧ ¬ (4 : Int32) = 5 ∧ ¬ (4 : Int32) = 6 ∧ ¬ (4 : Int32) = 7 ∧ ¬ (4 : Int32) = 8 ∧ ¬ (4 : Int32) = 9 ∧ ¬ (4 : Int32) = 10 := by decide +kernel
theorem i32ne5 : ¬ (5 : Int32) = 0 ∧ ¬ (5 : Int32) = 1 ∧ ¬ (5 : Int32) = 2 ∧ ¬ (5 : Int32) = 3 ∧ ¬ (5 : Int32) = 4 ∧ ¬ (5 : Int32) = 6 ∧ ¬ (5 : Int32) = 7 ∧ ¬ (5 : Int32) = 8 ∧ ¬ (5 : Int32) = 9 ∧ ¬ (5 : Int32) = 10 := by decide +kernel
theorem i32ne6 : ¬ (6 : Int32) = 0 ∧ ¬ (6 : Int32) = 1 ∧ ¬ (6 : Int32) = 2 ∧ ¬ (6 : Int32) = 3 ∧ ¬ (6 : Int32) = 4 ∧ ¬ (6 : Int32) = 5 ∧ ¬ (6 : Int32) = 7 ∧ ¬ (6 : Int32) = 8 ∧ ¬ (6 : Int32) = 9 ∧ ¬ (6 : Int32) = 10 := by decide +kernel
theorem i32ne7 : ¬ (7 : Int32) = 0 ∧ ¬ (7 : Int32) = 1 ∧ ¬ (7 : Int32) = 2 ∧ ¬ (7 : Int32) = 3 ∧ ¬ (7 : Int32) = 4 ∧ ¬ (7 : Int32) = 5 ∧ ¬ (7 : Int32) = 6 ∧ ¬ (7 : Int32) = 8 ∧ ¬ (7 : Int32) = 9 ∧ ¬ (7 : Int32) = 10 := by decide +kernel
theorem i32ne8 : ¬ (8 : Int32) = 0 ∧ ¬ (8 : Int32) = 1 ∧ ¬ (8 : Int32) = 2 ∧ ¬ (8 : Int32) = 3 ∧ ¬ (8 : Int32) = 4 ∧ ¬ (8 : Int32) = 5 ∧ ¬ (8 : Int32) = 6 ∧ ¬ (8 : Int32) = 7 ∧ ¬ (8 : Int32) = 9 ∧ ¬ (8 : Int32) = 10 := by decide +kernel
theorem i32ne9 : ¬ (9 : Int32) = 0 ∧ ¬ (9 : Int32) = 1 ∧ ¬ (9 : Int32) = 2 ∧ ¬ (9 : Int32) = 3 ∧ ¬ (9 : Int32) = 4 ∧ ¬ (9 : Int32) = 5 ∧ ¬ (9 : Int32) = 6 ∧ ¬ (9 : Int32) = 7 ∧ ¬ (9 : Int32) = 8 ∧ ¬ (9 : Int32) = 10 := by decide +kernel
theorem i32ne10 : ¬ (10 : Int32) = 0 ∧ ¬ (10 : Int32) = 1 ∧ ¬ (10 : Int32) = 2 ∧ ¬ (10 : Int32) = 3 ∧ ¬ (10 : Int32) = 4 ∧ ¬ (10 : Int32) = 5 ∧ ¬ (10 : Int32) = 6 ∧ ¬ (10 : Int32) = 7 ∧ ¬ (10 : Int32) = 8 ∧ ¬ (10 : Int32) = 9 := by decide +kernel
theorem j64ne : ¬ (10 : Int64) = 0 ∧ ¬ (100 : Int64) = 0 ∧ ¬ (1000 : Int64) = 0 ∧ ¬ (2147483648 : Int64) = 0 ∧ ¬ (65536 : Int64) = 0 := by decide +kernel
theorem iZ_0 : (0 : Int32) = iZ 0 := rfl
theorem iZ_1 : (1 : Int32) = iZ 1 := rfl
theorem iZ_ex (x : Int32) : ∃ e : Int, -2147483648 ≤ e ∧ e < 2147483648 ∧ x = iZ e := ⟨x.toInt, Int32.le_toInt x, Int32.toInt_lt x, (Int32.ofInt_toInt x).symm⟩
theorem iZ_add (a b : Int) : iZ a + iZ b = iZ (a + b) := (Int32.ofInt_add a b).symm
theorem iZ_sub (a b : Int) : iZ a - iZ b = iZ (a - b) := (Int32.ofInt_sub a b).symm
theorem iZ_mul (a b : Int) : iZ a * iZ b = iZ (a * b) := (Int32.ofInt_mul a b).symm
theorem iZ_neg (a : Int) : -iZ a = iZ (-a) := (Int32.ofInt_neg a).symm
theorem jZ_add (a b : Int) : jZ a + jZ b = jZ (a + b) := (Int64.ofInt_add a b).symm
theorem jZ_sub (a b : Int) : jZ a - jZ b = jZ (a - b) := (Int64.ofInt_sub a b).symm
theorem jZ_mul (a b : Int) : jZ a * jZ b = jZ (a * b) := (Int64.ofInt_mul a b).symm
theorem jZ_neg (a : Int) : -jZ a = jZ (-a) := (Int64.ofInt_neg a).symm
theorem iZ_T {a : Int} (h : -2147483648 ≤ a ∧ a < 2147483648) : (iZ a).toInt = a := Int32.toInt_ofInt_of_le (by omega) (by omega)
theorem jZ_T {a : Int} (h : -9223372036854775808 ≤ a ∧ a < 9223372036854775808) : (jZ a).toInt = a := Int64.toInt_ofInt_of_le (by omega) (by omega)
theorem iZ_lt {a b : Int} (h : (-2147483648 ≤ a ∧ a < 2147483648) ∧ -2147483648 ≤ b ∧ b < 2147483648) : (iZ a < iZ b) = (a < b) := propext (by rw [Int32.lt_iff_toInt_lt, iZ_T h.1, iZ_T h.2])
theorem iZ_le {a b : Int} (h : (-2147483648 ≤ a ∧ a < 2147483648) ∧ -2147483648 ≤ b ∧ b < 2147483648) : (iZ a ≤ iZ b) = (a ≤ b) := propext (by rw [Int32.le_iff_toInt_le, iZ_T h.1, iZ_T h.2])
theorem iZ_eq {a b : Int} (h : (-2147483648 ≤ a ∧ a < 2147483648) ∧ -2147483648 ≤ b ∧ b < 2147483648) : (iZ a = iZ b) = (a = b) := propext ⟨fun e => by
  have e2 := congrArg Int32.toInt e
  rwa [iZ_T h.1, iZ_T h.2] at e2, fun e => by rw [e]⟩
theorem jZ_lt {a b : Int} (h : (-9223372036854775808 ≤ a ∧ a < 9223372036854775808) ∧ -9223372036854775808 ≤ b ∧ b < 9223372036854775808) : (jZ a < jZ b) = (a < b) := propext (by rw [Int64.lt_iff_toInt_lt, jZ_T h.1, jZ_T h.2])
theorem jZ_eq {a b : Int} (h : (-9223372036854775808 ≤ a ∧ a < 9223372036854775808) ∧ -9223372036854775808 ≤ b ∧ b < 9223372036854775808) : (jZ a = jZ b) = (a = b) := propext ⟨fun e => by
  have e2 := congrArg Int64.toInt e
  rwa [jZ_T h.1, jZ_T h.2] at e2, fun e => by rw [e]⟩
theorem iZ_nat {a : Int} (h : -2147483648 ≤ a ∧ a < 2147483648) : (iZ a).toNatClampNeg = a.toNat := Int32.toNatClampNeg_ofInt_of_le (by omega) (by omega)
theorem iZ_ix {n : Nat} (h : n < 2147483648) : (iZ n).toNatClampNeg = n := by
  rw [iZ_nat (by omega)]
  rfl
theorem iZ_l {a : Int} (h : -2147483648 ≤ a ∧ a < 2147483648) : (iZ a).toInt64 = jZ a := Int32.toInt64_ofInt (by rw [show Int32.minValue.toInt = -2147483648 from rfl]; exact h.1) (by rw [show Int32.maxValue.toInt = 2147483647 from rfl]; omega)
theorem iZ_div {a b : Int} (h : (0 ≤ a ∧ a < 2147483648) ∧ 0 < b ∧ b < 2147483648) : iZ a / iZ b = iZ (a / b) := by
  rw [← Int.tdiv_eq_ediv_of_nonneg h.1.1]
  exact (Int32.ofInt_tdiv (by rw [show Int32.minValue.toInt = -2147483648 from rfl]; omega) (by rw [show Int32.maxValue.toInt = 2147483647 from rfl]; omega) (by rw [show Int32.minValue.toInt = -2147483648 from rfl]; omega) (by rw [show Int32.maxValue.toInt = 2147483647 from rfl]; omega)).symm
theorem jZ_div {a b : Int} (h : (0 ≤ a ∧ a < 9223372036854775808) ∧ 0 < b ∧ b < 9223372036854775808) : jZ a / jZ b = jZ (a / b) := by
  rw [← Int.tdiv_eq_ediv_of_nonneg h.1.1]
  exact (Int64.ofInt_tdiv (by rw [show Int64.minValue.toInt = -9223372036854775808 from rfl]; omega) (by rw [show Int64.maxValue.toInt = 9223372036854775807 from rfl]; omega) (by rw [show Int64.minValue.toInt = -9223372036854775808 from rfl]; omega) (by rw [show Int64.maxValue.toInt = 9223372036854775807 from rfl]; omega)).symm
theorem iZ_rem {a b : Int} (h : (0 ≤ a ∧ a < 2147483648) ∧ 0 < b ∧ b < 2147483648) : iZ a - iZ a / iZ b * iZ b = iZ (a % b) := by
  rw [iZ_div h, iZ_mul, iZ_sub]
  congr 1
  have e := Int.mul_ediv_add_emod a b
  rw [Int.mul_comm] at e
  omega
theorem jZ_rem {a b : Int} (h : (0 ≤ a ∧ a < 9223372036854775808) ∧ 0 < b ∧ b < 9223372036854775808) : jZ a - jZ a / jZ b * jZ b = jZ (a % b) := by
  rw [jZ_div h, jZ_mul, jZ_sub]
  congr 1
  have e := Int.mul_ediv_add_emod a b
  rw [Int.mul_comm] at e
  omega
theorem iZ_mask : ∀ k : Nat, k < 31 → (((iZ k &&& 31 : Int32)).toBitVec.smod 32).toNat = k := by
  unfold iZ
  decide +kernel
theorem iZ_shl1 : ∀ k : Nat, k < 31 → (1 : Int32) <<< (iZ k &&& 31) = iZ ((2 ^ k : Nat) : Int) := by
  unfold iZ
  decide +kernel
theorem iZ_and1 (n : Nat) : iZ n &&& iZ 1 = iZ ((n % 2 : Nat) : Int) := by
  rw [← iZ_nI n, ← iZ_nI (n % 2)]
  apply Int32.toBitVec_inj.mp
  show BitVec.ofNat 32 n &&& BitVec.ofNat 32 1 = BitVec.ofNat 32 (n % 2)
  rw [← BitVec.ofNat_and, Nat.and_one_is_mod]
theorem iZ_or (n m : Nat) : iZ n ||| iZ m = iZ ((n ||| m : Nat) : Int) := by
  rw [← iZ_nI n, ← iZ_nI m, ← iZ_nI (n ||| m)]
  apply Int32.toBitVec_inj.mp
  show BitVec.ofNat 32 n ||| BitVec.ofNat 32 m = BitVec.ofNat 32 (n ||| m)
  rw [← BitVec.ofNat_or]
theorem iZ_bit {n k : Nat} (hn : n < 2147483648) (hk : k < 31) : (iZ n >>> (iZ k &&& 31) &&& 1 = 1) = (n.testBit k = true) := by
  rw [← iZ_nI n, pk_shrN hn _ k (iZ_mask k hk), iZ_nI, iZ_1, iZ_and1, iZ_eq (by omega)]
  rw [Nat.testBit_eq_decide_div_mod_eq]
  apply propext
  constructor
  · intro e
    have : n / 2 ^ k % 2 = 1 := by omega
    simp [this]
  · intro e
    have : n / 2 ^ k % 2 = 1 := by simpa using e
    omega
theorem zat_i {n m : Nat} {g : Nat → Int32} (h : m < n ∧ n < 2147483648) : zat n g (iZ m) = g m := by
  unfold zat
  have e : ¬ (iZ m < 0 ∨ n ≤ (iZ m).toNatClampNeg) := by
    rw [iZ_0, iZ_lt (by omega), iZ_ix (by omega)]
    omega
  rw [if_neg e, iZ_ix (by omega)]
theorem zup_i {n m : Nat} {g : Nat → Int32} {x : Int32} (h : m < n ∧ n < 2147483648) : zup n g (iZ m) x = upd g m x := by
  unfold zup
  have e : ¬ (iZ m < 0 ∨ n ≤ (iZ m).toNatClampNeg) := by
    rw [iZ_0, iZ_lt (by omega), iZ_ix (by omega)]
    omega
  rw [if_neg e, iZ_ix (by omega)]
theorem iZ_m1 : (-1 : Int32) = iZ (-1) := rfl
theorem iZ_m2 : (-2 : Int32) = iZ (-2) := rfl
theorem iZ_m3 : (-3 : Int32) = iZ (-3) := rfl
theorem iZ_m4 : (-4 : Int32) = iZ (-4) := rfl
