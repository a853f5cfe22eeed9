/-! AN EQUATION AN INSTRUCTION -/
def zrI (o : Option Value) (f : Int32 → zO) : zO := match o with
  | some (.int x) => f x
  | _ => none
def zrJ (o : Option Value) (f : Int64 → zO) : zO := match o with
  | some (.long x) => f x
  | _ => none
def zrP (o : Option Value) (f : Nat → zO) : zO := match o with
  | some (.ref x) => f x
  | _ => none
def zrG (o : Option zC) (ci k : Nat) (f : Value → zO) : zO := match o with
  | some (.inr (c, fs)) => if c = ci ∧ k < fs.length then f (fs.getD k .null) else none
  | _ => none
def zrS (o : Option zC) (ci k : Nat) (v : Value) (f : zC → zO) : zO := match o with
  | some (.inr (c, fs)) => if c = ci ∧ k < fs.length then f (.inr (c, fs.set k v)) else none
  | _ => none
def zrA (ro : zR) (o : Option zC) (a : Nat) (i : Int32) (f : Int32 → zO) : zO := match o with
  | some (.inl (0, n, .inl g)) => if i < 0 ∨ n ≤ i.toNatClampNeg then none else f (g i.toNatClampNeg)
  | some _ => none
  | none => match ro.1 a with
    | some (0, n, g) => if a < 1000 ∨ i < 0 ∨ n ≤ i.toNatClampNeg then none else f (g i.toNatClampNeg)
    | _ => none
def zrZ (ro : zR) (o : Option zC) (a : Nat) (i : Int32) (f : Int32 → zO) : zO := match o with
  | some (.inl (2, n, .inl g)) => if i < 0 ∨ n ≤ i.toNatClampNeg then none else f (g i.toNatClampNeg)
  | some _ => none
  | none => match ro.1 a with
    | some (5, n, g) => if a < 1000 ∨ i < 0 ∨ n ≤ i.toNatClampNeg then none else f (g i.toNatClampNeg)
    | _ => none
def zrAL (o : Option zC) (i : Int32) (f : Int64 → zO) : zO := match o with
  | some (.inl (1, n, .inr (.inl g))) => if i < 0 ∨ n ≤ i.toNatClampNeg then none else f (g i.toNatClampNeg)
  | _ => none
def zrAQ (o : Option zC) (i : Int32) (f : Value → zO) : zO := match o with
  | some (.inl (t, n, .inr (.inr (.inr (.inr g))))) => if (t = 3 ∨ t = 4) ∧ ¬ (i < 0 ∨ n ≤ i.toNatClampNeg) then f (va_rf (g i.toNatClampNeg)) else none
  | _ => none
def zrLen (ro : zR) (o : Option zC) (a : Nat) (f : Int32 → zO) : zO := match o with
  | some (.inl (t, x)) => if t < 5 then f (Int32.ofNat x.1) else none
  | some _ => none
  | none => match ro.1 a with
    | some (_, n, _) => if a < 1000 then none else f (Int32.ofNat n)
    | none => none
def zrAS (o : Option zC) (i x : Int32) (f : zC → zO) : zO := match o with
  | some (.inl (0, n, .inl g)) => if i < 0 ∨ n ≤ i.toNatClampNeg then none else f (.inl (0, n, .inl (upd g i.toNatClampNeg x)))
  | _ => none
def zrZS (o : Option zC) (i x : Int32) (f : zC → zO) : zO := match o with
  | some (.inl (2, n, .inl g)) => if i < 0 ∨ n ≤ i.toNatClampNeg then none else f (.inl (2, n, .inl (upd g i.toNatClampNeg (vp_nar .boolean x))))
  | _ => none
def zrLS (o : Option zC) (i : Int32) (x : Int64) (f : zC → zO) : zO := match o with
  | some (.inl (1, n, .inr (.inl g))) => if i < 0 ∨ n ≤ i.toNatClampNeg then none else f (.inl (1, n, .inr (.inl (vp_updL g i.toNatClampNeg x))))
  | _ => none
def zrC (o : zO) (f : Option Value → zW → zO) : zO := match o with
  | none => none
  | some (ov, σ1) => f ov σ1
/-- a receiver of class ci -/
def zrK (o : Option zC) (ci : Nat) (x : zO) : zO := match o with
  | some (.inr (c, _)) => if c = ci then x else none
  | _ => none
def zrL (o : Option zC) (x : zO) : zO := match o with
  | some (.inr (c, _)) => if c < 13 then x else none
  | _ => none
noncomputable def rm (ro : zR) (mi : Nat) (as : List Value) (σ : zW) : zO := rn ro (zrk mi as) mi 0 (lv_args 0 as) [] σ
section RI
variable {ro : zR} {d mi pc l : Nat} {a : List Int} {ls : zL} {st : List Value} {σ : zW}
theorem rn_iconst {n : Int} {v : Int32} (hq : zF mi pc = some (.iconst n, l, a)) (hv : Int32.ofInt n = v) : rn ro d mi pc ls st σ = rn ro d mi (pc + 1) (zpr mi (pc + 1) ls) (.int v :: st) σ := by subst hv; exact rn_eq hq ls st σ
theorem rn_bipush {n : Int} {v : Int32} (hq : zF mi pc = some (.bipush n, l, a)) (hv : (Int8.ofInt n).toInt32 = v) : rn ro d mi pc ls st σ = rn ro d mi (pc + 2) (zpr mi (pc + 2) ls) (.int v :: st) σ := by subst hv; exact rn_eq hq ls st σ
theorem rn_sipush {n : Int} {v : Int32} (hq : zF mi pc = some (.sipush n, l, a)) (hv : (Int16.ofInt n).toInt32 = v) : rn ro d mi pc ls st σ = rn ro d mi (pc + 3) (zpr mi (pc + 3) ls) (.int v :: st) σ := by subst hv; exact rn_eq hq ls st σ
theorem rn_lconst {n : Fin 2} {v : Int64} (hq : zF mi pc = some (.lconst n, l, a)) (hv : Int64.ofNat n.val = v) : rn ro d mi pc ls st σ = rn ro d mi (pc + 1) (zpr mi (pc + 1) ls) (.long v :: st) σ := by subst hv; exact rn_eq hq ls st σ
theorem rn_null (hq : zF mi pc = some (.aconst_null, l, a)) : rn ro d mi pc ls st σ = rn ro d mi (pc + 1) (zpr mi (pc + 1) ls) (.null :: st) σ := rn_eq hq ls st σ
theorem rk_LI {i : Nat} {f : Int32 → zA} : rk ro d mi σ (zLI ls i f) = zrI (zlook ls i) fun x => rk ro d mi σ (f x) := by
  unfold zLI zrI
  cases zlook ls i with
  | none => rfl
  | some v => cases v <;> rfl
theorem rk_LJ {i : Nat} {f : Int64 → zA} : rk ro d mi σ (zLJ ls i f) = zrJ (zlook ls i) fun x => rk ro d mi σ (f x) := by
  unfold zLJ zrJ
  cases zlook ls i with
  | none => rfl
  | some v => cases v <;> rfl
theorem rk_LP {i : Nat} {f : Nat → zA} : rk ro d mi σ (zLP ls i f) = zrP (zlook ls i) fun x => rk ro d mi σ (f x) := by
  unfold zLP zrP
  cases zlook ls i with
  | none => rfl
  | some v => cases v <;> rfl
theorem rn_iload_n {k : Fin 4} (hq : zF mi pc = some (.iload_n k, l, a)) : rn ro d mi pc ls st σ = zrI (zlook ls k.val) fun x => rn ro d mi (pc + 1) (zpr mi (pc + 1) ls) (.int x :: st) σ := (rn_eq hq ls st σ).trans rk_LI
theorem rn_iload {k : Nat} (hq : zF mi pc = some (.iload k, l, a)) : rn ro d mi pc ls st σ = zrI (zlook ls k) fun x => rn ro d mi (pc + 2) (zpr mi (pc + 2) ls) (.int x :: st) σ := (rn_eq hq ls st σ).trans rk_LI
theorem rn_lload_n {k : Fin 4} (hq : zF mi pc = some (.lload_n k, l, a)) : rn ro d mi pc ls st σ = zrJ (zlook ls k.val) fun x => rn ro d mi (pc + 1) (zpr mi (pc + 1) ls) (.long x :: st) σ := (rn_eq hq ls st σ).trans rk_LJ
theorem rn_lload {k : Nat} (hq : zF mi pc = some (.lload k, l, a)) : rn ro d mi pc ls st σ = zrJ (zlook ls k) fun x => rn ro d mi (pc + 2) (zpr mi (pc + 2) ls) (.long x :: st) σ := (rn_eq hq ls st σ).trans rk_LJ
theorem rn_aload_n {k : Fin 4} (hq : zF mi pc = some (.aload_n k, l, a)) : rn ro d mi pc ls st σ = zrP (zlook ls k.val) fun x => rn ro d mi (pc + 1) (zpr mi (pc + 1) ls) (.ref x :: st) σ := (rn_eq hq ls st σ).trans rk_LP
theorem rn_aload {k : Nat} (hq : zF mi pc = some (.aload k, l, a)) : rn ro d mi pc ls st σ = zrP (zlook ls k) fun x => rn ro d mi (pc + 2) (zpr mi (pc + 2) ls) (.ref x :: st) σ := (rn_eq hq ls st σ).trans rk_LP
theorem rn_istore_n {k : Fin 4} {x : Int32} (hq : zF mi pc = some (.istore_n k, l, a)) (hk : k.val < mL mi) : rn ro d mi pc ls (.int x :: st) σ = rn ro d mi (pc + 1) (zpr mi (pc + 1) (zst1 k.val (.int x) ls)) st σ := (rn_eq hq ls _ σ).trans (by show rk ro d mi σ (if _ then _ else _) = _; rw [if_pos hk]; rfl)
theorem rn_istore {k : Nat} {x : Int32} (hq : zF mi pc = some (.istore k, l, a)) (hk : k < mL mi) : rn ro d mi pc ls (.int x :: st) σ = rn ro d mi (pc + 2) (zpr mi (pc + 2) (zst1 k (.int x) ls)) st σ := (rn_eq hq ls _ σ).trans (by show rk ro d mi σ (if _ then _ else _) = _; rw [if_pos hk]; rfl)
theorem rn_lstore_n {k : Fin 4} {x : Int64} (hq : zF mi pc = some (.lstore_n k, l, a)) (hk : k.val + 1 < mL mi) : rn ro d mi pc ls (.long x :: st) σ = rn ro d mi (pc + 1) (zpr mi (pc + 1) (zst2 k.val (.long x) ls)) st σ := (rn_eq hq ls _ σ).trans (by show rk ro d mi σ (if _ then _ else _) = _; rw [if_pos hk]; rfl)
theorem rn_lstore {k : Nat} {x : Int64} (hq : zF mi pc = some (.lstore k, l, a)) (hk : k + 1 < mL mi) : rn ro d mi pc ls (.long x :: st) σ = rn ro d mi (pc + 2) (zpr mi (pc + 2) (zst2 k (.long x) ls)) st σ := (rn_eq hq ls _ σ).trans (by show rk ro d mi σ (if _ then _ else _) = _; rw [if_pos hk]; rfl)
theorem rn_astore_n {k : Fin 4} {x : Nat} (hq : zF mi pc = some (.astore_n k, l, a)) (hk : k.val < mL mi) : rn ro d mi pc ls (.ref x :: st) σ = rn ro d mi (pc + 1) (zpr mi (pc + 1) (zst1 k.val (.ref x) ls)) st σ := (rn_eq hq ls _ σ).trans (by show rk ro d mi σ (if _ then _ else _) = _; rw [if_pos hk]; rfl)
theorem rn_astore {k : Nat} {x : Nat} (hq : zF mi pc = some (.astore k, l, a)) (hk : k < mL mi) : rn ro d mi pc ls (.ref x :: st) σ = rn ro d mi (pc + 2) (zpr mi (pc + 2) (zst1 k (.ref x) ls)) st σ := (rn_eq hq ls _ σ).trans (by show rk ro d mi σ (if _ then _ else _) = _; rw [if_pos hk]; rfl)
theorem rn_iinc {k : Nat} {n : Int} {v : Int32} (hq : zF mi pc = some (.iinc k n, l, a)) (hk : k < mL mi) (hv : Int32.ofInt n = v) : rn ro d mi pc ls st σ = zrI (zlook ls k) fun x => rn ro d mi (pc + 3) (zpr mi (pc + 3) (zst1 k (.int (x + v)) ls)) st σ := by
  subst hv
  refine (rn_eq hq ls st σ).trans (rk_LI.trans ?_)
  congr 1
  funext x
  rw [if_pos hk]
  rfl
theorem rn_iadd {x y : Int32} (hq : zF mi pc = some (.iadd, l, a)) : rn ro d mi pc ls (.int y :: .int x :: st) σ = rn ro d mi (pc + 1) (zpr mi (pc + 1) ls) (.int (x + y) :: st) σ := rn_eq hq ls _ σ
theorem rn_isub {x y : Int32} (hq : zF mi pc = some (.isub, l, a)) : rn ro d mi pc ls (.int y :: .int x :: st) σ = rn ro d mi (pc + 1) (zpr mi (pc + 1) ls) (.int (x - y) :: st) σ := rn_eq hq ls _ σ
theorem rn_imul {x y : Int32} (hq : zF mi pc = some (.imul, l, a)) : rn ro d mi pc ls (.int y :: .int x :: st) σ = rn ro d mi (pc + 1) (zpr mi (pc + 1) ls) (.int (x * y) :: st) σ := rn_eq hq ls _ σ
theorem rn_iand {x y : Int32} (hq : zF mi pc = some (.iand, l, a)) : rn ro d mi pc ls (.int y :: .int x :: st) σ = rn ro d mi (pc + 1) (zpr mi (pc + 1) ls) (.int (x &&& y) :: st) σ := rn_eq hq ls _ σ
theorem rn_ior {x y : Int32} (hq : zF mi pc = some (.ior, l, a)) : rn ro d mi pc ls (.int y :: .int x :: st) σ = rn ro d mi (pc + 1) (zpr mi (pc + 1) ls) (.int (x ||| y) :: st) σ := rn_eq hq ls _ σ
theorem rn_ishl {x y : Int32} (hq : zF mi pc = some (.ishl, l, a)) : rn ro d mi pc ls (.int y :: .int x :: st) σ = rn ro d mi (pc + 1) (zpr mi (pc + 1) ls) (.int (x <<< (y &&& 31)) :: st) σ := rn_eq hq ls _ σ
theorem rn_ishr {x y : Int32} (hq : zF mi pc = some (.ishr, l, a)) : rn ro d mi pc ls (.int y :: .int x :: st) σ = rn ro d mi (pc + 1) (zpr mi (pc + 1) ls) (.int (x >>> (y &&& 31)) :: st) σ := rn_eq hq ls _ σ
theorem rn_idiv {x y : Int32} (hq : zF mi pc = some (.idiv, l, a)) : rn ro d mi pc ls (.int y :: .int x :: st) σ = if y = 0 then none else rn ro d mi (pc + 1) (zpr mi (pc + 1) ls) (.int (x / y) :: st) σ := (rn_eq hq ls _ σ).trans (by show rk ro d mi σ (if _ then _ else _) = _; split <;> rfl)
theorem rn_irem {x y : Int32} (hq : zF mi pc = some (.irem, l, a)) : rn ro d mi pc ls (.int y :: .int x :: st) σ = if y = 0 then none else rn ro d mi (pc + 1) (zpr mi (pc + 1) ls) (.int (x - x / y * y) :: st) σ := (rn_eq hq ls _ σ).trans (by show rk ro d mi σ (if _ then _ else _) = _; split <;> rfl)
theorem rn_i2l {x : Int32} (hq : zF mi pc = some (.i2l, l, a)) : rn ro d mi pc ls (.int x :: st) σ = rn ro d mi (pc + 1) (zpr mi (pc + 1) ls) (.long x.toInt64 :: st) σ := rn_eq hq ls _ σ
theorem rn_i2c {x : Int32} (hq : zF mi pc = some (.i2c, l, a)) : rn ro d mi pc ls (.int x :: st) σ = rn ro d mi (pc + 1) (zpr mi (pc + 1) ls) (.int (x.toUInt32 % 65536).toInt32 :: st) σ := rn_eq hq ls _ σ
theorem rn_ladd {x y : Int64} (hq : zF mi pc = some (.ladd, l, a)) : rn ro d mi pc ls (.long y :: .long x :: st) σ = rn ro d mi (pc + 1) (zpr mi (pc + 1) ls) (.long (x + y) :: st) σ := rn_eq hq ls _ σ
theorem rn_lsub {x y : Int64} (hq : zF mi pc = some (.lsub, l, a)) : rn ro d mi pc ls (.long y :: .long x :: st) σ = rn ro d mi (pc + 1) (zpr mi (pc + 1) ls) (.long (x - y) :: st) σ := rn_eq hq ls _ σ
theorem rn_lmul {x y : Int64} (hq : zF mi pc = some (.lmul, l, a)) : rn ro d mi pc ls (.long y :: .long x :: st) σ = rn ro d mi (pc + 1) (zpr mi (pc + 1) ls) (.long (x * y) :: st) σ := rn_eq hq ls _ σ
theorem rn_ldiv {x y : Int64} (hq : zF mi pc = some (.ldiv, l, a)) : rn ro d mi pc ls (.long y :: .long x :: st) σ = if y = 0 then none else rn ro d mi (pc + 1) (zpr mi (pc + 1) ls) (.long (x / y) :: st) σ := (rn_eq hq ls _ σ).trans (by show rk ro d mi σ (if _ then _ else _) = _; split <;> rfl)
theorem rn_lrem {x y : Int64} (hq : zF mi pc = some (.lrem, l, a)) : rn ro d mi pc ls (.long y :: .long x :: st) σ = if y = 0 then none else rn ro d mi (pc + 1) (zpr mi (pc + 1) ls) (.long (x - x / y * y) :: st) σ := (rn_eq hq ls _ σ).trans (by show rk ro d mi σ (if _ then _ else _) = _; split <;> rfl)
theorem rn_lcmp {x y : Int64} (hq : zF mi pc = some (.lcmp, l, a)) : rn ro d mi pc ls (.long y :: .long x :: st) σ = rn ro d mi (pc + 1) (zpr mi (pc + 1) ls) (.int (lg_cmp x y) :: st) σ := rn_eq hq ls _ σ
theorem rn_dup {v : Value} (hq : zF mi pc = some (.dup, l, a)) : rn ro d mi pc ls (v :: st) σ = if v.category = 1 then rn ro d mi (pc + 1) (zpr mi (pc + 1) ls) (v :: v :: st) σ else none := (rn_eq hq ls _ σ).trans (by show rk ro d mi σ (if _ then _ else _) = _; split <;> rfl)
theorem rn_dup_x1 {v w : Value} (hq : zF mi pc = some (.dup_x1, l, a)) : rn ro d mi pc ls (v :: w :: st) σ = if v.category = 1 ∧ w.category = 1 then rn ro d mi (pc + 1) (zpr mi (pc + 1) ls) (v :: w :: v :: st) σ else none := (rn_eq hq ls _ σ).trans (by show rk ro d mi σ (if _ then _ else _) = _; split <;> rfl)
theorem rn_dup2 {v w : Value} (hq : zF mi pc = some (.dup2, l, a)) : rn ro d mi pc ls (v :: w :: st) σ = if v.category = 1 ∧ w.category = 1 then rn ro d mi (pc + 1) (zpr mi (pc + 1) ls) (v :: w :: v :: w :: st) σ else none := (rn_eq hq ls _ σ).trans (by show rk ro d mi σ (if _ then _ else _) = _; split <;> rfl)
theorem rn_pop {v : Value} (hq : zF mi pc = some (.pop, l, a)) : rn ro d mi pc ls (v :: st) σ = if v.category = 1 then rn ro d mi (pc + 1) (zpr mi (pc + 1) ls) st σ else none := (rn_eq hq ls _ σ).trans (by show rk ro d mi σ (if _ then _ else _) = _; split <;> rfl)
theorem rk_T {off : Int} {t : Nat} (ht : (pc : Int) + off = (t : Int)) {f : Nat → zA} : rk ro d mi σ (zT pc off f) = rk ro d mi σ (f t) := by
  unfold zT
  rw [ht, if_pos (by omega), Int.toNat_natCast]
theorem rk_B {c : Prop} [Decidable c] {x y : zA} : rk ro d mi σ (zB c x y) = if c then rk ro d mi σ x else rk ro d mi σ y := by
  unfold zB
  split <;> rfl
theorem rn_ifeq {x : Int32} {off : Int} {t : Nat} (hq : zF mi pc = some (.ifCond .eq off, l, a)) (ht : (pc : Int) + off = (t : Int)) : rn ro d mi pc ls (.int x :: st) σ = if x = 0 then rn ro d mi t (zpr mi t ls) st σ else rn ro d mi (pc + 3) (zpr mi (pc + 3) ls) st σ := (rn_eq hq ls _ σ).trans (by unfold zact; dsimp only [zI1, zI2]; rw [rk_T ht]; exact rk_B)
theorem rn_ifne {x : Int32} {off : Int} {t : Nat} (hq : zF mi pc = some (.ifCond .ne off, l, a)) (ht : (pc : Int) + off = (t : Int)) : rn ro d mi pc ls (.int x :: st) σ = if x = 0 then rn ro d mi (pc + 3) (zpr mi (pc + 3) ls) st σ else rn ro d mi t (zpr mi t ls) st σ := (rn_eq hq ls _ σ).trans (by unfold zact; dsimp only [zI1, zI2]; rw [rk_T ht]; exact rk_B)
theorem rn_iflt {x : Int32} {off : Int} {t : Nat} (hq : zF mi pc = some (.ifCond .lt off, l, a)) (ht : (pc : Int) + off = (t : Int)) : rn ro d mi pc ls (.int x :: st) σ = if x < 0 then rn ro d mi t (zpr mi t ls) st σ else rn ro d mi (pc + 3) (zpr mi (pc + 3) ls) st σ := (rn_eq hq ls _ σ).trans (by unfold zact; dsimp only [zI1, zI2]; rw [rk_T ht]; exact rk_B)
theorem rn_ifge {x : Int32} {off : Int} {t : Nat} (hq : zF mi pc = some (.ifCond .ge off, l, a)) (ht : (pc : Int) + off = (t : Int)) : rn ro d mi pc ls (.int x :: st) σ = if x < 0 then rn ro d mi (pc + 3) (zpr mi (pc + 3) ls) st σ else rn ro d mi t (zpr mi t ls) st σ := (rn_eq hq ls _ σ).trans (by unfold zact; dsimp only [zI1, zI2]; rw [rk_T ht]; exact rk_B)
theorem rn_ifgt {x : Int32} {off : Int} {t : Nat} (hq : zF mi pc = some (.ifCond .gt off, l, a)) (ht : (pc : Int) + off = (t : Int)) : rn ro d mi pc ls (.int x :: st) σ = if 0 < x then rn ro d mi t (zpr mi t ls) st σ else rn ro d mi (pc + 3) (zpr mi (pc + 3) ls) st σ := (rn_eq hq ls _ σ).trans (by unfold zact; dsimp only [zI1, zI2]; rw [rk_T ht]; exact rk_B)
theorem rn_ifle {x : Int32} {off : Int} {t : Nat} (hq : zF mi pc = some (.ifCond .le off, l, a)) (ht : (pc : Int) + off = (t : Int)) : rn ro d mi pc ls (.int x :: st) σ = if 0 < x then rn ro d mi (pc + 3) (zpr mi (pc + 3) ls) st σ else rn ro d mi t (zpr mi t ls) st σ := (rn_eq hq ls _ σ).trans (by unfold zact; dsimp only [zI1, zI2]; rw [rk_T ht]; exact rk_B)
theorem rn_icmpeq {x y : Int32} {off : Int} {t : Nat} (hq : zF mi pc = some (.if_icmp .eq off, l, a)) (ht : (pc : Int) + off = (t : Int)) : rn ro d mi pc ls (.int y :: .int x :: st) σ = if x = y then rn ro d mi t (zpr mi t ls) st σ else rn ro d mi (pc + 3) (zpr mi (pc + 3) ls) st σ := (rn_eq hq ls _ σ).trans (by unfold zact; dsimp only [zI1, zI2]; rw [rk_T ht]; exact rk_B)
theorem rn_icmpne {x y : Int32} {off : Int} {t : Nat} (hq : zF mi pc = some (.if_icmp .ne off, l, a)) (ht : (pc : Int) + off = (t : Int)) : rn ro d mi pc ls (.int y :: .int x :: st) σ = if x = y then rn ro d mi (pc + 3) (zpr mi (pc + 3) ls) st σ else rn ro d mi t (zpr mi t ls) st σ := (rn_eq hq ls _ σ).trans (by unfold zact; dsimp only [zI1, zI2]; rw [rk_T ht]; exact rk_B)
theorem rn_icmplt {x y : Int32} {off : Int} {t : Nat} (hq : zF mi pc = some (.if_icmp .lt off, l, a)) (ht : (pc : Int) + off = (t : Int)) : rn ro d mi pc ls (.int y :: .int x :: st) σ = if x < y then rn ro d mi t (zpr mi t ls) st σ else rn ro d mi (pc + 3) (zpr mi (pc + 3) ls) st σ := (rn_eq hq ls _ σ).trans (by unfold zact; dsimp only [zI1, zI2]; rw [rk_T ht]; exact rk_B)
theorem rn_icmpge {x y : Int32} {off : Int} {t : Nat} (hq : zF mi pc = some (.if_icmp .ge off, l, a)) (ht : (pc : Int) + off = (t : Int)) : rn ro d mi pc ls (.int y :: .int x :: st) σ = if x < y then rn ro d mi (pc + 3) (zpr mi (pc + 3) ls) st σ else rn ro d mi t (zpr mi t ls) st σ := (rn_eq hq ls _ σ).trans (by unfold zact; dsimp only [zI1, zI2]; rw [rk_T ht]; exact rk_B)
theorem rn_icmpgt {x y : Int32} {off : Int} {t : Nat} (hq : zF mi pc = some (.if_icmp .gt off, l, a)) (ht : (pc : Int) + off = (t : Int)) : rn ro d mi pc ls (.int y :: .int x :: st) σ = if y < x then rn ro d mi t (zpr mi t ls) st σ else rn ro d mi (pc + 3) (zpr mi (pc + 3) ls) st σ := (rn_eq hq ls _ σ).trans (by unfold zact; dsimp only [zI1, zI2]; rw [rk_T ht]; exact rk_B)
theorem rn_icmple {x y : Int32} {off : Int} {t : Nat} (hq : zF mi pc = some (.if_icmp .le off, l, a)) (ht : (pc : Int) + off = (t : Int)) : rn ro d mi pc ls (.int y :: .int x :: st) σ = if y < x then rn ro d mi (pc + 3) (zpr mi (pc + 3) ls) st σ else rn ro d mi t (zpr mi t ls) st σ := (rn_eq hq ls _ σ).trans (by unfold zact; dsimp only [zI1, zI2]; rw [rk_T ht]; exact rk_B)
theorem rn_goto {off : Int} {t : Nat} (hq : zF mi pc = some (.goto off, l, a)) (ht : (pc : Int) + off = (t : Int)) : rn ro d mi pc ls st σ = rn ro d mi t (zpr mi t ls) st σ := (rn_eq hq ls _ σ).trans (by unfold zact; dsimp only; rw [rk_T ht]; rfl)
theorem rn_ifnonnull {k : Nat} {off : Int} {t : Nat} (hq : zF mi pc = some (.ifnonnull off, l, a)) (ht : (pc : Int) + off = (t : Int)) : rn ro d mi pc ls (.ref k :: st) σ = rn ro d mi t (zpr mi t ls) st σ := (rn_eq hq ls _ σ).trans (by unfold zact; dsimp only; rw [rk_T ht]; rfl)
theorem rn_ifnull {k : Nat} {off : Int} (hq : zF mi pc = some (.ifnull off, l, a)) : rn ro d mi pc ls (.ref k :: st) σ = rn ro d mi (pc + 3) (zpr mi (pc + 3) ls) st σ := rn_eq hq ls _ σ
theorem rn_ldc {i : Nat} {w n : Int} {v : Int32} (hq : zF mi pc = some (.ldc i, l, [w, 0, n])) (hv : Int32.ofInt n = v) : rn ro d mi pc ls st σ = rn ro d mi (pc + 2) (zpr mi (pc + 2) ls) (.int v :: st) σ := by subst hv; exact rn_eq hq ls st σ
theorem rn_ldc2 {i : Nat} {w n : Int} {v : Int64} (hq : zF mi pc = some (.ldc2_w i, l, [w, n])) (hv : Int64.ofInt n = v) : rn ro d mi pc ls st σ = rn ro d mi (pc + 3) (zpr mi (pc + 3) ls) (.long v :: st) σ := by subst hv; exact rn_eq hq ls st σ
theorem rn_ldcS {i : Nat} {w : Int} {k r : Nat} (hq : zF mi pc = some (.ldc i, l, [w, 1, (k : Int)])) (hk : k < 9) (hr : 2000 + k = r) : rn ro d mi pc ls st σ = rn ro d mi (pc + 2) (zpr mi (pc + 2) ls) (.ref r :: st) σ := by
  subst hr
  refine (rn_eq hq ls st σ).trans ?_
  show rk ro d mi σ (if _ then _ else _) = _
  rw [if_pos (by omega)]
  rfl
theorem rn_gets {i : Nat} {w k n : Int} (hq : zF mi pc = some (.getstatic i, l, [w, k, n])) : rn ro d mi pc ls st σ = rn ro d mi (pc + 3) (zpr mi (pc + 3) ls) (zsv ro k :: st) σ := rn_eq hq ls st σ
theorem rn_get {i x : Nat} {w ci k : Int} (hq : zF mi pc = some (.getfield i, l, [w, ci, k])) {c2 k2 : Nat} (hc : ci = (c2 : Int)) (h9 : c2 < 99) (hk : k = (k2 : Int)) : rn ro d mi pc ls (.ref x :: st) σ = zrG (σ[x]?) c2 k2 fun v => rn ro d mi (pc + 3) (zpr mi (pc + 3) ls) (v :: st) σ := by
  subst hc hk
  refine (rn_eq hq ls _ σ).trans ?_
  show rk ro d mi σ (if ((c2 : Int) = 99) then _ else _) = _
  rw [if_neg (by omega)]
  unfold zrG
  cases σ[x]? with
  | none => rfl
  | some c =>
    cases c with
    | inl c => rfl
    | inr c =>
      obtain ⟨c, fs⟩ := c
      show rk ro d mi σ (if ((c : Int) = (c2 : Int)) ∧ (k2 : Int).toNat < fs.length then _ else _) = _
      rw [Int.toNat_natCast]
      dsimp only
      by_cases h : c = c2 ∧ k2 < fs.length
      · rw [if_pos h, if_pos ⟨by omega, h.2⟩]
        rfl
      · rw [if_neg h, if_neg (fun z => h ⟨by omega, z.2⟩)]
        rfl
theorem rn_getS {i x : Nat} {w : Int} (hq : zF mi pc = some (.getfield i, l, [w, 99, 0])) : rn ro d mi pc ls (.ref x :: st) σ = if 2000 ≤ x ∧ x < 2009 then rn ro d mi (pc + 3) (zpr mi (pc + 3) ls) (.ref (x + 100) :: st) σ else none := by
  refine (rn_eq hq ls _ σ).trans ?_
  show rk ro d mi σ (if _ then _ else _) = _
  split <;> rfl
theorem rn_getS1 {i x : Nat} {w : Int} (hq : zF mi pc = some (.getfield i, l, [w, 99, 1])) : rn ro d mi pc ls (.ref x :: st) σ = if 2000 ≤ x ∧ x < 2009 then rn ro d mi (pc + 3) (zpr mi (pc + 3) ls) (.int 0 :: st) σ else none := by
  refine (rn_eq hq ls _ σ).trans ?_
  show rk ro d mi σ (if _ then _ else _) = _
  split <;> rfl
theorem rn_put {i x : Nat} {w ci k : Int} {v : Value} (hq : zF mi pc = some (.putfield i, l, [w, ci, k])) {c2 k2 : Nat} (hc : ci = (c2 : Int)) (hk : k = (k2 : Int)) (hfit : zfit (ztx c2 k2) v = true) (hfin : (match vwCl[c2]? with | some c => (c.2.1 k2).2.2.2 | none => false) = true → ((mN mi).name == "<init>") = true) : rn ro d mi pc ls (v :: .ref x :: st) σ = zrS (σ[x]?) c2 k2 v fun c => rn ro d mi (pc + 3) (zpr mi (pc + 3) ls) st (σ.set x c) := by
  subst hc hk
  refine (rn_eq hq ls _ σ).trans ?_
  unfold zact
  dsimp only [zI1, zI2, zP1, zJ1]
  unfold zput zrS
  dsimp only
  cases σ[x]? with
  | none => rfl
  | some c =>
    cases c with
    | inl c => rfl
    | inr c =>
      obtain ⟨c, fs⟩ := c
      dsimp only
      simp only [Int.toNat_natCast]
      by_cases h : c = c2 ∧ k2 < fs.length
      · obtain ⟨rfl, h⟩ := h
        rw [if_pos ⟨rfl, h, hfit, hfin⟩, if_pos ⟨rfl, h⟩]
        rfl
      · rw [if_neg h, if_neg (fun z => h ⟨by omega, z.2.1⟩)]
        rfl
theorem rn_iaload {x : Nat} {i : Int32} (hq : zF mi pc = some (.iaload, l, a)) : rn ro d mi pc ls (.int i :: .ref x :: st) σ = zrA ro (σ[x]?) x i fun v => rn ro d mi (pc + 1) (zpr mi (pc + 1) ls) (.int v :: st) σ := by
  refine (rn_eq hq ls _ σ).trans ?_
  unfold zact
  dsimp only [zI1, zI2, zP1, zJ1]
  unfold zald zrA
  generalize σ[x]? = o
  generalize ro.1 x = r
  rcases o with _ | ⟨t, n, g⟩ | c
  · rcases r with _ | ⟨t, n, g⟩
    · rfl
    · rcases t with _ | t
      · show rk ro d mi σ (if _ then _ else _) = (if _ then _ else _); split <;> rfl
      · rfl
  · rcases t with _ | t
    · rcases g with g | g
      · show rk ro d mi σ (if _ then _ else _) = (if _ then _ else _); split <;> rfl
      · rfl
    · rfl
  · rfl
theorem rn_baload {x : Nat} {i : Int32} (hq : zF mi pc = some (.baload, l, a)) : rn ro d mi pc ls (.int i :: .ref x :: st) σ = zrZ ro (σ[x]?) x i fun v => rn ro d mi (pc + 1) (zpr mi (pc + 1) ls) (.int v :: st) σ := by
  refine (rn_eq hq ls _ σ).trans ?_
  unfold zact
  dsimp only [zI1, zI2, zP1, zJ1]
  unfold zbld zrZ
  generalize σ[x]? = o
  generalize ro.1 x = r
  rcases o with _ | ⟨t, n, g⟩ | c
  · rcases r with _ | ⟨t, n, g⟩
    · rfl
    · rcases t with _ | _ | _ | _ | _ | _ | t <;> first | rfl | (show rk ro d mi σ (if _ then _ else _) = (if _ then _ else _); split <;> rfl)
  · rcases t with _ | _ | _ | t <;> first | rfl | (rcases g with g | g <;> first | rfl | (show rk ro d mi σ (if _ then _ else _) = (if _ then _ else _); split <;> rfl))
  · rfl
theorem rn_laload {x : Nat} {i : Int32} (hq : zF mi pc = some (.laload, l, a)) : rn ro d mi pc ls (.int i :: .ref x :: st) σ = zrAL (σ[x]?) i fun v => rn ro d mi (pc + 1) (zpr mi (pc + 1) ls) (.long v :: st) σ := by
  refine (rn_eq hq ls _ σ).trans ?_
  unfold zact
  dsimp only [zI1, zI2, zP1, zJ1]
  unfold zjld zrAL
  generalize σ[x]? = o
  rcases o with _ | ⟨t, n, g⟩ | c
  · rfl
  · rcases t with _ | _ | t <;> first | rfl | (rcases g with g | g | g <;> first | rfl | (show rk ro d mi σ (if _ then _ else _) = (if _ then _ else _); split <;> rfl))
  · rfl
theorem rn_aaload {x : Nat} {i : Int32} (hq : zF mi pc = some (.aaload, l, a)) : rn ro d mi pc ls (.int i :: .ref x :: st) σ = zrAQ (σ[x]?) i fun v => rn ro d mi (pc + 1) (zpr mi (pc + 1) ls) (v :: st) σ := by
  refine (rn_eq hq ls _ σ).trans ?_
  unfold zact
  dsimp only [zI1, zI2, zP1, zJ1]
  unfold zqld zrAQ
  generalize σ[x]? = o
  rcases o with _ | ⟨t, n, g⟩ | c
  · rfl
  · rcases g with g | g | g | g | g <;> first | rfl | (show rk ro d mi σ (if _ then _ else _) = (if _ then _ else _); split <;> rfl)
  · rfl
theorem rn_alen {x : Nat} (hq : zF mi pc = some (.arraylength, l, a)) : rn ro d mi pc ls (.ref x :: st) σ = zrLen ro (σ[x]?) x fun v => rn ro d mi (pc + 1) (zpr mi (pc + 1) ls) (.int v :: st) σ := by
  refine (rn_eq hq ls _ σ).trans ?_
  unfold zact
  dsimp only [zI1, zI2, zP1, zJ1]
  unfold zlen zrLen
  generalize σ[x]? = o
  generalize ro.1 x = r
  rcases o with _ | ⟨t, n, g⟩ | c
  · rcases r with _ | ⟨t, n, g⟩
    · rfl
    · show rk ro d mi σ (if _ then _ else _) = (if _ then _ else _); split <;> rfl
  · show rk ro d mi σ (if _ then _ else _) = (if _ then _ else _); split <;> rfl
  · rfl
theorem rn_iastore {x : Nat} {i v : Int32} (hq : zF mi pc = some (.iastore, l, a)) : rn ro d mi pc ls (.int v :: .int i :: .ref x :: st) σ = zrAS (σ[x]?) i v fun c => rn ro d mi (pc + 1) (zpr mi (pc + 1) ls) st (σ.set x c) := by
  refine (rn_eq hq ls _ σ).trans ?_
  unfold zact
  dsimp only [zI1, zI2, zP1, zJ1]
  unfold zast zrAS
  generalize σ[x]? = o
  rcases o with _ | ⟨t, n, g⟩ | c
  · rfl
  · rcases t with _ | t <;> first | rfl | (rcases g with g | g <;> first | rfl | (show rk ro d mi σ (if _ then _ else _) = (if _ then _ else _); split <;> rfl))
  · rfl
theorem rn_bastore {x : Nat} {i v : Int32} (hq : zF mi pc = some (.bastore, l, a)) : rn ro d mi pc ls (.int v :: .int i :: .ref x :: st) σ = zrZS (σ[x]?) i v fun c => rn ro d mi (pc + 1) (zpr mi (pc + 1) ls) st (σ.set x c) := by
  refine (rn_eq hq ls _ σ).trans ?_
  unfold zact
  dsimp only [zI1, zI2, zP1, zJ1]
  unfold zbst zrZS
  generalize σ[x]? = o
  rcases o with _ | ⟨t, n, g⟩ | c
  · rfl
  · rcases t with _ | _ | _ | t <;> first | rfl | (rcases g with g | g <;> first | rfl | (show rk ro d mi σ (if _ then _ else _) = (if _ then _ else _); split <;> rfl))
  · rfl
theorem rn_lastore {x : Nat} {i : Int32} {v : Int64} (hq : zF mi pc = some (.lastore, l, a)) : rn ro d mi pc ls (.long v :: .int i :: .ref x :: st) σ = zrLS (σ[x]?) i v fun c => rn ro d mi (pc + 1) (zpr mi (pc + 1) ls) st (σ.set x c) := by
  refine (rn_eq hq ls _ σ).trans ?_
  unfold zact
  dsimp only [zI1, zI2, zP1, zJ1]
  unfold zjst zrLS
  generalize σ[x]? = o
  rcases o with _ | ⟨t, n, g⟩ | c
  · rfl
  · rcases t with _ | _ | t <;> first | rfl | (rcases g with g | g | g <;> first | rfl | (show rk ro d mi σ (if _ then _ else _) = (if _ then _ else _); split <;> rfl))
  · rfl
theorem rk_if {c : Prop} [Decidable c] {x y : zA} : rk ro d mi σ (if c then x else y) = if c then rk ro d mi σ x else rk ro d mi σ y := by
  split <;> rfl
theorem rk_C {d' m' : Nat} {as : List Value} {pc' : Nat} {ls' : zL} {st' : List Value} (hd : d' = zrk m' as) : rk ro d mi σ (aC d' m' as pc' ls' st') = zrC (rm ro m' as σ) fun ov σ1 => rn ro d mi pc' (zpr mi pc' ls') (ov.toList ++ st') σ1 := by
  subst hd
  unfold rk aC zrC rm
  dsimp only
  cases rn ro (zrk m' as) m' 0 (lv_args 0 as) [] σ with
  | none => rfl
  | some r => rfl
/-- a call on a receiver: the arguments are vs, in their order -/
theorem rk_call {m n x pc' : Nat} {vs : List Value} {ok : Nat → Bool} (hn : vs.length = n) (hz : zsum (.ref x :: vs) ≤ mL m) : rk ro d mi σ (zcall d m n pc' ls (vs.reverse ++ .ref x :: st) ok) = if ok x = true ∧ zrk m (.ref x :: vs) < d ∧ zsum st ≤ 8 then zrC (rm ro m (.ref x :: vs) σ) fun ov σ1 => rn ro d mi pc' (zpr mi pc' ls) (ov.toList ++ st) σ1 else none := by
  subst hn
  unfold zcall
  have e1 : (vs.reverse ++ .ref x :: st).drop vs.length = .ref x :: st := by rw [← List.length_reverse, List.drop_left]
  have e2 : ((vs.reverse ++ .ref x :: st).take vs.length).reverse = vs := by rw [← List.length_reverse, List.take_left, List.reverse_reverse]
  rw [e1]
  dsimp only
  rw [e2, rk_if]
  by_cases h : ok x = true ∧ zrk m (.ref x :: vs) < d ∧ zsum st ≤ 8
  · rw [if_pos h, if_pos ⟨h.1, h.2.1, h.2.2, hz, by simp⟩, rk_C rfl]
  · rw [if_neg h, if_neg (fun z => h ⟨z.1, z.2.1, z.2.2.1⟩)]
    rfl
theorem rk_callS {m n pc' : Nat} {vs : List Value} (hn : vs.length = n) (hz : zsum vs ≤ mL m) : rk ro d mi σ (zcallS d m n pc' ls (vs.reverse ++ st)) = if zrk m vs < d ∧ zsum st ≤ 8 then zrC (rm ro m vs σ) fun ov σ1 => rn ro d mi pc' (zpr mi pc' ls) (ov.toList ++ st) σ1 else none := by
  subst hn
  unfold zcallS
  have e1 : (vs.reverse ++ st).drop vs.length = st := by rw [← List.length_reverse, List.drop_left]
  have e2 : ((vs.reverse ++ st).take vs.length).reverse = vs := by rw [← List.length_reverse, List.take_left, List.reverse_reverse]
  rw [e1, e2, rk_if]
  by_cases h : zrk m vs < d ∧ zsum st ≤ 8
  · rw [if_pos h, if_pos ⟨by simp, h.1, h.2, hz⟩, rk_C rfl]
  · rw [if_neg h, if_neg (fun z => h ⟨z.2.1, z.2.2.1⟩)]
    rfl
theorem rn_callS {i n : Nat} {m : Nat} {w1 w2 w3 w4 k : Int} {vs : List Value} (hq : zF mi pc = some (.invokestatic i, l, [k, (m : Int), (n : Int), w1, w2, w3, w4])) (hk : k = 3 ∨ k = 4) (hn : vs.length = n) (hz : zsum vs ≤ mL m) : rn ro d mi pc ls (vs.reverse ++ st) σ = if zrk m vs < d ∧ zsum st ≤ 8 then zrC (rm ro m vs σ) fun ov σ1 => rn ro d mi (pc + 3) (zpr mi (pc + 3) ls) (ov.toList ++ st) σ1 else none := by
  refine (rn_eq hq ls _ σ).trans ?_
  rcases hk with rfl | rfl <;> exact rk_callS hn hz
theorem rn_callV {i n : Nat} {m ci x : Nat} {w1 w2 w3 w4 w5 : Int} {vs : List Value} (hq : zF mi pc = some (.invokevirtual i, l, [6, (m : Int), (n : Int), w1, w2, w3, w4, w5, (ci : Int)])) (hn : vs.length = n) (hz : zsum (.ref x :: vs) ≤ mL m) : rn ro d mi pc ls (vs.reverse ++ .ref x :: st) σ = if zis σ ci x = true ∧ zrk m (.ref x :: vs) < d ∧ zsum st ≤ 8 then zrC (rm ro m (.ref x :: vs) σ) fun ov σ1 => rn ro d mi (pc + 3) (zpr mi (pc + 3) ls) (ov.toList ++ st) σ1 else none := (rn_eq hq ls _ σ).trans (rk_call (ok := fun b => zis σ ci b) hn hz)
theorem rn_callT {i n : Nat} {m x : Nat} {w1 w2 w3 w4 w5 : Int} {vs : List Value} (hq : zF mi pc = some (.invokevirtual i, l, [7, (m : Int), (n : Int), w1, w2, w3, w4, w5])) (hn : vs.length = n) (hz : zsum (.ref x :: vs) ≤ mL m) : rn ro d mi pc ls (vs.reverse ++ .ref x :: st) σ = if decide (2000 ≤ x ∧ x < 2009) = true ∧ zrk m (.ref x :: vs) < d ∧ zsum st ≤ 8 then zrC (rm ro m (.ref x :: vs) σ) fun ov σ1 => rn ro d mi (pc + 3) (zpr mi (pc + 3) ls) (ov.toList ++ st) σ1 else none := (rn_eq hq ls _ σ).trans (rk_call (ok := fun b => decide (2000 ≤ b ∧ b < 2009)) hn hz)
theorem rn_callSU {i n : Nat} {m x : Nat} {w1 w2 w3 w4 w5 w6 : Int} {vs : List Value} (hq : zF mi pc = some (.invokespecial i, l, [2, (m : Int), (n : Int), w1, w2, w3, w4, w5, w6])) (hn : vs.length = n) (hz : zsum (.ref x :: vs) ≤ mL m) : rn ro d mi pc ls (vs.reverse ++ .ref x :: st) σ = if decide (zcl σ x < 13) = true ∧ zrk m (.ref x :: vs) < d ∧ zsum st ≤ 8 then zrC (rm ro m (.ref x :: vs) σ) fun ov σ1 => rn ro d mi (pc + 3) (zpr mi (pc + 3) ls) (ov.toList ++ st) σ1 else none := (rn_eq hq ls _ σ).trans (rk_call (ok := fun b => decide (zcl σ b < 13)) hn hz)
theorem rn_callU {i n : Nat} {m x : Nat} {w1 : Int} {vs : List Value} (hq : zF mi pc = some (.invokevirtual i, l, [8, (m : Int), (n : Int), w1])) (hn : vs.length = n) {c tm : Nat} (hc : zcl σ x = c) {r : List Nat} (hr : zvrow m c = some r) (ht : r.getD 2 0 = tm) (hz : zsum (.ref x :: vs) ≤ mL tm) : rn ro d mi pc ls (vs.reverse ++ .ref x :: st) σ = if zrk tm (.ref x :: vs) < d ∧ zsum st ≤ 8 then zrC (rm ro tm (.ref x :: vs) σ) fun ov σ1 => rn ro d mi (pc + 3) (zpr mi (pc + 3) ls) (ov.toList ++ st) σ1 else none := by
  subst hn hc ht
  refine (rn_eq hq ls _ σ).trans ?_
  have e1 : (vs.reverse ++ .ref x :: st).drop vs.length = .ref x :: st := by rw [← List.length_reverse, List.drop_left]
  show rk ro d mi σ (match (vs.reverse ++ .ref x :: st).drop vs.length with
      | .ref b :: _ => (match zvrow m (zcl σ b) with
        | some r => zcall d (r.getD 2 0) vs.length (pc + 3) ls (vs.reverse ++ .ref x :: st) fun _ => true
        | none => none)
      | _ => none) = _
  rw [e1]
  dsimp only
  rw [hr]
  dsimp only
  rw [rk_call (ok := fun _ => true) rfl hz]
  simp only [true_and]
theorem rn_copy {i : Nat} {w1 w2 w3 w4 : Int} (hq : zF mi pc = some (.invokestatic i, l, [5, w1, w2, w3, w4])) (hd : 1 ≤ d) : rn ro d mi pc ls st σ = rk ro d mi σ (zcpy σ ro st fun σ' r => aJ (pc + 3) ls r σ') := by
  refine (rn_eq hq ls _ σ).trans ?_
  show rk ro d mi σ (if _ then _ else _) = _
  rw [if_pos hd]
theorem rn_max {i : Nat} {w1 w2 w3 w4 : Int} {x y : Int32} (hq : zF mi pc = some (.invokestatic i, l, [9, w1, w2, w3, w4])) : rn ro d mi pc ls (.int y :: .int x :: st) σ = if 1 ≤ d ∧ zsum st ≤ 8 then rn ro d mi (pc + 3) (zpr mi (pc + 3) ls) (.int (if x < y then y else x) :: st) σ else none := (rn_eq hq ls _ σ).trans (by show rk ro d mi σ (if _ then _ else _) = _; split <;> rfl)
theorem rn_min {i : Nat} {w1 w2 w3 w4 : Int} {x y : Int32} (hq : zF mi pc = some (.invokestatic i, l, [10, w1, w2, w3, w4])) : rn ro d mi pc ls (.int y :: .int x :: st) σ = if 1 ≤ d ∧ zsum st ≤ 8 then rn ro d mi (pc + 3) (zpr mi (pc + 3) ls) (.int (if y < x then y else x) :: st) σ else none := (rn_eq hq ls _ σ).trans (by show rk ro d mi σ (if _ then _ else _) = _; split <;> rfl)
theorem rn_lmax {i : Nat} {w1 w2 w3 w4 : Int} {x y : Int64} (hq : zF mi pc = some (.invokestatic i, l, [11, w1, w2, w3, w4])) : rn ro d mi pc ls (.long y :: .long x :: st) σ = if 1 ≤ d ∧ zsum st ≤ 8 then rn ro d mi (pc + 3) (zpr mi (pc + 3) ls) (.long (if y < x then x else y) :: st) σ else none := (rn_eq hq ls _ σ).trans (by show rk ro d mi σ (if _ then _ else _) = _; split <;> rfl)
theorem rn_ireturn {x : Int32} (hq : zF mi pc = some (.ireturn, l, a)) (hr : mR mi = some .int) : rn ro d mi pc ls [.int x] σ = some (some (.int x), σ) := by
  refine (rn_eq hq ls _ σ).trans ?_
  show rk ro d mi σ (match [Value.int x], mR mi with
    | [.int x], some t => if zret t x = true then aR (some (.int x)) else none
    | _, _ => none) = _
  rw [hr]
  rfl
theorem rn_zreturn {x : Int32} (hq : zF mi pc = some (.ireturn, l, a)) (hr : mR mi = some .boolean) : rn ro d mi pc ls [.int x] σ = if x = 0 ∨ x = 1 then some (some (.int x), σ) else none := by
  refine (rn_eq hq ls _ σ).trans ?_
  show rk ro d mi σ (match [Value.int x], mR mi with
    | [.int x], some t => if zret t x = true then aR (some (.int x)) else none
    | _, _ => none) = _
  rw [hr]
  show rk ro d mi σ (if zret .boolean x = true then aR (some (.int x)) else none) = _
  simp only [zret, Bool.or_eq_true, beq_iff_eq]
  split <;> rfl
theorem rn_ireturnO {x : Int32} {t : FieldType} (hq : zF mi pc = some (.ireturn, l, a)) (hr : mR mi = some t) : rn ro d mi pc ls [.int x] σ = if zret t x = true then some (some (.int x), σ) else none := by
  refine (rn_eq hq ls _ σ).trans ?_
  show rk ro d mi σ (match [Value.int x], mR mi with
    | [.int x], some t => if zret t x = true then aR (some (.int x)) else none
    | _, _ => none) = _
  rw [hr]
  show rk ro d mi σ (if zret t x = true then aR (some (.int x)) else none) = _
  split <;> rfl
theorem rn_lreturn {x : Int64} (hq : zF mi pc = some (.lreturn, l, a)) (hr : mR mi = some .long) : rn ro d mi pc ls [.long x] σ = some (some (.long x), σ) := by
  refine (rn_eq hq ls _ σ).trans ?_
  show rk ro d mi σ (match [Value.long x], mR mi with
    | [.long x], some .long => aR (some (.long x))
    | _, _ => none) = _
  rw [hr]
  rfl
theorem rn_return (hq : zF mi pc = some (.return_, l, a)) (hr : mR mi = none) : rn ro d mi pc ls [] σ = some (none, σ) := by
  refine (rn_eq hq ls _ σ).trans ?_
  show rk ro d mi σ (match ([] : List Value), mR mi with
    | [], none => aR none
    | _, _ => none) = _
  rw [hr]
  rfl
theorem rn_areturn {k : Nat} {nm : String} (hq : zF mi pc = some (.areturn, l, a)) (hr : mR mi = some (.object nm)) : rn ro d mi pc ls [.ref k] σ = some (some (.ref k), σ) := by
  refine (rn_eq hq ls _ σ).trans ?_
  show rk ro d mi σ (match [Value.ref k], mR mi with
    | [.ref k], some (.object _) => aR (some (.ref k))
    | [.null], some (.object _) => aR (some .null)
    | _, _ => none) = _
  rw [hr]
  rfl
theorem rn_areturnN {nm : String} (hq : zF mi pc = some (.areturn, l, a)) (hr : mR mi = some (.object nm)) : rn ro d mi pc ls [.null] σ = some (some .null, σ) := by
  refine (rn_eq hq ls _ σ).trans ?_
  show rk ro d mi σ (match [Value.null], mR mi with
    | [.ref k], some (.object _) => aR (some (.ref k))
    | [.null], some (.object _) => aR (some .null)
    | _, _ => none) = _
  rw [hr]
  rfl
end RI
