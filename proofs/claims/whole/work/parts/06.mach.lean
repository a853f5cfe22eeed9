/-! THE ABSTRACT MACHINE: cells by number, references are numbers; what it runs, the real machine runs (part 04) -/
abbrev zC : Type := (Nat × vp_A) ⊕ (Nat × List Value)
abbrev zW : Type := List zC
abbrev zL : Type := List (Nat × Value)
/-- arrays that are only read, from before the law's start: 0 of ints, 5 of bytes; how long; what they hold -/
abbrev zR : Type := (Nat → Option (Nat × Nat × (Nat → Int32))) × Bool
/-- what an instruction does: the method returns; goes on; calls -/
abbrev zA : Type := Option ((Option Value) ⊕ ((Nat × zL × List Value × zW) ⊕ (Nat × Nat × List Value × Nat × zL × List Value)))
abbrev zO : Type := Option (Option Value × zW)
def aR (v : Option Value) : zA := some (.inl v)
def aJ (pc : Nat) (ls : zL) (st : List Value) (σ : zW) : zA := some (.inr (.inl (pc, ls, st, σ)))
def aC (d mi : Nat) (as : List Value) (pc : Nat) (ls : zL) (st : List Value) : zA := some (.inr (.inr (d, mi, as, pc, ls, st)))
def zlook : zL → Nat → Option Value
  | [], _ => none
  | (i, v) :: l, j => if i = j then some v else zlook l j
/-- a store takes away what stood there; the locals stay in their order -/
def zrm1 (i : Nat) : zL → zL
  | [] => []
  | (j, w) :: l => if j = i ∨ (j + 1 = i ∧ w.category = 2) then zrm1 i l else (j, w) :: zrm1 i l
def zst1 (i : Nat) (v : Value) : zL → zL
  | [] => [(i, v)]
  | (j, w) :: l => if j = i ∨ (j + 1 = i ∧ w.category = 2) then zst1 i v l else if i < j then (i, v) :: (j, w) :: zrm1 i l else (j, w) :: zst1 i v l
def zrm2 (i : Nat) : zL → zL
  | [] => []
  | (j, w) :: l => if j = i ∨ j = i + 1 ∨ (j + 1 = i ∧ w.category = 2) then zrm2 i l else (j, w) :: zrm2 i l
def zst2 (i : Nat) (v : Value) : zL → zL
  | [] => [(i, v)]
  | (j, w) :: l => if j = i ∨ j = i + 1 ∨ (j + 1 = i ∧ w.category = 2) then zst2 i v l else if i < j then (i, v) :: (j, w) :: zrm2 i l else (j, w) :: zst2 i v l
/-- at a loop's head only the locals that it needs are kept -/
def zkeep (ks : List Nat) : zL → zL
  | [] => []
  | (j, w) :: l => if j ∈ ks then (j, w) :: zkeep ks l else zkeep ks l
def zpr (mi pc : Nat) (ls : zL) : zL := match zkp mi pc with
  | none => ls
  | some ks => zkeep ks ls
def zI1 (st : List Value) (f : Int32 → List Value → zA) : zA := match st with
  | .int x :: r => f x r
  | _ => none
def zI2 (st : List Value) (f : Int32 → Int32 → List Value → zA) : zA := match st with
  | .int y :: .int x :: r => f x y r
  | _ => none
def zJ1 (st : List Value) (f : Int64 → List Value → zA) : zA := match st with
  | .long x :: r => f x r
  | _ => none
def zJ2 (st : List Value) (f : Int64 → Int64 → List Value → zA) : zA := match st with
  | .long y :: .long x :: r => f x y r
  | _ => none
def zP1 (st : List Value) (f : Nat → List Value → zA) : zA := match st with
  | .ref x :: r => f x r
  | _ => none
def zLI (ls : zL) (i : Nat) (f : Int32 → zA) : zA := match zlook ls i with
  | some (.int x) => f x
  | _ => none
def zLJ (ls : zL) (i : Nat) (f : Int64 → zA) : zA := match zlook ls i with
  | some (.long x) => f x
  | _ => none
def zLP (ls : zL) (i : Nat) (f : Nat → zA) : zA := match zlook ls i with
  | some (.ref x) => f x
  | _ => none
/-- a jump's target -/
def zT (pc : Nat) (off : Int) (f : Nat → zA) : zA := if 0 ≤ (pc : Int) + off then f ((pc : Int) + off).toNat else none
def zB (c : Prop) [Decidable c] (a b : zA) : zA := if c then a else b
def zfit : FieldType → Value → Bool
  | .int, .int _ => true
  | .long, .long _ => true
  | .boolean, .int x => x == 0 || x == 1
  | .object _, .ref _ => true
  | .array _, .ref _ => true
  | _, _ => false
def zret : FieldType → Int32 → Bool
  | .int, _ => true
  | .boolean, x => x == 0 || x == 1
  | .byte, x => x == 0
  | .char, x => decide (0 ≤ x.toInt) && decide (x.toInt < 128)
  | _, _ => false
def zrec (i : Nat) : Bool := i == 2 || i == 52 || i == 83
/-- how deep a call may go -/
def zrk (mi : Nat) (as : List Value) : Nat := zrk0 mi + (if zrec mi then 10 - (match as.getD 2 .null with | .int t => t.toNatClampNeg | _ => 0) else 0)
def zsum (st : List Value) : Nat := (st.map fun v => v.category).sum
/-- statics that are only read -/
def zsv (ro : zR) (k : Int) : Value := if k = 0 then .ref 1001 else if k = 1 then .ref 1002 else if k = 2 then .ref 1003 else if k = 3 then .int 1 else if ro.2 then .null else .ref 3000
/-- a call: n arguments, below them the receiver -/
def zcall (d mi n pc : Nat) (ls : zL) (st : List Value) (ok : Nat → Bool) : zA := match st.drop n with
  | .ref b :: r => if ok b ∧ zrk mi (.ref b :: (st.take n).reverse) < d ∧ zsum r ≤ 8 ∧ zsum (.ref b :: (st.take n).reverse) ≤ mL mi ∧ n ≤ st.length then aC (zrk mi (.ref b :: (st.take n).reverse)) mi (.ref b :: (st.take n).reverse) pc ls r else none
  | _ => none
def zcallS (d mi n pc : Nat) (ls : zL) (st : List Value) : zA := if n ≤ st.length ∧ zrk mi (st.take n).reverse < d ∧ zsum (st.drop n) ≤ 8 ∧ zsum (st.take n).reverse ≤ mL mi then aC (zrk mi (st.take n).reverse) mi (st.take n).reverse pc ls (st.drop n) else none
def zis (σ : zW) (ci b : Nat) : Bool := match σ[b]? with
  | some (.inr (c, _)) => c == ci
  | _ => false
/-- the class of the receiver -/
def zcl (σ : zW) (b : Nat) : Nat := match σ[b]? with
  | some (.inr (c, _)) => c
  | _ => 99
def zvrow (mi ci : Nat) : Option (List Nat) := zvt.find? (fun r => r.getD 0 0 == mi && r.getD 1 0 == ci)
def zget (σ : zW) (ci : Int) (k : Int) (st : List Value) (f : Value → List Value → zA) : zA := zP1 st fun a r =>
  if ci = 99 then (if 2000 ≤ a ∧ a < 2009 then f (if k = 0 then .ref (a + 100) else .int 0) r else none)
  else match σ[a]? with
    | some (.inr (c, fs)) => if (c : Int) = ci ∧ k.toNat < fs.length then f (fs.getD k.toNat .null) r else none
    | _ => none
def zput (σ : zW) (ci : Int) (k : Int) (fin ok : Bool) (st : List Value) (f : zW → List Value → zA) : zA := match st with
  | v :: .ref a :: r => (match σ[a]? with
    | some (.inr (c, fs)) => if (c : Int) = ci ∧ k.toNat < fs.length ∧ zfit (ztx c k.toNat) v = true ∧ (fin = true → ok = true) then f (σ.set a (.inr (c, fs.set k.toNat v))) r else none
    | _ => none)
  | _ => none
def zald (ro : zR) (σ : zW) (a : Nat) (i : Int32) (f : Value → zA) : zA := match σ[a]? with
  | some (.inl (0, n, .inl g)) => if i < 0 ∨ n ≤ i.toNatClampNeg then none else f (.int (g i.toNatClampNeg))
  | some _ => none
  | none => match ro.1 a with
    | some (0, n, g) => if a < 1000 ∨ i < 0 ∨ n ≤ i.toNatClampNeg then none else f (.int (g i.toNatClampNeg))
    | _ => none
def zbld (ro : zR) (σ : zW) (a : Nat) (i : Int32) (f : Value → zA) : zA := match σ[a]? with
  | some (.inl (2, n, .inl g)) => if i < 0 ∨ n ≤ i.toNatClampNeg then none else f (.int (g i.toNatClampNeg))
  | some _ => none
  | none => match ro.1 a with
    | some (5, n, g) => if a < 1000 ∨ i < 0 ∨ n ≤ i.toNatClampNeg then none else f (.int (g i.toNatClampNeg))
    | _ => none
def zjld (σ : zW) (a : Nat) (i : Int32) (f : Value → zA) : zA := match σ[a]? with
  | some (.inl (1, n, .inr (.inl g))) => if i < 0 ∨ n ≤ i.toNatClampNeg then none else f (.long (g i.toNatClampNeg))
  | _ => none
def zqld (σ : zW) (a : Nat) (i : Int32) (f : Value → zA) : zA := match σ[a]? with
  | some (.inl (t, n, .inr (.inr (.inr (.inr g))))) => if (t = 3 ∨ t = 4) ∧ ¬ (i < 0 ∨ n ≤ i.toNatClampNeg) then f (va_rf (g i.toNatClampNeg)) else none
  | _ => none
def zlen (ro : zR) (σ : zW) (a : Nat) (f : Int32 → zA) : zA := match σ[a]? with
  | some (.inl (t, x)) => if t < 5 then f (Int32.ofNat x.1) else none
  | some _ => none
  | none => match ro.1 a with
    | some (_, n, _) => if a < 1000 then none else f (Int32.ofNat n)
    | none => none
def zast (σ : zW) (a : Nat) (i x : Int32) (f : zW → zA) : zA := match σ[a]? with
  | some (.inl (0, n, .inl g)) => if i < 0 ∨ n ≤ i.toNatClampNeg then none else f (σ.set a (.inl (0, n, .inl (upd g i.toNatClampNeg x))))
  | _ => none
def zbst (σ : zW) (a : Nat) (i x : Int32) (f : zW → zA) : zA := match σ[a]? with
  | some (.inl (2, n, .inl g)) => if i < 0 ∨ n ≤ i.toNatClampNeg then none else f (σ.set a (.inl (2, n, .inl (upd g i.toNatClampNeg (vp_nar .boolean x)))))
  | _ => none
def zjst (σ : zW) (a : Nat) (i : Int32) (x : Int64) (f : zW → zA) : zA := match σ[a]? with
  | some (.inl (1, n, .inr (.inl g))) => if i < 0 ∨ n ≤ i.toNatClampNeg then none else f (σ.set a (.inl (1, n, .inr (.inl (vp_updL g i.toNatClampNeg x)))))
  | _ => none
/-- the class of an array's elements: 3 of Plain, 4 of Clearing -/
def zqci (t : Nat) : Nat := if t = 3 then 5 else 1
def zqst (σ : zW) (a : Nat) (i : Int32) (v : Nat) (f : zW → zA) : zA := match σ[a]? with
  | some (.inl (t, n, .inr (.inr (.inr (.inr g))))) => if (t = 3 ∨ t = 4) ∧ ¬ (i < 0 ∨ n ≤ i.toNatClampNeg) ∧ v < σ.length ∧ (zcl σ v = zqci t ∨ (t = 3 ∧ (zcl σ v = 2 ∨ zcl σ v = 3 ∨ zcl σ v = 7 ∨ zcl σ v = 8 ∨ zcl σ v = 9))) then f (σ.set a (.inl (t, n, .inr (.inr (.inr (.inr (va_up g i.toNatClampNeg (some v)))))))) else none
  | _ => none
def zcpy (σ : zW) (ro : zR) (st : List Value) (f : zW → List Value → zA) : zA := match st with
  | .int n :: .int dp :: .ref b :: .int sp :: .ref a :: r => (match σ[b]? with
    | some (.inl (0, m, .inl g)) => (match σ[a]? with
      | some (.inl (0, k, .inl h)) => if ¬ sp < 0 ∧ ¬ dp < 0 ∧ ¬ n < 0 ∧ sp.toNatClampNeg + n.toNatClampNeg ≤ k ∧ dp.toNatClampNeg + n.toNatClampNeg ≤ m ∧ zsum r ≤ 8 then f (σ.set b (.inl (0, m, .inl (va_cpy h g sp.toNatClampNeg dp.toNatClampNeg n.toNatClampNeg)))) r else none
      | some _ => none
      | none => (match ro.1 a with
        | some (0, k, h) => if 1000 ≤ a ∧ ¬ sp < 0 ∧ ¬ dp < 0 ∧ ¬ n < 0 ∧ sp.toNatClampNeg + n.toNatClampNeg ≤ k ∧ dp.toNatClampNeg + n.toNatClampNeg ≤ m ∧ zsum r ≤ 8 then f (σ.set b (.inl (0, m, .inl (va_cpy h g sp.toNatClampNeg dp.toNatClampNeg n.toNatClampNeg)))) r else none
        | _ => none))
    | _ => none)
  | _ => none
def zdef (t : FieldType) : Value := defaultValue t
/-- how many fields the classes have -/
def znf (ci : Nat) : Nat := match vwCl[ci]? with
  | some q => q.2.2
  | none => 0
def znew (σ : zW) (ci : Nat) : zC := .inr (ci, (List.range (znf ci)).map (fun k => zdef (ztx ci k)))
def znewa (t n : Nat) : zC := match t with
  | 1 => .inl (1, n, .inr (.inl (fun _ => 0)))
  | t => .inl (t, n, .inl (fun _ => 0))
def znwa (σ : zW) (st : List Value) (t : Nat) (f : List Value → zW → zA) : zA := zI1 st fun n r => if σ.length < 900 ∧ ¬ n < 0 ∧ n.toNatClampNeg < 1000 then f (.ref σ.length :: r) (σ ++ [znewa t n.toNatClampNeg]) else none
def zact (ro : zR) (d mi pc : Nat) (q : Instr × Nat × List Int) (ls : zL) (st : List Value) (σ : zW) : zA := match q.1 with
  | .iconst n => aJ (pc + 1) ls (.int (Int32.ofInt n) :: st) σ
  | .bipush n => aJ (pc + 2) ls (.int (Int8.ofInt n).toInt32 :: st) σ
  | .sipush n => aJ (pc + 3) ls (.int (Int16.ofInt n).toInt32 :: st) σ
  | .lconst n => aJ (pc + 1) ls (.long (Int64.ofNat n.val) :: st) σ
  | .aconst_null => aJ (pc + 1) ls (.null :: st) σ
  | .iload_n k => zLI ls k.val fun x => aJ (pc + 1) ls (.int x :: st) σ
  | .iload k => zLI ls k fun x => aJ (pc + 2) ls (.int x :: st) σ
  | .lload_n k => zLJ ls k.val fun x => aJ (pc + 1) ls (.long x :: st) σ
  | .lload k => zLJ ls k fun x => aJ (pc + 2) ls (.long x :: st) σ
  | .aload_n k => zLP ls k.val fun x => aJ (pc + 1) ls (.ref x :: st) σ
  | .aload k => zLP ls k fun x => aJ (pc + 2) ls (.ref x :: st) σ
  | .istore_n k => zI1 st fun x r => if k.val < mL mi then aJ (pc + 1) (zst1 k.val (.int x) ls) r σ else none
  | .istore k => zI1 st fun x r => if k < mL mi then aJ (pc + 2) (zst1 k (.int x) ls) r σ else none
  | .lstore_n k => zJ1 st fun x r => if k.val + 1 < mL mi then aJ (pc + 1) (zst2 k.val (.long x) ls) r σ else none
  | .lstore k => zJ1 st fun x r => if k + 1 < mL mi then aJ (pc + 2) (zst2 k (.long x) ls) r σ else none
  | .astore_n k => zP1 st fun x r => if k.val < mL mi then aJ (pc + 1) (zst1 k.val (.ref x) ls) r σ else none
  | .astore k => zP1 st fun x r => if k < mL mi then aJ (pc + 2) (zst1 k (.ref x) ls) r σ else none
  | .iinc k n => zLI ls k fun x => if k < mL mi then aJ (pc + 3) (zst1 k (.int (x + Int32.ofInt n)) ls) st σ else none
  | .iadd => zI2 st fun x y r => aJ (pc + 1) ls (.int (x + y) :: r) σ
  | .isub => zI2 st fun x y r => aJ (pc + 1) ls (.int (x - y) :: r) σ
  | .imul => zI2 st fun x y r => aJ (pc + 1) ls (.int (x * y) :: r) σ
  | .iand => zI2 st fun x y r => aJ (pc + 1) ls (.int (x &&& y) :: r) σ
  | .ior => zI2 st fun x y r => aJ (pc + 1) ls (.int (x ||| y) :: r) σ
  | .idiv => zI2 st fun x y r => if y = 0 then none else aJ (pc + 1) ls (.int (x / y) :: r) σ
  | .irem => zI2 st fun x y r => if y = 0 then none else aJ (pc + 1) ls (.int (x - x / y * y) :: r) σ
  | .ishl => zI2 st fun x y r => aJ (pc + 1) ls (.int (x <<< (y &&& 31)) :: r) σ
  | .ishr => zI2 st fun x y r => aJ (pc + 1) ls (.int (x >>> (y &&& 31)) :: r) σ
  | .i2l => zI1 st fun x r => aJ (pc + 1) ls (.long x.toInt64 :: r) σ
  | .i2c => zI1 st fun x r => aJ (pc + 1) ls (.int (x.toUInt32 % 65536).toInt32 :: r) σ
  | .ladd => zJ2 st fun x y r => aJ (pc + 1) ls (.long (x + y) :: r) σ
  | .lsub => zJ2 st fun x y r => aJ (pc + 1) ls (.long (x - y) :: r) σ
  | .lmul => zJ2 st fun x y r => aJ (pc + 1) ls (.long (x * y) :: r) σ
  | .ldiv => zJ2 st fun x y r => if y = 0 then none else aJ (pc + 1) ls (.long (x / y) :: r) σ
  | .lrem => zJ2 st fun x y r => if y = 0 then none else aJ (pc + 1) ls (.long (x - x / y * y) :: r) σ
  | .lcmp => zJ2 st fun x y r => aJ (pc + 1) ls (.int (lg_cmp x y) :: r) σ
  | .dup => (match st with
    | v :: r => if v.category = 1 then aJ (pc + 1) ls (v :: v :: r) σ else none
    | _ => none)
  | .dup_x1 => (match st with
    | v :: w :: r => if v.category = 1 ∧ w.category = 1 then aJ (pc + 1) ls (v :: w :: v :: r) σ else none
    | _ => none)
  | .dup2 => (match st with
    | v :: w :: r => if v.category = 1 ∧ w.category = 1 then aJ (pc + 1) ls (v :: w :: v :: w :: r) σ else none
    | _ => none)
  | .pop => (match st with
    | v :: r => if v.category = 1 then aJ (pc + 1) ls r σ else none
    | _ => none)
  | .ifCond .eq off => zI1 st fun x r => zT pc off fun t => zB (x = 0) (aJ t ls r σ) (aJ (pc + 3) ls r σ)
  | .ifCond .ne off => zI1 st fun x r => zT pc off fun t => zB (x = 0) (aJ (pc + 3) ls r σ) (aJ t ls r σ)
  | .ifCond .lt off => zI1 st fun x r => zT pc off fun t => zB (x < 0) (aJ t ls r σ) (aJ (pc + 3) ls r σ)
  | .ifCond .ge off => zI1 st fun x r => zT pc off fun t => zB (x < 0) (aJ (pc + 3) ls r σ) (aJ t ls r σ)
  | .ifCond .gt off => zI1 st fun x r => zT pc off fun t => zB (0 < x) (aJ t ls r σ) (aJ (pc + 3) ls r σ)
  | .ifCond .le off => zI1 st fun x r => zT pc off fun t => zB (0 < x) (aJ (pc + 3) ls r σ) (aJ t ls r σ)
  | .if_icmp .eq off => zI2 st fun x y r => zT pc off fun t => zB (x = y) (aJ t ls r σ) (aJ (pc + 3) ls r σ)
  | .if_icmp .ne off => zI2 st fun x y r => zT pc off fun t => zB (x = y) (aJ (pc + 3) ls r σ) (aJ t ls r σ)
  | .if_icmp .lt off => zI2 st fun x y r => zT pc off fun t => zB (x < y) (aJ t ls r σ) (aJ (pc + 3) ls r σ)
  | .if_icmp .ge off => zI2 st fun x y r => zT pc off fun t => zB (x < y) (aJ (pc + 3) ls r σ) (aJ t ls r σ)
  | .if_icmp .gt off => zI2 st fun x y r => zT pc off fun t => zB (y < x) (aJ t ls r σ) (aJ (pc + 3) ls r σ)
  | .if_icmp .le off => zI2 st fun x y r => zT pc off fun t => zB (y < x) (aJ (pc + 3) ls r σ) (aJ t ls r σ)
  | .goto off => zT pc off fun t => aJ t ls st σ
  | .ifnonnull off => zT pc off fun t => (match st with
    | .ref _ :: r => aJ t ls r σ
    | _ => none)
  | .ifnull off => (match st with
    | .ref _ :: r => aJ (pc + 3) ls r σ
    | _ => none)
  | .tableswitch dflt lo hi offs => zI1 st fun x r => if x.toInt < lo ∨ hi < x.toInt then zT pc dflt (fun t => aJ t ls r σ) else (match offs[(x.toInt - lo).toNat]? with
    | some off => zT pc off (fun t => aJ t ls r σ)
    | none => none)
  | .lookupswitch dflt ps => zI1 st fun x r => if (ps.toList.zip (ps.toList.drop 1)).all (fun (a, next) => a.1 < next.1) = true then zT pc (Op.lookupswitch.offset ps.toList dflt x.toInt) (fun t => aJ t ls r σ) else none
  | .ldc _ => (match q.2.2 with
    | [_, 0, v] => aJ (pc + 2) ls (.int (Int32.ofInt v) :: st) σ
    | [_, 1, k] => if 0 ≤ k ∧ k < 9 then aJ (pc + 2) ls (.ref (2000 + k.toNat) :: st) σ else none
    | _ => none)
  | .ldc2_w _ => (match q.2.2 with
    | [_, v] => aJ (pc + 3) ls (.long (Int64.ofInt v) :: st) σ
    | _ => none)
  | .getstatic _ => (match q.2.2 with
    | [_, k, _] => aJ (pc + 3) ls (zsv ro k :: st) σ
    | _ => none)
  | .getfield _ => (match q.2.2 with
    | [_, ci, k] => zget σ ci k st fun v r => aJ (pc + 3) ls (v :: r) σ
    | _ => none)
  | .putfield _ => (match q.2.2 with
    | [_, ci, k] => zput σ ci k (match vwCl[ci.toNat]? with | some c => (c.2.1 k.toNat).2.2.2 | none => false) ((mN mi).name == "<init>") st fun σ' r => aJ (pc + 3) ls r σ'
    | _ => none)
  | .iaload => zI1 st fun i r => zP1 r fun a r => zald ro σ a i fun v => aJ (pc + 1) ls (v :: r) σ
  | .baload => zI1 st fun i r => zP1 r fun a r => zbld ro σ a i fun v => aJ (pc + 1) ls (v :: r) σ
  | .laload => zI1 st fun i r => zP1 r fun a r => zjld σ a i fun v => aJ (pc + 1) ls (v :: r) σ
  | .aaload => zI1 st fun i r => zP1 r fun a r => zqld σ a i fun v => aJ (pc + 1) ls (v :: r) σ
  | .arraylength => zP1 st fun a r => zlen ro σ a fun v => aJ (pc + 1) ls (.int v :: r) σ
  | .iastore => zI2 st fun i x r => zP1 r fun a r => zast σ a i x fun σ' => aJ (pc + 1) ls r σ'
  | .bastore => zI2 st fun i x r => zP1 r fun a r => zbst σ a i x fun σ' => aJ (pc + 1) ls r σ'
  | .lastore => zJ1 st fun x r => zI1 r fun i r => zP1 r fun a r => zjst σ a i x fun σ' => aJ (pc + 1) ls r σ'
  | .aastore => zP1 st fun v r => zI1 r fun i r => zP1 r fun a r => zqst σ a i v fun σ' => aJ (pc + 1) ls r σ'
  | .new _ => (match q.2.2 with
    | [_, _, _, ci] => if σ.length < 900 then aJ (pc + 3) ls (.ref σ.length :: st) (σ ++ [znew σ ci.toNat]) else none
    | _ => none)
  | .newarray .int => (match q.2.2 with
    | [_, 0] => znwa σ st 0 fun r σ' => aJ (pc + 2) ls r σ'
    | _ => none)
  | .newarray .long => (match q.2.2 with
    | [_, 1] => znwa σ st 1 fun r σ' => aJ (pc + 2) ls r σ'
    | _ => none)
  | .newarray .boolean => (match q.2.2 with
    | [_, 2] => znwa σ st 2 fun r σ' => aJ (pc + 2) ls r σ'
    | _ => none)
  | .anewarray _ => (match q.2.2 with
    | [_, _, t] => zI1 st fun n r => if σ.length < 900 ∧ ¬ n < 0 ∧ n.toNatClampNeg < 1000 then aJ (pc + 3) ls (.ref σ.length :: r) (σ ++ [.inl (t.toNat, n.toNatClampNeg, .inr (.inr (.inr (.inr (fun _ => none)))))]) else none
    | _ => none)
  | .invokespecial _ => (match q.2.2 with
    | [0, _, _, _] => zP1 st fun _ r => if 1 ≤ d ∧ zsum r ≤ 8 then aJ (pc + 3) ls r σ else none
    | [1, m, n, _, _, _, _] => zcall d m.toNat n.toNat (pc + 3) ls st fun _ => true
    | [2, m, n, _, _, _, _, _, _] => zcall d m.toNat n.toNat (pc + 3) ls st fun b => decide (zcl σ b < 13)
    | _ => none)
  | .invokestatic _ => (match q.2.2 with
    | [3, m, n, _, _, _, _] => zcallS d m.toNat n.toNat (pc + 3) ls st
    | [4, m, n, _, _, _, _] => zcallS d m.toNat n.toNat (pc + 3) ls st
    | [5, _, _, _, _] => if 1 ≤ d then zcpy σ ro st fun σ' r => aJ (pc + 3) ls r σ' else none
    | [9, _, _, _, _] => zI2 st fun x y r => if 1 ≤ d ∧ zsum r ≤ 8 then aJ (pc + 3) ls (.int (if x < y then y else x) :: r) σ else none
    | [10, _, _, _, _] => zI2 st fun x y r => if 1 ≤ d ∧ zsum r ≤ 8 then aJ (pc + 3) ls (.int (if y < x then y else x) :: r) σ else none
    | [11, _, _, _, _] => zJ2 st fun x y r => if 1 ≤ d ∧ zsum r ≤ 8 then aJ (pc + 3) ls (.long (if y < x then x else y) :: r) σ else none
    | _ => none)
  | .invokevirtual _ => (match q.2.2 with
    | [6, m, n, _, _, _, _, _, ci] => zcall d m.toNat n.toNat (pc + 3) ls st fun b => zis σ ci.toNat b
    | [7, m, n, _, _, _, _, _] => zcall d m.toNat n.toNat (pc + 3) ls st fun b => decide (2000 ≤ b ∧ b < 2009)
    | [8, m, n, _] => (match st.drop n.toNat with
      | .ref b :: _ => (match zvrow m.toNat (zcl σ b) with
        | some r => zcall d (r.getD 2 0) n.toNat (pc + 3) ls st fun _ => true
        | none => none)
      | _ => none)
    | _ => none)
  | .ireturn => (match st, mR mi with
    | [.int x], some t => if zret t x = true then aR (some (.int x)) else none
    | _, _ => none)
  | .lreturn => (match st, mR mi with
    | [.long x], some .long => aR (some (.long x))
    | _, _ => none)
  | .areturn => (match st, mR mi with
    | [.ref k], some (.object _) => aR (some (.ref k))
    | [.null], some (.object _) => aR (some .null)
    | _, _ => none)
  | .return_ => (match st, mR mi with
    | [], none => aR none
    | _, _ => none)
  | _ => none
def zF (mi pc : Nat) : Option (Instr × Nat × List Int) := ((mC mi).find? (fun r => r.1 == pc)).map (fun r => r.2)
def zrun (ro : zR) : Nat → Nat → Nat → Nat → zL → List Value → zW → zO
  | 0, _, _, _, _, _, _ => none
  | n + 1, d, mi, pc, ls, st, σ => match zF mi pc with
    | none => none
    | some q => match zact ro d mi pc q ls st σ with
      | none => none
      | some (.inl ov) => some (ov, σ)
      | some (.inr (.inl (pc', ls', st', σ'))) => zrun ro n d mi pc' (zpr mi pc' ls') st' σ'
      | some (.inr (.inr (d', m', as, pc', ls', st'))) => match zrun ro n d' m' 0 (lv_args 0 as) [] σ with
        | none => none
        | some (ov, σ1) => zrun ro n d mi pc' (zpr mi pc' ls') (ov.toList ++ st') σ1
