/-! THE TABLES ARE THE PROGRAM'S: what each row of them says of the bytes and of the tables' words, decided -/
def zG : List Cond := lw_tbl.filter goodWord
/-- a word by its place -/
def zt (i : Nat) : Option Cond := if i < 49 then (k2_sels lw_privs)[i]? else if i < 289 then tables_1_1[i - 49]? else if i < 529 then tables_1_2[i - 289]? else if i < 769 then tables_1_3[i - 529]? else if i < 1009 then tables_1_4[i - 769]? else if i < 1249 then tables_1_5[i - 1009]? else tables_1_6[i - 1249]?
theorem zt_in {i : Nat} {w : Cond} (h : zt i = some w) : w ∈ lw_tbl := by
  unfold zt at h
  unfold lw_tbl tables_1
  simp only [List.mem_append]
  split at h
  · exact Or.inl (List.mem_of_getElem? h)
  split at h
  · exact Or.inr (Or.inl (List.mem_of_getElem? h))
  split at h
  · exact Or.inr (Or.inr (Or.inl (List.mem_of_getElem? h)))
  split at h
  · exact Or.inr (Or.inr (Or.inr (Or.inl (List.mem_of_getElem? h))))
  split at h
  · exact Or.inr (Or.inr (Or.inr (Or.inr (Or.inl (List.mem_of_getElem? h)))))
  split at h
  · exact Or.inr (Or.inr (Or.inr (Or.inr (Or.inr (Or.inl (List.mem_of_getElem? h))))))
  · exact Or.inr (Or.inr (Or.inr (Or.inr (Or.inr (Or.inr (List.mem_of_getElem? h))))))
def zg (i : Int) (w : Cond) : Bool := decide (zt i.toNat = some w) && goodWord w
def zh (i : Int) (w : Cond) : Bool := decide (zt i.toNat = some w)
theorem zg_in {i : Int} {w : Cond} (h : zg i w = true) : w ∈ zG := by
  simp only [zg, Bool.and_eq_true, decide_eq_true_eq] at h
  exact List.mem_filter.mpr ⟨zt_in h.1, h.2⟩
theorem zh_in {i : Int} {w : Cond} (h : zh i w = true) : w ∈ lw_tbl := by
  simp only [zh, decide_eq_true_eq] at h
  exact zt_in h
theorem zG_good {ws : List Cond} (h : ∀ w ∈ ws, w ∈ zG) : GoodIn zG ws := fun w hw => ⟨h w hw, good_of_word (List.mem_filter.mp (h w hw)).2⟩
theorem zG_good' {ws : List Cond} (h : ∀ w ∈ ws, w ∈ zG) : GoodIn lw_tbl ws := fun w hw => ⟨(List.mem_filter.mp (h w hw)).1, good_of_word (List.mem_filter.mp (h w hw)).2⟩
def zws (m : Nat) : List Cond := .code (mN m) (mB m) (mL m) (mR m) :: zG
/-- a callee: how many parameters, its code's word -/
def zcw (m n : Nat) (ini cw : Int) : Bool := zg cw (.code (mN m) (mB m) (mL m) (mR m)) && zg ini (.initialized (mN m).cls) && decide ((parseMethodDescriptor (mN m).desc).map (fun d => d.parameters.length) = some n) && decide ((mN m).cls ≠ "java/lang/invoke/MethodHandle") && decide ((mN m).cls ≠ "java/lang/invoke/VarHandle") && decide (mL m ≤ 21) && plainName (mN m).cls
def zfw (own : String) (i : Nat) (w ci k : Int) : Bool :=
  if ci = 99 then zg w (if k = 0 then .fieldLink own i "java/lang/String" "value" "[B" else .fieldLink own i "java/lang/String" "coder" "B")
  else match vwCl[ci.toNat]? with
    | some q => zg w (.fieldLink own i (q.2.1 k.toNat).1 (q.2.1 k.toNat).2.1 (q.2.1 k.toNat).2.2.1) && decide (k.toNat < q.2.2) && decide (0 ≤ ci)
    | none => false
/-- the statics: class, name, descriptor -/
def zsf (k : Int) : String × String × String := if k = 0 then ("LastMatches", "GROUND_FIRST", "[I") else if k = 1 then ("LastMatches", "GROUND_MOST", "[I") else if k = 2 then ("LastMatches$Reading", "NUMBERS_WANTED", "[I") else if k = 3 then ("java/lang/String", "COMPACT_STRINGS", "Z") else ("jdk/internal/util/Preconditions", "SIOOBE_FORMATTER", "Ljava/util/function/BiFunction;")
/-- the texts: place in the class's pool, text -/
def ztxt (k : Nat) : Nat × String := match k with
  | 0 => (108, "wind")
  | 1 => (110, "shelter")
  | 2 => (112, "wet")
  | 3 => (114, "end")
  | 4 => (116, "carry")
  | 5 => (118, "match")
  | 6 => (120, "stick")
  | 7 => (122, "stump")
  | _ => (124, "")
def zchk (mi : Nat) (row : Nat × Instr × Nat × List Int) : Bool :=
  decide (decode (mB mi) row.1 = .ok (row.2.1, row.2.2.1)) &&
  match row.2.1, row.2.2.2 with
  | .getfield i, [w, ci, k] => zfw (mN mi).cls i w ci k && decide (row.2.2.1 = 3)
  | .putfield i, [w, ci, k] => zfw (mN mi).cls i w ci k && decide (ci ≠ 99) && (match vwCl[ci.toNat]? with
    | some q => !(q.2.1 k.toNat).2.2.2 || decide ((q.2.1 k.toNat).1 = (mN mi).cls)
    | none => false)
  | .getstatic i, [w, k, nest] => decide (k = 0 ∨ k = 1 ∨ k = 2 ∨ k = 3 ∨ k = 4) && (if nest = 1 then zh w (.fieldLinkNest (mN mi).cls i (zsf k).1 (zsf k).2.1 (zsf k).2.2 "LastMatches") else zg w (.fieldLink (mN mi).cls i (zsf k).1 (zsf k).2.1 (zsf k).2.2))
  | .ldc i, [w, 0, v] => zg w (.constant (mN mi).cls i (Int32.ofInt v))
  | .ldc i, [_, 1, k] => decide (i = (ztxt k.toNat).1) && decide ((mN mi).cls = "LastMatches$Reading")
  | .ldc2_w i, [w, v] => zg w (.constantLong (mN mi).cls i (Int64.ofInt v))
  | .new i, [w1, w2, w3, ci] => (match vwCl[ci.toNat]? with
    | some q => zg w1 (.classLink (mN mi).cls i q.1) && zg w2 (.instantiable q.1 q.2.2) && zg w3 (.initialized q.1)
    | none => false)
  | .newarray .int, [w, t] => decide (t = 0) && zg w (.arrayClass .int)
  | .newarray .long, [w, t] => decide (t = 1) && zg w (.arrayClass .long)
  | .newarray .boolean, [w, t] => decide (t = 2) && zg w (.arrayClass .boolean)
  | .anewarray i, [w1, w2, t] => if t = 3 then zg w1 (.classLink (mN mi).cls i "LastMatches$Plain") && zh w2 (.arrayOver (.object "LastMatches$Plain")) else decide (t = 4) && zg w1 (.classLink (mN mi).cls i "LastMatches$Clearing") && zh w2 (.arrayOver (.object "LastMatches$Clearing"))
  | .invokespecial i, [0, w1, w2, w3] => zg w1 (.methodLink (mN mi).cls i objectInit) && zg w2 (.instanceMethod objectInit) && zg w3 (.code objectInit ⟨#[0xb1]⟩ 1 none)
  | .invokespecial i, [1, m, n, w1, w2, ini, cw] => zcw m.toNat n.toNat ini cw && zg w1 (.methodLink (mN mi).cls i (mN m.toNat)) && zg w2 (.instanceMethod (mN m.toNat)) && decide ((mN m.toNat).name = "<init>") && decide (mR m.toNat = none)
  | .invokespecial i, [2, m, n, w1, w2, w3, w4, ini, cw] => zcw m.toNat n.toNat ini cw && zg w1 (.methodLink (mN mi).cls i (mN m.toNat)) && zg w2 (.sameMethod (mN m.toNat).cls (mN m.toNat).cls (mN m.toNat).name (mN m.toNat).desc) && zg w3 (.superclass (mN mi).cls (mN m.toNat).cls) && zg w4 (.instanceMethod (mN m.toNat)) && decide ((mN m.toNat).name ≠ "<init>")
  | .invokestatic i, [3, m, n, w1, w2, ini, cw] => zcw m.toNat n.toNat ini cw && zg w1 (.methodLink (mN mi).cls i (mN m.toNat)) && zg w2 (.static (mN m.toNat))
  | .invokestatic i, [4, m, n, w1, w2, ini, cw] => zcw m.toNat n.toNat ini cw && zh w1 (.methodLinkNest (mN mi).cls i (mN m.toNat) "LastMatches") && zg w2 (.static (mN m.toNat))
  | .invokestatic i, [5, w1, w2, w3, w4] => zg w1 (.methodLink (mN mi).cls i arraycopyName) && zg w2 (.native arraycopyName) && zg w3 (.static arraycopyName) && zg w4 (.initialized "java/lang/System")
  | .invokestatic i, [9, w1, w2, w3, w4] => zg w1 (.methodLink (mN mi).cls i Lib.Math.max.name) && zg w2 (.static Lib.Math.max.name) && zg w3 (.initialized "java/lang/Math") && zg w4 (.code Lib.Math.max.name Lib.Math.max.code 2 (some .int))
  | .invokestatic i, [10, w1, w2, w3, w4] => zg w1 (.methodLink (mN mi).cls i Lib.Math.min.name) && zg w2 (.static Lib.Math.min.name) && zg w3 (.initialized "java/lang/Math") && zg w4 (.code Lib.Math.min.name Lib.Math.min.code 2 (some .int))
  | .invokestatic i, [11, w1, w2, w3, w4] => zg w1 (.methodLink (mN mi).cls i Lib.MathLoose.max_long.x) && zg w2 (.static Lib.MathLoose.max_long.x) && zg w3 (.initialized "java/lang/Math") && zg w4 (.code Lib.MathLoose.max_long.x Lib.MathLoose.max_long.code 4 (some .long))
  | .invokevirtual i, [6, m, n, w1, w2, w3, ini, cw, ci] => zcw m.toNat n.toNat ini cw && zg w1 (.methodLink (mN mi).cls i (mN m.toNat)) && zg w2 (.instanceMethod (mN m.toNat)) && zg w3 (.selects (mN m.toNat).cls (mN m.toNat) (mN m.toNat)) && decide (0 ≤ ci) && (match vwCl[ci.toNat]? with
    | some q => decide (q.1 = (mN m.toNat).cls)
    | none => false)
  | .invokevirtual i, [7, m, n, w1, w2, w3, ini, cw] => zcw m.toNat n.toNat ini cw && zg w1 (.methodLink (mN mi).cls i (mN m.toNat)) && zg w2 (.instanceMethod (mN m.toNat)) && zg w3 (.selects (mN m.toNat).cls (mN m.toNat) (mN m.toNat)) && decide ((mN m.toNat).cls = "java/lang/String")
  | .invokevirtual i, [8, m, n, w1] => decide ((mN m.toNat).cls = "LastMatches$Plain") && zg w1 (.methodLink (mN mi).cls i (mN m.toNat)) && zvt.all (fun r => match r with
    | [dm, ci, tm, wS, wT, wI, wC, wM, wD, wE] => !(dm == m.toNat) || (zcw tm n.toNat wI wC && (match vwCl[ci]? with
      | some q => zg wS (.selects q.1 (mN dm) (mN tm))
      | none => false) && zg wT (.instanceMethod (mN tm)) && zg wM (.sameMethod (mN dm).cls (mN dm).cls (mN dm).name (mN dm).desc) && zg wD (.instanceMethod ⟨(mN dm).cls, (mN dm).name, (mN dm).desc⟩) && zg wE (.code ⟨(mN dm).cls, (mN dm).name, (mN dm).desc⟩ (mB dm) (mL dm) (mR dm)))
    | _ => false)
  | .getfield _, _ => true
  | _, _ => true
