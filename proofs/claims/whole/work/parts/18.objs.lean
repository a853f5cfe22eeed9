/-! THE OBJECTS, as functions of their number fields (V ints, U longs, by the field's place); the cells stand where the constructors make them -/
abbrev ar (n : Nat) (g : Nat → Int32) : zC := .inl (0, n, .inl g)
abbrev al (n : Nat) (g : Nat → Int64) : zC := .inl (1, n, .inr (.inl g))
def zisO (o : Option zC) (ci : Nat) : Bool := match o with
  | some (.inr (c, _)) => c == ci
  | _ => false
theorem zis_O (σ : zW) (ci b : Nat) : zis σ ci b = zisO (σ[b]?) ci := by
  unfold zis zisO
  split <;> simp_all
theorem getset (σ : zW) (k j : Nat) (c : zC) : (σ.set k c)[j]? = if k = j then (σ[k]?).map (fun _ => c) else σ[j]? := by
  rw [List.getElem?_set]
  split
  · split
    · rename_i h1 h2
      subst h1
      rw [List.getElem?_eq_getElem h2]
      rfl
    · rename_i h1 h2
      subst h1
      rw [List.getElem?_eq_none (by omega)]
      rfl
  · rfl
def clO (o : Nat) (V : Nat → Int32) : zC := .inr (1, [.ref 1, .ref (o + 1), .ref (o + 2), .ref (o + 3), .ref (o + 4), .ref (o + 5), .int (V 6), .ref (o + 6), .ref (o + 7), .int (V 9), .ref (o + 8), .int (V 11), .int (V 12), .int (V 13), .int (V 14), .int (V 15), .ref (o + 9), .int (V 17)])
theorem cl_is (o : Nat) (V : Nat → Int32) : zisO (some (clO o V)) 1 = true := rfl
theorem clG_0 (o : Nat) (V : Nat → Int32) (f : Value → zO) : zrG (some (clO o V)) 1 0 f = f (.ref 1) := rfl
theorem clG_1 (o : Nat) (V : Nat → Int32) (f : Value → zO) : zrG (some (clO o V)) 1 1 f = f (.ref (o + 1)) := rfl
theorem clG_2 (o : Nat) (V : Nat → Int32) (f : Value → zO) : zrG (some (clO o V)) 1 2 f = f (.ref (o + 2)) := rfl
theorem clG_3 (o : Nat) (V : Nat → Int32) (f : Value → zO) : zrG (some (clO o V)) 1 3 f = f (.ref (o + 3)) := rfl
theorem clG_4 (o : Nat) (V : Nat → Int32) (f : Value → zO) : zrG (some (clO o V)) 1 4 f = f (.ref (o + 4)) := rfl
theorem clG_5 (o : Nat) (V : Nat → Int32) (f : Value → zO) : zrG (some (clO o V)) 1 5 f = f (.ref (o + 5)) := rfl
theorem clG_6 (o : Nat) (V : Nat → Int32) (f : Value → zO) : zrG (some (clO o V)) 1 6 f = f (.int (V 6)) := rfl
theorem clS_6 (o : Nat) (V : Nat → Int32) (x : Int32) (f : zC → zO) : zrS (some (clO o V)) 1 6 (.int x) f = f (clO o (upd V 6 x)) := rfl
theorem clG_7 (o : Nat) (V : Nat → Int32) (f : Value → zO) : zrG (some (clO o V)) 1 7 f = f (.ref (o + 6)) := rfl
theorem clG_8 (o : Nat) (V : Nat → Int32) (f : Value → zO) : zrG (some (clO o V)) 1 8 f = f (.ref (o + 7)) := rfl
theorem clG_9 (o : Nat) (V : Nat → Int32) (f : Value → zO) : zrG (some (clO o V)) 1 9 f = f (.int (V 9)) := rfl
theorem clS_9 (o : Nat) (V : Nat → Int32) (x : Int32) (f : zC → zO) : zrS (some (clO o V)) 1 9 (.int x) f = f (clO o (upd V 9 x)) := rfl
theorem clG_10 (o : Nat) (V : Nat → Int32) (f : Value → zO) : zrG (some (clO o V)) 1 10 f = f (.ref (o + 8)) := rfl
theorem clG_11 (o : Nat) (V : Nat → Int32) (f : Value → zO) : zrG (some (clO o V)) 1 11 f = f (.int (V 11)) := rfl
theorem clS_11 (o : Nat) (V : Nat → Int32) (x : Int32) (f : zC → zO) : zrS (some (clO o V)) 1 11 (.int x) f = f (clO o (upd V 11 x)) := rfl
theorem clG_12 (o : Nat) (V : Nat → Int32) (f : Value → zO) : zrG (some (clO o V)) 1 12 f = f (.int (V 12)) := rfl
theorem clS_12 (o : Nat) (V : Nat → Int32) (x : Int32) (f : zC → zO) : zrS (some (clO o V)) 1 12 (.int x) f = f (clO o (upd V 12 x)) := rfl
theorem clG_13 (o : Nat) (V : Nat → Int32) (f : Value → zO) : zrG (some (clO o V)) 1 13 f = f (.int (V 13)) := rfl
theorem clS_13 (o : Nat) (V : Nat → Int32) (x : Int32) (f : zC → zO) : zrS (some (clO o V)) 1 13 (.int x) f = f (clO o (upd V 13 x)) := rfl
theorem clG_14 (o : Nat) (V : Nat → Int32) (f : Value → zO) : zrG (some (clO o V)) 1 14 f = f (.int (V 14)) := rfl
theorem clS_14 (o : Nat) (V : Nat → Int32) (x : Int32) (f : zC → zO) : zrS (some (clO o V)) 1 14 (.int x) f = f (clO o (upd V 14 x)) := rfl
theorem clG_15 (o : Nat) (V : Nat → Int32) (f : Value → zO) : zrG (some (clO o V)) 1 15 f = f (.int (V 15)) := rfl
theorem clS_15 (o : Nat) (V : Nat → Int32) (x : Int32) (f : zC → zO) : zrS (some (clO o V)) 1 15 (.int x) f = f (clO o (upd V 15 x)) := rfl
theorem clG_16 (o : Nat) (V : Nat → Int32) (f : Value → zO) : zrG (some (clO o V)) 1 16 f = f (.ref (o + 9)) := rfl
theorem clG_17 (o : Nat) (V : Nat → Int32) (f : Value → zO) : zrG (some (clO o V)) 1 17 f = f (.int (V 17)) := rfl
theorem clS_17 (o : Nat) (V : Nat → Int32) (x : Int32) (f : zC → zO) : zrS (some (clO o V)) 1 17 (.int x) f = f (clO o (upd V 17 x)) := rfl
def odO (V : Nat → Int32) (U : Nat → Int64) : zC := .inr (4, [.ref 51, .int (V 1), .ref 52, .long (U 3), .ref 53])
theorem od_is (V : Nat → Int32) (U : Nat → Int64) : zisO (some (odO V U)) 4 = true := rfl
theorem odG_0 (V : Nat → Int32) (U : Nat → Int64) (f : Value → zO) : zrG (some (odO V U)) 4 0 f = f (.ref 51) := rfl
theorem odG_1 (V : Nat → Int32) (U : Nat → Int64) (f : Value → zO) : zrG (some (odO V U)) 4 1 f = f (.int (V 1)) := rfl
theorem odS_1 (V : Nat → Int32) (U : Nat → Int64) (x : Int32) (f : zC → zO) : zrS (some (odO V U)) 4 1 (.int x) f = f (odO (upd V 1 x) U) := rfl
theorem odG_2 (V : Nat → Int32) (U : Nat → Int64) (f : Value → zO) : zrG (some (odO V U)) 4 2 f = f (.ref 52) := rfl
theorem odG_3 (V : Nat → Int32) (U : Nat → Int64) (f : Value → zO) : zrG (some (odO V U)) 4 3 f = f (.long (U 3)) := rfl
theorem odS_3 (V : Nat → Int32) (U : Nat → Int64) (x : Int64) (f : zC → zO) : zrS (some (odO V U)) 4 3 (.long x) f = f (odO V (vp_updL U 3 x)) := rfl
theorem odG_4 (V : Nat → Int32) (U : Nat → Int64) (f : Value → zO) : zrG (some (odO V U)) 4 4 f = f (.ref 53) := rfl
def reO (V : Nat → Int32) : zC := .inr (6, [.int (V 0), .ref 60, .ref 61, .int (V 3), .int (V 4), .int (V 5), .int (V 6)])
theorem re_is (V : Nat → Int32) : zisO (some (reO V)) 6 = true := rfl
theorem reG_0 (V : Nat → Int32) (f : Value → zO) : zrG (some (reO V)) 6 0 f = f (.int (V 0)) := rfl
theorem reS_0 (V : Nat → Int32) (x : Int32) (f : zC → zO) : zrS (some (reO V)) 6 0 (.int x) f = f (reO (upd V 0 x)) := rfl
theorem reG_1 (V : Nat → Int32) (f : Value → zO) : zrG (some (reO V)) 6 1 f = f (.ref 60) := rfl
theorem reG_2 (V : Nat → Int32) (f : Value → zO) : zrG (some (reO V)) 6 2 f = f (.ref 61) := rfl
theorem reG_3 (V : Nat → Int32) (f : Value → zO) : zrG (some (reO V)) 6 3 f = f (.int (V 3)) := rfl
theorem reS_3 (V : Nat → Int32) (x : Int32) (f : zC → zO) : zrS (some (reO V)) 6 3 (.int x) f = f (reO (upd V 3 x)) := rfl
theorem reG_4 (V : Nat → Int32) (f : Value → zO) : zrG (some (reO V)) 6 4 f = f (.int (V 4)) := rfl
theorem reS_4 (V : Nat → Int32) (x : Int32) (f : zC → zO) : zrS (some (reO V)) 6 4 (.int x) f = f (reO (upd V 4 x)) := rfl
theorem reG_5 (V : Nat → Int32) (f : Value → zO) : zrG (some (reO V)) 6 5 f = f (.int (V 5)) := rfl
theorem reS_5 (V : Nat → Int32) (x : Int32) (f : zC → zO) : zrS (some (reO V)) 6 5 (.int x) f = f (reO (upd V 5 x)) := rfl
theorem reG_6 (V : Nat → Int32) (f : Value → zO) : zrG (some (reO V)) 6 6 f = f (.int (V 6)) := rfl
theorem reS_6 (V : Nat → Int32) (x : Int32) (f : zC → zO) : zrS (some (reO V)) 6 6 (.int x) f = f (reO (upd V 6 x)) := rfl
def woO (V : Nat → Int32) : zC := .inr (10, [.ref 55, .ref 56, .int (V 2), .ref 57])
theorem wo_is (V : Nat → Int32) : zisO (some (woO V)) 10 = true := rfl
theorem woG_0 (V : Nat → Int32) (f : Value → zO) : zrG (some (woO V)) 10 0 f = f (.ref 55) := rfl
theorem woG_1 (V : Nat → Int32) (f : Value → zO) : zrG (some (woO V)) 10 1 f = f (.ref 56) := rfl
theorem woG_2 (V : Nat → Int32) (f : Value → zO) : zrG (some (woO V)) 10 2 f = f (.int (V 2)) := rfl
theorem woS_2 (V : Nat → Int32) (x : Int32) (f : zC → zO) : zrS (some (woO V)) 10 2 (.int x) f = f (woO (upd V 2 x)) := rfl
theorem woG_3 (V : Nat → Int32) (f : Value → zO) : zrG (some (woO V)) 10 3 f = f (.ref 57) := rfl
def lmO (V : Nat → Int32) (U : Nat → Int64) : zC := .inr (11, [.ref 8, .ref 18, .ref 28, .ref 49, .ref 50, .ref 54, .ref 58, .ref 59, .long (U 8), .long (U 9), .int (V 10), .int (V 11), .int (V 12)])
theorem lm_is (V : Nat → Int32) (U : Nat → Int64) : zisO (some (lmO V U)) 11 = true := rfl
theorem lmG_0 (V : Nat → Int32) (U : Nat → Int64) (f : Value → zO) : zrG (some (lmO V U)) 11 0 f = f (.ref 8) := rfl
theorem lmG_1 (V : Nat → Int32) (U : Nat → Int64) (f : Value → zO) : zrG (some (lmO V U)) 11 1 f = f (.ref 18) := rfl
theorem lmG_2 (V : Nat → Int32) (U : Nat → Int64) (f : Value → zO) : zrG (some (lmO V U)) 11 2 f = f (.ref 28) := rfl
theorem lmG_3 (V : Nat → Int32) (U : Nat → Int64) (f : Value → zO) : zrG (some (lmO V U)) 11 3 f = f (.ref 49) := rfl
theorem lmG_4 (V : Nat → Int32) (U : Nat → Int64) (f : Value → zO) : zrG (some (lmO V U)) 11 4 f = f (.ref 50) := rfl
theorem lmG_5 (V : Nat → Int32) (U : Nat → Int64) (f : Value → zO) : zrG (some (lmO V U)) 11 5 f = f (.ref 54) := rfl
theorem lmG_6 (V : Nat → Int32) (U : Nat → Int64) (f : Value → zO) : zrG (some (lmO V U)) 11 6 f = f (.ref 58) := rfl
theorem lmG_7 (V : Nat → Int32) (U : Nat → Int64) (f : Value → zO) : zrG (some (lmO V U)) 11 7 f = f (.ref 59) := rfl
theorem lmG_8 (V : Nat → Int32) (U : Nat → Int64) (f : Value → zO) : zrG (some (lmO V U)) 11 8 f = f (.long (U 8)) := rfl
theorem lmS_8 (V : Nat → Int32) (U : Nat → Int64) (x : Int64) (f : zC → zO) : zrS (some (lmO V U)) 11 8 (.long x) f = f (lmO V (vp_updL U 8 x)) := rfl
theorem lmG_9 (V : Nat → Int32) (U : Nat → Int64) (f : Value → zO) : zrG (some (lmO V U)) 11 9 f = f (.long (U 9)) := rfl
theorem lmS_9 (V : Nat → Int32) (U : Nat → Int64) (x : Int64) (f : zC → zO) : zrS (some (lmO V U)) 11 9 (.long x) f = f (lmO V (vp_updL U 9 x)) := rfl
theorem lmG_10 (V : Nat → Int32) (U : Nat → Int64) (f : Value → zO) : zrG (some (lmO V U)) 11 10 f = f (.int (V 10)) := rfl
theorem lmS_10 (V : Nat → Int32) (U : Nat → Int64) (x : Int32) (f : zC → zO) : zrS (some (lmO V U)) 11 10 (.int x) f = f (lmO (upd V 10 x) U) := rfl
theorem lmG_11 (V : Nat → Int32) (U : Nat → Int64) (f : Value → zO) : zrG (some (lmO V U)) 11 11 f = f (.int (V 11)) := rfl
theorem lmS_11 (V : Nat → Int32) (U : Nat → Int64) (x : Int32) (f : zC → zO) : zrS (some (lmO V U)) 11 11 (.int x) f = f (lmO (upd V 11 x) U) := rfl
theorem lmG_12 (V : Nat → Int32) (U : Nat → Int64) (f : Value → zO) : zrG (some (lmO V U)) 11 12 f = f (.int (V 12)) := rfl
theorem lmS_12 (V : Nat → Int32) (U : Nat → Int64) (x : Int32) (f : zC → zO) : zrS (some (lmO V U)) 11 12 (.int x) f = f (lmO (upd V 12 x) U) := rfl
def moO (V : Nat → Int32) (U : Nat → Int64) : zC := .inr (12, [.ref 63, .ref 64, .ref 65, .ref 66, .ref 67, .int (V 5), .long (U 6), .long (U 7), .ref 68, .int (V 9), .int (V 10), .int (V 11), .int (V 12), .int (V 13), .ref 69, .int (V 15), .ref 70, .int (V 17), .ref 71, .ref 72, .ref 73])
theorem mo_is (V : Nat → Int32) (U : Nat → Int64) : zisO (some (moO V U)) 12 = true := rfl
theorem moG_0 (V : Nat → Int32) (U : Nat → Int64) (f : Value → zO) : zrG (some (moO V U)) 12 0 f = f (.ref 63) := rfl
theorem moG_1 (V : Nat → Int32) (U : Nat → Int64) (f : Value → zO) : zrG (some (moO V U)) 12 1 f = f (.ref 64) := rfl
theorem moG_2 (V : Nat → Int32) (U : Nat → Int64) (f : Value → zO) : zrG (some (moO V U)) 12 2 f = f (.ref 65) := rfl
theorem moG_3 (V : Nat → Int32) (U : Nat → Int64) (f : Value → zO) : zrG (some (moO V U)) 12 3 f = f (.ref 66) := rfl
theorem moG_4 (V : Nat → Int32) (U : Nat → Int64) (f : Value → zO) : zrG (some (moO V U)) 12 4 f = f (.ref 67) := rfl
theorem moG_5 (V : Nat → Int32) (U : Nat → Int64) (f : Value → zO) : zrG (some (moO V U)) 12 5 f = f (.int (V 5)) := rfl
theorem moS_5 (V : Nat → Int32) (U : Nat → Int64) (x : Int32) (f : zC → zO) : zrS (some (moO V U)) 12 5 (.int x) f = f (moO (upd V 5 x) U) := rfl
theorem moG_6 (V : Nat → Int32) (U : Nat → Int64) (f : Value → zO) : zrG (some (moO V U)) 12 6 f = f (.long (U 6)) := rfl
theorem moS_6 (V : Nat → Int32) (U : Nat → Int64) (x : Int64) (f : zC → zO) : zrS (some (moO V U)) 12 6 (.long x) f = f (moO V (vp_updL U 6 x)) := rfl
theorem moG_7 (V : Nat → Int32) (U : Nat → Int64) (f : Value → zO) : zrG (some (moO V U)) 12 7 f = f (.long (U 7)) := rfl
theorem moS_7 (V : Nat → Int32) (U : Nat → Int64) (x : Int64) (f : zC → zO) : zrS (some (moO V U)) 12 7 (.long x) f = f (moO V (vp_updL U 7 x)) := rfl
theorem moG_8 (V : Nat → Int32) (U : Nat → Int64) (f : Value → zO) : zrG (some (moO V U)) 12 8 f = f (.ref 68) := rfl
theorem moG_9 (V : Nat → Int32) (U : Nat → Int64) (f : Value → zO) : zrG (some (moO V U)) 12 9 f = f (.int (V 9)) := rfl
theorem moS_9 (V : Nat → Int32) (U : Nat → Int64) (x : Int32) (f : zC → zO) : zrS (some (moO V U)) 12 9 (.int x) f = f (moO (upd V 9 x) U) := rfl
theorem moG_10 (V : Nat → Int32) (U : Nat → Int64) (f : Value → zO) : zrG (some (moO V U)) 12 10 f = f (.int (V 10)) := rfl
theorem moS_10 (V : Nat → Int32) (U : Nat → Int64) (x : Int32) (f : zC → zO) : zrS (some (moO V U)) 12 10 (.int x) f = f (moO (upd V 10 x) U) := rfl
theorem moG_11 (V : Nat → Int32) (U : Nat → Int64) (f : Value → zO) : zrG (some (moO V U)) 12 11 f = f (.int (V 11)) := rfl
theorem moS_11 (V : Nat → Int32) (U : Nat → Int64) (x : Int32) (f : zC → zO) : zrS (some (moO V U)) 12 11 (.int x) f = f (moO (upd V 11 x) U) := rfl
theorem moG_12 (V : Nat → Int32) (U : Nat → Int64) (f : Value → zO) : zrG (some (moO V U)) 12 12 f = f (.int (V 12)) := rfl
theorem moS_12 (V : Nat → Int32) (U : Nat → Int64) (x : Int32) (f : zC → zO) : zrS (some (moO V U)) 12 12 (.int x) f = f (moO (upd V 12 x) U) := rfl
theorem moG_13 (V : Nat → Int32) (U : Nat → Int64) (f : Value → zO) : zrG (some (moO V U)) 12 13 f = f (.int (V 13)) := rfl
theorem moS_13 (V : Nat → Int32) (U : Nat → Int64) (x : Int32) (f : zC → zO) : zrS (some (moO V U)) 12 13 (.int x) f = f (moO (upd V 13 x) U) := rfl
theorem moG_14 (V : Nat → Int32) (U : Nat → Int64) (f : Value → zO) : zrG (some (moO V U)) 12 14 f = f (.ref 69) := rfl
theorem moG_15 (V : Nat → Int32) (U : Nat → Int64) (f : Value → zO) : zrG (some (moO V U)) 12 15 f = f (.int (V 15)) := rfl
theorem moS_15 (V : Nat → Int32) (U : Nat → Int64) (x : Int32) (f : zC → zO) : zrS (some (moO V U)) 12 15 (.int x) f = f (moO (upd V 15 x) U) := rfl
theorem moG_16 (V : Nat → Int32) (U : Nat → Int64) (f : Value → zO) : zrG (some (moO V U)) 12 16 f = f (.ref 70) := rfl
theorem moG_17 (V : Nat → Int32) (U : Nat → Int64) (f : Value → zO) : zrG (some (moO V U)) 12 17 f = f (.int (V 17)) := rfl
theorem moS_17 (V : Nat → Int32) (U : Nat → Int64) (x : Int32) (f : zC → zO) : zrS (some (moO V U)) 12 17 (.int x) f = f (moO (upd V 17 x) U) := rfl
theorem moG_18 (V : Nat → Int32) (U : Nat → Int64) (f : Value → zO) : zrG (some (moO V U)) 12 18 f = f (.ref 71) := rfl
theorem moG_19 (V : Nat → Int32) (U : Nat → Int64) (f : Value → zO) : zrG (some (moO V U)) 12 19 f = f (.ref 72) := rfl
theorem moG_20 (V : Nat → Int32) (U : Nat → Int64) (f : Value → zO) : zrG (some (moO V U)) 12 20 f = f (.ref 73) := rfl
/-- a Clearing at o: its number fields C 0, its rows C 1 .. C 9 -/
def ClAt (σ : zW) (o : Nat) (C : Nat → Nat → Int32) : Prop := σ[o]? = some (clO o (C 0)) ∧ σ[o + 1]? = some (ar 4 (C 1)) ∧ σ[o + 2]? = some (ar 6 (C 2)) ∧ σ[o + 3]? = some (ar 6 (C 3)) ∧ σ[o + 4]? = some (ar 6 (C 4)) ∧ σ[o + 5]? = some (ar 6 (C 5)) ∧ σ[o + 6]? = some (ar 7 (C 6)) ∧ σ[o + 7]? = some (ar 7 (C 7)) ∧ σ[o + 8]? = some (ar 5 (C 8)) ∧ σ[o + 9]? = some (ar 32 (C 9))
theorem ClAt.a0 {σ : zW} {o : Nat} {C : Nat → Nat → Int32} (h : ClAt σ o C) : σ[o]? = some (clO o (C 0)) := h.1
theorem ClAt.a1 {σ : zW} {o : Nat} {C : Nat → Nat → Int32} (h : ClAt σ o C) : σ[o + 1]? = some (ar 4 (C 1)) := h.2.1
theorem ClAt.a2 {σ : zW} {o : Nat} {C : Nat → Nat → Int32} (h : ClAt σ o C) : σ[o + 2]? = some (ar 6 (C 2)) := h.2.2.1
theorem ClAt.a3 {σ : zW} {o : Nat} {C : Nat → Nat → Int32} (h : ClAt σ o C) : σ[o + 3]? = some (ar 6 (C 3)) := h.2.2.2.1
theorem ClAt.a4 {σ : zW} {o : Nat} {C : Nat → Nat → Int32} (h : ClAt σ o C) : σ[o + 4]? = some (ar 6 (C 4)) := h.2.2.2.2.1
theorem ClAt.a5 {σ : zW} {o : Nat} {C : Nat → Nat → Int32} (h : ClAt σ o C) : σ[o + 5]? = some (ar 6 (C 5)) := h.2.2.2.2.2.1
theorem ClAt.a6 {σ : zW} {o : Nat} {C : Nat → Nat → Int32} (h : ClAt σ o C) : σ[o + 6]? = some (ar 7 (C 6)) := h.2.2.2.2.2.2.1
theorem ClAt.a7 {σ : zW} {o : Nat} {C : Nat → Nat → Int32} (h : ClAt σ o C) : σ[o + 7]? = some (ar 7 (C 7)) := h.2.2.2.2.2.2.2.1
theorem ClAt.a8 {σ : zW} {o : Nat} {C : Nat → Nat → Int32} (h : ClAt σ o C) : σ[o + 8]? = some (ar 5 (C 8)) := h.2.2.2.2.2.2.2.2.1
theorem ClAt.a9 {σ : zW} {o : Nat} {C : Nat → Nat → Int32} (h : ClAt σ o C) : σ[o + 9]? = some (ar 32 (C 9)) := h.2.2.2.2.2.2.2.2.2
theorem zrk_n (m : Nat) (as : List Value) (h : zrec m = false) : zrk m as = zrk0 m := by
  unfold zrk
  rw [h]
  rfl
theorem zrk_0 (as : List Value) : zrk 0 as = 1 := zrk_n 0 as rfl
theorem zrk_1 (as : List Value) : zrk 1 as = 18 := zrk_n 1 as rfl
theorem zrk_3 (as : List Value) : zrk 3 as = 18 := zrk_n 3 as rfl
theorem zrk_4 (as : List Value) : zrk 4 as = 5 := zrk_n 4 as rfl
theorem zrk_5 (as : List Value) : zrk 5 as = 1 := zrk_n 5 as rfl
theorem zrk_6 (as : List Value) : zrk 6 as = 6 := zrk_n 6 as rfl
theorem zrk_7 (as : List Value) : zrk 7 as = 3 := zrk_n 7 as rfl
theorem zrk_8 (as : List Value) : zrk 8 as = 2 := zrk_n 8 as rfl
theorem zrk_9 (as : List Value) : zrk 9 as = 2 := zrk_n 9 as rfl
theorem zrk_10 (as : List Value) : zrk 10 as = 2 := zrk_n 10 as rfl
theorem zrk_11 (as : List Value) : zrk 11 as = 1 := zrk_n 11 as rfl
theorem zrk_12 (as : List Value) : zrk 12 as = 2 := zrk_n 12 as rfl
theorem zrk_13 (as : List Value) : zrk 13 as = 2 := zrk_n 13 as rfl
theorem zrk_14 (as : List Value) : zrk 14 as = 2 := zrk_n 14 as rfl
theorem zrk_15 (as : List Value) : zrk 15 as = 1 := zrk_n 15 as rfl
theorem zrk_16 (as : List Value) : zrk 16 as = 3 := zrk_n 16 as rfl
theorem zrk_17 (as : List Value) : zrk 17 as = 3 := zrk_n 17 as rfl
theorem zrk_18 (as : List Value) : zrk 18 as = 2 := zrk_n 18 as rfl
theorem zrk_19 (as : List Value) : zrk 19 as = 2 := zrk_n 19 as rfl
theorem zrk_20 (as : List Value) : zrk 20 as = 1 := zrk_n 20 as rfl
theorem zrk_21 (as : List Value) : zrk 21 as = 1 := zrk_n 21 as rfl
theorem zrk_22 (as : List Value) : zrk 22 as = 1 := zrk_n 22 as rfl
theorem zrk_23 (as : List Value) : zrk 23 as = 2 := zrk_n 23 as rfl
theorem zrk_24 (as : List Value) : zrk 24 as = 2 := zrk_n 24 as rfl
theorem zrk_25 (as : List Value) : zrk 25 as = 2 := zrk_n 25 as rfl
theorem zrk_26 (as : List Value) : zrk 26 as = 5 := zrk_n 26 as rfl
theorem zrk_27 (as : List Value) : zrk 27 as = 4 := zrk_n 27 as rfl
theorem zrk_28 (as : List Value) : zrk 28 as = 4 := zrk_n 28 as rfl
theorem zrk_29 (as : List Value) : zrk 29 as = 2 := zrk_n 29 as rfl
theorem zrk_30 (as : List Value) : zrk 30 as = 1 := zrk_n 30 as rfl
theorem zrk_31 (as : List Value) : zrk 31 as = 3 := zrk_n 31 as rfl
theorem zrk_32 (as : List Value) : zrk 32 as = 2 := zrk_n 32 as rfl
theorem zrk_33 (as : List Value) : zrk 33 as = 2 := zrk_n 33 as rfl
theorem zrk_34 (as : List Value) : zrk 34 as = 2 := zrk_n 34 as rfl
theorem zrk_35 (as : List Value) : zrk 35 as = 2 := zrk_n 35 as rfl
theorem zrk_36 (as : List Value) : zrk 36 as = 2 := zrk_n 36 as rfl
theorem zrk_37 (as : List Value) : zrk 37 as = 2 := zrk_n 37 as rfl
theorem zrk_38 (as : List Value) : zrk 38 as = 1 := zrk_n 38 as rfl
theorem zrk_39 (as : List Value) : zrk 39 as = 5 := zrk_n 39 as rfl
theorem zrk_40 (as : List Value) : zrk 40 as = 6 := zrk_n 40 as rfl
theorem zrk_41 (as : List Value) : zrk 41 as = 6 := zrk_n 41 as rfl
theorem zrk_42 (as : List Value) : zrk 42 as = 7 := zrk_n 42 as rfl
theorem zrk_43 (as : List Value) : zrk 43 as = 6 := zrk_n 43 as rfl
theorem zrk_44 (as : List Value) : zrk 44 as = 5 := zrk_n 44 as rfl
theorem zrk_45 (as : List Value) : zrk 45 as = 1 := zrk_n 45 as rfl
theorem zrk_46 (as : List Value) : zrk 46 as = 1 := zrk_n 46 as rfl
theorem zrk_47 (as : List Value) : zrk 47 as = 7 := zrk_n 47 as rfl
theorem zrk_48 (as : List Value) : zrk 48 as = 7 := zrk_n 48 as rfl
theorem zrk_49 (as : List Value) : zrk 49 as = 7 := zrk_n 49 as rfl
theorem zrk_50 (as : List Value) : zrk 50 as = 1 := zrk_n 50 as rfl
theorem zrk_51 (as : List Value) : zrk 51 as = 18 := zrk_n 51 as rfl
theorem zrk_53 (as : List Value) : zrk 53 as = 1 := zrk_n 53 as rfl
theorem zrk_54 (as : List Value) : zrk 54 as = 1 := zrk_n 54 as rfl
theorem zrk_55 (as : List Value) : zrk 55 as = 1 := zrk_n 55 as rfl
theorem zrk_56 (as : List Value) : zrk 56 as = 1 := zrk_n 56 as rfl
theorem zrk_57 (as : List Value) : zrk 57 as = 2 := zrk_n 57 as rfl
theorem zrk_58 (as : List Value) : zrk 58 as = 1 := zrk_n 58 as rfl
theorem zrk_59 (as : List Value) : zrk 59 as = 8 := zrk_n 59 as rfl
theorem zrk_60 (as : List Value) : zrk 60 as = 4 := zrk_n 60 as rfl
theorem zrk_61 (as : List Value) : zrk 61 as = 3 := zrk_n 61 as rfl
theorem zrk_62 (as : List Value) : zrk 62 as = 3 := zrk_n 62 as rfl
theorem zrk_63 (as : List Value) : zrk 63 as = 2 := zrk_n 63 as rfl
theorem zrk_64 (as : List Value) : zrk 64 as = 2 := zrk_n 64 as rfl
theorem zrk_65 (as : List Value) : zrk 65 as = 7 := zrk_n 65 as rfl
theorem zrk_66 (as : List Value) : zrk 66 as = 6 := zrk_n 66 as rfl
theorem zrk_67 (as : List Value) : zrk 67 as = 1 := zrk_n 67 as rfl
theorem zrk_68 (as : List Value) : zrk 68 as = 1 := zrk_n 68 as rfl
theorem zrk_69 (as : List Value) : zrk 69 as = 1 := zrk_n 69 as rfl
theorem zrk_70 (as : List Value) : zrk 70 as = 3 := zrk_n 70 as rfl
theorem zrk_71 (as : List Value) : zrk 71 as = 3 := zrk_n 71 as rfl
theorem zrk_72 (as : List Value) : zrk 72 as = 2 := zrk_n 72 as rfl
theorem zrk_73 (as : List Value) : zrk 73 as = 2 := zrk_n 73 as rfl
theorem zrk_74 (as : List Value) : zrk 74 as = 2 := zrk_n 74 as rfl
theorem zrk_75 (as : List Value) : zrk 75 as = 3 := zrk_n 75 as rfl
theorem zrk_76 (as : List Value) : zrk 76 as = 3 := zrk_n 76 as rfl
theorem zrk_77 (as : List Value) : zrk 77 as = 1 := zrk_n 77 as rfl
theorem zrk_78 (as : List Value) : zrk 78 as = 4 := zrk_n 78 as rfl
theorem zrk_79 (as : List Value) : zrk 79 as = 3 := zrk_n 79 as rfl
theorem zrk_80 (as : List Value) : zrk 80 as = 2 := zrk_n 80 as rfl
theorem zrk_81 (as : List Value) : zrk 81 as = 2 := zrk_n 81 as rfl
theorem zrk_82 (as : List Value) : zrk 82 as = 15 := zrk_n 82 as rfl
theorem zrk_84 (as : List Value) : zrk 84 as = 2 := zrk_n 84 as rfl
theorem zrk_85 (as : List Value) : zrk 85 as = 1 := zrk_n 85 as rfl
theorem zrk_86 (as : List Value) : zrk 86 as = 4 := zrk_n 86 as rfl
theorem zrk_87 (as : List Value) : zrk 87 as = 3 := zrk_n 87 as rfl
theorem zrk_88 (as : List Value) : zrk 88 as = 2 := zrk_n 88 as rfl
theorem zrk_89 (as : List Value) : zrk 89 as = 3 := zrk_n 89 as rfl
theorem zrk_90 (as : List Value) : zrk 90 as = 3 := zrk_n 90 as rfl
theorem zrk_91 (as : List Value) : zrk 91 as = 3 := zrk_n 91 as rfl
theorem zrk_92 (as : List Value) : zrk 92 as = 2 := zrk_n 92 as rfl
theorem zrk_93 (as : List Value) : zrk 93 as = 3 := zrk_n 93 as rfl
theorem zrk_94 (as : List Value) : zrk 94 as = 2 := zrk_n 94 as rfl
theorem zrk_95 (as : List Value) : zrk 95 as = 9 := zrk_n 95 as rfl
theorem zrk_96 (as : List Value) : zrk 96 as = 4 := zrk_n 96 as rfl
theorem zrk_97 (as : List Value) : zrk 97 as = 4 := zrk_n 97 as rfl
theorem zrk_98 (as : List Value) : zrk 98 as = 3 := zrk_n 98 as rfl
theorem zrk_99 (as : List Value) : zrk 99 as = 6 := zrk_n 99 as rfl
theorem zrk_100 (as : List Value) : zrk 100 as = 6 := zrk_n 100 as rfl
theorem zrk_101 (as : List Value) : zrk 101 as = 7 := zrk_n 101 as rfl
theorem zrk_102 (as : List Value) : zrk 102 as = 7 := zrk_n 102 as rfl
theorem zrk_103 (as : List Value) : zrk 103 as = 8 := zrk_n 103 as rfl
theorem zrk_104 (as : List Value) : zrk 104 as = 8 := zrk_n 104 as rfl
theorem zrk_105 (as : List Value) : zrk 105 as = 8 := zrk_n 105 as rfl
theorem zrk_106 (as : List Value) : zrk 106 as = 8 := zrk_n 106 as rfl
theorem zrk_107 (as : List Value) : zrk 107 as = 7 := zrk_n 107 as rfl
theorem zrk_108 (as : List Value) : zrk 108 as = 19 := zrk_n 108 as rfl
theorem zrk_109 (as : List Value) : zrk 109 as = 5 := zrk_n 109 as rfl
theorem zrk_110 (as : List Value) : zrk 110 as = 16 := zrk_n 110 as rfl
theorem zrk_111 (as : List Value) : zrk 111 as = 2 := zrk_n 111 as rfl
theorem zrk_112 (as : List Value) : zrk 112 as = 19 := zrk_n 112 as rfl
theorem zrk_113 (as : List Value) : zrk 113 as = 6 := zrk_n 113 as rfl
theorem zrk_114 (as : List Value) : zrk 114 as = 7 := zrk_n 114 as rfl
theorem zrk_115 (as : List Value) : zrk 115 as = 2 := zrk_n 115 as rfl
theorem zrk_116 (as : List Value) : zrk 116 as = 3 := zrk_n 116 as rfl
theorem zrk_117 (as : List Value) : zrk 117 as = 3 := zrk_n 117 as rfl
theorem zrk_118 (as : List Value) : zrk 118 as = 1 := zrk_n 118 as rfl
theorem zrk_119 (as : List Value) : zrk 119 as = 2 := zrk_n 119 as rfl
theorem zrk_120 (as : List Value) : zrk 120 as = 4 := zrk_n 120 as rfl
theorem zrk_121 (as : List Value) : zrk 121 as = 1 := zrk_n 121 as rfl
theorem zrk_122 (as : List Value) : zrk 122 as = 1 := zrk_n 122 as rfl
theorem zrk_123 (as : List Value) : zrk 123 as = 1 := zrk_n 123 as rfl
theorem zrk_124 (as : List Value) : zrk 124 as = 2 := zrk_n 124 as rfl
theorem zrk_125 (as : List Value) : zrk 125 as = 1 := zrk_n 125 as rfl
theorem zrk_126 (as : List Value) : zrk 126 as = 1 := zrk_n 126 as rfl
theorem zrk_127 (as : List Value) : zrk 127 as = 1 := zrk_n 127 as rfl
theorem zrk_128 (as : List Value) : zrk 128 as = 1 := zrk_n 128 as rfl
theorem zrk_129 (as : List Value) : zrk 129 as = 1 := zrk_n 129 as rfl
theorem zrk_130 (as : List Value) : zrk 130 as = 1 := zrk_n 130 as rfl
theorem zrk_131 (as : List Value) : zrk 131 as = 1 := zrk_n 131 as rfl
theorem zrk_132 (as : List Value) : zrk 132 as = 1 := zrk_n 132 as rfl
theorem zrk_133 (as : List Value) : zrk 133 as = 2 := zrk_n 133 as rfl
theorem zrk_134 (as : List Value) : zrk 134 as = 1 := zrk_n 134 as rfl
theorem zrk_135 (as : List Value) : zrk 135 as = 1 := zrk_n 135 as rfl
theorem zrk_136 (as : List Value) : zrk 136 as = 2 := zrk_n 136 as rfl
theorem zrk_137 (as : List Value) : zrk 137 as = 2 := zrk_n 137 as rfl
theorem zrk_138 (as : List Value) : zrk 138 as = 2 := zrk_n 138 as rfl
theorem zrk_139 (as : List Value) : zrk 139 as = 1 := zrk_n 139 as rfl
theorem zrk_140 (as : List Value) : zrk 140 as = 2 := zrk_n 140 as rfl
theorem zrk_141 (as : List Value) : zrk 141 as = 3 := zrk_n 141 as rfl
theorem zrk_142 (as : List Value) : zrk 142 as = 3 := zrk_n 142 as rfl
theorem zrk_143 (as : List Value) : zrk 143 as = 3 := zrk_n 143 as rfl
theorem zrk_144 (as : List Value) : zrk 144 as = 3 := zrk_n 144 as rfl
theorem zrk_145 (as : List Value) : zrk 145 as = 3 := zrk_n 145 as rfl
theorem zrk_146 (as : List Value) : zrk 146 as = 3 := zrk_n 146 as rfl
theorem zrk_147 (as : List Value) : zrk 147 as = 3 := zrk_n 147 as rfl
theorem zrk_148 (as : List Value) : zrk 148 as = 1 := zrk_n 148 as rfl
theorem zrk_149 (as : List Value) : zrk 149 as = 2 := zrk_n 149 as rfl
theorem zrk_150 (as : List Value) : zrk 150 as = 1 := zrk_n 150 as rfl
theorem zrk_151 (as : List Value) : zrk 151 as = 3 := zrk_n 151 as rfl
theorem zrk_152 (as : List Value) : zrk 152 as = 1 := zrk_n 152 as rfl
theorem zrk_153 (as : List Value) : zrk 153 as = 4 := zrk_n 153 as rfl
theorem zrk_154 (as : List Value) : zrk 154 as = 4 := zrk_n 154 as rfl
theorem zrk_155 (as : List Value) : zrk 155 as = 5 := zrk_n 155 as rfl
theorem zrk_156 (as : List Value) : zrk 156 as = 2 := zrk_n 156 as rfl
theorem zrk_157 (as : List Value) : zrk 157 as = 2 := zrk_n 157 as rfl
theorem zrk_158 (as : List Value) : zrk 158 as = 3 := zrk_n 158 as rfl
theorem zrk_159 (as : List Value) : zrk 159 as = 2 := zrk_n 159 as rfl
theorem zrk_160 (as : List Value) : zrk 160 as = 1 := zrk_n 160 as rfl
theorem zrk_161 (as : List Value) : zrk 161 as = 3 := zrk_n 161 as rfl
theorem zrk_162 (as : List Value) : zrk 162 as = 3 := zrk_n 162 as rfl
theorem zrk_163 (as : List Value) : zrk 163 as = 3 := zrk_n 163 as rfl
theorem zrk_164 (as : List Value) : zrk 164 as = 4 := zrk_n 164 as rfl
theorem zrk_165 (as : List Value) : zrk 165 as = 1 := zrk_n 165 as rfl
theorem zrk_166 (as : List Value) : zrk 166 as = 2 := zrk_n 166 as rfl
theorem zrk_167 (as : List Value) : zrk 167 as = 1 := zrk_n 167 as rfl
theorem zrk_168 (as : List Value) : zrk 168 as = 4 := zrk_n 168 as rfl
theorem zrk_169 (as : List Value) : zrk 169 as = 4 := zrk_n 169 as rfl
theorem zrk_170 (as : List Value) : zrk 170 as = 1 := zrk_n 170 as rfl
theorem zrk_171 (as : List Value) : zrk 171 as = 4 := zrk_n 171 as rfl
theorem zrk_172 (as : List Value) : zrk 172 as = 2 := zrk_n 172 as rfl
theorem zrk_173 (as : List Value) : zrk 173 as = 5 := zrk_n 173 as rfl
theorem zrk_174 (as : List Value) : zrk 174 as = 5 := zrk_n 174 as rfl
theorem zrk_175 (as : List Value) : zrk 175 as = 6 := zrk_n 175 as rfl
theorem zrk_176 (as : List Value) : zrk 176 as = 6 := zrk_n 176 as rfl
theorem zrk_177 (as : List Value) : zrk 177 as = 1 := zrk_n 177 as rfl
theorem zrk_178 (as : List Value) : zrk 178 as = 1 := zrk_n 178 as rfl
theorem zrk_179 (as : List Value) : zrk 179 as = 5 := zrk_n 179 as rfl
theorem zrk_180 (as : List Value) : zrk 180 as = 5 := zrk_n 180 as rfl
theorem zrk_181 (as : List Value) : zrk 181 as = 5 := zrk_n 181 as rfl
theorem zrk_182 (as : List Value) : zrk 182 as = 5 := zrk_n 182 as rfl
theorem zrk_183 (as : List Value) : zrk 183 as = 1 := zrk_n 183 as rfl
theorem zrk_184 (as : List Value) : zrk 184 as = 1 := zrk_n 184 as rfl
theorem zrk_185 (as : List Value) : zrk 185 as = 1 := zrk_n 185 as rfl
theorem zrk_186 (as : List Value) : zrk 186 as = 4 := zrk_n 186 as rfl
theorem zrk_187 (as : List Value) : zrk 187 as = 1 := zrk_n 187 as rfl
theorem zrk_188 (as : List Value) : zrk 188 as = 2 := zrk_n 188 as rfl
theorem zrk_189 (as : List Value) : zrk 189 as = 2 := zrk_n 189 as rfl
theorem zrk_190 (as : List Value) : zrk 190 as = 2 := zrk_n 190 as rfl
theorem zrk_191 (as : List Value) : zrk 191 as = 3 := zrk_n 191 as rfl
theorem zrk_192 (as : List Value) : zrk 192 as = 3 := zrk_n 192 as rfl
theorem zrk_193 (as : List Value) : zrk 193 as = 4 := zrk_n 193 as rfl
theorem zrk_194 (as : List Value) : zrk 194 as = 3 := zrk_n 194 as rfl
theorem zrk_195 (as : List Value) : zrk 195 as = 3 := zrk_n 195 as rfl
theorem zrk_196 (as : List Value) : zrk 196 as = 3 := zrk_n 196 as rfl
theorem zrk_197 (as : List Value) : zrk 197 as = 2 := zrk_n 197 as rfl
theorem zrk_198 (as : List Value) : zrk 198 as = 1 := zrk_n 198 as rfl
theorem zrk_199 (as : List Value) : zrk 199 as = 3 := zrk_n 199 as rfl
theorem zrk_200 (as : List Value) : zrk 200 as = 1 := zrk_n 200 as rfl
theorem zrk_201 (as : List Value) : zrk 201 as = 2 := zrk_n 201 as rfl
theorem zrk_202 (as : List Value) : zrk 202 as = 1 := zrk_n 202 as rfl
theorem zrk_203 (as : List Value) : zrk 203 as = 1 := zrk_n 203 as rfl
theorem zrk_204 (as : List Value) : zrk 204 as = 1 := zrk_n 204 as rfl
theorem zrk_205 (as : List Value) : zrk 205 as = 2 := zrk_n 205 as rfl
theorem zrk_206 (as : List Value) : zrk 206 as = 5 := zrk_n 206 as rfl
theorem zrk_207 (as : List Value) : zrk 207 as = 1 := zrk_n 207 as rfl
theorem zrk_208 (as : List Value) : zrk 208 as = 1 := zrk_n 208 as rfl
theorem zrk_209 (as : List Value) : zrk 209 as = 2 := zrk_n 209 as rfl
theorem zrk_210 (as : List Value) : zrk 210 as = 3 := zrk_n 210 as rfl
theorem zrk_211 (as : List Value) : zrk 211 as = 2 := zrk_n 211 as rfl
theorem zrk_212 (as : List Value) : zrk 212 as = 1 := zrk_n 212 as rfl
theorem zrk_213 (as : List Value) : zrk 213 as = 4 := zrk_n 213 as rfl
theorem zrk_214 (as : List Value) : zrk 214 as = 3 := zrk_n 214 as rfl
theorem zrk_215 (as : List Value) : zrk 215 as = 1 := zrk_n 215 as rfl
theorem zrk_216 (as : List Value) : zrk 216 as = 20 := zrk_n 216 as rfl
