/-! THE LAW'S LOOP, a turn and all -/
section LOO
variable {N : Nat} {xs : Nat → Int32} {vf : Bool} {s : Nat → Nat → Nat}
theorem iZ_and (n m : Nat) : iZ n &&& iZ m = iZ ((n &&& m : Nat) : Int) := by
  rw [← iZ_nI n, ← iZ_nI m, ← iZ_nI (n &&& m)]
  apply Int32.toBitVec_inj.mp
  show BitVec.ofNat 32 n &&& BitVec.ofNat 32 m = BitVec.ofNat 32 (n &&& m)
  rw [← BitVec.ofNat_and]
theorem and63 (x : Int32) : ∃ k : Nat, k < 64 ∧ x &&& 63 = iZ k := by
  have e : x = iZ (x.toBitVec.toNat : Nat) := by
    rw [← iZ_nI]
    apply Int32.toBitVec_inj.mp
    show x.toBitVec = BitVec.ofNat 32 x.toBitVec.toNat
    rw [BitVec.ofNat_toNat, BitVec.setWidth_eq]
  refine ⟨x.toBitVec.toNat &&& 63, Nat.lt_succ_of_le Nat.and_le_right, ?_⟩
  rw [← iZ_and]
  exact congrArg (fun y => y &&& 63) e
theorem ld0 (ro : zR) (ls : zL) (σ : zW) : rn ro 20 216 33 ls [.int (iZ ((0 : Nat) : Int))] σ = rn ro 20 216 184 ls [] σ := by
  have e : (iZ ((0 : Nat) : Int)).toInt = 0 := by decide
  rw [q216_33]
  simp only [zsw_cons, zsw_nil, e, Int.reduceAdd, Int.reduceEq, if_false, if_true, ↓reduceIte]
theorem ld1 (ro : zR) (ls : zL) (σ : zW) : rn ro 20 216 33 ls [.int (iZ ((1 : Nat) : Int))] σ = rn ro 20 216 217 ls [] σ := by
  have e : (iZ ((1 : Nat) : Int)).toInt = 1 := by decide
  rw [q216_33]
  simp only [zsw_cons, zsw_nil, e, Int.reduceAdd, Int.reduceEq, if_false, if_true, ↓reduceIte]
theorem ld2 (ro : zR) (ls : zL) (σ : zW) : rn ro 20 216 33 ls [.int (iZ ((2 : Nat) : Int))] σ = rn ro 20 216 250 ls [] σ := by
  have e : (iZ ((2 : Nat) : Int)).toInt = 2 := by decide
  rw [q216_33]
  simp only [zsw_cons, zsw_nil, e, Int.reduceAdd, Int.reduceEq, if_false, if_true, ↓reduceIte]
theorem ld3 (ro : zR) (ls : zL) (σ : zW) : rn ro 20 216 33 ls [.int (iZ ((3 : Nat) : Int))] σ = rn ro 20 216 293 ls [] σ := by
  have e : (iZ ((3 : Nat) : Int)).toInt = 3 := by decide
  rw [q216_33]
  simp only [zsw_cons, zsw_nil, e, Int.reduceAdd, Int.reduceEq, if_false, if_true, ↓reduceIte]
theorem ld4 (ro : zR) (ls : zL) (σ : zW) : rn ro 20 216 33 ls [.int (iZ ((4 : Nat) : Int))] σ = rn ro 20 216 326 ls [] σ := by
  have e : (iZ ((4 : Nat) : Int)).toInt = 4 := by decide
  rw [q216_33]
  simp only [zsw_cons, zsw_nil, e, Int.reduceAdd, Int.reduceEq, if_false, if_true, ↓reduceIte]
theorem ld5 (ro : zR) (ls : zL) (σ : zW) : rn ro 20 216 33 ls [.int (iZ ((5 : Nat) : Int))] σ = rn ro 20 216 349 ls [] σ := by
  have e : (iZ ((5 : Nat) : Int)).toInt = 5 := by decide
  rw [q216_33]
  simp only [zsw_cons, zsw_nil, e, Int.reduceAdd, Int.reduceEq, if_false, if_true, ↓reduceIte]
theorem ld6 (ro : zR) (ls : zL) (σ : zW) : rn ro 20 216 33 ls [.int (iZ ((6 : Nat) : Int))] σ = rn ro 20 216 372 ls [] σ := by
  have e : (iZ ((6 : Nat) : Int)).toInt = 6 := by decide
  rw [q216_33]
  simp only [zsw_cons, zsw_nil, e, Int.reduceAdd, Int.reduceEq, if_false, if_true, ↓reduceIte]
theorem ld7 (ro : zR) (ls : zL) (σ : zW) : rn ro 20 216 33 ls [.int (iZ ((7 : Nat) : Int))] σ = rn ro 20 216 395 ls [] σ := by
  have e : (iZ ((7 : Nat) : Int)).toInt = 7 := by decide
  rw [q216_33]
  simp only [zsw_cons, zsw_nil, e, Int.reduceAdd, Int.reduceEq, if_false, if_true, ↓reduceIte]
theorem ld8 (ro : zR) (ls : zL) (σ : zW) : rn ro 20 216 33 ls [.int (iZ ((8 : Nat) : Int))] σ = rn ro 20 216 408 ls [] σ := by
  have e : (iZ ((8 : Nat) : Int)).toInt = 8 := by decide
  rw [q216_33]
  simp only [zsw_cons, zsw_nil, e, Int.reduceAdd, Int.reduceEq, if_false, if_true, ↓reduceIte]
theorem ld9 (ro : zR) (ls : zL) (σ : zW) : rn ro 20 216 33 ls [.int (iZ ((9 : Nat) : Int))] σ = rn ro 20 216 421 ls [] σ := by
  have e : (iZ ((9 : Nat) : Int)).toInt = 9 := by decide
  rw [q216_33]
  simp only [zsw_cons, zsw_nil, e, Int.reduceAdd, Int.reduceEq, if_false, if_true, ↓reduceIte]
theorem ld10 (ro : zR) (ls : zL) (σ : zW) : rn ro 20 216 33 ls [.int (iZ ((10 : Nat) : Int))] σ = rn ro 20 216 486 ls [] σ := by
  have e : (iZ ((10 : Nat) : Int)).toInt = 10 := by decide
  rw [q216_33]
  simp only [zsw_cons, zsw_nil, e, Int.reduceAdd, Int.reduceEq, if_false, if_true, ↓reduceIte]
theorem ld11 (ro : zR) (ls : zL) (σ : zW) : rn ro 20 216 33 ls [.int (iZ ((11 : Nat) : Int))] σ = rn ro 20 216 499 ls [] σ := by
  have e : (iZ ((11 : Nat) : Int)).toInt = 11 := by decide
  rw [q216_33]
  simp only [zsw_cons, zsw_nil, e, Int.reduceAdd, Int.reduceEq, if_false, if_true, ↓reduceIte]
theorem ld12 (ro : zR) (ls : zL) (σ : zW) : rn ro 20 216 33 ls [.int (iZ ((12 : Nat) : Int))] σ = rn ro 20 216 512 ls [] σ := by
  have e : (iZ ((12 : Nat) : Int)).toInt = 12 := by decide
  rw [q216_33]
  simp only [zsw_cons, zsw_nil, e, Int.reduceAdd, Int.reduceEq, if_false, if_true, ↓reduceIte]
theorem ld13 (ro : zR) (ls : zL) (σ : zW) : rn ro 20 216 33 ls [.int (iZ ((13 : Nat) : Int))] σ = rn ro 20 216 545 ls [] σ := by
  have e : (iZ ((13 : Nat) : Int)).toInt = 13 := by decide
  rw [q216_33]
  simp only [zsw_cons, zsw_nil, e, Int.reduceAdd, Int.reduceEq, if_false, if_true, ↓reduceIte]
theorem ld14 (ro : zR) (ls : zL) (σ : zW) : rn ro 20 216 33 ls [.int (iZ ((14 : Nat) : Int))] σ = rn ro 20 216 578 ls [] σ := by
  have e : (iZ ((14 : Nat) : Int)).toInt = 14 := by decide
  rw [q216_33]
  simp only [zsw_cons, zsw_nil, e, Int.reduceAdd, Int.reduceEq, if_false, if_true, ↓reduceIte]
theorem ld15 (ro : zR) (ls : zL) (σ : zW) : rn ro 20 216 33 ls [.int (iZ ((15 : Nat) : Int))] σ = rn ro 20 216 591 ls [] σ := by
  have e : (iZ ((15 : Nat) : Int)).toInt = 15 := by decide
  rw [q216_33]
  simp only [zsw_cons, zsw_nil, e, Int.reduceAdd, Int.reduceEq, if_false, if_true, ↓reduceIte]
theorem ld16 (ro : zR) (ls : zL) (σ : zW) : rn ro 20 216 33 ls [.int (iZ ((16 : Nat) : Int))] σ = rn ro 20 216 614 ls [] σ := by
  have e : (iZ ((16 : Nat) : Int)).toInt = 16 := by decide
  rw [q216_33]
  simp only [zsw_cons, zsw_nil, e, Int.reduceAdd, Int.reduceEq, if_false, if_true, ↓reduceIte]
theorem ld17 (ro : zR) (ls : zL) (σ : zW) : rn ro 20 216 33 ls [.int (iZ ((17 : Nat) : Int))] σ = rn ro 20 216 627 ls [] σ := by
  have e : (iZ ((17 : Nat) : Int)).toInt = 17 := by decide
  rw [q216_33]
  simp only [zsw_cons, zsw_nil, e, Int.reduceAdd, Int.reduceEq, if_false, if_true, ↓reduceIte]
theorem ld18 (ro : zR) (ls : zL) (σ : zW) : rn ro 20 216 33 ls [.int (iZ ((18 : Nat) : Int))] σ = rn ro 20 216 640 ls [] σ := by
  have e : (iZ ((18 : Nat) : Int)).toInt = 18 := by decide
  rw [q216_33]
  simp only [zsw_cons, zsw_nil, e, Int.reduceAdd, Int.reduceEq, if_false, if_true, ↓reduceIte]
theorem ld19 (ro : zR) (ls : zL) (σ : zW) : rn ro 20 216 33 ls [.int (iZ ((19 : Nat) : Int))] σ = rn ro 20 216 653 ls [] σ := by
  have e : (iZ ((19 : Nat) : Int)).toInt = 19 := by decide
  rw [q216_33]
  simp only [zsw_cons, zsw_nil, e, Int.reduceAdd, Int.reduceEq, if_false, if_true, ↓reduceIte]
theorem ld20 (ro : zR) (ls : zL) (σ : zW) : rn ro 20 216 33 ls [.int (iZ ((20 : Nat) : Int))] σ = rn ro 20 216 676 ls [] σ := by
  have e : (iZ ((20 : Nat) : Int)).toInt = 20 := by decide
  rw [q216_33]
  simp only [zsw_cons, zsw_nil, e, Int.reduceAdd, Int.reduceEq, if_false, if_true, ↓reduceIte]
theorem ld21 (ro : zR) (ls : zL) (σ : zW) : rn ro 20 216 33 ls [.int (iZ ((21 : Nat) : Int))] σ = rn ro 20 216 719 ls [] σ := by
  have e : (iZ ((21 : Nat) : Int)).toInt = 21 := by decide
  rw [q216_33]
  simp only [zsw_cons, zsw_nil, e, Int.reduceAdd, Int.reduceEq, if_false, if_true, ↓reduceIte]
theorem ld22 (ro : zR) (ls : zL) (σ : zW) : rn ro 20 216 33 ls [.int (iZ ((22 : Nat) : Int))] σ = rn ro 20 216 742 ls [] σ := by
  have e : (iZ ((22 : Nat) : Int)).toInt = 22 := by decide
  rw [q216_33]
  simp only [zsw_cons, zsw_nil, e, Int.reduceAdd, Int.reduceEq, if_false, if_true, ↓reduceIte]
theorem ld23 (ro : zR) (ls : zL) (σ : zW) : rn ro 20 216 33 ls [.int (iZ ((23 : Nat) : Int))] σ = rn ro 20 216 775 ls [] σ := by
  have e : (iZ ((23 : Nat) : Int)).toInt = 23 := by decide
  rw [q216_33]
  simp only [zsw_cons, zsw_nil, e, Int.reduceAdd, Int.reduceEq, if_false, if_true, ↓reduceIte]
theorem ld24 (ro : zR) (ls : zL) (σ : zW) : rn ro 20 216 33 ls [.int (iZ ((24 : Nat) : Int))] σ = rn ro 20 216 808 ls [] σ := by
  have e : (iZ ((24 : Nat) : Int)).toInt = 24 := by decide
  rw [q216_33]
  simp only [zsw_cons, zsw_nil, e, Int.reduceAdd, Int.reduceEq, if_false, if_true, ↓reduceIte]
theorem ld25 (ro : zR) (ls : zL) (σ : zW) : rn ro 20 216 33 ls [.int (iZ ((25 : Nat) : Int))] σ = rn ro 20 216 871 ls [] σ := by
  have e : (iZ ((25 : Nat) : Int)).toInt = 25 := by decide
  rw [q216_33]
  simp only [zsw_cons, zsw_nil, e, Int.reduceAdd, Int.reduceEq, if_false, if_true, ↓reduceIte]
theorem ld26 (ro : zR) (ls : zL) (σ : zW) : rn ro 20 216 33 ls [.int (iZ ((26 : Nat) : Int))] σ = rn ro 20 216 894 ls [] σ := by
  have e : (iZ ((26 : Nat) : Int)).toInt = 26 := by decide
  rw [q216_33]
  simp only [zsw_cons, zsw_nil, e, Int.reduceAdd, Int.reduceEq, if_false, if_true, ↓reduceIte]
theorem ld27 (ro : zR) (ls : zL) (σ : zW) : rn ro 20 216 33 ls [.int (iZ ((27 : Nat) : Int))] σ = rn ro 20 216 947 ls [] σ := by
  have e : (iZ ((27 : Nat) : Int)).toInt = 27 := by decide
  rw [q216_33]
  simp only [zsw_cons, zsw_nil, e, Int.reduceAdd, Int.reduceEq, if_false, if_true, ↓reduceIte]
theorem ld28 (ro : zR) (ls : zL) (σ : zW) : rn ro 20 216 33 ls [.int (iZ ((28 : Nat) : Int))] σ = rn ro 20 216 980 ls [] σ := by
  have e : (iZ ((28 : Nat) : Int)).toInt = 28 := by decide
  rw [q216_33]
  simp only [zsw_cons, zsw_nil, e, Int.reduceAdd, Int.reduceEq, if_false, if_true, ↓reduceIte]
theorem ld29 (ro : zR) (ls : zL) (σ : zW) : rn ro 20 216 33 ls [.int (iZ ((29 : Nat) : Int))] σ = rn ro 20 216 1004 ls [] σ := by
  have e : (iZ ((29 : Nat) : Int)).toInt = 29 := by decide
  rw [q216_33]
  simp only [zsw_cons, zsw_nil, e, Int.reduceAdd, Int.reduceEq, if_false, if_true, ↓reduceIte]
theorem ld30 (ro : zR) (ls : zL) (σ : zW) : rn ro 20 216 33 ls [.int (iZ ((30 : Nat) : Int))] σ = rn ro 20 216 1027 ls [] σ := by
  have e : (iZ ((30 : Nat) : Int)).toInt = 30 := by decide
  rw [q216_33]
  simp only [zsw_cons, zsw_nil, e, Int.reduceAdd, Int.reduceEq, if_false, if_true, ↓reduceIte]
theorem ld31 (ro : zR) (ls : zL) (σ : zW) : rn ro 20 216 33 ls [.int (iZ ((31 : Nat) : Int))] σ = rn ro 20 216 1050 ls [] σ := by
  have e : (iZ ((31 : Nat) : Int)).toInt = 31 := by decide
  rw [q216_33]
  simp only [zsw_cons, zsw_nil, e, Int.reduceAdd, Int.reduceEq, if_false, if_true, ↓reduceIte]
theorem ld32 (ro : zR) (ls : zL) (σ : zW) : rn ro 20 216 33 ls [.int (iZ ((32 : Nat) : Int))] σ = rn ro 20 216 1073 ls [] σ := by
  have e : (iZ ((32 : Nat) : Int)).toInt = 32 := by decide
  rw [q216_33]
  simp only [zsw_cons, zsw_nil, e, Int.reduceAdd, Int.reduceEq, if_false, if_true, ↓reduceIte]
theorem ld33 (ro : zR) (ls : zL) (σ : zW) : rn ro 20 216 33 ls [.int (iZ ((33 : Nat) : Int))] σ = rn ro 20 216 1096 ls [] σ := by
  have e : (iZ ((33 : Nat) : Int)).toInt = 33 := by decide
  rw [q216_33]
  simp only [zsw_cons, zsw_nil, e, Int.reduceAdd, Int.reduceEq, if_false, if_true, ↓reduceIte]
theorem ldD (ro : zR) (ls : zL) (σ : zW) {k : Nat} (h : 34 ≤ k ∧ k < 64) : rn ro 20 216 33 ls [.int (iZ (k : Int))] σ = rn ro 20 216 1110 ls [] σ := by
  rw [q216_33, zsw_spec, iZ_T (by omega), if_pos]
  refine Or.inr ?_
  show (0 : Int) + ((34 : Nat) : Int) ≤ (k : Int)
  omega
def TurnOk (N : Nat) (xs : Nat → Int32) (vf : Bool) (i : Nat) (A : Nat → Nat → Int32) (L : Nat → Nat → Int64) (pc : Nat) : Prop := ∃ A2 L2 s', rn (zro N xs vf) 20 216 pc [(0, .ref 1000), (1, .ref 0), (2, .ref 62), (3, .int (iZ i))] [] (hp A L) = rn (zro N xs vf) 20 216 18 [(0, .ref 1000), (1, .ref 0), (2, .ref 62), (3, .int (iZ ((i + 6 : Nat) : Int)))] [] (hp A2 L2) ∧ CInv A2 L2 s' ∧ MInv A2 L2 s' ∧ SInv s' 
theorem tn0 {i : Nat} (hi : i + 5 < N) (hN : N < 2147483648) {A : Nat → Nat → Int32} {L : Nat → Nat → Int64} (c : CInv A L s) (m : MInv A L s) (q : SInv s) : TurnOk N xs vf i A L 184 := by
  obtain ⟨v, s', oc, om, qs⟩ := op0 (N := N) (xs := xs) (vf := vf) q (xs (i + 1)) (xs (i + 2))
  obtain ⟨A1, L1, a1, a2, a3⟩ := oc A L c
  obtain ⟨A2, L2, d1, d2, d3⟩ := om A1 L1 (m.far a3)
  exact ⟨A2, L2, s', lw0 hi hN a1 d1, a2.far d3, d2, qs⟩
theorem tn1 {i : Nat} (hi : i + 5 < N) (hN : N < 2147483648) {A : Nat → Nat → Int32} {L : Nat → Nat → Int64} (c : CInv A L s) (m : MInv A L s) (q : SInv s) : TurnOk N xs vf i A L 217 := by
  obtain ⟨v, s', oc, om, qs⟩ := op1 (N := N) (xs := xs) (vf := vf) q (xs (i + 1)) (xs (i + 2))
  obtain ⟨A1, L1, a1, a2, a3⟩ := oc A L c
  obtain ⟨A2, L2, d1, d2, d3⟩ := om A1 L1 (m.far a3)
  exact ⟨A2, L2, s', lw1 hi hN a1 d1, a2.far d3, d2, qs⟩
theorem tn2 {i : Nat} (hi : i + 5 < N) (hN : N < 2147483648) {A : Nat → Nat → Int32} {L : Nat → Nat → Int64} (c : CInv A L s) (m : MInv A L s) (q : SInv s) : TurnOk N xs vf i A L 250 := by
  obtain ⟨v, s', oc, om, qs⟩ := op2 (N := N) (xs := xs) (vf := vf) q (xs (i + 1)) (xs (i + 2)) (xs (i + 3))
  obtain ⟨A1, L1, a1, a2, a3⟩ := oc A L c
  obtain ⟨A2, L2, d1, d2, d3⟩ := om A1 L1 (m.far a3)
  exact ⟨A2, L2, s', lw2 hi hN a1 d1, a2.far d3, d2, qs⟩
theorem tn3 {i : Nat} (hi : i + 5 < N) (hN : N < 2147483648) {A : Nat → Nat → Int32} {L : Nat → Nat → Int64} (c : CInv A L s) (m : MInv A L s) (q : SInv s) : TurnOk N xs vf i A L 293 := by
  obtain ⟨v, s', oc, om, qs⟩ := op3 (N := N) (xs := xs) (vf := vf) q (xs (i + 1)) (xs (i + 2))
  obtain ⟨A1, L1, a1, a2, a3⟩ := oc A L c
  obtain ⟨A2, L2, d1, d2, d3⟩ := om A1 L1 (m.far a3)
  exact ⟨A2, L2, s', lw3 hi hN a1 d1, a2.far d3, d2, qs⟩
theorem tn4 {i : Nat} (hi : i + 5 < N) (hN : N < 2147483648) {A : Nat → Nat → Int32} {L : Nat → Nat → Int64} (c : CInv A L s) (m : MInv A L s) (q : SInv s) : TurnOk N xs vf i A L 326 := by
  obtain ⟨v, s', oc, om, qs⟩ := op4 (N := N) (xs := xs) (vf := vf) q (xs (i + 1))
  obtain ⟨A1, L1, a1, a2, a3⟩ := oc A L c
  obtain ⟨A2, L2, d1, d2, d3⟩ := om A1 L1 (m.far a3)
  exact ⟨A2, L2, s', lw4 hi hN a1 d1, a2.far d3, d2, qs⟩
theorem tn5 {i : Nat} (hi : i + 5 < N) (hN : N < 2147483648) {A : Nat → Nat → Int32} {L : Nat → Nat → Int64} (c : CInv A L s) (m : MInv A L s) (q : SInv s) : TurnOk N xs vf i A L 349 := by
  obtain ⟨v, s', oc, om, qs⟩ := op5 (N := N) (xs := xs) (vf := vf) q (xs (i + 1))
  obtain ⟨A1, L1, a1, a2, a3⟩ := oc A L c
  obtain ⟨A2, L2, d1, d2, d3⟩ := om A1 L1 (m.far a3)
  exact ⟨A2, L2, s', lw5 hi hN a1 d1, a2.far d3, d2, qs⟩
theorem tn6 {i : Nat} (hi : i + 5 < N) (hN : N < 2147483648) {A : Nat → Nat → Int32} {L : Nat → Nat → Int64} (c : CInv A L s) (m : MInv A L s) (q : SInv s) : TurnOk N xs vf i A L 372 := by
  obtain ⟨v, s', oc, om, qs⟩ := op6 (N := N) (xs := xs) (vf := vf) q (xs (i + 1))
  obtain ⟨A1, L1, a1, a2, a3⟩ := oc A L c
  obtain ⟨A2, L2, d1, d2, d3⟩ := om A1 L1 (m.far a3)
  exact ⟨A2, L2, s', lw6 hi hN a1 d1, a2.far d3, d2, qs⟩
theorem tn7 {i : Nat} (hi : i + 5 < N) (hN : N < 2147483648) {A : Nat → Nat → Int32} {L : Nat → Nat → Int64} (c : CInv A L s) (m : MInv A L s) (q : SInv s) : TurnOk N xs vf i A L 395 := by
  obtain ⟨v, s', oc, om, qs⟩ := op7 (N := N) (xs := xs) (vf := vf) q 
  obtain ⟨A1, L1, a1, a2, a3⟩ := oc A L c
  obtain ⟨A2, L2, d1, d2, d3⟩ := om A1 L1 (m.far a3)
  exact ⟨A2, L2, s', lw7 hi hN a1 d1, a2.far d3, d2, qs⟩
theorem tn8 {i : Nat} (hi : i + 5 < N) (hN : N < 2147483648) {A : Nat → Nat → Int32} {L : Nat → Nat → Int64} (c : CInv A L s) (m : MInv A L s) (q : SInv s) : TurnOk N xs vf i A L 408 := by
  obtain ⟨v, s', oc, om, qs⟩ := op8 (N := N) (xs := xs) (vf := vf) q 
  obtain ⟨A1, L1, a1, a2, a3⟩ := oc A L c
  obtain ⟨A2, L2, d1, d2, d3⟩ := om A1 L1 (m.far a3)
  exact ⟨A2, L2, s', lw8 hi hN a1 d1, a2.far d3, d2, qs⟩
theorem tn9 {i : Nat} (hi : i + 5 < N) (hN : N < 2147483648) {A : Nat → Nat → Int32} {L : Nat → Nat → Int64} (c : CInv A L s) (m : MInv A L s) (q : SInv s) : TurnOk N xs vf i A L 421 := by
  by_cases b1 : xs (i + 1) = 0
  · by_cases b2 : xs (i + 2) = 0
    · obtain ⟨v, s', oc, om, qs⟩ := op9_00 (N := N) (xs := xs) (vf := vf) q
      obtain ⟨A1, L1, a1, a2, a3⟩ := oc A L c
      obtain ⟨A2, L2, d1, d2, d3⟩ := om A1 L1 (m.far a3)
      exact ⟨A2, L2, s', lw9_00 hi hN b1 b2 a1 d1, a2.far d3, d2, qs⟩
    · obtain ⟨v, s', oc, om, qs⟩ := op9_01 (N := N) (xs := xs) (vf := vf) q
      obtain ⟨A1, L1, a1, a2, a3⟩ := oc A L c
      obtain ⟨A2, L2, d1, d2, d3⟩ := om A1 L1 (m.far a3)
      exact ⟨A2, L2, s', lw9_01 hi hN b1 b2 a1 d1, a2.far d3, d2, qs⟩
  · by_cases b2 : xs (i + 2) = 0
    · obtain ⟨v, s', oc, om, qs⟩ := op9_10 (N := N) (xs := xs) (vf := vf) q
      obtain ⟨A1, L1, a1, a2, a3⟩ := oc A L c
      obtain ⟨A2, L2, d1, d2, d3⟩ := om A1 L1 (m.far a3)
      exact ⟨A2, L2, s', lw9_10 hi hN b1 b2 a1 d1, a2.far d3, d2, qs⟩
    · obtain ⟨v, s', oc, om, qs⟩ := op9_11 (N := N) (xs := xs) (vf := vf) q
      obtain ⟨A1, L1, a1, a2, a3⟩ := oc A L c
      obtain ⟨A2, L2, d1, d2, d3⟩ := om A1 L1 (m.far a3)
      exact ⟨A2, L2, s', lw9_11 hi hN b1 b2 a1 d1, a2.far d3, d2, qs⟩
theorem tn10 {i : Nat} (hi : i + 5 < N) (hN : N < 2147483648) {A : Nat → Nat → Int32} {L : Nat → Nat → Int64} (c : CInv A L s) (m : MInv A L s) (q : SInv s) : TurnOk N xs vf i A L 486 := by
  obtain ⟨v, s', oc, om, qs⟩ := op10 (N := N) (xs := xs) (vf := vf) q 
  obtain ⟨A1, L1, a1, a2, a3⟩ := oc A L c
  obtain ⟨A2, L2, d1, d2, d3⟩ := om A1 L1 (m.far a3)
  exact ⟨A2, L2, s', lw10 hi hN a1 d1, a2.far d3, d2, qs⟩
theorem tn11 {i : Nat} (hi : i + 5 < N) (hN : N < 2147483648) {A : Nat → Nat → Int32} {L : Nat → Nat → Int64} (c : CInv A L s) (m : MInv A L s) (q : SInv s) : TurnOk N xs vf i A L 499 := by
  obtain ⟨v, s', oc, om, qs⟩ := op11 (N := N) (xs := xs) (vf := vf) q 
  obtain ⟨A1, L1, a1, a2, a3⟩ := oc A L c
  obtain ⟨A2, L2, d1, d2, d3⟩ := om A1 L1 (m.far a3)
  exact ⟨A2, L2, s', lw11 hi hN a1 d1, a2.far d3, d2, qs⟩
theorem tn12 {i : Nat} (hi : i + 5 < N) (hN : N < 2147483648) {A : Nat → Nat → Int32} {L : Nat → Nat → Int64} (c : CInv A L s) (m : MInv A L s) (q : SInv s) : TurnOk N xs vf i A L 512 := by
  obtain ⟨v, s', oc, om, qs⟩ := op12 (N := N) (xs := xs) (vf := vf) q (xs (i + 1)) (xs (i + 2))
  obtain ⟨A1, L1, a1, a2, a3⟩ := oc A L c
  obtain ⟨A2, L2, d1, d2, d3⟩ := om A1 L1 (m.far a3)
  exact ⟨A2, L2, s', lw12 hi hN a1 d1, a2.far d3, d2, qs⟩
theorem tn13 {i : Nat} (hi : i + 5 < N) (hN : N < 2147483648) {A : Nat → Nat → Int32} {L : Nat → Nat → Int64} (c : CInv A L s) (m : MInv A L s) (q : SInv s) : TurnOk N xs vf i A L 545 := by
  obtain ⟨v, s', oc, om, qs⟩ := op13 (N := N) (xs := xs) (vf := vf) q (xs (i + 1)) (xs (i + 2))
  obtain ⟨A1, L1, a1, a2, a3⟩ := oc A L c
  obtain ⟨A2, L2, d1, d2, d3⟩ := om A1 L1 (m.far a3)
  exact ⟨A2, L2, s', lw13 hi hN a1 d1, a2.far d3, d2, qs⟩
theorem tn14 {i : Nat} (hi : i + 5 < N) (hN : N < 2147483648) {A : Nat → Nat → Int32} {L : Nat → Nat → Int64} (c : CInv A L s) (m : MInv A L s) (q : SInv s) : TurnOk N xs vf i A L 578 := by
  obtain ⟨v, s', oc, om, qs⟩ := op14 (N := N) (xs := xs) (vf := vf) q 
  obtain ⟨A1, L1, a1, a2, a3⟩ := oc A L c
  obtain ⟨A2, L2, d1, d2, d3⟩ := om A1 L1 (m.far a3)
  exact ⟨A2, L2, s', lw14 hi hN a1 d1, a2.far d3, d2, qs⟩
theorem tn15 {i : Nat} (hi : i + 5 < N) (hN : N < 2147483648) {A : Nat → Nat → Int32} {L : Nat → Nat → Int64} (c : CInv A L s) (m : MInv A L s) (q : SInv s) : TurnOk N xs vf i A L 591 := by
  obtain ⟨v, s', oc, om, qs⟩ := op15 (N := N) (xs := xs) (vf := vf) q (xs (i + 1))
  obtain ⟨A1, L1, a1, a2, a3⟩ := oc A L c
  obtain ⟨A2, L2, d1, d2, d3⟩ := om A1 L1 (m.far a3)
  exact ⟨A2, L2, s', lw15 hi hN a1 d1, a2.far d3, d2, qs⟩
theorem tn16 {i : Nat} (hi : i + 5 < N) (hN : N < 2147483648) {A : Nat → Nat → Int32} {L : Nat → Nat → Int64} (c : CInv A L s) (m : MInv A L s) (q : SInv s) : TurnOk N xs vf i A L 614 := by
  obtain ⟨v, s', oc, om, qs⟩ := op16 (N := N) (xs := xs) (vf := vf) q 
  obtain ⟨A1, L1, a1, a2, a3⟩ := oc A L c
  obtain ⟨A2, L2, d1, d2, d3⟩ := om A1 L1 (m.far a3)
  exact ⟨A2, L2, s', lw16 hi hN a1 d1, a2.far d3, d2, qs⟩
theorem tn17 {i : Nat} (hi : i + 5 < N) (hN : N < 2147483648) {A : Nat → Nat → Int32} {L : Nat → Nat → Int64} (c : CInv A L s) (m : MInv A L s) (q : SInv s) : TurnOk N xs vf i A L 627 := by
  obtain ⟨v, s', oc, om, qs⟩ := op17 (N := N) (xs := xs) (vf := vf) q 
  obtain ⟨A1, L1, a1, a2, a3⟩ := oc A L c
  obtain ⟨A2, L2, d1, d2, d3⟩ := om A1 L1 (m.far a3)
  exact ⟨A2, L2, s', lw17 hi hN a1 d1, a2.far d3, d2, qs⟩
theorem tn18 {i : Nat} (hi : i + 5 < N) (hN : N < 2147483648) {A : Nat → Nat → Int32} {L : Nat → Nat → Int64} (c : CInv A L s) (m : MInv A L s) (q : SInv s) : TurnOk N xs vf i A L 640 := by
  obtain ⟨v, s', oc, om, qs⟩ := op18 (N := N) (xs := xs) (vf := vf) q 
  obtain ⟨A1, L1, a1, a2, a3⟩ := oc A L c
  obtain ⟨A2, L2, d1, d2, d3⟩ := om A1 L1 (m.far a3)
  exact ⟨A2, L2, s', lw18 hi hN a1 d1, a2.far d3, d2, qs⟩
theorem tn19 {i : Nat} (hi : i + 5 < N) (hN : N < 2147483648) {A : Nat → Nat → Int32} {L : Nat → Nat → Int64} (c : CInv A L s) (m : MInv A L s) (q : SInv s) : TurnOk N xs vf i A L 653 := by
  obtain ⟨v, s', oc, om, qs⟩ := op19 (N := N) (xs := xs) (vf := vf) q (xs (i + 1))
  obtain ⟨A1, L1, a1, a2, a3⟩ := oc A L c
  obtain ⟨A2, L2, d1, d2, d3⟩ := om A1 L1 (m.far a3)
  exact ⟨A2, L2, s', lw19 hi hN a1 d1, a2.far d3, d2, qs⟩
theorem tn20 {i : Nat} (hi : i + 5 < N) (hN : N < 2147483648) {A : Nat → Nat → Int32} {L : Nat → Nat → Int64} (c : CInv A L s) (m : MInv A L s) (q : SInv s) : TurnOk N xs vf i A L 676 := by
  obtain ⟨v, s', oc, om, qs⟩ := op20 (N := N) (xs := xs) (vf := vf) q (xs (i + 1)) (xs (i + 2)) (xs (i + 3))
  obtain ⟨A1, L1, a1, a2, a3⟩ := oc A L c
  obtain ⟨A2, L2, d1, d2, d3⟩ := om A1 L1 (m.far a3)
  exact ⟨A2, L2, s', lw20 hi hN a1 d1, a2.far d3, d2, qs⟩
theorem tn21 {i : Nat} (hi : i + 5 < N) (hN : N < 2147483648) {A : Nat → Nat → Int32} {L : Nat → Nat → Int64} (c : CInv A L s) (m : MInv A L s) (q : SInv s) : TurnOk N xs vf i A L 719 := by
  obtain ⟨v, s', oc, om, qs⟩ := op21 (N := N) (xs := xs) (vf := vf) q (xs (i + 1))
  obtain ⟨A1, L1, a1, a2, a3⟩ := oc A L c
  obtain ⟨A2, L2, d1, d2, d3⟩ := om A1 L1 (m.far a3)
  exact ⟨A2, L2, s', lw21 hi hN a1 d1, a2.far d3, d2, qs⟩
theorem tn22 {i : Nat} (hi : i + 5 < N) (hN : N < 2147483648) {A : Nat → Nat → Int32} {L : Nat → Nat → Int64} (c : CInv A L s) (m : MInv A L s) (q : SInv s) : TurnOk N xs vf i A L 742 := by
  obtain ⟨v, s', oc, om, qs⟩ := op22 (N := N) (xs := xs) (vf := vf) q (xs (i + 1)) (xs (i + 2))
  obtain ⟨A1, L1, a1, a2, a3⟩ := oc A L c
  obtain ⟨A2, L2, d1, d2, d3⟩ := om A1 L1 (m.far a3)
  exact ⟨A2, L2, s', lw22 hi hN a1 d1, a2.far d3, d2, qs⟩
theorem tn23 {i : Nat} (hi : i + 5 < N) (hN : N < 2147483648) {A : Nat → Nat → Int32} {L : Nat → Nat → Int64} (c : CInv A L s) (m : MInv A L s) (q : SInv s) : TurnOk N xs vf i A L 775 := by
  obtain ⟨v, s', oc, om, qs⟩ := op23 (N := N) (xs := xs) (vf := vf) q (xs (i + 1)) (xs (i + 2))
  obtain ⟨A1, L1, a1, a2, a3⟩ := oc A L c
  obtain ⟨A2, L2, d1, d2, d3⟩ := om A1 L1 (m.far a3)
  exact ⟨A2, L2, s', lw23 hi hN a1 d1, a2.far d3, d2, qs⟩
theorem tn24 {i : Nat} (hi : i + 5 < N) (hN : N < 2147483648) {A : Nat → Nat → Int32} {L : Nat → Nat → Int64} (c : CInv A L s) (m : MInv A L s) (q : SInv s) : TurnOk N xs vf i A L 808 := by
  obtain ⟨v, s', oc, om, qs⟩ := op24 (N := N) (xs := xs) (vf := vf) q (xs (i + 1)) (xs (i + 2)) (xs (i + 3)) (xs (i + 4)) (xs (i + 5))
  obtain ⟨A1, L1, a1, a2, a3⟩ := oc A L c
  obtain ⟨A2, L2, d1, d2, d3⟩ := om A1 L1 (m.far a3)
  exact ⟨A2, L2, s', lw24 hi hN a1 d1, a2.far d3, d2, qs⟩
theorem tn25 {i : Nat} (hi : i + 5 < N) (hN : N < 2147483648) {A : Nat → Nat → Int32} {L : Nat → Nat → Int64} (c : CInv A L s) (m : MInv A L s) (q : SInv s) : TurnOk N xs vf i A L 871 := by
  obtain ⟨v, s', oc, om, qs⟩ := op25 (N := N) (xs := xs) (vf := vf) q (xs (i + 1))
  obtain ⟨A1, L1, a1, a2, a3⟩ := oc A L c
  obtain ⟨A2, L2, d1, d2, d3⟩ := om A1 L1 (m.far a3)
  exact ⟨A2, L2, s', lw25 hi hN a1 d1, a2.far d3, d2, qs⟩
theorem tn26 {i : Nat} (hi : i + 5 < N) (hN : N < 2147483648) {A : Nat → Nat → Int32} {L : Nat → Nat → Int64} (c : CInv A L s) (m : MInv A L s) (q : SInv s) : TurnOk N xs vf i A L 894 := by
  obtain ⟨v, s', oc, om, qs⟩ := op26 (N := N) (xs := xs) (vf := vf) q (xs (i + 1)) (xs (i + 2)) (xs (i + 3)) (xs (i + 4))
  obtain ⟨A1, L1, a1, a2, a3⟩ := oc A L c
  obtain ⟨A2, L2, d1, d2, d3⟩ := om A1 L1 (m.far a3)
  exact ⟨A2, L2, s', lw26 hi hN a1 d1, a2.far d3, d2, qs⟩
theorem tn27 {i : Nat} (hi : i + 5 < N) (hN : N < 2147483648) {A : Nat → Nat → Int32} {L : Nat → Nat → Int64} (c : CInv A L s) (m : MInv A L s) (q : SInv s) : TurnOk N xs vf i A L 947 := by
  obtain ⟨v, s', oc, om, qs⟩ := op27 (N := N) (xs := xs) (vf := vf) q (xs (i + 1)) (xs (i + 2))
  obtain ⟨A1, L1, a1, a2, a3⟩ := oc A L c
  obtain ⟨A2, L2, d1, d2, d3⟩ := om A1 L1 (m.far a3)
  exact ⟨A2, L2, s', lw27 hi hN a1 d1, a2.far d3, d2, qs⟩
theorem tn28 {i : Nat} (hi : i + 5 < N) (hN : N < 2147483648) {A : Nat → Nat → Int32} {L : Nat → Nat → Int64} (c : CInv A L s) (m : MInv A L s) (q : SInv s) : TurnOk N xs vf i A L 980 := by
  obtain ⟨v, s', oc, om, qs⟩ := op28 (N := N) (xs := xs) (vf := vf) q (xs (i + 1))
  obtain ⟨A1, L1, a1, a2, a3⟩ := oc A L c
  obtain ⟨A2, L2, d1, d2, d3⟩ := om A1 L1 (m.far a3)
  exact ⟨A2, L2, s', lw28 hi hN a1 d1, a2.far d3, d2, qs⟩
theorem tn29 {i : Nat} (hi : i + 5 < N) (hN : N < 2147483648) {A : Nat → Nat → Int32} {L : Nat → Nat → Int64} (c : CInv A L s) (m : MInv A L s) (q : SInv s) : TurnOk N xs vf i A L 1004 := by
  obtain ⟨v, s', oc, om, qs⟩ := op29 (N := N) (xs := xs) (vf := vf) q (xs (i + 1))
  obtain ⟨A1, L1, a1, a2, a3⟩ := oc A L c
  obtain ⟨A2, L2, d1, d2, d3⟩ := om A1 L1 (m.far a3)
  exact ⟨A2, L2, s', lw29 hi hN a1 d1, a2.far d3, d2, qs⟩
theorem tn30 {i : Nat} (hi : i + 5 < N) (hN : N < 2147483648) {A : Nat → Nat → Int32} {L : Nat → Nat → Int64} (c : CInv A L s) (m : MInv A L s) (q : SInv s) : TurnOk N xs vf i A L 1027 := by
  obtain ⟨v, s', oc, om, qs⟩ := op30 (N := N) (xs := xs) (vf := vf) q (xs (i + 1))
  obtain ⟨A1, L1, a1, a2, a3⟩ := oc A L c
  obtain ⟨A2, L2, d1, d2, d3⟩ := om A1 L1 (m.far a3)
  exact ⟨A2, L2, s', lw30 hi hN a1 d1, a2.far d3, d2, qs⟩
theorem tn31 {i : Nat} (hi : i + 5 < N) (hN : N < 2147483648) {A : Nat → Nat → Int32} {L : Nat → Nat → Int64} (c : CInv A L s) (m : MInv A L s) (q : SInv s) : TurnOk N xs vf i A L 1050 := by
  obtain ⟨v, s', oc, om, qs⟩ := op31 (N := N) (xs := xs) (vf := vf) q (xs (i + 1))
  obtain ⟨A1, L1, a1, a2, a3⟩ := oc A L c
  obtain ⟨A2, L2, d1, d2, d3⟩ := om A1 L1 (m.far a3)
  exact ⟨A2, L2, s', lw31 hi hN a1 d1, a2.far d3, d2, qs⟩
theorem tn32 {i : Nat} (hi : i + 5 < N) (hN : N < 2147483648) {A : Nat → Nat → Int32} {L : Nat → Nat → Int64} (c : CInv A L s) (m : MInv A L s) (q : SInv s) : TurnOk N xs vf i A L 1073 := by
  obtain ⟨v, s', oc, om, qs⟩ := op32 (N := N) (xs := xs) (vf := vf) q (xs (i + 1))
  obtain ⟨A1, L1, a1, a2, a3⟩ := oc A L c
  obtain ⟨A2, L2, d1, d2, d3⟩ := om A1 L1 (m.far a3)
  exact ⟨A2, L2, s', lw32 hi hN a1 d1, a2.far d3, d2, qs⟩
theorem tn33 {i : Nat} (hi : i + 5 < N) (hN : N < 2147483648) {A : Nat → Nat → Int32} {L : Nat → Nat → Int64} (c : CInv A L s) (m : MInv A L s) (q : SInv s) : TurnOk N xs vf i A L 1096 := by
  obtain ⟨v, s', oc, om, qs⟩ := op33 (N := N) (xs := xs) (vf := vf) q 
  obtain ⟨A1, L1, a1, a2, a3⟩ := oc A L c
  obtain ⟨A2, L2, d1, d2, d3⟩ := om A1 L1 (m.far a3)
  exact ⟨A2, L2, s', lw33 hi hN a1 d1, a2.far d3, d2, qs⟩
theorem turn {i : Nat} (hi : i + 5 < N) (hN : N ≤ 384) {A : Nat → Nat → Int32} {L : Nat → Nat → Int64} (c : CInv A L s) (m : MInv A L s) (q : SInv s) : TurnOk N xs vf i A L 18 := by
  obtain ⟨k, hk, ek⟩ := and63 (xs i)
  have g : ¬ iZ ((N : Int) - 6) < iZ (i : Int) := by
    rw [iZ_lt (by omega)]
    omega
  have e6 : iZ (N : Int) - 6 = iZ ((N : Int) - 6) := by rw [show (6 : Int32) = iZ 6 from rfl, iZ_sub]
  have st : rn (zro N xs vf) 20 216 18 [(0, .ref 1000), (1, .ref 0), (2, .ref 62), (3, .int (iZ i))] [] (hp A L) = rn (zro N xs vf) 20 216 33 [(0, .ref 1000), (1, .ref 0), (2, .ref 62), (3, .int (iZ i))] [.int (iZ (k : Int))] (hp A L) := by
    simp only [q216_18, q216_19, q216_20, q216_21, q216_23, q216_24, q216_27, q216_28, q216_29, q216_30, q216_32, kI_app, kJ_app, kP_app, kV_app, kS_app, kC_app, kN_app, kM_app, zsw_cons, zsw_nil, lv_args_I, lv_args_R, lv_args_L, lv_args_nil, zlook_cons, zrI_some, zrJ_some, zrP_some, zrC_some, zrA_rw, zrAS_rw, zrLen_rw, zst1_nil, zst1_cI, zst1_cR, zst1_cL, zrm1_nil, zrm1_cI, zrm1_cR, zrm1_cL, zst2_nil, zst2_cI, zst2_cR, zst2_cL, zrm2_nil, zrm2_cI, zrm2_cR, zrm2_cL, zkeep_nil, zkeep_cons, zsum_nil, zsum_I, zsum_R, zsum_L, zsum_N, toL_s, toL_n, List.cons_append, List.nil_append, List.mem_cons, List.not_mem_nil, reduceCtorEq, Nat.reduceAdd, Nat.reduceLT, Nat.reduceLeDiff, Nat.reduceEqDiff, Nat.zero_ne_one, Nat.one_ne_zero, Nat.add_zero, Nat.zero_add, or_false, false_or, or_true, true_or, and_true, true_and, and_self, ↓reduceIte, Nat.succ_ne_self, Nat.reduceGT, Nat.reduceSub, Nat.le_refl, Nat.zero_le, zis_O, cl_is, clG_0, clG_1, clG_2, clG_3, clG_4, clG_5, clG_6, clS_6, clG_7, clG_8, clG_9, clS_9, clG_10, clG_11, clS_11, clG_12, clS_12, clG_13, clS_13, clG_14, clS_14, clG_15, clS_15, clG_16, clG_17, clS_17, od_is, odG_0, odG_1, odS_1, odG_2, odG_3, odS_3, odG_4, re_is, reG_0, reS_0, reG_1, reG_2, reG_3, reS_3, reG_4, reS_4, reG_5, reS_5, reG_6, reS_6, wo_is, woG_0, woG_1, woG_2, woS_2, woG_3, lm_is, lmG_0, lmG_1, lmG_2, lmG_3, lmG_4, lmG_5, lmG_6, lmG_7, lmG_8, lmS_8, lmG_9, lmS_9, lmG_10, lmS_10, lmG_11, lmS_11, lmG_12, lmS_12, mo_is, moG_0, moG_1, moG_2, moG_3, moG_4, moG_5, moS_5, moG_6, moS_6, moG_7, moS_7, moG_8, moG_9, moS_9, moG_10, moS_10, moG_11, moS_11, moG_12, moS_12, moG_13, moS_13, moG_14, moG_15, moS_15, moG_16, moG_17, moS_17, moG_18, moG_19, moG_20, hg1000, zrLen_sc, e6, g, if_false, zrA_sc (show i < N ∧ N < 2147483648 by omega), ek]
  unfold TurnOk
  rw [st]
  rcases Nat.lt_or_ge k 34 with h34 | h34
  · have hN' : N < 2147483648 := by omega
    rcases (show k = 0 ∨ k = 1 ∨ k = 2 ∨ k = 3 ∨ k = 4 ∨ k = 5 ∨ k = 6 ∨ k = 7 ∨ k = 8 ∨ k = 9 ∨ k = 10 ∨ k = 11 ∨ k = 12 ∨ k = 13 ∨ k = 14 ∨ k = 15 ∨ k = 16 ∨ k = 17 ∨ k = 18 ∨ k = 19 ∨ k = 20 ∨ k = 21 ∨ k = 22 ∨ k = 23 ∨ k = 24 ∨ k = 25 ∨ k = 26 ∨ k = 27 ∨ k = 28 ∨ k = 29 ∨ k = 30 ∨ k = 31 ∨ k = 32 ∨ k = 33 by omega) with rfl | rfl | rfl | rfl | rfl | rfl | rfl | rfl | rfl | rfl | rfl | rfl | rfl | rfl | rfl | rfl | rfl | rfl | rfl | rfl | rfl | rfl | rfl | rfl | rfl | rfl | rfl | rfl | rfl | rfl | rfl | rfl | rfl | rfl
    · rw [ld0]
      exact tn0 hi hN' c m q
    · rw [ld1]
      exact tn1 hi hN' c m q
    · rw [ld2]
      exact tn2 hi hN' c m q
    · rw [ld3]
      exact tn3 hi hN' c m q
    · rw [ld4]
      exact tn4 hi hN' c m q
    · rw [ld5]
      exact tn5 hi hN' c m q
    · rw [ld6]
      exact tn6 hi hN' c m q
    · rw [ld7]
      exact tn7 hi hN' c m q
    · rw [ld8]
      exact tn8 hi hN' c m q
    · rw [ld9]
      exact tn9 hi hN' c m q
    · rw [ld10]
      exact tn10 hi hN' c m q
    · rw [ld11]
      exact tn11 hi hN' c m q
    · rw [ld12]
      exact tn12 hi hN' c m q
    · rw [ld13]
      exact tn13 hi hN' c m q
    · rw [ld14]
      exact tn14 hi hN' c m q
    · rw [ld15]
      exact tn15 hi hN' c m q
    · rw [ld16]
      exact tn16 hi hN' c m q
    · rw [ld17]
      exact tn17 hi hN' c m q
    · rw [ld18]
      exact tn18 hi hN' c m q
    · rw [ld19]
      exact tn19 hi hN' c m q
    · rw [ld20]
      exact tn20 hi hN' c m q
    · rw [ld21]
      exact tn21 hi hN' c m q
    · rw [ld22]
      exact tn22 hi hN' c m q
    · rw [ld23]
      exact tn23 hi hN' c m q
    · rw [ld24]
      exact tn24 hi hN' c m q
    · rw [ld25]
      exact tn25 hi hN' c m q
    · rw [ld26]
      exact tn26 hi hN' c m q
    · rw [ld27]
      exact tn27 hi hN' c m q
    · rw [ld28]
      exact tn28 hi hN' c m q
    · rw [ld29]
      exact tn29 hi hN' c m q
    · rw [ld30]
      exact tn30 hi hN' c m q
    · rw [ld31]
      exact tn31 hi hN' c m q
    · rw [ld32]
      exact tn32 hi hN' c m q
    · rw [ld33]
      exact tn33 hi hN' c m q
  · rw [ldD _ _ _ ⟨h34, hk⟩]
    refine ⟨A, L, s, ?_, c, m, q⟩
    have p6 : iZ (i : Int) + 6 = iZ ((i + 6 : Nat) : Int) := iZ_pa 6 6 _ rfl
    simp only [q216_1110, q216_1113, kI_app, kJ_app, kP_app, kV_app, kS_app, kC_app, kN_app, kM_app, zsw_cons, zsw_nil, lv_args_I, lv_args_R, lv_args_L, lv_args_nil, zlook_cons, zrI_some, zrJ_some, zrP_some, zrC_some, zrA_rw, zrAS_rw, zrLen_rw, zst1_nil, zst1_cI, zst1_cR, zst1_cL, zrm1_nil, zrm1_cI, zrm1_cR, zrm1_cL, zst2_nil, zst2_cI, zst2_cR, zst2_cL, zrm2_nil, zrm2_cI, zrm2_cR, zrm2_cL, zkeep_nil, zkeep_cons, zsum_nil, zsum_I, zsum_R, zsum_L, zsum_N, toL_s, toL_n, List.cons_append, List.nil_append, List.mem_cons, List.not_mem_nil, reduceCtorEq, Nat.reduceAdd, Nat.reduceLT, Nat.reduceLeDiff, Nat.reduceEqDiff, Nat.zero_ne_one, Nat.one_ne_zero, Nat.add_zero, Nat.zero_add, or_false, false_or, or_true, true_or, and_true, true_and, and_self, ↓reduceIte, Nat.succ_ne_self, Nat.reduceGT, Nat.reduceSub, Nat.le_refl, Nat.zero_le, p6]
theorem loop (hN : N ≤ 384) : ∀ d i : Nat, d + i = N → ∀ (s : Nat → Nat → Nat) (A : Nat → Nat → Int32) (L : Nat → Nat → Int64), CInv A L s → MInv A L s → SInv s → ∃ A2 L2, rn (zro N xs vf) 20 216 18 [(0, .ref 1000), (1, .ref 0), (2, .ref 62), (3, .int (iZ i))] [] (hp A L) = some (some (.int 1), hp A2 L2) := by
  intro d
  induction d using Nat.strongRecOn with
  | ind d ih =>
    intro i hd s A L c m q
    rcases Nat.lt_or_ge (i + 5) N with hi | hi
    · obtain ⟨A2, L2, s', e1, c2, m2, q2⟩ := turn (xs := xs) (vf := vf) hi hN c m q
      obtain ⟨A3, L3, e3⟩ := ih (d - 6) (by omega) (i + 6) (by omega) s' A2 L2 c2 m2 q2
      exact ⟨A3, L3, e1.trans e3⟩
    · have g : iZ ((N : Int) - 6) < iZ (i : Int) := by
        rw [iZ_lt (by omega)]
        omega
      have e6 : iZ (N : Int) - 6 = iZ ((N : Int) - 6) := by rw [show (6 : Int32) = iZ 6 from rfl, iZ_sub]
      refine ⟨A, L, ?_⟩
      simp only [q216_18, q216_19, q216_20, q216_21, q216_23, q216_24, kI_app, kJ_app, kP_app, kV_app, kS_app, kC_app, kN_app, kM_app, zsw_cons, zsw_nil, lv_args_I, lv_args_R, lv_args_L, lv_args_nil, zlook_cons, zrI_some, zrJ_some, zrP_some, zrC_some, zrA_rw, zrAS_rw, zrLen_rw, zst1_nil, zst1_cI, zst1_cR, zst1_cL, zrm1_nil, zrm1_cI, zrm1_cR, zrm1_cL, zst2_nil, zst2_cI, zst2_cR, zst2_cL, zrm2_nil, zrm2_cI, zrm2_cR, zrm2_cL, zkeep_nil, zkeep_cons, zsum_nil, zsum_I, zsum_R, zsum_L, zsum_N, toL_s, toL_n, List.cons_append, List.nil_append, List.mem_cons, List.not_mem_nil, reduceCtorEq, Nat.reduceAdd, Nat.reduceLT, Nat.reduceLeDiff, Nat.reduceEqDiff, Nat.zero_ne_one, Nat.one_ne_zero, Nat.add_zero, Nat.zero_add, or_false, false_or, or_true, true_or, and_true, true_and, and_self, ↓reduceIte, Nat.succ_ne_self, Nat.reduceGT, Nat.reduceSub, Nat.le_refl, Nat.zero_le, zis_O, cl_is, clG_0, clG_1, clG_2, clG_3, clG_4, clG_5, clG_6, clS_6, clG_7, clG_8, clG_9, clS_9, clG_10, clG_11, clS_11, clG_12, clS_12, clG_13, clS_13, clG_14, clS_14, clG_15, clS_15, clG_16, clG_17, clS_17, od_is, odG_0, odG_1, odS_1, odG_2, odG_3, odS_3, odG_4, re_is, reG_0, reS_0, reG_1, reG_2, reG_3, reS_3, reG_4, reS_4, reG_5, reS_5, reG_6, reS_6, wo_is, woG_0, woG_1, woG_2, woS_2, woG_3, lm_is, lmG_0, lmG_1, lmG_2, lmG_3, lmG_4, lmG_5, lmG_6, lmG_7, lmG_8, lmS_8, lmG_9, lmS_9, lmG_10, lmS_10, lmG_11, lmS_11, lmG_12, lmS_12, mo_is, moG_0, moG_1, moG_2, moG_3, moG_4, moG_5, moS_5, moG_6, moS_6, moG_7, moS_7, moG_8, moG_9, moS_9, moG_10, moS_10, moG_11, moS_11, moG_12, moS_12, moG_13, moS_13, moG_14, moG_15, moS_15, moG_16, moG_17, moS_17, moG_18, moG_19, moG_20, hg1000, zrLen_sc, e6, g, if_true, q216_1116, q216_1117]
end LOO
