/-! A CLEARING'S WRITES, over numbers -/
section CLN
variable {ro : zR} {σ : zW} {o : Nat} {C : Nat → Nat → Int32} {a : Nat → Nat}
theorem z2v {w : Int} (h0 : 0 ≤ w) (h4 : w < 4) : zat 4 zs2 (iZ w) = iZ (if w < 2 then 9 else if w = 2 then 3 else 12) := by
  rcases (show w = 0 ∨ w = 1 ∨ w = 2 ∨ w = 3 by omega) with rfl | rfl | rfl | rfl <;> decide +kernel
theorem i_lt0 {w : Int} (h : -2147483648 ≤ w ∧ w < 2147483648) : (iZ w < 0) = (w < 0) := by rw [iZ_0, iZ_lt (by omega)]
theorem i_ltk {w : Int} (x : Int32) (k : Int) (e : x = iZ k) (hk : -2147483648 ≤ k ∧ k < 2147483648) (h : -2147483648 ≤ w ∧ w < 2147483648) : (iZ w < x) = (w < k) := by rw [e, iZ_lt ⟨h, hk⟩]
theorem i_gtk {w : Int} (x : Int32) (k : Int) (e : x = iZ k) (hk : -2147483648 ≤ k ∧ k < 2147483648) (h : -2147483648 ≤ w ∧ w < 2147483648) : (x < iZ w) = (k < w) := by rw [e, iZ_lt ⟨hk, h⟩]
theorem i_eqk {w : Int} (x : Int32) (k : Int) (e : x = iZ k) (hk : -2147483648 ≤ k ∧ k < 2147483648) (h : -2147483648 ≤ w ∧ w < 2147483648) : (iZ w = x) = (w = k) := by rw [e, iZ_eq ⟨h, hk⟩]
theorem i_tn {n : Int} (h : 0 ≤ n) : iZ n = iZ (n.toNat : Nat) := by rw [Int.toNat_of_nonneg h]
theorem clG (h : ClAt σ o C) (R : Rel C a) (g : Good a) (hs : σ[1002]? = none) (he : ro.1 1002 = some (0, 4, zs2)) {w n : Int} (hw : -2147483648 ≤ w ∧ w < 2147483648) (hn : -2147483648 ≤ n ∧ n < 2147483648) : ∃ C', rm ro 10 [.ref o, .int (iZ w), .int (iZ n)] σ = some (some (.int (iZ (oG a w n).1)), clW σ o C') ∧ Rel C' (oG a w n).2 := by
  have n3 := g.n3
  rw [sp_setGround h hs he]
  simp only [i_lt0 hw, i_lt0 hn, i_ltk (Int32.ofNat 4) 4 rfl (by omega) hw, i_eqk 3 3 rfl (by omega) hw, R.c3, iZ_lt (show (-2147483648 ≤ n ∧ n < 2147483648) ∧ -2147483648 ≤ (a 3 : Int) ∧ (a 3 : Int) < 2147483648 by omega)]
  unfold oG
  by_cases q : (0 ≤ w ∧ w ≤ 3) ∧ (if w = 3 then (a 3 : Int) else 0) ≤ n ∧ n ≤ (if w < 2 then 9 else if w = 2 then 3 else 12)
  · rw [if_pos q]
    obtain ⟨hw1, h1, h2⟩ := q
    have e3 : ¬ n < 0 := by
      split at h1 <;> omega
    have hb : -2147483648 ≤ (if w < 2 then 9 else if w = 2 then 3 else 12 : Int) ∧ (if w < 2 then 9 else if w = 2 then 3 else 12 : Int) < 2147483648 := by
      split
      · omega
      · split <;> omega
    have e5 : ¬ (w = 3 ∧ n < a 3) := by
      rintro ⟨z1, z2⟩
      rw [if_pos z1] at h1
      omega
    have e4 : ¬ zat 4 zs2 (iZ w) < iZ n := by
      rw [z2v hw1.1 (by omega), iZ_lt ⟨hb, hn⟩]
      exact Int.not_lt.mpr h2
    rw [if_neg (by omega), if_pos (by omega), if_neg e3, if_neg e4, if_neg e5, iZ_nat hw, cU_upd, R.g (by omega), i_tn (show 0 ≤ n by omega)]
    refine ⟨_, rfl, ?_⟩
    refine (RelL.put R (j := 8 + w.toNat) (by omega) n.toNat (kj_g _ (by omega)).1 (kj_g _ (by omega)).2).mono fun j hj hl => Or.inl (live_nU hl (by omega) (by omega) (by omega) (by omega))
  · rw [if_neg q]
    refine ⟨C, ?_, R⟩
    rw [clW_self h]
    by_cases c1 : w < 0
    · rw [if_pos c1]
      rfl
    · rw [if_neg c1]
      by_cases c2 : w < 4
      · rw [if_pos c2]
        by_cases c3 : n < 0
        · rw [if_pos c3]
          rfl
        · have hb : -2147483648 ≤ (if w < 2 then 9 else if w = 2 then 3 else 12 : Int) ∧ (if w < 2 then 9 else if w = 2 then 3 else 12 : Int) < 2147483648 := by
            split
            · omega
            · split <;> omega
          have e4 : (zat 4 zs2 (iZ w) < iZ n) = ((if w < 2 then 9 else if w = 2 then 3 else 12 : Int) < n) := by
            rw [z2v (by omega) c2, iZ_lt ⟨hb, hn⟩]
          rw [if_neg c3]
          simp only [e4]
          by_cases c4 : (if w < 2 then 9 else if w = 2 then 3 else 12 : Int) < n
          · rw [if_pos c4]
            rfl
          · rw [if_neg c4]
            by_cases c5 : w = 3 ∧ n < a 3
            · rw [if_pos c5]
              rfl
            · refine absurd ⟨⟨by omega, by omega⟩, ?_, by omega⟩ q
              split <;> omega
      · rw [if_neg c2]
        rfl
theorem clC (h : ClAt σ o C) (R : Rel C a) (g : Good a) {r n : Int} (hr : -2147483648 ≤ r ∧ r < 2147483648) (hn : -2147483648 ≤ n ∧ n < 2147483648) : ∃ C', rm ro 11 [.ref o, .int (iZ r), .int (iZ n)] σ = some (some (.int (iZ (oC a r n).1)), clW σ o C') ∧ Rel C' (oC a r n).2 := by
  rw [sp_setCarry h]
  simp only [i_lt0 hr, i_lt0 hn, i_gtk 10 10 rfl (by omega) hn, i_gtk 5 5 rfl (by omega) hr]
  unfold oC
  by_cases q : (0 ≤ r ∧ r ≤ 5) ∧ 0 ≤ n ∧ n ≤ 10
  · rw [if_pos q, if_neg (by omega), iZ_nat hr, clW_w2 h, cU_upd, R.c (by omega), i_tn (show 0 ≤ n by omega)]
    refine ⟨_, rfl, ?_⟩
    refine (RelL.put R (j := 12 + r.toNat) (by omega) n.toNat (kj_c _ (by omega)).1 (kj_c _ (by omega)).2).mono fun j hj hl => Or.inl (live_nU hl (by omega) (by omega) (by omega) (by omega))
  · rw [if_neg q, if_pos (by omega)]
    refine ⟨C, ?_, R⟩
    rw [clW_self h]
    rfl
theorem clM (h : ClAt σ o C) (kd : KdAt σ) (R : Rel C a) (g : Good a) {k hd l : Int} (hk : -2147483648 ≤ k ∧ k < 2147483648) (hh : -2147483648 ≤ hd ∧ hd < 2147483648) (hl : -2147483648 ≤ l ∧ l < 2147483648) : ∃ C', rm ro 12 [.ref o, .int (iZ k), .int (iZ hd), .int (iZ l)] σ = some (some (.int (iZ (oM a k hd l).1)), clW σ o C') ∧ Rel C' (oM a k hd l).2 := by
  have n0 := g.n0
  rw [sp_addMatch h kd]
  simp only [i_lt0 hk, i_ltk (Int32.ofNat 6) 6 rfl (by omega) hk, i_lt0 hh, i_gtk 10 10 rfl (by omega) hh, i_ltk 1 1 rfl (by omega) hl, i_gtk 9 9 rfl (by omega) hl, R.c0, i_ltk 6 6 rfl (by omega) (show -2147483648 ≤ (a 0 : Int) ∧ (a 0 : Int) < 2147483648 by omega)]
  unfold oM
  by_cases q : (0 ≤ k ∧ k ≤ 5) ∧ (0 ≤ hd ∧ hd ≤ 10) ∧ 1 ≤ l ∧ l ≤ 9
  · rw [if_pos q, if_neg (by omega), if_pos (by omega), if_neg (by omega), if_neg (by omega), if_neg (by omega), if_neg (by omega)]
    by_cases q6 : a 0 = 6
    · rw [if_pos q6, if_neg (by omega)]
      refine ⟨C, ?_, R⟩
      rw [clW_self h]
      rfl
    · have z := zup_i (g := C 3) (x := iZ k) (show a 0 < 6 ∧ 6 < 2147483648 by omega)
      have z4 := zup_i (g := C 4) (x := iZ hd) (show a 0 < 6 ∧ 6 < 2147483648 by omega)
      have z5 := zup_i (g := C 5) (x := iZ l) (show a 0 < 6 ∧ 6 < 2147483648 by omega)
      rw [if_neg q6, if_pos (by omega), z, z4, z5]
      have km := kj_m (a 0) (by omega)
      have p1 := RelL.put R (j := 18 + 3 * a 0) (by omega) k.toNat km.1.1 km.1.2
      have p2 := RelL.put p1 (j := 19 + 3 * a 0) (by omega) hd.toNat km.2.1.1 km.2.1.2
      have p3 := RelL.put p2 (j := 20 + 3 * a 0) (by omega) l.toNat km.2.2.1 km.2.2.2
      have p4 := RelL.put p3 (j := 0) (by omega) (a 0 + 1) (k := 0) (i := 6) rfl rfl
      rw [← i_tn (show 0 ≤ k by omega), ← i_tn (show 0 ≤ hd by omega), ← i_tn (show 0 ≤ l by omega)] at p4
      refine ⟨_, rfl, ?_⟩
      have e1 : iZ (a 0) + 1 = iZ ((a 0 + 1 : Nat) : Int) := by
        rw [iZ_1, iZ_add]
        congr 1
      rw [e1]
      have e2 : cU (cU (cU (cU C 3 (upd (C 3) (a 0) (iZ k))) 4 (upd (C 4) (a 0) (iZ hd))) 5 (upd (C 5) (a 0) (iZ l))) 0 (upd (C 0) 6 (iZ ((a 0 + 1 : Nat) : Int))) = pC (pC (pC (pC C 3 (a 0) (iZ k)) 4 (a 0) (iZ hd)) 5 (a 0) (iZ l)) 0 6 (iZ ((a 0 + 1 : Nat) : Int)) := by
        rw [← cU_upd, ← cU_upd, ← cU_upd, ← cU_upd]
        rfl
      rw [e2]
      refine p4.mono fun j hj hl => ?_
      unfold live at hl ⊢
      dsimp only at hl
      rw [nU_s, nU_n (by omega), nU_n (by omega), nU_n (by omega), nU_n (by omega), nU_n (by omega), nU_n (by omega), nU_n (by omega), nU_n (by omega), nU_n (by omega), nU_n (by omega), nU_n (by omega), nU_n (by omega)] at hl
      omega
  · rw [if_neg q]
    refine ⟨C, ?_, R⟩
    rw [clW_self h]
    by_cases c1 : k < 0
    · rw [if_pos c1]
      rfl
    rw [if_neg c1]
    by_cases c2 : k < 6
    · rw [if_pos c2]
      by_cases c3 : hd < 0
      · rw [if_pos c3]
        rfl
      rw [if_neg c3]
      by_cases c4 : 10 < hd
      · rw [if_pos c4]
        rfl
      rw [if_neg c4]
      by_cases c5 : l < 1
      · rw [if_pos c5]
        rfl
      rw [if_neg c5, if_pos (by omega)]
      rfl
    · rw [if_neg c2]
      rfl
theorem clS (h : ClAt σ o C) (R : Rel C a) (g : Good a) {t b : Int} (ht : -2147483648 ≤ t ∧ t < 2147483648) (hb : -2147483648 ≤ b ∧ b < 2147483648) : ∃ C', rm ro 13 [.ref o, .int (iZ t), .int (iZ b)] σ = some (some (.int (iZ (oS a t b).1)), clW σ o C') ∧ Rel C' (oS a t b).2 := by
  have n4 := g.n4
  have p7 : 2 ^ a 4 ≤ 128 := Nat.pow_le_pow_right (n := 2) (by decide) (show a 4 ≤ 7 by omega)
  rw [sp_addStick h]
  simp only [i_ltk 1 1 rfl (by omega) ht, i_gtk 9 9 rfl (by omega) ht, i_lt0 hb, R.c4, iZ_shl1 (a 4) (by omega), i_ltk 7 7 rfl (by omega) (show -2147483648 ≤ (a 4 : Int) ∧ (a 4 : Int) < 2147483648 by omega)]
  unfold oS
  generalize 2 ^ a 4 = P at p7 ⊢
  simp only [iZ_lt (show (-2147483648 ≤ b ∧ b < 2147483648) ∧ -2147483648 ≤ (P : Int) ∧ (P : Int) < 2147483648 by omega)]
  by_cases q : (1 ≤ t ∧ t ≤ 9) ∧ 0 ≤ b ∧ b < (P : Int)
  · rw [if_pos q, if_neg (by omega), if_neg (by omega), if_neg (show ¬ b < 0 by omega), if_pos q.2.2, if_neg (show ¬ ((1 : Int32) = 0) by decide)]
    by_cases q6 : a 4 = 7
    · rw [if_pos q6, if_neg (by omega)]
      refine ⟨C, ?_, R⟩
      rw [clW_self h]
      rfl
    · have z := zup_i (g := C 6) (x := iZ t) (show a 4 < 7 ∧ 7 < 2147483648 by omega)
      have z4 := zup_i (g := C 7) (x := iZ b) (show a 4 < 7 ∧ 7 < 2147483648 by omega)
      rw [if_neg q6, if_pos (by omega), z, z4]
      have km := kj_s (a 4) (by omega)
      have p1 := RelL.put R (j := 36 + 2 * a 4) (by omega) t.toNat km.1.1 km.1.2
      have p2 := RelL.put p1 (j := 37 + 2 * a 4) (by omega) b.toNat km.2.1 km.2.2
      have p4 := RelL.put p2 (j := 4) (by omega) (a 4 + 1) (k := 0) (i := 9) rfl rfl
      rw [← i_tn (show 0 ≤ t by omega), ← i_tn (show 0 ≤ b by omega)] at p4
      refine ⟨_, rfl, ?_⟩
      have e1 : iZ (a 4) + 1 = iZ ((a 4 + 1 : Nat) : Int) := by
        rw [iZ_1, iZ_add]
        congr 1
      rw [e1]
      have e2 : cU (cU (cU C 6 (upd (C 6) (a 4) (iZ t))) 7 (upd (C 7) (a 4) (iZ b))) 0 (upd (C 0) 9 (iZ ((a 4 + 1 : Nat) : Int))) = pC (pC (pC C 6 (a 4) (iZ t)) 7 (a 4) (iZ b)) 0 9 (iZ ((a 4 + 1 : Nat) : Int)) := by
        rw [← cU_upd, ← cU_upd, ← cU_upd]
        rfl
      rw [e2]
      refine p4.mono fun j hj hl => ?_
      unfold live at hl ⊢
      dsimp only at hl
      rw [nU_n (by omega), nU_n (by omega), nU_n (by omega), nU_s, nU_n (by omega), nU_n (by omega), nU_n (by omega), nU_n (by omega), nU_n (by omega), nU_n (by omega)] at hl
      omega
  · rw [if_neg q]
    refine ⟨C, ?_, R⟩
    rw [clW_self h]
    by_cases c1 : t < 1
    · rw [if_pos c1]
      rfl
    rw [if_neg c1]
    by_cases c2 : 9 < t
    · rw [if_pos c2]
      rfl
    rw [if_neg c2]
    by_cases c3 : b < 0
    · rw [if_pos c3, if_pos rfl]
      rfl
    rw [if_neg c3, if_neg (show ¬ b < (P : Int) by omega), if_pos rfl]
    rfl
theorem clP (h : ClAt σ o C) (R : Rel C a) (g : Good a) {n : Int} (hn : -2147483648 ≤ n ∧ n < 2147483648) : ∃ C', rm ro 14 [.ref o, .int (iZ n)] σ = some (some (.int (iZ (oP a n).1)), clW σ o C') ∧ Rel C' (oP a n).2 := by
  have n5 := g.n5
  rw [sp_addStump h]
  simp only [i_lt0 hn, i_gtk 18 18 rfl (by omega) hn, R.c5, i_ltk 5 5 rfl (by omega) (show -2147483648 ≤ (a 5 : Int) ∧ (a 5 : Int) < 2147483648 by omega)]
  unfold oP
  have e1 : iZ (a 5) + 1 = iZ ((a 5 + 1 : Nat) : Int) := by
    rw [iZ_1, iZ_add]
    congr 1
  by_cases q : 0 ≤ n ∧ n ≤ 18
  · rw [if_pos q, if_neg (by omega), if_neg (by omega)]
    by_cases q6 : a 5 = 5
    · rw [if_pos q6, if_neg (by omega)]
      refine ⟨C, ?_, R⟩
      rw [clW_self h]
      rfl
    · have z := zup_i (g := C 8) (x := iZ n) (show a 5 < 5 ∧ 5 < 2147483648 by omega)
      rw [if_neg q6, if_pos (by omega), z, e1]
      have km := kj_p (a 5) (by omega)
      have p1 := RelL.put R (j := 50 + a 5) (by omega) n.toNat km.1 km.2
      have p4 := RelL.put p1 (j := 5) (by omega) (a 5 + 1) (k := 0) (i := 11) rfl rfl
      rw [← i_tn (show 0 ≤ n by omega)] at p4
      refine ⟨_, rfl, ?_⟩
      have e2 : cU (cU C 8 (upd (C 8) (a 5) (iZ n))) 0 (upd (C 0) 11 (iZ ((a 5 + 1 : Nat) : Int))) = pC (pC C 8 (a 5) (iZ n)) 0 11 (iZ ((a 5 + 1 : Nat) : Int)) := by
        rw [← cU_upd, ← cU_upd]
        rfl
      rw [e2]
      refine p4.mono fun j hj hl => ?_
      unfold live at hl ⊢
      dsimp only at hl
      rw [nU_n (by omega), nU_n (by omega), nU_n (by omega), nU_n (by omega), nU_s, nU_n (by omega), nU_n (by omega)] at hl
      omega
  · rw [if_neg q]
    refine ⟨C, ?_, R⟩
    rw [clW_self h]
    by_cases c1 : n < 0
    · rw [if_pos c1]
      rfl
    rw [if_neg c1, if_pos (by omega)]
    rfl
theorem clN (h : ClAt σ o C) (R : Rel C a) (g : Good a) {w : Int} (hw : -2147483648 ≤ w ∧ w < 2147483648) : ∃ C', rm ro 15 [.ref o, .int (iZ w)] σ = some (some (.int (iZ (oN a w).1)), clW σ o C') ∧ Rel C' (oN a w).2 := by
  have n4 := g.n4
  have n5 := g.n5
  rw [sp_sweep h]
  simp only [i_eqk 0 0 rfl (by omega) hw, i_eqk 1 1 rfl (by omega) hw, R.c4, R.c5]
  unfold oN
  by_cases q : w = 0
  · rw [if_pos q, if_pos q, cU_upd]
    refine ⟨_, rfl, ?_⟩
    refine (RelL.put R (j := 4) (by decide) 0 (k := 0) (i := 9) rfl rfl).mono fun j hj hl => Or.inl ?_
    unfold live at hl ⊢
    dsimp only at hl
    rw [nU_s, nU_n (by omega), nU_n (by omega), nU_n (by omega)] at hl
    omega
  · rw [if_neg q, if_neg q]
    by_cases q1 : w = 1
    · rw [if_pos q1, if_pos q1, cU_upd]
      refine ⟨_, rfl, ?_⟩
      refine (RelL.put R (j := 5) (by decide) 0 (k := 0) (i := 11) rfl rfl).mono fun j hj hl => Or.inl ?_
      unfold live at hl ⊢
      dsimp only at hl
      rw [nU_s, nU_n (by omega), nU_n (by omega), nU_n (by omega)] at hl
      omega
    · rw [if_neg q1, if_neg q1]
      refine ⟨C, ?_, R⟩
      rw [clW_self h]
      rfl
end CLN
