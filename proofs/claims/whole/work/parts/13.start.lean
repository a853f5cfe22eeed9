/-! THE CLAIM OUT OF ONE WALK OF THE LAW'S BODY. Your part is whole_start (and what it stands on); all else here is the same for every law, but numbers. -/
def R_law : String := "LastMatchesLaw"
def lw_P (b : Addr) (xs : List Int32) (args : Array Value) (s : State) : Prop := args = #[.ref b] ∧ s.IntsAt b xs ∧ xs.length ≤ 384 ∧ (Jvm.Cond.and given_1 narrow_1).before args s = true
def lw_Q (_ : Array Value) (s : State) (o : Outcome) (t : State) : Prop := o = .returned (some (.int 1)) ∧ Framed s o t [] 600000 7302250
def lw_Z (below : List Frame) (a : Array Value) (s : State) : State → Prop := fun t => ∃ o, t.status = .running ∧ Ended t below o ∧ lw_Q a s o t
/-- the law's own end, with 1 on the stack, nothing written that was there before, its room as the claim has it -/
theorem lw_ret {p : Program} {l : Launch} {e : Env} {s : State} {m : MethodId} {below : List Frame} {meth : Method} {c : Code} {b : Nat} (hx : p.tables.exec = Jvm.exec) (hb : c.code = code) (hr : meth.sig.returnType = ret) (hlocks : meth.locks = false) {pc : Nat} {H : Heap} {ls : Array Slot} (hdg : decode code pc = .ok (.ireturn, 1)) : W p l e room_1 s m #[Value.ref b] below meth c H [] 600000 7302250 (lw_Z below #[Value.ref b] s) (F0 m pc ls [.int 1]) := by
  intro T hT X
  obtain ⟨fs, hret, hrun, hended, hW, hframe⟩ := X.leave (v := some (.int 1)) (hlocks := hlocks) (fun h => by rw [hr] at h; cases h)
  have hmeth' : T.vm.method? m = some meth := X.method'
  refine ⟨T.setFrames fs, ?_, .returned (some (.int 1)), hrun, hended, rfl, ⟨_, rfl⟩, hW, hframe⟩
  jvm_step X.here [X.here.top, hx, hb, hdg, hmeth', hr, ret, narrow_b1]
  (try refine ⟨rfl, ?_⟩); (try refine ⟨rfl, ?_⟩)
  first | (intro acts; rw [hret _ acts rfl rfl rfl]) | rw [hret _ _ rfl rfl rfl]
  exact Steps.refl _
/-- what holds at the law's entry: the machine, the code, the tables' words (any of lw_tbl by 'hts w (by decide +kernel)'), the script of L ints xs at the cell b, what the Statement gives of the start (any of its parts by flat_of_before) -/
def lw_At (p : Program) (s : State) (m : MethodId) (meth : Method) (c : Code) (b L : Nat) (xs : Nat → Int32) : Prop :=
  p.tables.exec = Jvm.exec ∧ c.code = code ∧ meth.sig.returnType = ret ∧ c.maxLocals = 4 ∧ s.vm.findClass R_law = some m.cls ∧ (∀ w ∈ lw_tbl, w.before #[Value.ref b] s = true) ∧ va_X b L xs s s.heap ∧ b < s.heap.size ∧ meth.locks = false ∧ (Jvm.Cond.and given_1 narrow_1).before #[Value.ref b] s = true
-- ===== YOUR PART BEGINS =====
/-! FROM THE LAW'S ENTRY: what the Statement gives of the start is what the abstract machine asks -/
def zs1 : Nat → Int32 := fun j => ([2, 0, 1, 6] : List Int32).getD j 0
def zs2 : Nat → Int32 := fun j => ([9, 9, 3, 12] : List Int32).getD j 0
def zs3 : Nat → Int32 := fun j => ([1, 1, 1, 1, 2, 3, 2, 1] : List Int32).getD j 0
/-- the bytes of the texts -/
def zbyt : List (List Int32) := [[119, 105, 110, 100], [115, 104, 101, 108, 116, 101, 114], [119, 101, 116], [101, 110, 100], [99, 97, 114, 114, 121], [109, 97, 116, 99, 104], [115, 116, 105, 99, 107], [115, 116, 117, 109, 112], []]
def zlens : List Nat := [4, 7, 3, 3, 5, 5, 5, 5, 0]
def zro (L : Nat) (xs : Nat → Int32) (vf : Bool) : zR := (fun k => if k = 1000 then some (0, L, xs) else if k = 1001 then some (0, 4, zs1) else if k = 1002 then some (0, 4, zs2) else if k = 1003 then some (0, 8, zs3) else if 2100 ≤ k ∧ k < 2109 then some (5, zlens.getD (k - 2100) 0, fun j => (zbyt.getD (k - 2100) []).getD j 0) else none, vf)
def zgv : List Cond := flatC (Jvm.Cond.and given_1 narrow_1)
abbrev ztm (i : Nat) : Term := .string "LastMatches$Reading" (ztxt i).1
set_option maxRecDepth 100000 in
theorem zgv_s1 : ∀ i, i < 9 → Cond.exactly (ztm i) "java/lang/String" ∈ zgv := by decide +kernel
set_option maxRecDepth 100000 in
theorem zgv_s2 : ∀ i, i < 9 → Cond.eq (.field (ztm i) "java/lang/String" "coder" "B") (.int 0) ∈ zgv := by decide +kernel
set_option maxRecDepth 100000 in
theorem zgv_s3 : ∀ i, i < 9 → Cond.arrayOf (.field (ztm i) "java/lang/String" "value" "[B") .byte ∈ zgv := by decide +kernel
set_option maxRecDepth 100000 in
theorem zgv_s4 : ∀ i, i < 9 → Cond.eq (.length (.field (ztm i) "java/lang/String" "value" "[B")) (.int (Int32.ofNat (zlens.getD i 0))) ∈ zgv := by decide +kernel
set_option maxRecDepth 100000 in
theorem zgv_s5 : ∀ i, i < 9 → ∀ j, j < zlens.getD i 0 → Cond.eq (.elem (.field (ztm i) "java/lang/String" "value" "[B") (.int (Int32.ofNat j))) (.int ((zbyt.getD i []).getD j 0)) ∈ zgv := by decide +kernel
set_option maxRecDepth 100000 in
theorem zgv_s6 : ∀ i, i < 9 → ∀ j, j < 9 → i ≠ j → Cond.not (Cond.eq (ztm i) (ztm j)) ∈ zgv ∨ Cond.not (Cond.eq (ztm j) (ztm i)) ∈ zgv := by decide +kernel
theorem zgv_s7 : ∀ i, i < 9 → zlens.getD i 0 < 2 ^ 31 := by decide +kernel
theorem zstr_w : ∀ i, i < 9 → zh (454 + i : Nat) (.stringRef "LastMatches$Reading" (ztxt i).1 (ztxt i).2) = true := by decide +kernel
abbrev zst1' : Term := .static "LastMatches" "GROUND_FIRST" "[I"
abbrev zst2' : Term := .static "LastMatches" "GROUND_MOST" "[I"
abbrev zst3' : Term := .static "LastMatches$Reading" "NUMBERS_WANTED" "[I"
set_option maxRecDepth 100000 in
theorem zgv_a1 : Cond.arrayOf zst1' .int ∈ zgv ∧ Cond.eq (.length zst1') (.int 4) ∈ zgv ∧ ∀ j, j < 4 → Cond.eq (.elem zst1' (.int (Int32.ofNat j))) (.int (zs1 j)) ∈ zgv := by decide +kernel
set_option maxRecDepth 100000 in
theorem zgv_a2 : Cond.arrayOf zst2' .int ∈ zgv ∧ Cond.eq (.length zst2') (.int 4) ∈ zgv ∧ ∀ j, j < 4 → Cond.eq (.elem zst2' (.int (Int32.ofNat j))) (.int (zs2 j)) ∈ zgv := by decide +kernel
set_option maxRecDepth 100000 in
theorem zgv_a3 : Cond.arrayOf zst3' .int ∈ zgv ∧ Cond.eq (.length zst3') (.int 8) ∈ zgv ∧ ∀ j, j < 8 → Cond.eq (.elem zst3' (.int (Int32.ofNat j))) (.int (zs3 j)) ∈ zgv := by decide +kernel
set_option maxRecDepth 100000 in
theorem zgv_c : Cond.eq (.static "java/lang/String" "COMPACT_STRINGS" "Z") (.int 1) ∈ zgv ∧ Cond.isRef (.static "jdk/internal/util/Preconditions" "SIOOBE_FORMATTER" "Ljava/util/function/BiFunction;") ∈ zgv := by decide +kernel
def zinst : List Int := [263, 121, 86, 107, 215, 79, 270, 114, 93, 100, 241, 70, 918]
theorem zinst_all : ((List.range 13).all fun ci => match vwCl[ci]? with
  | some q => zg (zinst.getD ci 0) (.instantiable q.1 q.2.2)
  | none => false) = true := by decide +kernel
theorem zw_a : zg 212 (.arrayClass .int) = true ∧ zg 239 (.arrayClass .long) = true ∧ zg 238 (.arrayClass .boolean) = true ∧ zh 78 (.arrayOver (.object "LastMatches$Plain")) = true ∧ zh 213 (.arrayOver (.object "LastMatches$Clearing")) = true := by decide +kernel
theorem zw_s : zh 131 (.laysStatic "LastMatches" "GROUND_FIRST" "[I") = true ∧ zh 347 (.laysStatic "LastMatches" "GROUND_MOST" "[I") = true ∧ zh 516 (.laysStatic "LastMatches$Reading" "NUMBERS_WANTED" "[I") = true ∧ zh 476 (.laysStatic "java/lang/String" "COMPACT_STRINGS" "Z") = true ∧ zh 492 (.laysStatic "jdk/internal/util/Preconditions" "SIOOBE_FORMATTER" "Ljava/util/function/BiFunction;") = true ∧ zg 50 (.initialized "LastMatches") = true ∧ zg 63 (.initialized "LastMatches$Reading") = true ∧ zg 65 (.initialized "java/lang/String") = true ∧ zg 67 (.initialized "jdk/internal/util/Preconditions") = true := by decide +kernel
theorem z_arr {s : State} {args : Array Value} {ty : FieldType} (h : (Cond.arrayClass ty).before args s = true) (hno : ∀ C, ty ≠ .object C) : ∃ cA : ClassId, ArrOfT s cA ty ∧ va_RA s cA ty := by
  obtain ⟨cA, k, comp, h1, h2, h3⟩ := Cond.arrayClass_spec h
  refine ⟨cA, fun N z => ⟨(fun k h => by cases h), k, h2, comp, h3⟩, ?_⟩
  cases ty with
  | object C => exact absurd rfl (hno C)
  | _ => exact h1
theorem z_arrO {s : State} {args : Array Value} {C : String} (h : (Cond.arrayOver (.object C)).before args s = true) : ∃ cA : ClassId, ArrOfT s cA (.object C) ∧ va_RA s cA (.object C) := by
  obtain ⟨comp, cA, k, h1, -, h2, h3, h4⟩ := Cond.arrayOver_spec h
  exact ⟨cA, fun N z => ⟨(fun k h => by cases h), k, h2, comp, h3⟩, k, comp, h2, h3, h1, h4⟩
set_option maxHeartbeats 4000000 in
set_option maxRecDepth 100000 in
theorem zenter (hrun : ∀ (L : Nat) (xs : Nat → Int32) (vf : Bool), L ≤ 384 → ∃ (n : Nat) (σ' : zW), zrun (zro L xs vf) n 20 216 0 [(0, .ref 1000)] [] [] = some (some (.int 1), σ') ∧ σ'.length ≤ 900 ∧ zsl σ' ≤ 7000000)
    {p : Program} {e : Env} {s : State} {m : MethodId} {below : List Frame} {meth : Method} {c : Code} (l : Launch) {b L : Nat} {xs : Nat → Int32} (hL : L ≤ 384) (C0 : lw_At p s m meth c b L xs) : W p l e room_1 s m #[Value.ref b] below meth c s.heap [] 0 0 (lw_Z below #[Value.ref b] s) (entryFrame m ([Value.ref b] : List Value).toArray 4) := by
  obtain ⟨hx, hb, hr, hml, hown, hts, hX, hbl, hlocks, hgv⟩ := id C0
  have hs := flat_of_before _ hgv
  have hts' : ∀ w ∈ zG, w.before #[Value.ref b] s = true := fun w hw => hts w (List.mem_filter.mp hw).1
  have hA : ∀ a : Nat, a < s.heap.size → ¬ zU s.heap.size a := fun a h1 h2 => Nat.not_le.mpr h1 h2
  have G : ∀ {i : Int} {w : Cond}, zg i w = true → w.before #[Value.ref b] s = true := fun h => hts' _ (zg_in h)
  -- the classes
  obtain ⟨dC, dI, hKc⟩ : ∃ (dC : Nat → ClassId) (dI : Nat → Nat → Nat), ∀ (k : Nat) (q : vw_C), vwCl[k]? = some q → u_Kn s q.1 q.2.1 q.2.2 (dC k) (dI k) := by
    have h : ∀ k : Nat, ∃ z : ClassId × (Nat → Nat), ∀ q : vw_C, vwCl[k]? = some q → u_Kn s q.1 q.2.1 q.2.2 z.1 z.2 := by
      intro k
      cases hq : vwCl[k]? with
      | none => exact ⟨(0, fun _ => 0), fun q h => by cases h⟩
      | some q =>
        have hl : k < 13 := (List.getElem?_eq_some_iff.mp hq).1
        have h1 := List.all_eq_true.mp zinst_all k (List.mem_range.mpr hl)
        rw [hq] at h1
        obtain ⟨c0, i0, h2⟩ := u_known (C := q.1) (T := q.2.1) (N := q.2.2) (n := q.2.2) hts' (zcl_in hq) (G h1)
        exact ⟨(c0, i0), fun q' h => by cases h; exact h2⟩
    exact ⟨fun k => (Classical.choose (h k)).1, fun k => (Classical.choose (h k)).2, fun k q hq => Classical.choose_spec (h k) q hq⟩
  obtain ⟨w1, w2, w3, w4, w5⟩ := zw_a
  obtain ⟨cI, aI⟩ := z_arr (G w1) (fun _ h => by cases h)
  obtain ⟨cJ, aJ'⟩ := z_arr (G w2) (fun _ h => by cases h)
  obtain ⟨cZ, aZ⟩ := z_arr (G w3) (fun _ h => by cases h)
  obtain ⟨cP, aP⟩ := z_arrO (hts _ (zh_in w4))
  obtain ⟨cC, aC'⟩ := z_arrO (hts _ (zh_in w5))
  obtain ⟨tyc, htyc⟩ : ∃ tyc : Nat → ClassId, tyc 0 = cI ∧ tyc 1 = cJ ∧ tyc 2 = cZ ∧ tyc 3 = cP ∧ tyc 4 = cC := ⟨fun k => if k = 0 then cI else if k = 1 then cJ else if k = 2 then cZ else if k = 3 then cP else cC, rfl, rfl, rfl, rfl, rfl⟩
  have hK : va_K (dC, dI) vwCl (zty tyc) s := by
    refine ⟨hKc, fun k q h => ?_⟩
    obtain ⟨t0, t1, t2, t3, t4⟩ := htyc
    match k, h with
    | 0, h => cases h; rw [t0]; exact aI
    | 1, h => cases h; rw [t1]; exact aJ'
    | 2, h => cases h; rw [t2]; exact aZ
    | 3, h => cases h; rw [t3]; exact aP
    | 4, h => cases h; rw [t4]; exact aC'
    | k + 5, h => simp [zty] at h
  have hN : zNst s := ⟨fun w hw hn => va_tabs (zns_tab hn) rfl (hts w hw), va_AO.of (hts _ (zh_in w4)), va_AO.of (hts _ (zh_in w5))⟩
  -- what is only read
  obtain ⟨y1, y2, y3, y4, y5, y6, y7, y8, y9⟩ := zw_s
  obtain ⟨a1, a2, a3⟩ := zgv_a1
  obtain ⟨t1, e1, T1⟩ := va_Tof (N := 4) (f := fun j => .int (zs1 j)) (A := zU s.heap.size) (by decide) (hs _ a1) (va_eqt (hs _ a2)) (fun j hj => va_eqt (hs _ (a3 j hj))) hA
  obtain ⟨b1, b2, b3⟩ := zgv_a2
  obtain ⟨t2, e2, T2⟩ := va_Tof (N := 4) (f := fun j => .int (zs2 j)) (A := zU s.heap.size) (by decide) (hs _ b1) (va_eqt (hs _ b2)) (fun j hj => va_eqt (hs _ (b3 j hj))) hA
  obtain ⟨c1, c2, c3⟩ := zgv_a3
  obtain ⟨t3, e3, T3⟩ := va_Tof (N := 8) (f := fun j => .int (zs3 j)) (A := zU s.heap.size) (by decide) (hs _ c1) (va_eqt (hs _ c2)) (fun j hj => va_eqt (hs _ (c3 j hj))) hA
  have Z1 := va_Zof (A := zU s.heap.size) (hts _ (zh_in y1)) (G y6) e1 hA
  have Z2 := va_Zof (A := zU s.heap.size) (hts _ (zh_in y2)) (G y6) e2 hA
  have Z3 := va_Zof (A := zU s.heap.size) (hts _ (zh_in y3)) (G y7) e3 hA
  have Z4 := va_Zof (A := zU s.heap.size) (hts _ (zh_in y4)) (G y8) (va_eqt (hs _ zgv_c.1)) hA
  obtain ⟨vf, tF, Z5⟩ : ∃ (vf : Bool) (tF : Nat), va_Z "jdk/internal/util/Preconditions" "SIOOBE_FORMATTER" "Ljava/util/function/BiFunction;" (if vf then .null else .ref tF) (zU s.heap.size) s s.heap := by
    rcases va_Zqof (A := zU s.heap.size) (hts _ (zh_in y5)) (G y9) (hs _ zgv_c.2) hA with h | ⟨t, h⟩
    · exact ⟨true, 0, h⟩
    · exact ⟨false, t, h⟩
  obtain ⟨adK, adV, hV, hVe⟩ := vk_Sof (N := 9) (tm := ztm) (len := zlens) (byt := zbyt) (A := zU s.heap.size) zgv_s7 (fun i hi => hs _ (zgv_s1 i hi)) (fun i hi => hs _ (zgv_s2 i hi)) (fun i hi => hs _ (zgv_s3 i hi)) (fun i hi => hs _ (zgv_s4 i hi)) (fun i hi j hj => hs _ (zgv_s5 i hi j hj)) (fun i j hi hj hne => (zgv_s6 i hi j hj hne).imp (hs _) (hs _)) hA
  obtain ⟨adR, q0, q1, q2, q3, q4, q5, q6⟩ : ∃ adR : Nat → Nat, adR 1000 = b ∧ adR 1001 = t1 ∧ adR 1002 = t2 ∧ adR 1003 = t3 ∧ adR 3000 = tF ∧ (∀ i, i < 9 → adR (2000 + i) = adK i) ∧ (∀ i, i < 9 → adR (2100 + i) = adV i) := by
    refine ⟨fun k => if k = 1000 then b else if k = 1001 then t1 else if k = 1002 then t2 else if k = 1003 then t3 else if k = 3000 then tF else if k < 2100 then adK (k - 2000) else adV (k - 2100), rfl, rfl, rfl, rfl, rfl, fun i hi => ?_, fun i hi => ?_⟩
    · show (if 2000 + i = 1000 then b else if 2000 + i = 1001 then t1 else if 2000 + i = 1002 then t2 else if 2000 + i = 1003 then t3 else if 2000 + i = 3000 then tF else if 2000 + i < 2100 then adK (2000 + i - 2000) else adV (2000 + i - 2100)) = adK i
      rw [if_neg (by omega), if_neg (by omega), if_neg (by omega), if_neg (by omega), if_neg (by omega), if_pos (by omega), Nat.add_sub_cancel_left]
    · show (if 2100 + i = 1000 then b else if 2100 + i = 1001 then t1 else if 2100 + i = 1002 then t2 else if 2100 + i = 1003 then t3 else if 2100 + i = 3000 then tF else if 2100 + i < 2100 then adK (2100 + i - 2000) else adV (2100 + i - 2100)) = adV i
      rw [if_neg (by omega), if_neg (by omega), if_neg (by omega), if_neg (by omega), if_neg (by omega), if_neg (by omega), Nat.add_sub_cancel_left]
  have hRO : zRO s.heap.size adR (zro L xs vf) s s.heap := by
    refine ⟨fun k t N f h hk => ?_, fun k hk => ?_, fun k h1 h2 => ?_, fun k hk => ?_⟩
    · simp only [zro] at h
      split at h
      · rename_i z
        cases h
        rw [z, q0]
        obtain ⟨scr, x1, x2, x3, x4, x5⟩ := hX
        exact Or.inl ⟨rfl, scr, x1, x2, x3, by omega, by rw [x4], x5, hA b hbl⟩
      split at h
      · rename_i z
        cases h
        rw [z, q1]
        exact Or.inl ⟨rfl, T1⟩
      split at h
      · rename_i z
        cases h
        rw [z, q2]
        exact Or.inl ⟨rfl, T2⟩
      split at h
      · rename_i z
        cases h
        rw [z, q3]
        exact Or.inl ⟨rfl, T3⟩
      split at h
      · rename_i z
        cases h
        have := q6 (k - 2100) (by omega)
        rw [show 2100 + (k - 2100) = k by omega] at this
        rw [this]
        exact Or.inr ⟨rfl, (hV.1 (k - 2100) (by omega)).2.2.2⟩
      · cases h
    · rcases hk with rfl | rfl | rfl | rfl | rfl
      · show va_Z "LastMatches" "GROUND_FIRST" "[I" (.ref (zad s.heap.size adR 1001)) _ _ _
        rw [zad_ge (by omega), q1]
        exact Z1
      · show va_Z "LastMatches" "GROUND_MOST" "[I" (.ref (zad s.heap.size adR 1002)) _ _ _
        rw [zad_ge (by omega), q2]
        exact Z2
      · show va_Z "LastMatches$Reading" "NUMBERS_WANTED" "[I" (.ref (zad s.heap.size adR 1003)) _ _ _
        rw [zad_ge (by omega), q3]
        exact Z3
      · exact Z4
      · show va_Z "jdk/internal/util/Preconditions" "SIOOBE_FORMATTER" "Ljava/util/function/BiFunction;" (zcv s.heap.size adR (if vf then .null else .ref 3000)) _ _ _
        have e : zcv s.heap.size adR (if vf then .null else .ref 3000) = if vf then .null else .ref tF := by
          cases vf
          · show Value.ref (zad s.heap.size adR 3000) = .ref tF
            rw [zad_ge (by omega), q4]
          · rfl
        rw [e]
        exact Z5
    · have h3 := hV.1 (k - 2000) (by omega)
      have g1 := q5 (k - 2000) (by omega)
      have g2 := q6 (k - 2000) (by omega)
      rw [show 2000 + (k - 2000) = k by omega] at g1
      rw [show 2100 + (k - 2000) = k + 100 by omega] at g2
      rw [g1, g2]
      exact ⟨h3.1, h3.2.1, h3.2.2.1⟩
    · rw [q5 k hk]
      exact vk_R.of (hts _ (zh_in (zstr_w k hk))) (hVe k hk)
  obtain ⟨n, σ', hz, hz1, hz2⟩ := hrun L xs vf hL
  have hl := lv_entry ([.ref b]) (n := 4) (Nat.le_of_ble_eq_true rfl)
  rw [lg_entry_eq]
  generalize (lg_sl ([.ref b]) ++ List.replicate (4 - (lg_sl ([.ref b])).length) Slot.unset).toArray = lsA at hl ⊢
  have hl : lv_has lsA 4 (zlv s.heap.size adR [(0, .ref 1000)]) := by
    have e : zlv s.heap.size adR [(0, .ref 1000)] = [(0, .ref b)] := by
      show [(0, Value.ref (zad s.heap.size adR 1000))] = _
      rw [zad_ge (by omega), q0]
    rw [e]
    exact hl
  refine zsound s.heap.size (dC, dI) tyc adR (zro L xs vf) l n p e room_1 s m _ below meth c _ 20 216 0 [(0, .ref 1000)] [] [] (some (.int 1)) σ' 0 s.heap [] 0 0 lsA hz ⟨hx, hb, hml, hown, fun h => absurd h (by decide), hts', hN, hK, hRO, Nat.le_refl _⟩ (by decide) (by decide) hz1 (by show _ ≤ _ + 600000; omega) (by show _ ≤ _ + 7302250; omega) ⟨fun k q h => by simp [zwl] at h, va_S.rf, rfl, rfl, hl⟩ ?_
  intro H' locs' cells' slots' lsA' pc' hP' hS' hc' hs' hls hend
  rcases hend with ⟨h, -⟩ | ⟨x, t, h1, -, -, hd⟩ | ⟨x, h, -⟩ | ⟨v, nm, h, hv, -⟩
  · cases h
  · refine va_forget (fun q hq => hS'.2.2 q hq) ?_
    refine W.widen (k := 600000) (n := 7302250) (by omega) (by omega) ?_
    exact lw_ret hx hb hr hlocks hd
  · cases h
  · cases h
    rcases hv with hv | ⟨k, hv⟩ <;> cases hv
