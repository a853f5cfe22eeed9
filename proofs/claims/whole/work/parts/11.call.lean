section ZCALL
variable {base : Nat} {D : va_G} {tyc : Nat → ClassId} {adR : Nat → Nat} {ro : zR}
variable {p : Program} {l : Launch} {e : Env} {R : Room} {s : State} {m : MethodId} {args : Array Value} {below : List Frame} {meth : Method} {c : Code} {Q : State → Prop}
def zPre (base : Nat) (D : va_G) (tyc : Nat → ClassId) (adR : Nat → Nat) (ro : zR) (σ : zW) (U : State) : Prop :=
  U.heap.size = base + σ.length ∧ va_P D vwCl (zwl base tyc adR σ) U.heap ∧ va_K D vwCl (zty tyc) U ∧ zRO base adR ro U U.heap ∧ zNst U
def zQ (base : Nat) (D : va_G) (tyc : Nat → ClassId) (adR : Nat → Nat) (ov : Option Value) (σ' : zW) : Array Value → State → Outcome → State → Prop := fun _ st oc t =>
  (oc = .returned (ov.map (zcv base adR)) ∧ va_P D vwCl (zwl base tyc adR σ') t.heap) ∧ va_F (zU base) st t
def zrm (d mc ms : Nat) : Room := { frames := d, cells := mc, slots := ms, locals := 40 * d }
theorem z_call {mc ms pc : Nat} {H : Heap} {locs : List Loc} {cells slots : Nat} {ls : Array Slot} {st0 rest : List Value} {a : Array Value} {free : Addr → Prop} {ov : Option Value} {σ' : zW} (hr : va_Run p l e R s m args below meth c H locs cells slots mc ms (F0 m pc ls st0) rest (zQ base D tyc adR ov σ' a) free) (hS : va_S (zU base) s.heap H locs) (hf : ∀ q, free q → zU base q)
    (kk : ∀ (H1 : Heap) (locs1 : List Loc), va_P D vwCl (zwl base tyc adR σ') H1 → va_S (zU base) s.heap H1 locs1 → W p l e R s m args below meth c H1 locs1 (cells + mc) (slots + ms) Q (F0 m (pc + 3) ls ((ov.map (zcv base adR)).toList ++ rest))) : W p l e R s m args below meth c H locs cells slots Q (F0 m pc ls st0) := by
  intro T hT X
  obtain ⟨v, st₀, t, T', L, h0, X', hL, e1, e2, ⟨⟨hv, hp⟩, hz, hk⟩, st⟩ := hr T hT X
  cases hv
  rw [h0] at hz hk
  obtain ⟨t2, a1, b1⟩ := kk T'.heap (locs ++ L) (by rw [e1]; exact hp)
    ⟨Nat.le_trans hS.1 (by rw [e1]; exact hz), fun q h1 h2 => by rw [e1, hk q (Nat.lt_of_lt_of_le h1 hS.1) h2]; exact hS.2.1 q h1 h2, fun q hq => by
      rcases List.mem_append.mp hq with h | h
      · exact hS.2.2 q h
      · exact hf _ (hL q h)⟩ T' rfl X'
  exact ⟨t2, st t2 a1, b1⟩
theorem zcall_inv {d mi n pc d' m' pc' : Nat} {ls ls' : zL} {st st' as : List Value} {ok : Nat → Bool} (h : zcall d mi n pc ls st ok = some (.inr (.inr (d', m', as, pc', ls', st')))) : ∃ (b : Nat) (r : List Value), st = (st.take n) ++ .ref b :: r ∧ ok b = true ∧ as = .ref b :: (st.take n).reverse ∧ d' = zrk mi as ∧ m' = mi ∧ pc' = pc ∧ ls' = ls ∧ st' = r ∧ d' < d ∧ zsum r ≤ 8 ∧ zsum as ≤ mL mi ∧ (st.take n).length = n := by
  unfold zcall at h
  split at h
  · rename_i b r e
    obtain ⟨h1, h⟩ := ite_inv h
    simp only [aC, Option.some.injEq, Sum.inr.injEq, Prod.mk.injEq] at h
    obtain ⟨rfl, rfl, rfl, rfl, rfl, rfl⟩ := h
    refine ⟨b, r, ?_, h1.1, rfl, rfl, rfl, rfl, rfl, rfl, h1.2.1, h1.2.2.1, h1.2.2.2.1, List.length_take_of_le h1.2.2.2.2⟩
    rw [← e, List.take_append_drop]
  · cases h
theorem zcallS_inv {d mi n pc d' m' pc' : Nat} {ls ls' : zL} {st st' as : List Value} (h : zcallS d mi n pc ls st = some (.inr (.inr (d', m', as, pc', ls', st')))) : as = (st.take n).reverse ∧ d' = zrk mi as ∧ m' = mi ∧ pc' = pc ∧ ls' = ls ∧ st = st.take n ++ st' ∧ d' < d ∧ zsum st' ≤ 8 ∧ zsum as ≤ mL mi ∧ (st.take n).length = n := by
  unfold zcallS at h
  obtain ⟨h1, h⟩ := ite_inv h
  simp only [aC, Option.some.injEq, Sum.inr.injEq, Prod.mk.injEq] at h
  obtain ⟨rfl, rfl, rfl, rfl, rfl, rfl⟩ := h
  exact ⟨rfl, rfl, rfl, rfl, rfl, (List.take_append_drop _ _).symm, h1.2.1, h1.2.2.1, h1.2.2.2, List.length_take_of_le h1.1⟩
theorem zcw_ok {m n : Nat} {ini cw : Int} (h : zcw m n ini cw = true) : (∀ w ∈ zws m, w ∈ zG) ∧ Cond.initialized (mN m).cls ∈ zG ∧ (parseMethodDescriptor (mN m).desc).map (fun d => d.parameters.length) = some n ∧ (mN m).cls ≠ "java/lang/invoke/MethodHandle" ∧ (mN m).cls ≠ "java/lang/invoke/VarHandle" ∧ mL m ≤ 21 ∧ plainName (mN m).cls = true := by
  simp only [zcw, Bool.and_eq_true, decide_eq_true_eq] at h
  obtain ⟨⟨⟨⟨⟨⟨h1, h2⟩, h3⟩, h4⟩, h5⟩, h6⟩, h7⟩ := h
  refine ⟨fun w hw => ?_, zg_in h2, h3, h4, h5, h6, h7⟩
  rcases List.mem_cons.mp hw with rfl | hw
  · exact zg_in h1
  · exact hw
theorem zPre_blind {σ : zW} {av : List Value} : FrameBlind (va_Pc av (zPre base D tyc adR ro σ)) := by
  intro a U g mk q
  obtain ⟨h0, h1, h2, h3, h4, h5⟩ := q
  exact ⟨h0, h1, h2, va_K.moved (u := U) (U := U.calling g mk a) (Vm.Alike.refl U.vm) h3, zRO.same (u := U) (U := U.calling g mk a) rfl h4, zNst.same (u := U) (U := U.calling g mk a) rfl h5⟩
set_option maxHeartbeats 4000000 in
/-- one instruction that calls -/
theorem zstepC {d mi pc pc' d' m' : Nat} {q : Instr × Nat × List Int} {ls ls' : zL} {st st' as : List Value} {σ σ1 : zW} {S0 : Nat} {ov : Option Value} (hq : zF mi pc = some q) (hmi : mi < 217) (F : zFix base D tyc adR ro p s m args meth c mi) (hd1 : d ≤ R.frames) (hd2 : 40 * d ≤ R.locals)
    (h : zact ro d mi pc q ls st σ = some (.inr (.inr (d', m', as, pc', ls', st')))) (h900 : σ.length ≤ 900) (hrc : base + σ1.length ≤ s.heap.size + R.cells) (hrs : zsl σ1 ≤ S0 + R.slots) (hle : σ.length ≤ σ1.length ∧ zsl σ ≤ zsl σ1) {H : Heap} {locs : List Loc} {cells slots : Nat} {lsA : Array Slot} (hAt : zAt base D tyc adR s S0 mi σ ls H locs cells slots lsA)
    (hM : d' < d → plainName (mN m').cls = true → mL m' ≤ 21 → zsum as ≤ mL m' → Met l (mN m') (zws m') (zrm d' (σ1.length - σ.length) (zsl σ1 - zsl σ)) (va_Pc (as.map (zcv base adR)) (zPre base D tyc adR ro σ)) (zQ base D tyc adR ov σ1) (σ1.length - σ.length) (zsl σ1 - zsl σ) (zU base))
    (k : ∀ (H' : Heap) (locs' : List Loc) (cells' slots' : Nat) (lsA' : Array Slot), zAt base D tyc adR s S0 mi σ1 ls' H' locs' cells' slots' lsA' → W p l e R s m args below meth c H' locs' cells' slots' Q (F0 m pc' lsA' ((ov.toList ++ st').map (zcv base adR)))) :
    W p l e R s m args below meth c H locs cells slots Q (F0 m pc lsA (st.map (zcv base adR))) := by
  obtain ⟨hx, hb, hml, hown, hin, hts, hN, hK, hRO, hbase⟩ := F
  obtain ⟨hP, hS, hc, hsl, hl⟩ := id hAt
  have hr := zrow hq hmi
  have h1 := zact_q (ro := ro) (d := d) (mi := mi) (pc := pc) (q := q) (ls := ls) (st := st) (σ := σ)
  -- what follows a call
  have fin : ls' = ls → pc' = pc + 3 → ∀ (H1 : Heap) (locs1 : List Loc), va_P D vwCl (zwl base tyc adR σ1) H1 → va_S (zU base) s.heap H1 locs1 → W p l e R s m args below meth c H1 locs1 (cells + (σ1.length - σ.length)) (slots + (zsl σ1 - zsl σ)) Q (F0 m (pc + 3) lsA ((ov.map (zcv base adR)).toList ++ st'.map (zcv base adR))) := by
    rintro rfl rfl H1 locs1 g1 g2
    have hk := k H1 locs1 (cells + (σ1.length - σ.length)) (slots + (zsl σ1 - zsl σ)) lsA ⟨g1, g2, by omega, by omega, hl⟩
    rw [List.map_append] at hk
    have e1 : ov.toList.map (zcv base adR) = (ov.map (zcv base adR)).toList := by cases ov <;> rfl
    rw [e1] at hk
    exact hk
  have hf : cells + (σ1.length - σ.length) ≤ R.cells ∧ slots + (zsl σ1 - zsl σ) ≤ R.slots := ⟨by omega, by omega⟩
  have pre : ∀ {T : State}, T.heap = H → Stand p l e R s m args below meth c T locs cells slots → ∀ U : State, U.heap = H → s.WarmedH U.vm → va_Pc (as.map (zcv base adR)) (zPre base D tyc adR ro σ) (as.map (zcv base adR)).toArray U := fun {T} hT X U hU hW =>
    ⟨rfl, by rw [hU]; exact zsize hP hS hc hbase hT X, by rw [hU]; exact hP, va_K.moved hW.alike hK, zRO.step hW hS hU hRO, hN.warm hW⟩
  have hF : CallFix p m c (mB mi) (mL mi) s args zG (mN mi).cls := ⟨hx, hb, hml, hown, hts⟩
  have hroom : ∀ (r : List Value), zsum r ≤ 8 → 2 * (F0 m pc lsA (st.map (zcv base adR))).monitorRoom + ((r.map (zcv base adR)).map fun v => v.category).sum ≤ 8 := fun r hr => by
    have e0 : (F0 m pc lsA (st.map (zcv base adR))).monitorRoom = 0 := rfl
    rw [e0, zsum_map]
    omega
  have hrm : d' < d → ∀ x : Nat, x ≤ 21 → (zrm d' (σ1.length - σ.length) (zsl σ1 - zsl σ)).frames + 1 ≤ R.frames ∧ 8 + (x + 11) + (zrm d' (σ1.length - σ.length) (zsl σ1 - zsl σ)).locals ≤ R.locals := fun hd x hx => by
    show d' + 1 ≤ R.frames ∧ 8 + (x + 11) + 40 * d' ≤ R.locals
    omega
  obtain ⟨ins, len, aux⟩ := q
  have hki : zki ins = 1 := by
    by_cases hk2 : zki ins = 2
    · exact absurd h (zret_noJ hk2)
    · have h2 := h1 hk2
      rw [h] at h2
      have h3 : (zki ins == 1) = true := h2
      simpa using h3
  have h9 := hr.1
  cases ins
  case invokespecial i =>
    have hdg : decode (mB mi) pc = .ok (.invokespecial i, 3) := zdec hr (Nat.succ_ne_zero _)
    unfold zact at h
    dsimp only at h
    split at h
    · replace h := zP1_inv h
      obtain ⟨a, r, hst, h⟩ := h
      obtain ⟨-, h⟩ := ite_inv h
      cases h
    · rename_i w0 mm nn w1 w2 w3 w4
      obtain ⟨b, r, hst, -, has, hd, rfl, hpc, hls, rfl, hdd, hz, hz2, hn⟩ := zcall_inv h
      simp only [zchk, Bool.and_eq_true, decide_eq_true_eq] at h9
      obtain ⟨-, ⟨⟨⟨g1, g2⟩, g3⟩, g4⟩, g5⟩ := h9
      obtain ⟨c1, c2, c3, c4, c5, c6, c7⟩ := zcw_ok g1
      have hMM := hM hdd c7 c6 hz2
      have hw : zws mm.toNat = Cond.code (mN mm.toNat) (mB mm.toNat) (mL mm.toNat) none :: zG := by rw [zws, g5]
      intro T hT X
      have hpre := pre hT X
      rw [has] at hpre hMM
      have hstk : st.map (zcv base adR) = (((st.take nn.toNat).reverse).map (zcv base adR)).reverse ++ .ref (zad base adR b) :: st'.map (zcv base adR) := by
        conv => lhs; rw [hst]
        rw [List.map_append, List.map_reverse, List.reverse_reverse]
        rfl
      exact z_call (va_runI hF hMM ⟨callB_of (ret := none) nn.toNat hts (zG_good c1) hw rfl rfl (hts _ c2) (hts _ (zg_in g2)) ⟨c4, c5, c3⟩ (hrm hdd _ c6), g4, hts _ (zg_in g3)⟩ ⟨zPre_blind, hpre⟩ rfl (by rw [List.length_map, List.length_reverse, hn]) hl.1 hstk (hroom _ hz) hdg hf) hS (fun q hq => hq) (fin hls hpc) T hT X
    · rename_i w0 mm nn w1 w2 w3 w4 w5 w6
      obtain ⟨b, r, hst, hok, has, hd, rfl, hpc, hls, rfl, hdd, hz, hz2, hn⟩ := zcall_inv h
      simp only [zchk, Bool.and_eq_true, decide_eq_true_eq] at h9
      obtain ⟨-, ⟨⟨⟨⟨g1, g2⟩, g3⟩, g4⟩, g5⟩, g6⟩ := h9
      obtain ⟨c1, c2, c3, c4, c5, c6, c7⟩ := zcw_ok g1
      have hMM := hM hdd c7 c6 hz2
      have hcl := zcl_of (by simpa using hok)
      obtain ⟨fs, cq, e1, e2⟩ := hcl
      have hlt := lt_of_some e1
      intro T hT X
      have hpre := pre hT X
      rw [has] at hpre hMM
      have hstk : st.map (zcv base adR) = (((st.take nn.toNat).reverse).map (zcv base adR)).reverse ++ .ref (base + b) :: st'.map (zcv base adR) := by
        conv => lhs; rw [hst]
        rw [List.map_append, List.map_reverse, List.reverse_reverse, ← zad_lt (adR := adR) (show b < 1000 by omega)]
        rfl
      have hcat : Value.ref (zad base adR b) = Value.ref (base + b) := congrArg Value.ref (zad_lt (by omega))
      rw [List.map_cons, show zcv base adR (.ref b) = .ref (base + b) from hcat] at hpre hMM
      have hT6 : ∀ w ∈ va_wsSU (mN mi).cls i (mN mm.toNat) (zws mm.toNat), w ∈ zG := by
        intro w hw
        unfold va_wsSU at hw
        rcases List.mem_append.mp hw with hw | hw
        · simp only [List.mem_cons, List.not_mem_nil, or_false] at hw
          rcases hw with rfl | rfl | rfl | rfl | rfl
          · exact zg_in g2
          · exact zg_in g3
          · exact zg_in g4
          · exact zg_in g5
          · exact c2
        · exact c1 w hw
      exact z_call (va_runSU (hK.1 _ _ e2).2 hF hMM (va_cwSU nn.toNat hts (zG_good hT6) rfl rfl rfl ⟨g6, c3⟩ (hrm hdd _ c6)) ⟨zPre_blind, va_recv hK hP e2 (zwl_get e1), hpre⟩ rfl (by rw [List.length_map, List.length_reverse, hn]) hl.1 hstk (hroom _ hz) hdg hf) hS (fun q hq => hq) (fin hls hpc) T hT X
    · cases h
  case invokestatic i =>
    have hdg : decode (mB mi) pc = .ok (.invokestatic i, 3) := zdec hr (Nat.succ_ne_zero _)
    unfold zact at h
    dsimp only at h
    split at h
    · rename_i w0 mm nn w1 w2 w3 w4
      obtain ⟨has, hd, rfl, hpc, hls, hst, hdd, hz, hz2, hn⟩ := zcallS_inv h
      simp only [zchk, Bool.and_eq_true, decide_eq_true_eq] at h9
      obtain ⟨-, ⟨g1, g2⟩, g3⟩ := h9
      obtain ⟨c1, c2, c3, c4, c5, c6, c7⟩ := zcw_ok g1
      have hMM := hM hdd c7 c6 hz2
      intro T hT X
      have hpre := pre hT X
      have hstk : st.map (zcv base adR) = (as.map (zcv base adR)).reverse ++ st'.map (zcv base adR) := by
        conv => lhs; rw [hst]
        rw [List.map_append, has, List.map_reverse, List.reverse_reverse]
      exact z_call (va_runS hF hMM ⟨callB_of nn.toNat hts (zG_good c1) rfl rfl rfl (hts _ c2) (hts _ (zg_in g2)) ⟨c4, c5, c3⟩ (hrm hdd _ c6), hts _ (zg_in g3)⟩ ⟨zPre_blind, hpre⟩ rfl (by rw [List.length_map, has, List.length_reverse, hn]) hl.1 hstk (hroom _ hz) hdg hf) hS (fun q hq => hq) (fin hls hpc) T hT X
    · rename_i w0 mm nn w1 w2 w3 w4
      obtain ⟨has, hd, rfl, hpc, hls, hst, hdd, hz, hz2, hn⟩ := zcallS_inv h
      simp only [zchk, Bool.and_eq_true, decide_eq_true_eq] at h9
      obtain ⟨-, ⟨g1, g2⟩, g3⟩ := h9
      obtain ⟨c1, c2, c3, c4, c5, c6, c7⟩ := zcw_ok g1
      have hMM := hM hdd c7 c6 hz2
      intro T hT X
      have hpre := pre hT X
      have hstk : st.map (zcv base adR) = (as.map (zcv base adR)).reverse ++ st'.map (zcv base adR) := by
        conv => lhs; rw [hst]
        rw [List.map_append, has, List.map_reverse, List.reverse_reverse]
      exact z_call (va_runSN hF hMM ⟨va_cnB nn.toNat hts (zG_good c1) rfl rfl rfl (hN.1 _ (zh_in g2) rfl) (hts _ c2) ⟨c4, c5, c3⟩ (hrm hdd _ c6), hts _ (zg_in g3), trivial⟩ ⟨zPre_blind, hpre⟩ rfl (by rw [List.length_map, has, List.length_reverse, hn]) hl.1 hstk (hroom _ hz) hdg hf) hS (fun q hq => hq) (fin hls hpc) T hT X
    · obtain ⟨-, h⟩ := ite_inv h
      obtain ⟨n, dp, bb, sp, a, st', m0, g, k0, hh, -, -, -, -, -, -, -, -, -, h⟩ := zcpy_inv h
      cases h
    · obtain ⟨x, y, r, -, h⟩ := zI2_inv h
      obtain ⟨-, h⟩ := ite_inv h
      cases h
    · obtain ⟨x, y, r, -, h⟩ := zI2_inv h
      obtain ⟨-, h⟩ := ite_inv h
      cases h
    · obtain ⟨x, y, r, -, h⟩ := zJ2_inv h
      obtain ⟨-, h⟩ := ite_inv h
      cases h
    · cases h
  case invokevirtual i =>
    have hdg : decode (mB mi) pc = .ok (.invokevirtual i, 3) := zdec hr (Nat.succ_ne_zero _)
    unfold zact at h
    dsimp only at h
    split at h
    · rename_i w0 mm nn w1 w2 w3 w4 w5 ci
      obtain ⟨b, r, hst, hok, has, hd, rfl, hpc, hls, rfl, hdd, hz, hz2, hn⟩ := zcall_inv h
      simp only [zchk, Bool.and_eq_true, decide_eq_true_eq] at h9
      obtain ⟨-, ⟨⟨⟨⟨g1, g2⟩, g3⟩, g4⟩, g5⟩, g6⟩ := h9
      obtain ⟨c1, c2, c3, c4, c5, c6, c7⟩ := zcw_ok g1
      have hMM := hM hdd c7 c6 hz2
      obtain ⟨fs, e1⟩ := zis_of hok
      have hlt := lt_of_some e1
      split at g6
      · rename_i qq hqq
        have g7 : qq.1 = (mN mm.toNat).cls := by simpa using g6
        intro T hT X
        have hpre := pre hT X
        rw [has] at hpre hMM
        have hstk : st.map (zcv base adR) = (((st.take nn.toNat).reverse).map (zcv base adR)).reverse ++ .ref (base + b) :: st'.map (zcv base adR) := by
          conv => lhs; rw [hst]
          rw [List.map_append, List.map_reverse, List.reverse_reverse, ← zad_lt (adR := adR) (show b < 1000 by omega)]
          rfl
        have hcat : Value.ref (zad base adR b) = Value.ref (base + b) := congrArg Value.ref (zad_lt (by omega))
        rw [List.map_cons, show zcv base adR (.ref b) = .ref (base + b) from hcat] at hpre hMM
        have hrv := va_recv hK hP hqq (zwl_get e1)
        rw [g7] at hrv
        exact z_call (va_runV hF hMM ⟨callB_of nn.toNat hts (zG_good c1) rfl rfl rfl (hts _ c2) (hts _ (zg_in g2)) ⟨c4, c5, c3⟩ (hrm hdd _ c6), hts _ (zg_in g3), hts _ (zg_in g4)⟩ ⟨zPre_blind, hrv, hpre⟩ rfl (by rw [List.length_map, List.length_reverse, hn]) hl.1 hstk (hroom _ hz) hdg hf) hS (fun q hq => hq) (fin hls hpc) T hT X
      · cases g6
    · rename_i w0 mm nn w1 w2 w3 w4 w5
      obtain ⟨b, r, hst, hok, has, hd, rfl, hpc, hls, rfl, hdd, hz, hz2, hn⟩ := zcall_inv h
      simp only [zchk, Bool.and_eq_true, decide_eq_true_eq] at h9
      obtain ⟨-, ⟨⟨⟨g1, g2⟩, g3⟩, g4⟩, g5⟩ := h9
      obtain ⟨c1, c2, c3, c4, c5, c6, c7⟩ := zcw_ok g1
      have hMM := hM hdd c7 c6 hz2
      have hb2 : 2000 ≤ b ∧ b < 2009 := by simpa using hok
      intro T hT X
      have hpre := pre hT X
      rw [has] at hpre hMM
      have hstk : st.map (zcv base adR) = (((st.take nn.toNat).reverse).map (zcv base adR)).reverse ++ .ref (adR b) :: st'.map (zcv base adR) := by
        conv => lhs; rw [hst]
        rw [List.map_append, List.map_reverse, List.reverse_reverse, ← zad_ge (base := base) (adR := adR) (show 1000 ≤ b by omega)]
        rfl
      have hcat : Value.ref (zad base adR b) = Value.ref (adR b) := congrArg Value.ref (zad_ge (by omega))
      rw [List.map_cons, show zcv base adR (.ref b) = .ref (adR b) from hcat] at hpre hMM
      have hrv := va_Orecv (hRO.2.2.1 b hb2.1 hb2.2).1 hS
      rw [← g5] at hrv
      exact z_call (va_runV hF hMM ⟨callB_of nn.toNat hts (zG_good c1) rfl rfl rfl (hts _ c2) (hts _ (zg_in g2)) ⟨c4, c5, c3⟩ (hrm hdd _ c6), hts _ (zg_in g3), hts _ (zg_in g4)⟩ ⟨zPre_blind, hrv, hpre⟩ rfl (by rw [List.length_map, List.length_reverse, hn]) hl.1 hstk (hroom _ hz) hdg hf) hS (fun q hq => hq) (fin hls hpc) T hT X
    · rename_i w0 mm nn w1
      split at h
      · rename_i b0 r0 hst0
        split at h
        · rename_i row hrow
          obtain ⟨b, r, hst, -, has, hd, rfl, hpc, hls, rfl, hdd, hz, hz2, hn⟩ := zcall_inv h
          have hbb : b = b0 := by
            have h3 : st.drop nn.toNat = .ref b :: st' := by
              conv => lhs; rw [hst]
              rw [List.drop_append_of_le_length (by omega), List.drop_of_length_le (by omega)]
              rfl
            rw [h3] at hst0
            cases hst0
            rfl
          subst hbb
          simp only [zchk, Bool.and_eq_true, decide_eq_true_eq] at h9
          obtain ⟨-, ⟨g1, g2⟩, g3⟩ := h9
          obtain ⟨fs, qq, e1, e2, tm, g4, gd, ⟨ini, cw, g5⟩, g6, g7, g8, g9, g10⟩ := zvt_ok g3 hrow
          have hlt := lt_of_some e1
          rw [g4] at hM hz2
          obtain ⟨c1, c2, c3, c4, c5, c6, c7⟩ := zcw_ok g5
          have hMM := hM hdd c7 c6 hz2
          intro T hT X
          have hpre := pre hT X
          rw [has] at hpre hMM
          have hstk : st.map (zcv base adR) = (((st.take nn.toNat).reverse).map (zcv base adR)).reverse ++ .ref (base + b) :: st'.map (zcv base adR) := by
            conv => lhs; rw [hst]
            rw [List.map_append, List.map_reverse, List.reverse_reverse, ← zad_lt (adR := adR) (show b < 1000 by omega)]
            rfl
          have hcat : Value.ref (zad base adR b) = Value.ref (base + b) := congrArg Value.ref (zad_lt (by omega))
          rw [List.map_cons, show zcv base adR (.ref b) = .ref (base + b) from hcat] at hpre hMM
          have hrv := va_recv hK hP e2 (zwl_get e1)
          have hT6 : ∀ w ∈ va_wsO (mN mi).cls i qq.1 (mN mm.toNat).cls (mN mm.toNat) (mN tm) (zws tm), w ∈ zG := by
            intro w hw
            unfold va_wsO at hw
            rcases List.mem_append.mp hw with hw | hw
            · simp only [List.mem_cons, List.not_mem_nil, or_false] at hw
              rcases hw with rfl | rfl | rfl | rfl | rfl | rfl
              · exact zg_in g2
              · exact g8
              · exact g9
              · exact g6
              · exact g7
              · exact c2
            · exact c1 w hw
          exact z_call (va_runU hF hMM (va_cwO nn.toNat hts (zG_good hT6) rfl rfl rfl g10 ⟨by rw [g1]; decide, by rw [g1]; decide, by rw [gd]; exact c3⟩ (hrm hdd _ c6)) ⟨zPre_blind, hrv, hpre⟩ rfl (by rw [List.length_map, List.length_reverse, hn]) hl.1 hstk (hroom _ hz) hdg hf) hS (fun q hq => hq) (fin hls hpc) T hT X
        · cases h
      · cases h
    · cases h
  all_goals (simp [zki] at hki)
end ZCALL
