/-! THE WHOLE: what the abstract machine runs to its end, the real machine does too -/
theorem zret_ok {t : FieldType} {x : Int32} (h : zret t x = true) : narrow t (.int x) = .int x := by
  cases t <;> first | rfl | (simp [zret] at h; done) | skip
  · have h1 : x = 0 := by simpa [zret] using h
    subst h1
    rfl
  · simp only [zret, Bool.and_eq_true, decide_eq_true_eq] at h
    have h0 : ¬ x < 0 := fun q => by
      have := Int32.lt_iff_toInt_lt.mp q
      simp at this
      omega
    obtain ⟨j, hj, rfl⟩ := nI_of h0
    rw [nI_toInt hj] at h
    have key : ∀ j : Fin 128, narrow .char (.int (nI j.val)) = .int (nI j.val) := by decide +kernel
    exact key ⟨j, by omega⟩
  · have h1 : x = 0 ∨ x = 1 := by simpa [zret] using h
    rcases h1 with rfl | rfl <;> rfl
set_option maxRecDepth 100000 in
set_option maxHeartbeats 4000000 in
theorem mC_big {mi : Nat} (h : 217 ≤ mi) : mC mi = [] := by
  unfold mC
  split <;> first | rfl | omega
theorem zrun_lt {ro : zR} {n d mi pc : Nat} {ls : zL} {st : List Value} {σ : zW} {r} (h : zrun ro n d mi pc ls st σ = some r) : mi < 217 := by
  rcases Nat.lt_or_ge mi 217 with q | q
  · exact q
  · cases n with
    | zero => cases h
    | succ n =>
      simp only [zrun, zF, mC_big q, List.find?_nil, Option.map_none] at h
      cases h
def zSnd (base : Nat) (D : va_G) (tyc : Nat → ClassId) (adR : Nat → Nat) (ro : zR) (l : Launch) (n : Nat) : Prop :=
  ∀ (p : Program) (e : Env) (R : Room) (s : State) (m : MethodId) (args : Array Value) (below : List Frame) (meth : Method) (c : Code) (Q : State → Prop) (d mi pc : Nat) (ls : zL) (st : List Value) (σ : zW) (ov : Option Value) (σ' : zW) (S0 : Nat) (H : Heap) (locs : List Loc) (cells slots : Nat) (lsA : Array Slot),
    zrun ro n d mi pc ls st σ = some (ov, σ') → zFix base D tyc adR ro p s m args meth c mi → d ≤ R.frames → 40 * d ≤ R.locals → σ'.length ≤ 900 → base + σ'.length ≤ s.heap.size + R.cells → zsl σ' ≤ S0 + R.slots → zAt base D tyc adR s S0 mi σ ls H locs cells slots lsA →
    (∀ (H' : Heap) (locs' : List Loc) (cells' slots' : Nat) (lsA' : Array Slot) (pc' : Nat), va_P D vwCl (zwl base tyc adR σ') H' → va_S (zU base) s.heap H' locs' → base + σ'.length = s.heap.size + cells' → zsl σ' = S0 + slots' → lsA'.size = mL mi → zend mi pc' ov → W p l e R s m args below meth c H' locs' cells' slots' Q (F0 m pc' lsA' (ov.map (zcv base adR)).toList)) →
    W p l e R s m args below meth c H locs cells slots Q (F0 m pc lsA (st.map (zcv base adR)))
theorem zmet {base : Nat} {D : va_G} {tyc : Nat → ClassId} {adR : Nat → Nat} {ro : zR} {l : Launch} {n : Nat} (IH : zSnd base D tyc adR ro l n) {d mi : Nat} {as : List Value} {σ σ' : zW} {ov : Option Value} (h : zrun ro n d mi 0 (lv_args 0 as) [] σ = some (ov, σ')) (hpl : plainName (mN mi).cls = true) (hz : zsum as ≤ mL mi) (h9 : σ'.length ≤ 900) :
    Met l (mN mi) (zws mi) (zrm d (σ'.length - σ.length) (zsl σ' - zsl σ)) (va_Pc (as.map (zcv base adR)) (zPre base D tyc adR ro σ)) (zQ base D tyc adR ov σ') (σ'.length - σ.length) (zsl σ' - zsl σ) (zU base) := by
  have hle := zrun_le _ _ _ _ _ _ _ _ _ h
  refine Met.ofW (cc := mB mi) (maxL := mL mi) (ret := mR mi) hpl rfl ?_
  intro p e s m args below meth c s₁ B hml hv
  obtain ⟨rfl, hsz, hP, hK, hRO, hN⟩ := hv
  have hx := B.exec
  have hb := B.bytes
  have hr := B.returns
  have hlocks := B.notSynchronized
  have hts := atoms_spec (ws := zws mi) B.pre
  have hown : s.vm.findClass (mN mi).cls = some m.cls := findClass_of_methodNamed B.named
  have hin : meth.name = (mN mi).name := (name_of_methodNamed B.named B.method).1
  have hl := lv_entry (as.map (zcv base adR)) (n := mL mi) (by
    refine Nat.le_trans (lg_sl_len _) ?_
    have : zsum (as.map (zcv base adR)) = zsum as := zsum_map as
    omega)
  rw [lg_entry_eq]
  generalize (lg_sl (as.map (zcv base adR)) ++ List.replicate (mL mi - (lg_sl (as.map (zcv base adR))).length) Slot.unset).toArray = lsA at hl ⊢
  rw [← zlv_args] at hl
  refine IH p e (headSpec (zws mi) (zrm d (σ'.length - σ.length) (zsl σ' - zsl σ))).room s m _ below meth c _ d mi 0 (lv_args 0 as) [] σ ov σ' (zsl σ) s.heap [] 0 0 lsA h ⟨hx, hb, hml, hown, fun z => hin.trans z, fun w hw => hts w (List.mem_cons_of_mem _ hw), hN, hK, hRO, by omega⟩ (Nat.le_refl _) (Nat.le_refl _) h9 (by show base + σ'.length ≤ s.heap.size + (σ'.length - σ.length); omega) (by show zsl σ' ≤ zsl σ + (zsl σ' - zsl σ); omega) ⟨hP, va_S.rf, by omega, rfl, hl⟩ ?_
  intro H' locs' cells' slots' lsA' pc' hP' hS' hc' hs' hls hend
  have e1 : cells' = σ'.length - σ.length := by omega
  have e2 : slots' = zsl σ' - zsl σ := by omega
  subst e1
  subst e2
  rcases hend with ⟨rfl, hR, hd⟩ | ⟨x, t, rfl, hR, hz2, hd⟩ | ⟨x, rfl, hR, hd⟩ | ⟨v, nm, rfl, hv, hR, hd⟩
  · exact W.vret hx hb (hr.trans hR) (fun t ht hW => ⟨⟨rfl, by rw [ht]; exact hP'⟩, hS'.F ht⟩) hS'.2.2 hd hlocks
  · exact W.zret hx hb (hr.trans hR) (zret_ok hz2) (fun t ht hW => ⟨⟨rfl, by rw [ht]; exact hP'⟩, hS'.F ht⟩) hS'.2.2 hd hlocks
  · exact W.lret hx hb (hr.trans hR) (fun t ht hW => ⟨⟨rfl, by rw [ht]; exact hP'⟩, hS'.F ht⟩) hS'.2.2 hd hlocks
  · refine W.aret (v := zcv base adR v) hx hb (hr.trans hR) (Or.inl ⟨nm, rfl⟩) ?_ (fun t ht hW => ⟨⟨rfl, by rw [ht]; exact hP'⟩, hS'.F ht⟩) hS'.2.2 hd hlocks
    rcases hv with rfl | ⟨k, rfl⟩
    · exact Or.inl rfl
    · exact Or.inr ⟨_, rfl⟩
theorem zsound (base : Nat) (D : va_G) (tyc : Nat → ClassId) (adR : Nat → Nat) (ro : zR) (l : Launch) : ∀ n, zSnd base D tyc adR ro l n := by
  intro n
  induction n with
  | zero => intro p e R s m args below meth c Q d mi pc ls st σ ov σ' S0 H locs cells slots lsA h; cases h
  | succ n ih =>
    intro p e R s m args below meth c Q d mi pc ls st σ ov σ' S0 H locs cells slots lsA h F hd1 hd2 h9 hrc hrs hAt k
    have hmi := zrun_lt h
    have hle := zrun_le _ _ _ _ _ _ _ _ _ h
    simp only [zrun] at h
    split at h
    · cases h
    · rename_i q hq
      split at h
      · cases h
      · rename_i ov' ha
        cases h
        obtain ⟨h1, h2⟩ := zact_ret hq hmi ha
        have hk := k H locs cells slots lsA pc hAt.1 hAt.2.1 hAt.2.2.1 hAt.2.2.2.1 hAt.2.2.2.2.1 h1
        have e1 : (ov.map (zcv base adR)).toList = st.map (zcv base adR) := by rw [h2]; cases ov <;> rfl
        rw [e1] at hk
        exact hk
      · rename_i pc' ls' st' σ1 ha
        have h2 := zrun_le _ _ _ _ _ _ _ _ _ h
        exact zstep hq hmi F hd1 hd2 ha (by omega) (by omega) (by omega) (by
          have hk : zki q.1 ≠ 2 := fun z => zret_noJ z ha
          have h3 := zact_q (ro := ro) (d := d) (mi := mi) (pc := pc) (ls := ls) (st := st) (σ := σ) hk
          rw [ha] at h3
          exact h3) hAt (fun H' locs' cells' slots' lsA' hAt' => ih p e R s m args below meth c Q d mi pc' _ st' σ1 ov σ' S0 H' locs' cells' slots' lsA' h F hd1 hd2 h9 hrc hrs ⟨hAt'.1, hAt'.2.1, hAt'.2.2.1, hAt'.2.2.2.1, zpr_has hAt'.2.2.2.2⟩ k)
      · rename_i d' m' as pc' ls' st' ha
        split at h
        · cases h
        · rename_i ov1 σ1 h1
          have h2 := zrun_le _ _ _ _ _ _ _ _ _ h1
          have h3 := zrun_le _ _ _ _ _ _ _ _ _ h
          exact zstepC hq hmi F hd1 hd2 ha (by omega) (by omega) (by omega) h2 hAt (fun hdd hpl hL hz => zmet ih h1 hpl hz (by omega)) (fun H' locs' cells' slots' lsA' hAt' => ih p e R s m args below meth c Q d mi pc' _ _ σ1 ov σ' S0 H' locs' cells' slots' lsA' h F hd1 hd2 h9 hrc hrs ⟨hAt'.1, hAt'.2.1, hAt'.2.2.1, hAt'.2.2.2.1, zpr_has hAt'.2.2.2.2⟩ k)
