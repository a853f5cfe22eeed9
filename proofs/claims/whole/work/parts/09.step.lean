theorem zad_lt {base : Nat} {adR : Nat → Nat} {k : Nat} (h : k < 1000) : zad base adR k = base + k := if_pos h
theorem zad_ge {base : Nat} {adR : Nat → Nat} {k : Nat} (h : 1000 ≤ k) : zad base adR k = adR k := if_neg (by omega)
theorem lt_of_some {α : Type} {l : List α} {k : Nat} {c : α} (h : l[k]? = some c) : k < l.length := (List.getElem?_eq_some_iff.mp h).1
theorem zfit_ok {base : Nat} {adR : Nat → Nat} {ty : FieldType} {v : Value} (h : zfit ty v = true) : narrow ty (zcv base adR v) = zcv base adR v ∧ fits ty (zcv base adR v) = true := by
  cases ty <;> cases v <;> first | (simp [zfit] at h; done) | exact ⟨rfl, rfl⟩ | skip
  simp only [zfit, Bool.or_eq_true, beq_iff_eq] at h
  rcases h with rfl | rfl <;> exact ⟨rfl, rfl⟩
theorem zald_inv {ro : zR} {σ : zW} {a : Nat} {i : Int32} {f : Value → zA} {r} (h : zald ro σ a i f = some r) : (∃ n g, σ[a]? = some (.inl (0, n, .inl g)) ∧ vp_in i n ∧ f (.int (g i.toNatClampNeg)) = some r) ∨ (∃ n g, ro.1 a = some (0, n, g) ∧ 1000 ≤ a ∧ vp_in i n ∧ f (.int (g i.toNatClampNeg)) = some r) := by
  unfold zald at h
  split at h
  · rename_i n g e
    obtain ⟨h1, h2⟩ := nite_inv h
    exact Or.inl ⟨n, g, e, h1, h2⟩
  · cases h
  · split at h
    · rename_i n g e
      obtain ⟨h1, h2⟩ := nite_inv h
      exact Or.inr ⟨n, g, e, by omega, fun z => h1 (Or.inr z), h2⟩
    · cases h
theorem zbld_inv {ro : zR} {σ : zW} {a : Nat} {i : Int32} {f : Value → zA} {r} (h : zbld ro σ a i f = some r) : (∃ n g, σ[a]? = some (.inl (2, n, .inl g)) ∧ vp_in i n ∧ f (.int (g i.toNatClampNeg)) = some r) ∨ (∃ n g, ro.1 a = some (5, n, g) ∧ 1000 ≤ a ∧ vp_in i n ∧ f (.int (g i.toNatClampNeg)) = some r) := by
  unfold zbld at h
  split at h
  · rename_i n g e
    obtain ⟨h1, h2⟩ := nite_inv h
    exact Or.inl ⟨n, g, e, h1, h2⟩
  · cases h
  · split at h
    · rename_i n g e
      obtain ⟨h1, h2⟩ := nite_inv h
      exact Or.inr ⟨n, g, e, by omega, fun z => h1 (Or.inr z), h2⟩
    · cases h
theorem zjld_inv {σ : zW} {a : Nat} {i : Int32} {f : Value → zA} {r} (h : zjld σ a i f = some r) : ∃ n g, σ[a]? = some (.inl (1, n, .inr (.inl g))) ∧ vp_in i n ∧ f (.long (g i.toNatClampNeg)) = some r := by
  unfold zjld at h
  split at h
  · rename_i n g e
    obtain ⟨h1, h2⟩ := nite_inv h
    exact ⟨n, g, e, h1, h2⟩
  · cases h
theorem zqld_inv {σ : zW} {a : Nat} {i : Int32} {f : Value → zA} {r} (h : zqld σ a i f = some r) : ∃ t n g, (t = 3 ∨ t = 4) ∧ σ[a]? = some (.inl (t, n, .inr (.inr (.inr (.inr g))))) ∧ vp_in i n ∧ f (va_rf (g i.toNatClampNeg)) = some r := by
  unfold zqld at h
  split at h
  · rename_i t n g e
    obtain ⟨h1, h2⟩ := ite_inv h
    exact ⟨t, n, g, h1.1, e, h1.2, h2⟩
  · cases h
theorem zlen_inv {ro : zR} {σ : zW} {a : Nat} {f : Int32 → zA} {r} (h : zlen ro σ a f = some r) : (∃ t x, t < 5 ∧ σ[a]? = some (.inl (t, x)) ∧ f (Int32.ofNat x.1) = some r) ∨ (∃ t n g, ro.1 a = some (t, n, g) ∧ 1000 ≤ a ∧ f (Int32.ofNat n) = some r) := by
  unfold zlen at h
  split at h
  · rename_i t x e
    obtain ⟨h1, h2⟩ := ite_inv h
    exact Or.inl ⟨t, x, h1, e, h2⟩
  · cases h
  · split at h
    · rename_i t n g e
      obtain ⟨h1, h2⟩ := nite_inv h
      exact Or.inr ⟨t, n, g, e, by omega, h2⟩
    · cases h
theorem zast_inv {σ : zW} {a : Nat} {i x : Int32} {f : zW → zA} {r} (h : zast σ a i x f = some r) : ∃ n g, σ[a]? = some (.inl (0, n, .inl g)) ∧ vp_in i n ∧ f (σ.set a (.inl (0, n, .inl (upd g i.toNatClampNeg x)))) = some r := by
  unfold zast at h
  split at h
  · rename_i n g e
    obtain ⟨h1, h2⟩ := nite_inv h
    exact ⟨n, g, e, h1, h2⟩
  · cases h
theorem zbst_inv {σ : zW} {a : Nat} {i x : Int32} {f : zW → zA} {r} (h : zbst σ a i x f = some r) : ∃ n g, σ[a]? = some (.inl (2, n, .inl g)) ∧ vp_in i n ∧ f (σ.set a (.inl (2, n, .inl (upd g i.toNatClampNeg (vp_nar .boolean x))))) = some r := by
  unfold zbst at h
  split at h
  · rename_i n g e
    obtain ⟨h1, h2⟩ := nite_inv h
    exact ⟨n, g, e, h1, h2⟩
  · cases h
theorem zjst_inv {σ : zW} {a : Nat} {i : Int32} {x : Int64} {f : zW → zA} {r} (h : zjst σ a i x f = some r) : ∃ n g, σ[a]? = some (.inl (1, n, .inr (.inl g))) ∧ vp_in i n ∧ f (σ.set a (.inl (1, n, .inr (.inl (vp_updL g i.toNatClampNeg x))))) = some r := by
  unfold zjst at h
  split at h
  · rename_i n g e
    obtain ⟨h1, h2⟩ := nite_inv h
    exact ⟨n, g, e, h1, h2⟩
  · cases h
theorem zqst_inv {σ : zW} {a : Nat} {i : Int32} {v : Nat} {f : zW → zA} {r} (h : zqst σ a i v f = some r) : ∃ t n g, (t = 3 ∨ t = 4) ∧ σ[a]? = some (.inl (t, n, .inr (.inr (.inr (.inr g))))) ∧ vp_in i n ∧ v < σ.length ∧ (zcl σ v = zqci t ∨ (t = 3 ∧ (zcl σ v = 2 ∨ zcl σ v = 3 ∨ zcl σ v = 7 ∨ zcl σ v = 8 ∨ zcl σ v = 9))) ∧ f (σ.set a (.inl (t, n, .inr (.inr (.inr (.inr (va_up g i.toNatClampNeg (some v)))))))) = some r := by
  unfold zqst at h
  split at h
  · rename_i t n g e
    obtain ⟨h1, h2⟩ := ite_inv h
    exact ⟨t, n, g, h1.1, e, h1.2.1, h1.2.2.1, h1.2.2.2, h2⟩
  · cases h
theorem zget_inv {σ : zW} {ci k : Int} {st : List Value} {f : Value → List Value → zA} {r} (h : zget σ ci k st f = some r) : ∃ (a : Nat) (st' : List Value), st = .ref a :: st' ∧ ((ci = 99 ∧ 2000 ≤ a ∧ a < 2009 ∧ f (if k = 0 then .ref (a + 100) else .int 0) st' = some r) ∨ (ci ≠ 99 ∧ ∃ c fs, σ[a]? = some (.inr (c, fs)) ∧ (c : Int) = ci ∧ k.toNat < fs.length ∧ f (fs.getD k.toNat .null) st' = some r)) := by
  replace h := zP1_inv h
  obtain ⟨a, st', rfl, h⟩ := h
  refine ⟨a, st', rfl, ?_⟩
  split at h
  · rename_i e
    obtain ⟨h1, h2⟩ := ite_inv h
    exact Or.inl ⟨e, h1.1, h1.2, h2⟩
  · rename_i e
    split at h
    · rename_i c fs e2
      obtain ⟨h1, h2⟩ := ite_inv h
      exact Or.inr ⟨e, c, fs, e2, h1.1, h1.2, h2⟩
    · cases h
theorem zput_inv {σ : zW} {ci k : Int} {fin ok : Bool} {st : List Value} {f : zW → List Value → zA} {r} (h : zput σ ci k fin ok st f = some r) : ∃ (v : Value) (a : Nat) (st' : List Value) (c : Nat) (fs : List Value), st = v :: .ref a :: st' ∧ σ[a]? = some (.inr (c, fs)) ∧ (c : Int) = ci ∧ k.toNat < fs.length ∧ zfit (ztx c k.toNat) v = true ∧ (fin = true → ok = true) ∧ f (σ.set a (.inr (c, fs.set k.toNat v))) st' = some r := by
  unfold zput at h
  split at h
  · split at h
    · rename_i v a st' _ c fs e
      obtain ⟨h1, h2⟩ := ite_inv h
      exact ⟨v, a, st', c, fs, rfl, e, h1.1, h1.2.1, h1.2.2.1, h1.2.2.2, h2⟩
    · cases h
  · cases h
theorem zcpy_inv {σ : zW} {ro : zR} {st : List Value} {f : zW → List Value → zA} {r} (h : zcpy σ ro st f = some r) : ∃ (n dp : Int32) (b : Nat) (sp : Int32) (a : Nat) (st' : List Value) (m : Nat) (g : Nat → Int32) (k : Nat) (hh : Nat → Int32), st = .int n :: .int dp :: .ref b :: .int sp :: .ref a :: st' ∧ σ[b]? = some (.inl (0, m, .inl g)) ∧ (σ[a]? = some (.inl (0, k, .inl hh)) ∨ (1000 ≤ a ∧ ro.1 a = some (0, k, hh))) ∧ ¬ sp < 0 ∧ ¬ dp < 0 ∧ ¬ n < 0 ∧ sp.toNatClampNeg + n.toNatClampNeg ≤ k ∧ dp.toNatClampNeg + n.toNatClampNeg ≤ m ∧ zsum st' ≤ 8 ∧ f (σ.set b (.inl (0, m, .inl (va_cpy hh g sp.toNatClampNeg dp.toNatClampNeg n.toNatClampNeg)))) st' = some r := by
  unfold zcpy at h
  split at h
  · split at h
    · split at h
      · rename_i n dp b sp a st' _ m g e _ k hh e2
        obtain ⟨h1, h2⟩ := ite_inv h
        exact ⟨n, dp, b, sp, a, st', m, g, k, hh, rfl, e, Or.inl e2, h1.1, h1.2.1, h1.2.2.1, h1.2.2.2.1, h1.2.2.2.2.1, h1.2.2.2.2.2, h2⟩
      · cases h
      · split at h
        · rename_i n dp b sp a st' _ m g e _ _ _ k hh e2
          obtain ⟨h1, h2⟩ := ite_inv h
          exact ⟨n, dp, b, sp, a, st', m, g, k, hh, rfl, e, Or.inr ⟨h1.1, e2⟩, h1.2.1, h1.2.2.1, h1.2.2.2.1, h1.2.2.2.2.1, h1.2.2.2.2.2.1, h1.2.2.2.2.2.2, h2⟩
        · cases h
    · cases h
  · cases h
theorem znwa_inv {σ : zW} {st : List Value} {t : Nat} {f : List Value → zW → zA} {a} (h : znwa σ st t f = some a) : ∃ n r, st = .int n :: r ∧ σ.length < 900 ∧ ¬ n < 0 ∧ n.toNatClampNeg < 1000 ∧ f (.ref σ.length :: r) (σ ++ [znewa t n.toNatClampNeg]) = some a := by
  obtain ⟨n, r, h1, h⟩ := zI1_inv h
  obtain ⟨h2, h⟩ := ite_inv h
  exact ⟨n, r, h1, h2.1, h2.2.1, h2.2.2, h⟩
theorem zfw_ok {own : String} {i : Nat} {w ci k : Int} (h : zfw own i w ci k = true) (hne : ci ≠ 99) : ∃ q, vwCl[ci.toNat]? = some q ∧ Cond.fieldLink own i (q.2.1 k.toNat).1 (q.2.1 k.toNat).2.1 (q.2.1 k.toNat).2.2.1 ∈ zG ∧ k.toNat < q.2.2 ∧ 0 ≤ ci := by
  unfold zfw at h
  rw [if_neg hne] at h
  split at h
  · rename_i q e
    simp only [Bool.and_eq_true, decide_eq_true_eq] at h
    exact ⟨q, e, zg_in h.1.1, h.1.2, h.2⟩
  · cases h
section ZSTEP
variable {base : Nat} {D : va_G} {tyc : Nat → ClassId} {adR : Nat → Nat} {ro : zR}
variable {p : Program} {l : Launch} {e : Env} {R : Room} {s : State} {m : MethodId} {args : Array Value} {below : List Frame} {meth : Method} {c : Code} {Q : State → Prop}
theorem zsize {σ : zW} {H : Heap} {locs : List Loc} {cells slots : Nat} {T : State} (hP : va_P D vwCl (zwl base tyc adR σ) H) (hS : va_S (zU base) s.heap H locs) (hc : base + σ.length = s.heap.size + cells) (hbase : base ≤ s.heap.size) (hT : T.heap = H) (X : Stand p l e R s m args below meth c T locs cells slots) : H.size = base + σ.length := by
  have h1 := X.heapSize
  rw [hT] at h1
  have h2 : base + σ.length ≤ H.size := by
    rcases Nat.eq_zero_or_pos σ.length with h | h
    · have := hS.1
      omega
    · have hk : σ.length - 1 < σ.length := by omega
      have h3 := (hP (σ.length - 1) _ (zwl_get (List.getElem?_eq_getElem hk))).lt
      have h4 : base + (σ.length - 1) < H.size := h3
      omega
  omega
theorem znew_q {σ : zW} {cc : zC} {H1 : Heap} {locs : List Loc} {cells slots q : Nat} {E : va_E} {T : State} (hc : base + σ.length = s.heap.size + cells) (hP : va_P D vwCl (zwl base tyc adR σ ++ [(q, E)]) H1) (hD : va_D (zU base) (zwl base tyc adR σ ++ [(q, E)])) (hT : T.heap = H1) (X : Stand p l e R s m args below meth c T locs (cells + 1) slots) : q = base + σ.length := by
  have h1 := X.heapSize
  rw [hT] at h1
  have e0 : (zwl base tyc adR σ ++ [(q, E)])[σ.length]? = some (q, E) := by
    rw [List.getElem?_append_right (by rw [zwl_len]; exact Nat.le_refl _), zwl_len, Nat.sub_self]
    rfl
  have h2 := (hP _ _ e0).lt
  have h2' : q < H1.size := h2
  have h3 : base ≤ q := hD.2 _ _ e0
  rcases Nat.lt_or_ge q (base + σ.length) with h | h
  · have hk : q - base < σ.length := by omega
    have e1 : (zwl base tyc adR σ ++ [(q, E)])[q - base]? = some (base + (q - base), zcE base tyc adR σ[q - base]) := by
      rw [List.getElem?_append_left (by rw [zwl_len]; exact hk)]
      exact zwl_get (List.getElem?_eq_getElem hk)
    have := hD.1 _ _ _ _ e1 e0 (by show base + (q - base) = q; omega)
    omega
  · omega
theorem z_stretch {cs : Cell} {cA : ClassId} {n0 sp n : Nat} {f : Nat → Int32} (h : n0 ≤ cs.slots.size) (hv : ∀ j : Nat, j < n0 → cs.slots[j]? = some (.int (f j))) (hs : sp + n ≤ n0) : cs.stretch sp n = (arrV cA n0 (fun j => .int (f j))).stretch sp n := by
  unfold Cell.stretch
  apply List.map_congr_left
  intro i hi
  have hi' := List.mem_range.mp hi
  rw [Array.getD_eq_getD_getElem?, Array.getD_eq_getD_getElem?, hv _ (by omega), arrV_read _ _ (by omega)]
/-- arraycopy out of an array that is only read -/
theorem z_copyT {cc : ByteArray} {pc : Nat} {ls : Array Slot} {rest : List Value} {cl : List vw_C} {tys : List (ClassId × FieldType)} {ws : va_W} {A : Nat → Prop} {H : Heap} {locs : List Loc} {cells slots : Nat} (hexec : p.tables.exec = Jvm.exec) (hb : c.code = cc) (hml : c.maxLocals = ls.size) {own : String} {index : Nat} (hown : s.vm.findClass own = some m.cls) (hlink : (Cond.methodLink own index arraycopyName).before args s = true) (hnat : (Cond.native arraycopyName).before args s = true) (hstat : (Cond.static arraycopyName).before args s = true) (hini : (Cond.initialized "java/lang/System").before args s = true)
    (hK : va_K D cl tys s) (hP : va_P D cl ws H) (hD : va_D A ws) (hS : va_S A s.heap H locs) {a0 a : Nat} {n0 : Nat} {f : Nat → Int32} (hT0 : va_T .int a0 n0 (fun j => .int (f j)) A s s.heap) (q1 t1 : Nat) {c1 : ClassId} {n1 : Nat} {g : Nat → Int32} (ha1 : ws[q1]? = some (a, .inl (c1, n1, .inl g))) (ht1 : tys[t1]? = some (c1, .int))
    {sp dp n : Int32} (h1 : ¬ sp < 0) (h2 : ¬ dp < 0) (h3 : ¬ n < 0) (h4 : sp.toNatClampNeg + n.toNatClampNeg ≤ n0) (h5 : dp.toNatClampNeg + n.toNatClampNeg ≤ n1)
    (hframes : 1 ≤ R.frames) (hlocals : (rest.map fun v => v.category).sum + (nativeFrameWords "java/lang/System" "arraycopy" 5 + 11) ≤ R.locals) (hdg : decode cc pc = .ok (.invokestatic index, 3))
    (kk : ∀ (H1 : Heap) (locs1 : List Loc), va_P D cl (ws.set q1 (a, .inl (c1, n1, .inl (va_cpy f g sp.toNatClampNeg dp.toNatClampNeg n.toNatClampNeg)))) H1 → va_D A (ws.set q1 (a, .inl (c1, n1, .inl (va_cpy f g sp.toNatClampNeg dp.toNatClampNeg n.toNatClampNeg)))) → va_S A s.heap H1 locs1 → W p l e R s m args below meth c H1 locs1 cells slots Q (F0 m (pc + 3) ls rest)) : W p l e R s m args below meth c H locs cells slots Q (F0 m pc ls (.int n :: .int dp :: .ref a :: .int sp :: .ref a0 :: rest)) := by
  have nn : ∀ z : Int32, ¬ z < 0 → z.toInt = (z.toNatClampNeg : Int) := by
    intro z hz
    have hz0 : (0 : Int) ≤ z.toInt := by
      have := Int32.not_lt.mp hz
      simpa using Int32.le_iff_toInt_le.mp this
    show z.toInt = ((z.toInt.toNat : Nat) : Int)
    omega
  intro T hT X
  obtain ⟨cs, t1', t2, t3, t4, -, t6, t7⟩ := hT0
  have hc0 : H[a0]? = some cs := (hS.2.1 a0 (Array.getElem?_eq_some_iff.mp t1').1 t7).trans t1'
  have hc1 : H[a]? = some (vp_cell c1 (n1, .inl g)) := hP q1 _ ha1
  obtain ⟨t21, k0, hk0, cm0, hkk0⟩ := t2
  obtain ⟨-, k1, hk1, cm1, hkk1⟩ := (hK.2 t1 _ ht1).1 n1 (fun j => .int (g j))
  obtain ⟨vm', X', step⟩ := X.arraycopy hexec hown hlink hnat hstat hini (src := a0) (dst := a) (cs := cs) (cd := vp_cell c1 (n1, .inl g)) (srcPos := sp) (destPos := dp) (n := n) (by rw [hT]; exact hc0) (by rw [hT]; exact hc1)
    t21 (fun _ h => by cases h) t3 (fun h => by cases h) hk0 hk1 hkk0 hkk1 (by simp [refKind]) h1 h2 h3
    (by rw [nn sp h1, nn n h3]; show ¬ _ > (cs.slots.size : Int); omega)
    (by rw [nn dp h2, nn n h3]; show ¬ _ > ((arrV c1 n1 (fun j => .int (g j))).slots.size : Int); rw [arrV_size]; omega)
    (fun vm₁ _ i hi => by
      have e : cs.slots.getD (sp.toNatClampNeg + i) .null = .int (f (sp.toNatClampNeg + i)) := by
        rw [Array.getD_eq_getD_getElem?, t6 _ (by omega)]
        rfl
      refine ⟨?_, ?_⟩
      · rw [e]
        rfl
      · rw [e]
        exact trivial)
    (g := F0 m pc ls (.int n :: .int dp :: .ref a :: .int sp :: .ref a0 :: rest)) rfl (by rw [hml]) (rest := rest) rfl (by rw [hb]; exact hdg) hframes (by show 2 * 0 + _ + _ ≤ _; omega)
  have e1 : copied cs (vp_cell c1 (n1, .inl g)) sp dp n = vp_cell c1 (n1, .inl (va_cpy f g sp.toNatClampNeg dp.toNatClampNeg n.toNatClampNeg)) := by
    have e2 := va_copied (fun z => .int z) cs.cls c1 (n1 := n1) (dp := dp.toNatClampNeg) f g h4
    have e3 : cs.stretch sp.toNatClampNeg n.toNatClampNeg = (arrV cs.cls n0 (fun j => .int (f j))).stretch sp.toNatClampNeg n.toNatClampNeg := z_stretch t4 t6 h4
    show (vp_cell c1 (n1, .inl g)).storeRun dp.toNatClampNeg (cs.stretch sp.toNatClampNeg n.toNatClampNeg) = _
    rw [e3]
    exact e2
  rw [e1] at X' step
  have hl : a < H.size := (Array.getElem?_eq_some_iff.mp hc1).1
  have hheap : ((T.setVm vm').setCell a (vp_cell c1 (n1, .inl (va_cpy f g sp.toNatClampNeg dp.toNatClampNeg n.toNatClampNeg)))).heap = H.setIfInBounds a (vp_cell c1 (n1, .inl (va_cpy f g sp.toNatClampNeg dp.toNatClampNeg n.toNatClampNeg))) := by rw [← hT]; rfl
  have oq : ∀ q : Nat, q ≠ a → (H.setIfInBounds a (vp_cell c1 (n1, .inl (va_cpy f g sp.toNatClampNeg dp.toNatClampNeg n.toNatClampNeg))))[q]? = H[q]? := fun q hq => by simp [Array.getElem?_setIfInBounds, Ne.symm hq]
  obtain ⟨t, a1, b1⟩ := kk _ _ (hP.set hD ha1 (show (H.setIfInBounds a _)[a]? = some _ by simp [Array.getElem?_setIfInBounds, hl]) oq) (hD.set ha1) ⟨by simp; exact hS.1, fun q g1 g2 => by
      rw [oq q (fun e => g2 (by rw [e]; exact hD.2 q1 _ ha1))]
      exact hS.2.1 q g1 g2, fun q hq => by
      rcases List.mem_append.mp hq with h | h
      · exact hS.2.2 q h
      · obtain ⟨z, -, hz⟩ := List.mem_map.mp h
        rw [← hz]
        exact hD.2 q1 _ ha1⟩ _ hheap X'
  exact ⟨t, step t a1, b1⟩
theorem zcall_noJ {d mi n pc : Nat} {ls : zL} {st : List Value} {ok : Nat → Bool} {x} : ¬ zcall d mi n pc ls st ok = some (.inr (.inl x)) := by
  intro h
  unfold zcall at h
  split at h
  · replace h := ite_inv h
    obtain ⟨-, h⟩ := h
    simp [aC] at h
  · cases h
theorem zcallS_noJ {d mi n pc : Nat} {ls : zL} {st : List Value} {x} : ¬ zcallS d mi n pc ls st = some (.inr (.inl x)) := by
  intro h
  unfold zcallS at h
  replace h := ite_inv h
  obtain ⟨-, h⟩ := h
  simp [aC] at h
set_option maxHeartbeats 4000000 in
set_option maxRecDepth 10000 in
/-- one instruction that goes on -/
theorem zstep {d mi pc pc' : Nat} {q : Instr × Nat × List Int} {ls ls' : zL} {st st' : List Value} {σ σ' : zW} {S0 : Nat} (hq : zF mi pc = some q) (hmi : mi < 217) (F : zFix base D tyc adR ro p s m args meth c mi) (hd1 : d ≤ R.frames) (hd2 : 40 * d ≤ R.locals)
    (h : zact ro d mi pc q ls st σ = some (.inr (.inl (pc', ls', st', σ')))) (h900 : σ.length ≤ 900) (hrc : base + σ'.length ≤ s.heap.size + R.cells) (hrs : zsl σ' ≤ S0 + R.slots) (hle : σ.length ≤ σ'.length ∧ zsl σ ≤ zsl σ') {H : Heap} {locs : List Loc} {cells slots : Nat} {lsA : Array Slot} (hAt : zAt base D tyc adR s S0 mi σ ls H locs cells slots lsA)
    (k : ∀ (H' : Heap) (locs' : List Loc) (cells' slots' : Nat) (lsA' : Array Slot), zAt base D tyc adR s S0 mi σ' ls' H' locs' cells' slots' lsA' → W p l e R s m args below meth c H' locs' cells' slots' Q (F0 m pc' lsA' (st'.map (zcv base adR)))) :
    W p l e R s m args below meth c H locs cells slots Q (F0 m pc lsA (st.map (zcv base adR))) := by
  obtain ⟨hx, hb, hml, hown, hin, hts, hN, hK, hRO, hbase⟩ := F
  obtain ⟨hP, hS, hc, hsl, hl⟩ := id hAt
  have hr := zrow hq hmi
  obtain ⟨ins, len, aux⟩ := q
  cases ins
  case iconst n =>
    unfold zact at h
    dsimp only at h
    obtain ⟨rfl, rfl, rfl, rfl⟩ := aJ_inv h
    exact lv_iconst hx hb (zdec hr (Nat.succ_ne_zero _)) rfl (k _ _ _ _ _ hAt)
  case bipush n =>
    unfold zact at h
    dsimp only at h
    obtain ⟨rfl, rfl, rfl, rfl⟩ := aJ_inv h
    exact lv_bipush hx hb (zdec hr (Nat.succ_ne_zero _)) rfl (k _ _ _ _ _ hAt)
  case sipush n =>
    unfold zact at h
    dsimp only at h
    obtain ⟨rfl, rfl, rfl, rfl⟩ := aJ_inv h
    exact lv_sipush hx hb (zdec hr (Nat.succ_ne_zero _)) rfl (k _ _ _ _ _ hAt)
  case lconst n =>
    unfold zact at h
    dsimp only at h
    obtain ⟨rfl, rfl, rfl, rfl⟩ := aJ_inv h
    exact lv_lconst hx hb (zdec hr (Nat.succ_ne_zero _)) rfl (k _ _ _ _ _ hAt)
  case aconst_null =>
    unfold zact at h
    dsimp only at h
    obtain ⟨rfl, rfl, rfl, rfl⟩ := aJ_inv h
    exact lv_null hx hb (zdec hr (Nat.succ_ne_zero _)) (k _ _ _ _ _ hAt)
  case iload_n i =>
    unfold zact at h
    dsimp only at h
    replace h := zLI_inv h
    obtain ⟨x, hz, h⟩ := h
    obtain ⟨rfl, rfl, rfl, rfl⟩ := aJ_inv h
    exact lv_iload_n hx hb (zdec hr (Nat.succ_ne_zero _)) rfl (zlv_get hl hz) (k _ _ _ _ _ hAt)
  case iload i =>
    unfold zact at h
    dsimp only at h
    replace h := zLI_inv h
    obtain ⟨x, hz, h⟩ := h
    obtain ⟨rfl, rfl, rfl, rfl⟩ := aJ_inv h
    exact lv_iload hx hb (zdec hr (Nat.succ_ne_zero _)) (zlv_get hl hz) (k _ _ _ _ _ hAt)
  case lload_n i =>
    unfold zact at h
    dsimp only at h
    replace h := zLJ_inv h
    obtain ⟨x, hz, h⟩ := h
    obtain ⟨rfl, rfl, rfl, rfl⟩ := aJ_inv h
    exact lv_lload_n hx hb (zdec hr (Nat.succ_ne_zero _)) rfl (zlv_get hl hz) (k _ _ _ _ _ hAt)
  case lload i =>
    unfold zact at h
    dsimp only at h
    replace h := zLJ_inv h
    obtain ⟨x, hz, h⟩ := h
    obtain ⟨rfl, rfl, rfl, rfl⟩ := aJ_inv h
    exact lv_lload hx hb (zdec hr (Nat.succ_ne_zero _)) (zlv_get hl hz) (k _ _ _ _ _ hAt)
  case aload_n i =>
    unfold zact at h
    dsimp only at h
    replace h := zLP_inv h
    obtain ⟨x, hz, h⟩ := h
    obtain ⟨rfl, rfl, rfl, rfl⟩ := aJ_inv h
    exact lv_aload_n hx hb (zdec hr (Nat.succ_ne_zero _)) rfl (zlv_get hl hz) (k _ _ _ _ _ hAt)
  case aload i =>
    unfold zact at h
    dsimp only at h
    replace h := zLP_inv h
    obtain ⟨x, hz, h⟩ := h
    obtain ⟨rfl, rfl, rfl, rfl⟩ := aJ_inv h
    exact lv_aload hx hb (zdec hr (Nat.succ_ne_zero _)) (zlv_get hl hz) (k _ _ _ _ _ hAt)
  case istore_n i =>
    unfold zact at h
    dsimp only at h
    replace h := zI1_inv h
    obtain ⟨x, r, rfl, h⟩ := h
    replace h := ite_inv h
    obtain ⟨hn, h⟩ := h
    obtain ⟨rfl, rfl, rfl, rfl⟩ := aJ_inv h
    exact lv_istore_n hx hb (zdec hr (Nat.succ_ne_zero _)) rfl hl hn rfl (fun ls' hl' => k _ _ _ _ _ ⟨hP, hS, hc, hsl, zst1_has (v := .int x) hl'⟩)
  case istore i =>
    unfold zact at h
    dsimp only at h
    replace h := zI1_inv h
    obtain ⟨x, r, rfl, h⟩ := h
    replace h := ite_inv h
    obtain ⟨hn, h⟩ := h
    obtain ⟨rfl, rfl, rfl, rfl⟩ := aJ_inv h
    exact lv_istore hx hb (zdec hr (Nat.succ_ne_zero _)) hl hn rfl (fun ls' hl' => k _ _ _ _ _ ⟨hP, hS, hc, hsl, zst1_has (v := .int x) hl'⟩)
  case lstore_n i =>
    unfold zact at h
    dsimp only at h
    replace h := zJ1_inv h
    obtain ⟨x, r, rfl, h⟩ := h
    replace h := ite_inv h
    obtain ⟨hn, h⟩ := h
    obtain ⟨rfl, rfl, rfl, rfl⟩ := aJ_inv h
    exact lv_lstore_n hx hb (zdec hr (Nat.succ_ne_zero _)) rfl hl hn rfl (fun ls' hl' => k _ _ _ _ _ ⟨hP, hS, hc, hsl, zst2_has (v := .long x) hl'⟩)
  case lstore i =>
    unfold zact at h
    dsimp only at h
    replace h := zJ1_inv h
    obtain ⟨x, r, rfl, h⟩ := h
    replace h := ite_inv h
    obtain ⟨hn, h⟩ := h
    obtain ⟨rfl, rfl, rfl, rfl⟩ := aJ_inv h
    exact lv_lstore hx hb (zdec hr (Nat.succ_ne_zero _)) hl hn rfl (fun ls' hl' => k _ _ _ _ _ ⟨hP, hS, hc, hsl, zst2_has (v := .long x) hl'⟩)
  case astore_n i =>
    unfold zact at h
    dsimp only at h
    replace h := zP1_inv h
    obtain ⟨x, r, rfl, h⟩ := h
    replace h := ite_inv h
    obtain ⟨hn, h⟩ := h
    obtain ⟨rfl, rfl, rfl, rfl⟩ := aJ_inv h
    exact lv_astore_n hx hb (zdec hr (Nat.succ_ne_zero _)) rfl hl hn rfl (fun ls' hl' => k _ _ _ _ _ ⟨hP, hS, hc, hsl, zst1_has (v := .ref x) hl'⟩)
  case astore i =>
    unfold zact at h
    dsimp only at h
    replace h := zP1_inv h
    obtain ⟨x, r, rfl, h⟩ := h
    replace h := ite_inv h
    obtain ⟨hn, h⟩ := h
    obtain ⟨rfl, rfl, rfl, rfl⟩ := aJ_inv h
    exact lv_astore hx hb (zdec hr (Nat.succ_ne_zero _)) hl hn rfl (fun ls' hl' => k _ _ _ _ _ ⟨hP, hS, hc, hsl, zst1_has (v := .ref x) hl'⟩)
  case iinc i n =>
    unfold zact at h
    dsimp only at h
    replace h := zLI_inv h
    obtain ⟨x, hz, h⟩ := h
    replace h := ite_inv h
    obtain ⟨hn, h⟩ := h
    obtain ⟨rfl, rfl, rfl, rfl⟩ := aJ_inv h
    obtain ⟨j, hj⟩ := List.getElem?_of_mem (zlv_mem (base := base) (adR := adR) hz)
    exact lv_iinc hx hb (zdec hr (Nat.succ_ne_zero _)) hl hj rfl hn rfl (fun ls' hl' => k _ _ _ _ _ ⟨hP, hS, hc, hsl, zst1_has (v := .int _) hl'⟩)
  case iadd =>
    unfold zact at h
    dsimp only at h
    replace h := zI2_inv h
    obtain ⟨x, y, r, rfl, h⟩ := h
    obtain ⟨rfl, rfl, rfl, rfl⟩ := aJ_inv h
    exact lv_iadd hx hb (zdec hr (Nat.succ_ne_zero _)) (k _ _ _ _ _ hAt)
  case isub =>
    unfold zact at h
    dsimp only at h
    replace h := zI2_inv h
    obtain ⟨x, y, r, rfl, h⟩ := h
    obtain ⟨rfl, rfl, rfl, rfl⟩ := aJ_inv h
    exact lv_isub hx hb (zdec hr (Nat.succ_ne_zero _)) (k _ _ _ _ _ hAt)
  case imul =>
    unfold zact at h
    dsimp only at h
    replace h := zI2_inv h
    obtain ⟨x, y, r, rfl, h⟩ := h
    obtain ⟨rfl, rfl, rfl, rfl⟩ := aJ_inv h
    exact lv_imul hx hb (zdec hr (Nat.succ_ne_zero _)) (k _ _ _ _ _ hAt)
  case iand =>
    unfold zact at h
    dsimp only at h
    replace h := zI2_inv h
    obtain ⟨x, y, r, rfl, h⟩ := h
    obtain ⟨rfl, rfl, rfl, rfl⟩ := aJ_inv h
    exact lv_iand hx hb (zdec hr (Nat.succ_ne_zero _)) (k _ _ _ _ _ hAt)
  case ior =>
    unfold zact at h
    dsimp only at h
    replace h := zI2_inv h
    obtain ⟨x, y, r, rfl, h⟩ := h
    obtain ⟨rfl, rfl, rfl, rfl⟩ := aJ_inv h
    exact lv_ior hx hb (zdec hr (Nat.succ_ne_zero _)) (k _ _ _ _ _ hAt)
  case ishl =>
    unfold zact at h
    dsimp only at h
    replace h := zI2_inv h
    obtain ⟨x, y, r, rfl, h⟩ := h
    obtain ⟨rfl, rfl, rfl, rfl⟩ := aJ_inv h
    exact lv_ishl hx hb (zdec hr (Nat.succ_ne_zero _)) (k _ _ _ _ _ hAt)
  case ishr =>
    unfold zact at h
    dsimp only at h
    replace h := zI2_inv h
    obtain ⟨x, y, r, rfl, h⟩ := h
    obtain ⟨rfl, rfl, rfl, rfl⟩ := aJ_inv h
    exact lv_ishr hx hb (zdec hr (Nat.succ_ne_zero _)) (k _ _ _ _ _ hAt)
  case idiv =>
    unfold zact at h
    dsimp only at h
    replace h := zI2_inv h
    obtain ⟨x, y, r, rfl, h⟩ := h
    replace h := nite_inv h
    obtain ⟨hn, h⟩ := h
    obtain ⟨rfl, rfl, rfl, rfl⟩ := aJ_inv h
    exact lv_idiv hx hb (zdec hr (Nat.succ_ne_zero _)) hn (k _ _ _ _ _ hAt)
  case irem =>
    unfold zact at h
    dsimp only at h
    replace h := zI2_inv h
    obtain ⟨x, y, r, rfl, h⟩ := h
    replace h := nite_inv h
    obtain ⟨hn, h⟩ := h
    obtain ⟨rfl, rfl, rfl, rfl⟩ := aJ_inv h
    exact lv_irem hx hb (zdec hr (Nat.succ_ne_zero _)) hn (k _ _ _ _ _ hAt)
  case ladd =>
    unfold zact at h
    dsimp only at h
    replace h := zJ2_inv h
    obtain ⟨x, y, r, rfl, h⟩ := h
    obtain ⟨rfl, rfl, rfl, rfl⟩ := aJ_inv h
    exact lv_ladd hx hb (zdec hr (Nat.succ_ne_zero _)) (k _ _ _ _ _ hAt)
  case lsub =>
    unfold zact at h
    dsimp only at h
    replace h := zJ2_inv h
    obtain ⟨x, y, r, rfl, h⟩ := h
    obtain ⟨rfl, rfl, rfl, rfl⟩ := aJ_inv h
    exact lv_lsub hx hb (zdec hr (Nat.succ_ne_zero _)) (k _ _ _ _ _ hAt)
  case lmul =>
    unfold zact at h
    dsimp only at h
    replace h := zJ2_inv h
    obtain ⟨x, y, r, rfl, h⟩ := h
    obtain ⟨rfl, rfl, rfl, rfl⟩ := aJ_inv h
    exact lv_lmul hx hb (zdec hr (Nat.succ_ne_zero _)) (k _ _ _ _ _ hAt)
  case ldiv =>
    unfold zact at h
    dsimp only at h
    replace h := zJ2_inv h
    obtain ⟨x, y, r, rfl, h⟩ := h
    replace h := nite_inv h
    obtain ⟨hn, h⟩ := h
    obtain ⟨rfl, rfl, rfl, rfl⟩ := aJ_inv h
    exact lv_ldiv hx hb (zdec hr (Nat.succ_ne_zero _)) hn (k _ _ _ _ _ hAt)
  case lrem =>
    unfold zact at h
    dsimp only at h
    replace h := zJ2_inv h
    obtain ⟨x, y, r, rfl, h⟩ := h
    replace h := nite_inv h
    obtain ⟨hn, h⟩ := h
    obtain ⟨rfl, rfl, rfl, rfl⟩ := aJ_inv h
    exact lv_lrem hx hb (zdec hr (Nat.succ_ne_zero _)) hn (k _ _ _ _ _ hAt)
  case lcmp =>
    unfold zact at h
    dsimp only at h
    replace h := zJ2_inv h
    obtain ⟨x, y, r, rfl, h⟩ := h
    obtain ⟨rfl, rfl, rfl, rfl⟩ := aJ_inv h
    exact W.lcmp hx hb (zdec hr (Nat.succ_ne_zero _)) (k _ _ _ _ _ hAt)
  case i2l =>
    unfold zact at h
    dsimp only at h
    replace h := zI1_inv h
    obtain ⟨x, r, rfl, h⟩ := h
    obtain ⟨rfl, rfl, rfl, rfl⟩ := aJ_inv h
    exact lv_i2l hx hb (zdec hr (Nat.succ_ne_zero _)) rfl (k _ _ _ _ _ hAt)
  case i2c =>
    unfold zact at h
    dsimp only at h
    replace h := zI1_inv h
    obtain ⟨x, r, rfl, h⟩ := h
    obtain ⟨rfl, rfl, rfl, rfl⟩ := aJ_inv h
    exact lv_i2c hx hb (zdec hr (Nat.succ_ne_zero _)) rfl (k _ _ _ _ _ hAt)
  case dup =>
    unfold zact at h
    dsimp only at h
    split at h
    · replace h := ite_inv h
      obtain ⟨hn, h⟩ := h
      obtain ⟨rfl, rfl, rfl, rfl⟩ := aJ_inv h
      exact lv_dup hx hb (zdec hr (Nat.succ_ne_zero _)) ((zcv_cat _).trans hn) (k _ _ _ _ _ hAt)
    · cases h
  case dup_x1 =>
    unfold zact at h
    dsimp only at h
    split at h
    · replace h := ite_inv h
      obtain ⟨hn, h⟩ := h
      obtain ⟨rfl, rfl, rfl, rfl⟩ := aJ_inv h
      exact lv_dup_x1 hx hb (zdec hr (Nat.succ_ne_zero _)) ((zcv_cat _).trans hn.1) ((zcv_cat _).trans hn.2) (k _ _ _ _ _ hAt)
    · cases h
  case dup2 =>
    unfold zact at h
    dsimp only at h
    split at h
    · replace h := ite_inv h
      obtain ⟨hn, h⟩ := h
      obtain ⟨rfl, rfl, rfl, rfl⟩ := aJ_inv h
      exact lv_dup2_11 hx hb (zdec hr (Nat.succ_ne_zero _)) ((zcv_cat _).trans hn.1) ((zcv_cat _).trans hn.2) (k _ _ _ _ _ hAt)
    · cases h
  case pop =>
    unfold zact at h
    dsimp only at h
    split at h
    · replace h := ite_inv h
      obtain ⟨hn, h⟩ := h
      obtain ⟨rfl, rfl, rfl, rfl⟩ := aJ_inv h
      exact lv_pop hx hb (zdec hr (Nat.succ_ne_zero _)) ((zcv_cat _).trans hn) (k _ _ _ _ _ hAt)
    · cases h
  case ifCond cnd off =>
    unfold zact at h
    dsimp only at h
    cases cnd
    case eq =>
      replace h := zI1_inv h
      obtain ⟨x, r, rfl, h⟩ := h
      replace h := zT_inv h
      obtain ⟨t, ht, h⟩ := h
      simp only [zB] at h
      split at h
      · rename_i hcnd
        obtain ⟨rfl, rfl, rfl, rfl⟩ := aJ_inv h
        exact lv_if_eq hx hb (zdec hr (Nat.succ_ne_zero _)) ht (fun _ => k _ _ _ _ _ hAt) (fun q => absurd hcnd q)
      · rename_i hcnd
        obtain ⟨rfl, rfl, rfl, rfl⟩ := aJ_inv h
        exact lv_if_eq hx hb (zdec hr (Nat.succ_ne_zero _)) ht (fun q => absurd q hcnd) (fun _ => k _ _ _ _ _ hAt)
    case ne =>
      replace h := zI1_inv h
      obtain ⟨x, r, rfl, h⟩ := h
      replace h := zT_inv h
      obtain ⟨t, ht, h⟩ := h
      simp only [zB] at h
      split at h
      · rename_i hcnd
        obtain ⟨rfl, rfl, rfl, rfl⟩ := aJ_inv h
        exact lv_if_ne hx hb (zdec hr (Nat.succ_ne_zero _)) ht (fun q => absurd hcnd q) (fun _ => k _ _ _ _ _ hAt)
      · rename_i hcnd
        obtain ⟨rfl, rfl, rfl, rfl⟩ := aJ_inv h
        exact lv_if_ne hx hb (zdec hr (Nat.succ_ne_zero _)) ht (fun _ => k _ _ _ _ _ hAt) (fun q => absurd q hcnd)
    case lt =>
      replace h := zI1_inv h
      obtain ⟨x, r, rfl, h⟩ := h
      replace h := zT_inv h
      obtain ⟨t, ht, h⟩ := h
      simp only [zB] at h
      split at h
      · rename_i hcnd
        obtain ⟨rfl, rfl, rfl, rfl⟩ := aJ_inv h
        exact lv_if_lt hx hb (zdec hr (Nat.succ_ne_zero _)) ht (fun _ => k _ _ _ _ _ hAt) (fun q => absurd hcnd q)
      · rename_i hcnd
        obtain ⟨rfl, rfl, rfl, rfl⟩ := aJ_inv h
        exact lv_if_lt hx hb (zdec hr (Nat.succ_ne_zero _)) ht (fun q => absurd q hcnd) (fun _ => k _ _ _ _ _ hAt)
    case ge =>
      replace h := zI1_inv h
      obtain ⟨x, r, rfl, h⟩ := h
      replace h := zT_inv h
      obtain ⟨t, ht, h⟩ := h
      simp only [zB] at h
      split at h
      · rename_i hcnd
        obtain ⟨rfl, rfl, rfl, rfl⟩ := aJ_inv h
        exact lv_if_ge hx hb (zdec hr (Nat.succ_ne_zero _)) ht (fun q => absurd hcnd (Int32.not_lt.mpr q)) (fun _ => k _ _ _ _ _ hAt)
      · rename_i hcnd
        obtain ⟨rfl, rfl, rfl, rfl⟩ := aJ_inv h
        exact lv_if_ge hx hb (zdec hr (Nat.succ_ne_zero _)) ht (fun _ => k _ _ _ _ _ hAt) (fun q => absurd (Int32.not_lt.mp hcnd) q)
    case gt =>
      replace h := zI1_inv h
      obtain ⟨x, r, rfl, h⟩ := h
      replace h := zT_inv h
      obtain ⟨t, ht, h⟩ := h
      simp only [zB] at h
      split at h
      · rename_i hcnd
        obtain ⟨rfl, rfl, rfl, rfl⟩ := aJ_inv h
        exact lv_if_gt hx hb (zdec hr (Nat.succ_ne_zero _)) ht (fun _ => k _ _ _ _ _ hAt) (fun q => absurd hcnd q)
      · rename_i hcnd
        obtain ⟨rfl, rfl, rfl, rfl⟩ := aJ_inv h
        exact lv_if_gt hx hb (zdec hr (Nat.succ_ne_zero _)) ht (fun q => absurd q hcnd) (fun _ => k _ _ _ _ _ hAt)
    case le =>
      replace h := zI1_inv h
      obtain ⟨x, r, rfl, h⟩ := h
      replace h := zT_inv h
      obtain ⟨t, ht, h⟩ := h
      simp only [zB] at h
      split at h
      · rename_i hcnd
        obtain ⟨rfl, rfl, rfl, rfl⟩ := aJ_inv h
        exact lv_if_le hx hb (zdec hr (Nat.succ_ne_zero _)) ht (fun q => absurd hcnd (Int32.not_lt.mpr q)) (fun _ => k _ _ _ _ _ hAt)
      · rename_i hcnd
        obtain ⟨rfl, rfl, rfl, rfl⟩ := aJ_inv h
        exact lv_if_le hx hb (zdec hr (Nat.succ_ne_zero _)) ht (fun _ => k _ _ _ _ _ hAt) (fun q => absurd (Int32.not_lt.mp hcnd) q)
  case if_icmp cnd off =>
    unfold zact at h
    dsimp only at h
    cases cnd
    case eq =>
      replace h := zI2_inv h
      obtain ⟨x, y, r, rfl, h⟩ := h
      replace h := zT_inv h
      obtain ⟨t, ht, h⟩ := h
      simp only [zB] at h
      split at h
      · rename_i hcnd
        obtain ⟨rfl, rfl, rfl, rfl⟩ := aJ_inv h
        exact lv_icmp_eq hx hb (zdec hr (Nat.succ_ne_zero _)) ht (fun _ => k _ _ _ _ _ hAt) (fun q => absurd hcnd q)
      · rename_i hcnd
        obtain ⟨rfl, rfl, rfl, rfl⟩ := aJ_inv h
        exact lv_icmp_eq hx hb (zdec hr (Nat.succ_ne_zero _)) ht (fun q => absurd q hcnd) (fun _ => k _ _ _ _ _ hAt)
    case ne =>
      replace h := zI2_inv h
      obtain ⟨x, y, r, rfl, h⟩ := h
      replace h := zT_inv h
      obtain ⟨t, ht, h⟩ := h
      simp only [zB] at h
      split at h
      · rename_i hcnd
        obtain ⟨rfl, rfl, rfl, rfl⟩ := aJ_inv h
        exact lv_icmp_ne hx hb (zdec hr (Nat.succ_ne_zero _)) ht (fun q => absurd hcnd q) (fun _ => k _ _ _ _ _ hAt)
      · rename_i hcnd
        obtain ⟨rfl, rfl, rfl, rfl⟩ := aJ_inv h
        exact lv_icmp_ne hx hb (zdec hr (Nat.succ_ne_zero _)) ht (fun _ => k _ _ _ _ _ hAt) (fun q => absurd q hcnd)
    case lt =>
      replace h := zI2_inv h
      obtain ⟨x, y, r, rfl, h⟩ := h
      replace h := zT_inv h
      obtain ⟨t, ht, h⟩ := h
      simp only [zB] at h
      split at h
      · rename_i hcnd
        obtain ⟨rfl, rfl, rfl, rfl⟩ := aJ_inv h
        exact lv_icmp_lt hx hb (zdec hr (Nat.succ_ne_zero _)) ht (fun _ => k _ _ _ _ _ hAt) (fun q => absurd hcnd q)
      · rename_i hcnd
        obtain ⟨rfl, rfl, rfl, rfl⟩ := aJ_inv h
        exact lv_icmp_lt hx hb (zdec hr (Nat.succ_ne_zero _)) ht (fun q => absurd q hcnd) (fun _ => k _ _ _ _ _ hAt)
    case ge =>
      replace h := zI2_inv h
      obtain ⟨x, y, r, rfl, h⟩ := h
      replace h := zT_inv h
      obtain ⟨t, ht, h⟩ := h
      simp only [zB] at h
      split at h
      · rename_i hcnd
        obtain ⟨rfl, rfl, rfl, rfl⟩ := aJ_inv h
        exact lv_icmp_ge hx hb (zdec hr (Nat.succ_ne_zero _)) ht (fun q => absurd hcnd (Int32.not_lt.mpr q)) (fun _ => k _ _ _ _ _ hAt)
      · rename_i hcnd
        obtain ⟨rfl, rfl, rfl, rfl⟩ := aJ_inv h
        exact lv_icmp_ge hx hb (zdec hr (Nat.succ_ne_zero _)) ht (fun _ => k _ _ _ _ _ hAt) (fun q => absurd (Int32.not_lt.mp hcnd) q)
    case gt =>
      replace h := zI2_inv h
      obtain ⟨x, y, r, rfl, h⟩ := h
      replace h := zT_inv h
      obtain ⟨t, ht, h⟩ := h
      simp only [zB] at h
      split at h
      · rename_i hcnd
        obtain ⟨rfl, rfl, rfl, rfl⟩ := aJ_inv h
        exact lv_icmp_gt hx hb (zdec hr (Nat.succ_ne_zero _)) ht (fun _ => k _ _ _ _ _ hAt) (fun q => absurd hcnd q)
      · rename_i hcnd
        obtain ⟨rfl, rfl, rfl, rfl⟩ := aJ_inv h
        exact lv_icmp_gt hx hb (zdec hr (Nat.succ_ne_zero _)) ht (fun q => absurd q hcnd) (fun _ => k _ _ _ _ _ hAt)
    case le =>
      replace h := zI2_inv h
      obtain ⟨x, y, r, rfl, h⟩ := h
      replace h := zT_inv h
      obtain ⟨t, ht, h⟩ := h
      simp only [zB] at h
      split at h
      · rename_i hcnd
        obtain ⟨rfl, rfl, rfl, rfl⟩ := aJ_inv h
        exact lv_icmp_le hx hb (zdec hr (Nat.succ_ne_zero _)) ht (fun q => absurd hcnd (Int32.not_lt.mpr q)) (fun _ => k _ _ _ _ _ hAt)
      · rename_i hcnd
        obtain ⟨rfl, rfl, rfl, rfl⟩ := aJ_inv h
        exact lv_icmp_le hx hb (zdec hr (Nat.succ_ne_zero _)) ht (fun _ => k _ _ _ _ _ hAt) (fun q => absurd (Int32.not_lt.mp hcnd) q)
  case goto off =>
    unfold zact at h
    dsimp only at h
    replace h := zT_inv h
    obtain ⟨t, ht, h⟩ := h
    obtain ⟨rfl, rfl, rfl, rfl⟩ := aJ_inv h
    exact lv_goto hx hb (zdec hr (Nat.succ_ne_zero _)) ht (k _ _ _ _ _ hAt)
  case ifnonnull off =>
    unfold zact at h
    dsimp only at h
    replace h := zT_inv h
    obtain ⟨t, ht, h⟩ := h
    split at h
    · obtain ⟨rfl, rfl, rfl, rfl⟩ := aJ_inv h
      exact lv_ifnonnull hx hb (zdec hr (Nat.succ_ne_zero _)) ht (k _ _ _ _ _ hAt)
    · cases h
  case ifnull off =>
    unfold zact at h
    dsimp only at h
    split at h
    · obtain ⟨rfl, rfl, rfl, rfl⟩ := aJ_inv h
      exact lv_ifnull hx hb (zdec hr (Nat.succ_ne_zero _)) (k _ _ _ _ _ hAt)
    · cases h
  case tableswitch dflt lo hi offs =>
    unfold zact at h
    dsimp only at h
    replace h := zI1_inv h
    obtain ⟨x, r, rfl, h⟩ := h
    split at h
    · rename_i hcnd
      replace h := zT_inv h
      obtain ⟨t, ht, h⟩ := h
      obtain ⟨rfl, rfl, rfl, rfl⟩ := aJ_inv h
      exact lv_tableOut hx hb (zdec0 hr.1) hcnd ht (k _ _ _ _ _ hAt)
    · rename_i hcnd
      split at h
      · rename_i off ho
        replace h := zT_inv h
        obtain ⟨t, ht, h⟩ := h
        obtain ⟨rfl, rfl, rfl, rfl⟩ := aJ_inv h
        exact lv_tableIn hx hb (zdec0 hr.1) (fun q => hcnd (Or.inl q)) (fun q => hcnd (Or.inr q)) ho ht (k _ _ _ _ _ hAt)
      · cases h
  case lookupswitch dflt ps =>
    unfold zact at h
    dsimp only at h
    replace h := zI1_inv h
    obtain ⟨x, r, rfl, h⟩ := h
    replace h := ite_inv h
    obtain ⟨hp, h⟩ := h
    replace h := zT_inv h
    obtain ⟨t, ht, h⟩ := h
    obtain ⟨rfl, rfl, rfl, rfl⟩ := aJ_inv h
    exact lv_lookup hx hb (zdec0 hr.1) hp rfl ht (k _ _ _ _ _ hAt)
  case ldc i =>
    unfold zact at h
    dsimp only at h
    split at h
    · rename_i w v
      obtain ⟨rfl, rfl, rfl, rfl⟩ := aJ_inv h
      have h9 := hr.1
      simp only [zchk, Bool.and_eq_true] at h9
      exact lv_ldc hx hb hown (hts _ (zg_in h9.2)) (zdec hr (Nat.succ_ne_zero _)) (k _ _ _ _ _ hAt)
    · rename_i w kk
      replace h := ite_inv h
      obtain ⟨hn, h⟩ := h
      obtain ⟨rfl, rfl, rfl, rfl⟩ := aJ_inv h
      have h9 := hr.1
      simp only [zchk, Bool.and_eq_true, decide_eq_true_eq] at h9
      obtain ⟨-, h91, h92⟩ := h9
      subst h91
      have hZ := hRO.2.2.2 kk.toNat (by omega)
      rw [← h92] at hZ
      have hk := k _ _ _ _ _ hAt
      have e1 : zad base adR (2000 + kk.toNat) = adR (2000 + kk.toNat) := zad_ge (by omega)
      rw [List.map_cons] at hk
      have e2 : zcv base adR (.ref (2000 + kk.toNat)) = .ref (adR (2000 + kk.toNat)) := congrArg Value.ref e1
      rw [e2] at hk
      exact va_ldcS hx hb hown hZ (zdec hr (Nat.succ_ne_zero _)) hk
    · cases h
  case ldc2_w i =>
    unfold zact at h
    dsimp only at h
    split at h
    · rename_i w v
      obtain ⟨rfl, rfl, rfl, rfl⟩ := aJ_inv h
      have h9 := hr.1
      simp only [zchk, Bool.and_eq_true] at h9
      exact lv_ldc2 hx hb hown (hts _ (zg_in h9.2)) (zdec hr (Nat.succ_ne_zero _)) (k _ _ _ _ _ hAt)
    · cases h
  case getstatic i =>
    unfold zact at h
    dsimp only at h
    split at h
    · rename_i w kk nest
      obtain ⟨rfl, rfl, rfl, rfl⟩ := aJ_inv h
      have h9 := hr.1
      simp only [zchk, Bool.and_eq_true, decide_eq_true_eq] at h9
      obtain ⟨-, h91, h92⟩ := h9
      have hZ := hRO.2.1 kk h91
      split at h92
      · exact va_getsN hx hb hZ hS hown (hN.use (zh_in h92) rfl) (fun _ z => z) (zdec hr (Nat.succ_ne_zero _)) (k _ _ _ _ _ hAt)
      · exact va_gets hx hb hZ hS hown (hts _ (zg_in h92)) (fun _ z => z) (zdec hr (Nat.succ_ne_zero _)) (k _ _ _ _ _ hAt)
    · cases h
  case getfield i =>
    unfold zact at h
    dsimp only at h
    split at h
    · rename_i w ci kk
      have h9 := hr.1
      simp only [zchk, Bool.and_eq_true] at h9
      replace h := zget_inv h
      obtain ⟨a, st', rfl, h⟩ := h
      rcases h with ⟨rfl, g1, g2, h⟩ | ⟨hne, c2, fs, e2, rfl, hk, h⟩
      · obtain ⟨rfl, rfl, rfl, rfl⟩ := aJ_inv h
        obtain ⟨r1, r2, r3⟩ := hRO.2.2.1 a g1 g2
        have h10 := h9.2.1
        simp only [zfw, if_pos] at h10
        have e1 : zad base adR a = adR a := zad_ge (by omega)
        have hk := k _ _ _ _ _ hAt
        show W p l e R s m args below meth c H locs cells slots Q (F0 m pc lsA (.ref (zad base adR a) :: st'.map (zcv base adR)))
        rw [e1]
        by_cases hz : kk = 0
        · rw [if_pos hz] at h10
          rw [if_pos hz, List.map_cons, show zcv base adR (.ref (a + 100)) = .ref (adR (a + 100)) from congrArg Value.ref (zad_ge (by omega))] at hk
          exact vk_getf hx hb r3 hS hown (hts _ (zg_in h10)) (fun _ z => z) (zdec hr (Nat.succ_ne_zero _)) hk
        · rw [if_neg hz] at h10
          rw [if_neg hz, List.map_cons] at hk
          exact vk_getf hx hb r2 hS hown (hts _ (zg_in h10)) (fun _ z => z) (zdec hr (Nat.succ_ne_zero _)) hk
      · obtain ⟨rfl, rfl, rfl, rfl⟩ := aJ_inv h
        obtain ⟨q, q1, q2, q3, -⟩ := zfw_ok h9.2.1 hne
        have hlt := lt_of_some e2
        rw [Int.toNat_natCast] at q1
        have e1 : zad base adR a = base + a := zad_lt (by omega)
        show W p l e R s m args below meth c H locs cells slots Q (F0 m pc lsA (.ref (zad base adR a) :: st'.map (zcv base adR)))
        rw [e1]
        have hv : (fs.map (zcv base adR))[kk.toNat]? = some (zcv base adR (fs.getD kk.toNat .null)) := by
          rw [List.getElem?_map, List.getElem?_eq_getElem hk, List.getD_eq_getElem?_getD, List.getElem?_eq_getElem hk]
          rfl
        exact va_get hx hb hts (zcl_in q1) hown hK hP a (zwl_get e2) q1 kk.toNat q3 (hts _ q2) (fun _ z => z) hv (zdec hr (Nat.succ_ne_zero _)) (k _ _ _ _ _ hAt)
    · cases h
  case putfield i =>
    unfold zact at h
    dsimp only at h
    split at h
    · rename_i w ci kk
      have h9 := hr.1
      simp only [zchk, Bool.and_eq_true, decide_eq_true_eq] at h9
      replace h := zput_inv h
      obtain ⟨v, a, st', c2, fs, rfl, e2, rfl, hk, hfit, hfin, h⟩ := h
      obtain ⟨rfl, rfl, rfl, rfl⟩ := aJ_inv h
      obtain ⟨q, q1, q2, q3, -⟩ := zfw_ok h9.2.1.1 h9.2.1.2
      rw [Int.toNat_natCast] at q1
      have h10 := h9.2.2
      rw [Int.toNat_natCast, q1] at h10
      rw [Int.toNat_natCast, q1] at hfin
      have hlt := lt_of_some e2
      have e1 : zad base adR a = base + a := zad_lt (by omega)
      show W p l e R s m args below meth c H locs cells slots Q (F0 m pc lsA (zcv base adR v :: .ref (zad base adR a) :: st'.map (zcv base adR)))
      rw [e1]
      obtain ⟨f1, f2⟩ := zfit_ok (base := base) (adR := adR) hfit
      have hes : (zwl base tyc adR σ).set a (base + a, .inr (c2, (fs.map (zcv base adR)).set kk.toNat (zcv base adR v))) = zwl base tyc adR (σ.set a (.inr (c2, fs.set kk.toNat v))) := by
        rw [← zwl_set]
        simp only [zcE, List.map_set]
      have fin : ∀ (H1 : Heap) (locs1 : List Loc), va_P D vwCl ((zwl base tyc adR σ).set a (base + a, .inr (c2, (fs.map (zcv base adR)).set kk.toNat (zcv base adR v)))) H1 → va_S (zU base) s.heap H1 locs1 → W p l e R s m args below meth c H1 locs1 cells slots Q (F0 m (pc + 3) lsA (st'.map (zcv base adR))) := fun H1 locs1 g1 g3 => by
        rw [hes] at g1
        exact k _ _ _ _ _ ⟨g1, g3, by rw [List.length_set]; exact hc, by rw [zsl_set e2 (by simp [zsz])]; exact hsl, hl⟩
      cases hf : (q.2.1 kk.toNat).2.2.2 with
      | false => exact va_put hx hb hts (zcl_in q1) (ztx c2) (zcl_ty q1) (zcl_nm q1) hown hK hP (zwl_D σ) hS a (zwl_get e2) q1 kk.toNat q3 (hts _ q2) (fun _ z => z) hf (zcl_ty q1 _ q3) f1 f2 (by rw [List.length_map]; exact hk) (zdec hr (Nat.succ_ne_zero _)) (fun H1 locs1 g1 g2 g3 => fin H1 locs1 g1 g3)
      | true =>
        have hin2 : meth.name = "<init>" := by
          have := hfin hf
          exact hin (eq_of_beq this)
        have hdecl : (q.2.1 kk.toNat).1 = (mN mi).cls := by
          have h11 := h10
          simp only [hf, Bool.not_true, Bool.false_or, decide_eq_true_eq] at h11
          exact h11
        exact va_putF hx hb hts (zcl_in q1) (ztx c2) (zcl_ty q1) (zcl_nm q1) hown hK hP (zwl_D σ) hS a (zwl_get e2) q1 kk.toNat q3 (hts _ q2) (fun _ z => z) hf hin2 hdecl (zcl_ty q1 _ q3) f1 f2 (by rw [List.length_map]; exact hk) (zdec hr (Nat.succ_ne_zero _)) (fun H1 locs1 g1 g2 g3 => fin H1 locs1 g1 g3)
    · cases h
  case iaload =>
    unfold zact at h
    dsimp only at h
    replace h := zI1_inv h
    obtain ⟨i, r, rfl, h⟩ := h
    replace h := zP1_inv h
    obtain ⟨a, r, rfl, h⟩ := h
    show W p l e R s m args below meth c H locs cells slots Q (F0 m pc lsA (.int i :: .ref (zad base adR a) :: r.map (zcv base adR)))
    rcases zald_inv h with ⟨n, g, e2, hi, h⟩ | ⟨n, g, e2, ha, hi, h⟩
    · obtain ⟨rfl, rfl, rfl, rfl⟩ := aJ_inv h
      have hlt := lt_of_some e2
      rw [zad_lt (show a < 1000 by omega)]
      exact va_iald hx hb hK hP a 0 (zwl_get e2) rfl hi (zdec hr (Nat.succ_ne_zero _)) (k _ _ _ _ _ hAt)
    · obtain ⟨rfl, rfl, rfl, rfl⟩ := aJ_inv h
      rw [zad_ge ha]
      rcases hRO.1 a 0 n g e2 ha with ⟨-, hT⟩ | ⟨z, -⟩
      · exact va_ti hx hb hT hS hi rfl (zdec hr (Nat.succ_ne_zero _)) (k _ _ _ _ _ hAt)
      · cases z
  case baload =>
    unfold zact at h
    dsimp only at h
    replace h := zI1_inv h
    obtain ⟨i, r, rfl, h⟩ := h
    replace h := zP1_inv h
    obtain ⟨a, r, rfl, h⟩ := h
    show W p l e R s m args below meth c H locs cells slots Q (F0 m pc lsA (.int i :: .ref (zad base adR a) :: r.map (zcv base adR)))
    rcases zbld_inv h with ⟨n, g, e2, hi, h⟩ | ⟨n, g, e2, ha, hi, h⟩
    · obtain ⟨rfl, rfl, rfl, rfl⟩ := aJ_inv h
      have hlt := lt_of_some e2
      rw [zad_lt (show a < 1000 by omega)]
      exact va_zald hx hb hK hP a 2 (zwl_get e2) rfl hi (zdec hr (Nat.succ_ne_zero _)) (k _ _ _ _ _ hAt)
    · obtain ⟨rfl, rfl, rfl, rfl⟩ := aJ_inv h
      rw [zad_ge ha]
      rcases hRO.1 a 5 n g e2 ha with ⟨z, -⟩ | ⟨-, hT⟩
      · cases z
      · exact va_tb hx hb hT hS hi rfl (zdec hr (Nat.succ_ne_zero _)) (k _ _ _ _ _ hAt)
  case laload =>
    unfold zact at h
    dsimp only at h
    replace h := zI1_inv h
    obtain ⟨i, r, rfl, h⟩ := h
    replace h := zP1_inv h
    obtain ⟨a, r, rfl, h⟩ := h
    show W p l e R s m args below meth c H locs cells slots Q (F0 m pc lsA (.int i :: .ref (zad base adR a) :: r.map (zcv base adR)))
    replace h := zjld_inv h
    obtain ⟨n, g, e2, hi, h⟩ := h
    obtain ⟨rfl, rfl, rfl, rfl⟩ := aJ_inv h
    have hlt := lt_of_some e2
    rw [zad_lt (show a < 1000 by omega)]
    exact va_lald hx hb hK hP a 1 (zwl_get e2) rfl hi (zdec hr (Nat.succ_ne_zero _)) (k _ _ _ _ _ hAt)
  case aaload =>
    unfold zact at h
    dsimp only at h
    replace h := zI1_inv h
    obtain ⟨i, r, rfl, h⟩ := h
    replace h := zP1_inv h
    obtain ⟨a, r, rfl, h⟩ := h
    show W p l e R s m args below meth c H locs cells slots Q (F0 m pc lsA (.int i :: .ref (zad base adR a) :: r.map (zcv base adR)))
    replace h := zqld_inv h
    obtain ⟨t, n, g, ht, e2, hi, h⟩ := h
    obtain ⟨rfl, rfl, rfl, rfl⟩ := aJ_inv h
    have hlt := lt_of_some e2
    rw [zad_lt (show a < 1000 by omega)]
    have hk := k _ _ _ _ _ hAt
    have e3 : zcv base adR (va_rf (g i.toNatClampNeg)) = va_rf ((g i.toNatClampNeg).map (zad base adR)) := by cases g i.toNatClampNeg <;> rfl
    rw [List.map_cons, e3] at hk
    rcases ht with rfl | rfl
    · exact va_aldq hx hb hK hP a 3 (zwl_get e2) rfl hi (zdec hr (Nat.succ_ne_zero _)) hk
    · exact va_aldq hx hb hK hP a 4 (zwl_get e2) rfl hi (zdec hr (Nat.succ_ne_zero _)) hk
  case arraylength =>
    unfold zact at h
    dsimp only at h
    replace h := zP1_inv h
    obtain ⟨a, r, rfl, h⟩ := h
    show W p l e R s m args below meth c H locs cells slots Q (F0 m pc lsA (.ref (zad base adR a) :: r.map (zcv base adR)))
    rcases zlen_inv h with ⟨t, x, ht, e2, h⟩ | ⟨t, n, g, e2, ha, h⟩
    · obtain ⟨rfl, rfl, rfl, rfl⟩ := aJ_inv h
      have hlt := lt_of_some e2
      rw [zad_lt (show a < 1000 by omega)]
      have ex : (zcA base adR x).1 = x.1 := by
        obtain ⟨n, x⟩ := x
        rcases x with x | x | x | x | x <;> rfl
      have hv : Int32.ofNat (zcA base adR x).1 = Int32.ofNat x.1 := by rw [ex]
      have hty : ∃ ty, (zty tyc)[t]? = some (tyc t, ty) := by
        rcases (show t = 0 ∨ t = 1 ∨ t = 2 ∨ t = 3 ∨ t = 4 by omega) with rfl | rfl | rfl | rfl | rfl <;> exact ⟨_, rfl⟩
      obtain ⟨ty, hty⟩ := hty
      exact va_alen hx hb hK hP a t (zwl_get e2) hty hv (zdec hr (Nat.succ_ne_zero _)) (k _ _ _ _ _ hAt)
    · obtain ⟨rfl, rfl, rfl, rfl⟩ := aJ_inv h
      rw [zad_ge ha]
      rcases hRO.1 a t n g e2 ha with ⟨-, hT⟩ | ⟨-, hT⟩
      · exact va_tlen hx hb hT hS rfl (zdec hr (Nat.succ_ne_zero _)) (k _ _ _ _ _ hAt)
      · exact va_tlen hx hb hT hS rfl (zdec hr (Nat.succ_ne_zero _)) (k _ _ _ _ _ hAt)
  case iastore =>
    unfold zact at h
    dsimp only at h
    replace h := zI2_inv h
    obtain ⟨i, x, r, rfl, h⟩ := h
    replace h := zP1_inv h
    obtain ⟨a, r, rfl, h⟩ := h
    show W p l e R s m args below meth c H locs cells slots Q (F0 m pc lsA (.int x :: .int i :: .ref (zad base adR a) :: r.map (zcv base adR)))
    replace h := zast_inv h
    obtain ⟨n, g, e2, hi, h⟩ := h
    obtain ⟨rfl, rfl, rfl, rfl⟩ := aJ_inv h
    have hlt := lt_of_some e2
    rw [zad_lt (show a < 1000 by omega)]
    exact va_iast hx hb hK hP (zwl_D σ) hS a 0 (zwl_get e2) rfl hi (zdec hr (Nat.succ_ne_zero _)) (fun H1 locs1 g1 g2 g3 => k _ _ _ _ _ ⟨by rw [← zwl_set]; exact g1, g3, by rw [List.length_set]; exact hc, by rw [zsl_set e2 (by rfl)]; exact hsl, hl⟩)
  case bastore =>
    unfold zact at h
    dsimp only at h
    replace h := zI2_inv h
    obtain ⟨i, x, r, rfl, h⟩ := h
    replace h := zP1_inv h
    obtain ⟨a, r, rfl, h⟩ := h
    show W p l e R s m args below meth c H locs cells slots Q (F0 m pc lsA (.int x :: .int i :: .ref (zad base adR a) :: r.map (zcv base adR)))
    replace h := zbst_inv h
    obtain ⟨n, g, e2, hi, h⟩ := h
    obtain ⟨rfl, rfl, rfl, rfl⟩ := aJ_inv h
    have hlt := lt_of_some e2
    rw [zad_lt (show a < 1000 by omega)]
    exact va_zast hx hb hK hP (zwl_D σ) hS a 2 (zwl_get e2) rfl hi (zdec hr (Nat.succ_ne_zero _)) (fun H1 locs1 g1 g2 g3 => k _ _ _ _ _ ⟨by rw [← zwl_set]; exact g1, g3, by rw [List.length_set]; exact hc, by rw [zsl_set e2 (by rfl)]; exact hsl, hl⟩)
  case lastore =>
    unfold zact at h
    dsimp only at h
    replace h := zJ1_inv h
    obtain ⟨x, r, rfl, h⟩ := h
    replace h := zI1_inv h
    obtain ⟨i, r, rfl, h⟩ := h
    replace h := zP1_inv h
    obtain ⟨a, r, rfl, h⟩ := h
    show W p l e R s m args below meth c H locs cells slots Q (F0 m pc lsA (.long x :: .int i :: .ref (zad base adR a) :: r.map (zcv base adR)))
    replace h := zjst_inv h
    obtain ⟨n, g, e2, hi, h⟩ := h
    obtain ⟨rfl, rfl, rfl, rfl⟩ := aJ_inv h
    have hlt := lt_of_some e2
    rw [zad_lt (show a < 1000 by omega)]
    exact va_last hx hb hK hP (zwl_D σ) hS a 1 (zwl_get e2) rfl hi (zdec hr (Nat.succ_ne_zero _)) (fun H1 locs1 g1 g2 g3 => k _ _ _ _ _ ⟨by rw [← zwl_set]; exact g1, g3, by rw [List.length_set]; exact hc, by rw [zsl_set e2 (by rfl)]; exact hsl, hl⟩)
  case aastore =>
    unfold zact at h
    dsimp only at h
    replace h := zP1_inv h
    obtain ⟨v, r, rfl, h⟩ := h
    replace h := zI1_inv h
    obtain ⟨i, r, rfl, h⟩ := h
    replace h := zP1_inv h
    obtain ⟨a, r, rfl, h⟩ := h
    show W p l e R s m args below meth c H locs cells slots Q (F0 m pc lsA (.ref (zad base adR v) :: .int i :: .ref (zad base adR a) :: r.map (zcv base adR)))
    replace h := zqst_inv h
    obtain ⟨t, n, g, ht, e2, hi, hv, hcl, h⟩ := h
    obtain ⟨rfl, rfl, rfl, rfl⟩ := aJ_inv h
    have hlt := lt_of_some e2
    rw [zad_lt (show a < 1000 by omega), zad_lt (show v < 1000 by omega)]
    have hcell : ∃ fs, σ[v]? = some (.inr (zcl σ v, fs)) := by
      have hne : zcl σ v ≠ 99 := by
        intro z
        rw [z] at hcl
        rcases ht with rfl | rfl <;> simp [zqci] at hcl
      unfold zcl at hne ⊢
      split at hne
      · rename_i cc fs ee
        rw [ee]
        exact ⟨fs, rfl⟩
      · exact absurd rfl hne
    obtain ⟨fs, hcell⟩ := hcell
    have hset : ∀ (H1 : Heap), va_P D vwCl ((zwl base tyc adR σ).set a (base + a, .inl (tyc t, n, .inr (.inr (.inr (.inr (va_up (fun j => (g j).map (zad base adR)) i.toNatClampNeg (some (base + v))))))))) H1 → va_P D vwCl (zwl base tyc adR (σ.set a (.inl (t, n, .inr (.inr (.inr (.inr (va_up g i.toNatClampNeg (some v))))))))) H1 := by
      intro H1 g1
      rw [← zwl_set]
      have e9 : zcE base tyc adR (.inl (t, n, .inr (.inr (.inr (.inr (va_up g i.toNatClampNeg (some v))))))) = .inl (tyc t, n, .inr (.inr (.inr (.inr (va_up (fun j => (g j).map (zad base adR)) i.toNatClampNeg (some (base + v))))))) := by
        have e8 : (fun j => (va_up g i.toNatClampNeg (some v) j).map (zad base adR)) = va_up (fun j => (g j).map (zad base adR)) i.toNatClampNeg (some (base + v)) := by
          funext j
          simp only [va_up]
          split
          · simp only [Option.map_some, zad_lt (base := base) (adR := adR) (show v < 1000 by omega)]
          · rfl
        simp only [zcE, zcA, e8]
      rw [e9]
      exact g1
    have hfin : ∀ (H1 : Heap) (locs1 : List Loc), va_P D vwCl ((zwl base tyc adR σ).set a (base + a, .inl (tyc t, n, .inr (.inr (.inr (.inr (va_up (fun j => (g j).map (zad base adR)) i.toNatClampNeg (some (base + v))))))))) H1 → va_S (zU base) s.heap H1 locs1 → W p l e R s m args below meth c H1 locs1 cells slots Q (F0 m (pc + 1) lsA (st'.map (zcv base adR))) := fun H1 locs1 g1 g3 =>
      k _ _ _ _ _ ⟨hset H1 g1, g3, by rw [List.length_set]; exact hc, by rw [zsl_set e2 (by rfl)]; exact hsl, hl⟩
    rcases hcl with hcl | ⟨rfl, hcl⟩
    · rcases ht with rfl | rfl
      · exact va_astq hx hb hK hP (zwl_D σ) hS a 3 v (zcl σ v) (r := (RX5, TX5, 0)) (zwl_get e2) rfl (zwl_get hcell) (by rw [hcl]; rfl) hi (zdec hr (Nat.succ_ne_zero _)) (fun H1 locs1 g1 g2 g3 => hfin H1 locs1 g1 g3)
      · exact va_astq hx hb hK hP (zwl_D σ) hS a 4 v (zcl σ v) (r := (RX1, TX1, 18)) (zwl_get e2) rfl (zwl_get hcell) (by rw [hcl]; rfl) hi (zdec hr (Nat.succ_ne_zero _)) (fun H1 locs1 g1 g2 g3 => hfin H1 locs1 g1 g3)
    · have hq : ∃ q : vw_C, vwCl[zcl σ v]? = some q ∧ va_Nw (.castable q.1 "LastMatches$Plain") s := by
        rcases hcl with hcl | hcl | hcl | hcl | hcl <;> rw [hcl]
        · exact ⟨_, rfl, hN.use (zh_in (i := 1297) (by decide +kernel)) rfl⟩
        · exact ⟨_, rfl, hN.use (zh_in (i := 1300) (by decide +kernel)) rfl⟩
        · exact ⟨_, rfl, hN.use (zh_in (i := 1301) (by decide +kernel)) rfl⟩
        · exact ⟨_, rfl, hN.use (zh_in (i := 1298) (by decide +kernel)) rfl⟩
        · exact ⟨_, rfl, hN.use (zh_in (i := 1299) (by decide +kernel)) rfl⟩
      obtain ⟨q, hq1, hq2⟩ := hq
      exact va_astqO hx hb hK hP (zwl_D σ) hS a 3 v (zcl σ v) (zwl_get e2) rfl hq2 (zwl_get hcell) hq1 hi (zdec hr (Nat.succ_ne_zero _)) (fun H1 locs1 g1 g2 g3 => hfin H1 locs1 g1 g3)
  case new i =>
    unfold zact at h
    dsimp only at h
    split at h
    · rename_i w1 w2 w3 ci
      replace h := ite_inv h
      obtain ⟨hn, h⟩ := h
      obtain ⟨rfl, rfl, rfl, rfl⟩ := aJ_inv h
      have h9 := hr.1
      simp only [zchk, Bool.and_eq_true] at h9
      have h10 := h9.2
      split at h10
      · rename_i q hq
        simp only [Bool.and_eq_true] at h10
        have hnf : znf ci.toNat = q.2.2 := by simp only [znf, hq]
        have hsz : zsz (znew σ ci.toNat) = q.2.2 := by simp [znew, zsz, hnf]
        rw [zsl_push, hsz] at hrs
        rw [List.length_append, List.length_singleton] at hrc
        refine va_new hx hb hts (zcl_in hq) (ztx ci.toNat) (zcl_ty hq) hown (hts _ (zg_in h10.1.1)) (hts _ (zg_in h10.1.2)) (hts _ (zg_in h10.2)) hK hP (zwl_D σ) hS (fun q hq => Nat.le_trans hbase hq) hq (fs := ((List.range (znf ci.toNat)).map (fun k => zdef (ztx ci.toNat k))).map (zcv base adR)) (fun j hj => ?_) (by omega) (by omega) (zdec hr (Nat.succ_ne_zero _)) (fun q0 H1 g1 g2 g3 => ?_)
        · rw [hnf]
          unfold vp_V
          rw [List.getD_eq_getElem?_getD]
          simp only [List.getElem?_map, List.getElem?_range hj, Option.map_some, Option.getD_some]
          cases ztx ci.toNat j <;> rfl
        · intro T hT X
          have hq0 := znew_q (cc := znew σ ci.toNat) hc g1 g2 hT X
          subst hq0
          have hk := k H1 locs (cells + 1) (slots + q.2.2) lsA ⟨by rw [← zwl_push]; exact g1, g3, by rw [List.length_append, List.length_singleton]; omega, by rw [zsl_push, hsz]; omega, hl⟩
          rw [List.map_cons, show zcv base adR (.ref σ.length) = .ref (base + σ.length) from congrArg Value.ref (zad_lt (by omega))] at hk
          exact hk T hT X
      · cases h10
    · cases h
  case newarray aty =>
    unfold zact at h
    dsimp only at h
    have fin : ∀ (ty : FieldType) (t0 : Nat) (a0 : Nat → vp_A), (zty tyc)[t0]? = some (tyc t0, ty) → (∀ t1, ty ≠ .object t1) → (∀ n, znewa t0 n = .inl (t0, a0 n)) → (∀ n, zcA base adR (a0 n) = a0 n) → ∀ (n : Int32) (r : List Value), σ.length < 900 → base + (σ ++ [znewa t0 n.toNatClampNeg]).length ≤ s.heap.size + R.cells → zsl (σ ++ [znewa t0 n.toNatClampNeg]) ≤ S0 + R.slots → zsz (znewa t0 n.toNatClampNeg) = n.toNatClampNeg → (∀ (H' : Heap) (locs' : List Loc) (cells' slots' : Nat) (lsA' : Array Slot), zAt base D tyc adR s S0 mi (σ ++ [znewa t0 n.toNatClampNeg]) ls H' locs' cells' slots' lsA' → W p l e R s m args below meth c H' locs' cells' slots' Q (F0 m (pc + 2) lsA' ((Value.ref σ.length :: r).map (zcv base adR)))) →
        (∀ (q : Nat) (cA : ClassId) (H1 : Heap), va_K D vwCl (zty tyc ++ [(cA, ty)]) s → va_P D vwCl (zwl base tyc adR σ ++ [(q, .inl (cA, a0 n.toNatClampNeg))]) H1 → va_D (zU base) (zwl base tyc adR σ ++ [(q, .inl (cA, a0 n.toNatClampNeg))]) → va_S (zU base) s.heap H1 locs → W p l e R s m args below meth c H1 locs (cells + 1) (slots + n.toNatClampNeg) Q (F0 m (pc + 2) lsA (.ref q :: r.map (zcv base adR)))) ∧ cells + 1 ≤ R.cells ∧ slots + n.toNatClampNeg ≤ R.slots := by
        intro ty t0 a0 hty hno hz hza n r hn1 hrc hrs hsz k
        rw [zsl_push, hsz] at hrs
        rw [List.length_append, List.length_singleton] at hrc
        refine ⟨fun q cA H1 gK g1 g2 g3 => ?_, by omega, by omega⟩
        have hcA : cA = tyc t0 := by
          have r1 : va_RA s cA ty := (gK.2 5 _ rfl).2
          have r2 : va_RA s (tyc t0) ty := (hK.2 t0 _ hty).2
          cases ty with
          | object C => exact absurd rfl (hno C)
          | _ => exact Option.some.inj (Eq.trans (Eq.symm r1) r2)
        subst hcA
        intro T hT X
        have hq0 := znew_q (cc := znewa t0 n.toNatClampNeg) hc g1 g2 hT X
        subst hq0
        have hk := k H1 locs (cells + 1) (slots + n.toNatClampNeg) lsA ⟨by rw [← zwl_push, hz]; simp only [zcE, hza]; exact g1, g3, by rw [List.length_append, List.length_singleton]; omega, by rw [zsl_push, hsz]; omega, hl⟩
        rw [List.map_cons, show zcv base adR (.ref σ.length) = .ref (base + σ.length) from congrArg Value.ref (zad_lt (by omega))] at hk
        exact hk T hT X
    cases aty
    case int =>
      dsimp only at h
      split at h
      · replace h := znwa_inv h
        obtain ⟨n, r, rfl, hn1, hn2, hn3, h⟩ := h
        obtain ⟨rfl, rfl, rfl, rfl⟩ := aJ_inv h
        have h9 := hr.1
        simp only [zchk, Bool.and_eq_true, decide_eq_true_eq] at h9
        obtain ⟨f1, f2, f3⟩ := fin .int 0 (fun n => (n, .inl (fun _ => 0))) rfl (fun _ h => by cases h) (fun _ => rfl) (fun _ => rfl) n r hn1 hrc hrs rfl k
        exact va_newa (atype := .int) hx hb (hts _ (zg_in h9.2.2)) (ty := .int) rfl hK hP (zwl_D σ) hS (fun q hq => Nat.le_trans hbase hq) (a0 := (n.toNatClampNeg, .inl (fun _ => 0))) (fun _ => rfl) hn2 rfl (by show n.toNatClampNeg * 4 ≤ _; omega) f2 f3 (zdec hr (Nat.succ_ne_zero _)) f1
      · cases h
    case long =>
      dsimp only at h
      split at h
      · replace h := znwa_inv h
        obtain ⟨n, r, rfl, hn1, hn2, hn3, h⟩ := h
        obtain ⟨rfl, rfl, rfl, rfl⟩ := aJ_inv h
        have h9 := hr.1
        simp only [zchk, Bool.and_eq_true, decide_eq_true_eq] at h9
        obtain ⟨f1, f2, f3⟩ := fin .long 1 (fun n => (n, .inr (.inl (fun _ => 0)))) rfl (fun _ h => by cases h) (fun _ => rfl) (fun _ => rfl) n r hn1 hrc hrs rfl k
        exact va_newa (atype := .long) hx hb (hts _ (zg_in h9.2.2)) (ty := .long) rfl hK hP (zwl_D σ) hS (fun q hq => Nat.le_trans hbase hq) (a0 := (n.toNatClampNeg, .inr (.inl (fun _ => 0)))) (fun _ => rfl) hn2 rfl (by show n.toNatClampNeg * 8 ≤ _; omega) f2 f3 (zdec hr (Nat.succ_ne_zero _)) f1
      · cases h
    case boolean =>
      dsimp only at h
      split at h
      · replace h := znwa_inv h
        obtain ⟨n, r, rfl, hn1, hn2, hn3, h⟩ := h
        obtain ⟨rfl, rfl, rfl, rfl⟩ := aJ_inv h
        have h9 := hr.1
        simp only [zchk, Bool.and_eq_true, decide_eq_true_eq] at h9
        obtain ⟨f1, f2, f3⟩ := fin .boolean 2 (fun n => (n, .inl (fun _ => 0))) rfl (fun _ h => by cases h) (fun _ => rfl) (fun _ => rfl) n r hn1 hrc hrs rfl k
        exact va_newa (atype := .boolean) hx hb (hts _ (zg_in h9.2.2)) (ty := .boolean) rfl hK hP (zwl_D σ) hS (fun q hq => Nat.le_trans hbase hq) (a0 := (n.toNatClampNeg, .inl (fun _ => 0))) (fun _ => rfl) hn2 rfl (by show n.toNatClampNeg * 1 ≤ _; omega) f2 f3 (zdec hr (Nat.succ_ne_zero _)) f1
      · cases h
    all_goals (dsimp only at h; cases h)
  case anewarray i =>
    unfold zact at h
    dsimp only at h
    split at h
    · rename_i w1 w2 t
      replace h := zI1_inv h
      obtain ⟨n, r, rfl, h⟩ := h
      replace h := ite_inv h
      obtain ⟨hn, h⟩ := h
      obtain ⟨rfl, rfl, rfl, rfl⟩ := aJ_inv h
      obtain ⟨hn1, hn2, hn3⟩ := hn
      have h9 := hr.1
      simp only [zchk, Bool.and_eq_true] at h9
      rw [zsl_push] at hrs
      have hrs : zsl σ + n.toNatClampNeg ≤ S0 + R.slots := hrs
      rw [List.length_append, List.length_singleton] at hrc
      have fin : ∀ (C : String) (t0 : Nat), t.toNat = t0 → (zty tyc)[t0]? = some (tyc t0, .object C) → ∀ (q : Nat) (cA : ClassId) (H1 : Heap), va_K D vwCl (zty tyc ++ [(cA, .object C)]) s → va_P D vwCl (zwl base tyc adR σ ++ [(q, .inl (cA, n.toNatClampNeg, .inr (.inr (.inr (.inr (fun _ => none))))))]) H1 → va_D (zU base) (zwl base tyc adR σ ++ [(q, .inl (cA, n.toNatClampNeg, .inr (.inr (.inr (.inr (fun _ => none))))))]) → va_S (zU base) s.heap H1 locs → W p l e R s m args below meth c H1 locs (cells + 1) (slots + n.toNatClampNeg) Q (F0 m (pc + 3) lsA (.ref q :: r.map (zcv base adR))) := by
        intro C t0 ht hty q cA H1 gK g1 g2 g3
        have hcA : cA = tyc t0 := by
          obtain ⟨-, -, -, -, -, r1⟩ := (gK.2 5 _ rfl).2
          obtain ⟨-, -, -, -, -, r2⟩ := (hK.2 t0 _ hty).2
          exact Option.some.inj (r1.symm.trans r2)
        subst hcA
        intro T hT X
        have hq0 := znew_q (cc := .inl (t0, n.toNatClampNeg, .inr (.inr (.inr (.inr (fun _ => none)))))) hc g1 g2 hT X
        subst hq0
        have hk := k H1 locs (cells + 1) (slots + n.toNatClampNeg) lsA ⟨by rw [← zwl_push, ht]; exact g1, g3, by rw [List.length_append, List.length_singleton]; omega, by rw [zsl_push]; show zsl σ + n.toNatClampNeg = _; omega, hl⟩
        rw [List.map_cons, show zcv base adR (.ref σ.length) = .ref (base + σ.length) from congrArg Value.ref (zad_lt (by omega))] at hk
        exact hk T hT X
      have h10 := h9.2
      split at h10
      · rename_i ht
        simp only [Bool.and_eq_true] at h10
        exact va_newq hx hb hown (hts _ (zg_in h10.1)) hN.2.1 hK hP (zwl_D σ) hS (fun q hq => Nat.le_trans hbase hq) hn2 rfl (by omega) (by omega) (by omega) (zdec hr (Nat.succ_ne_zero _)) (fin _ 3 (by omega) rfl)
      · simp only [Bool.and_eq_true, decide_eq_true_eq] at h10
        exact va_newq hx hb hown (hts _ (zg_in h10.1.2)) hN.2.2 hK hP (zwl_D σ) hS (fun q hq => Nat.le_trans hbase hq) hn2 rfl (by omega) (by omega) (by omega) (zdec hr (Nat.succ_ne_zero _)) (fin _ 4 (by omega) rfl)
    · cases h
  case invokespecial i =>
    unfold zact at h
    dsimp only at h
    split at h
    · rename_i w1 w2 w3
      replace h := zP1_inv h
      obtain ⟨a, r, rfl, h⟩ := h
      replace h := ite_inv h
      obtain ⟨hn, h⟩ := h
      obtain ⟨rfl, rfl, rfl, rfl⟩ := aJ_inv h
      have h9 := hr.1
      simp only [zchk, Bool.and_eq_true] at h9
      refine W.objInit hx hb hown (hts _ (zg_in h9.2.1.1)) (hts _ (zg_in h9.2.1.2)) (hts _ (zg_in h9.2.2)) (g := F0 m pc lsA (.ref (zad base adR a) :: st'.map (zcv base adR))) rfl (by rw [hml]; exact hl.1) rfl (zdec hr (Nat.succ_ne_zero _)) (by omega) ?_ (k _ _ _ _ _ hAt)
      have e0 : (F0 m pc lsA (.ref (zad base adR a) :: st'.map (zcv base adR))).monitorRoom = 0 := rfl
      rw [e0, zsum_map]
      omega
    · exact absurd h (zcall_noJ)
    · exact absurd h (zcall_noJ)
    · cases h
  case invokestatic i =>
    unfold zact at h
    dsimp only at h
    split at h
    · exact absurd h (zcallS_noJ)
    · exact absurd h (zcallS_noJ)
    · rename_i w1 w2 w3 w4
      replace h := ite_inv h
      obtain ⟨hd0, h⟩ := h
      replace h := zcpy_inv h
      obtain ⟨n, dp, b, sp, a, st', m0, g, k0, hh, rfl, e2, hsrc, q1, q2, q3, q4, q5, q6, h⟩ := h
      obtain ⟨rfl, rfl, rfl, rfl⟩ := aJ_inv h
      have h9 := hr.1
      simp only [zchk, Bool.and_eq_true] at h9
      have hlt := lt_of_some e2
      show W p l e R s m args below meth c H locs cells slots Q (F0 m pc lsA (.int n :: .int dp :: .ref (zad base adR b) :: .int sp :: .ref (zad base adR a) :: st'.map (zcv base adR)))
      rw [zad_lt (show b < 1000 by omega)]
      have hloc : ((st'.map (zcv base adR)).map fun v => v.category).sum + (nativeFrameWords "java/lang/System" "arraycopy" 5 + 11) ≤ R.locals := by
        rw [zsum_map]
        have : nativeFrameWords "java/lang/System" "arraycopy" 5 ≤ 20 := by decide
        omega
      rcases hsrc with e3 | ⟨ha, e3⟩
      · have hlt2 := lt_of_some e3
        rw [zad_lt (show a < 1000 by omega)]
        exact va_copyi hx hb (by rw [hml]; exact hl.1.symm) hown (hts _ (zg_in h9.2.1.1.1)) (hts _ (zg_in h9.2.1.1.2)) (hts _ (zg_in h9.2.1.2)) (hts _ (zg_in h9.2.2)) hK hP (zwl_D σ) hS a b 0 0 (zwl_get e3) (zwl_get e2) rfl rfl (by rfl) q1 q2 q3 q4 q5 (fun i _ => rfl) (by omega) hloc (zdec hr (Nat.succ_ne_zero _)) (fun H1 locs1 g1 g2 g3 => k _ _ _ _ _ ⟨by rw [← zwl_set]; exact g1, g3, by rw [List.length_set]; exact hc, by rw [zsl_set e2 (by rfl)]; exact hsl, hl⟩)
      · rw [zad_ge ha]
        rcases hRO.1 a 0 k0 hh e3 ha with ⟨-, hT⟩ | ⟨z, -⟩
        · exact z_copyT hx hb (by rw [hml]; exact hl.1.symm) hown (hts _ (zg_in h9.2.1.1.1)) (hts _ (zg_in h9.2.1.1.2)) (hts _ (zg_in h9.2.1.2)) (hts _ (zg_in h9.2.2)) hK hP (zwl_D σ) hS hT b 0 (zwl_get e2) rfl q1 q2 q3 q4 q5 (by omega) hloc (zdec hr (Nat.succ_ne_zero _)) (fun H1 locs1 g1 g2 g3 => k _ _ _ _ _ ⟨by rw [← zwl_set]; exact g1, g3, by rw [List.length_set]; exact hc, by rw [zsl_set e2 (by rfl)]; exact hsl, hl⟩)
        · cases z
    · replace h := zI2_inv h
      obtain ⟨x, y, r, rfl, h⟩ := h
      replace h := ite_inv h
      obtain ⟨hn, h⟩ := h
      obtain ⟨rfl, rfl, rfl, rfl⟩ := aJ_inv h
      have h9 := hr.1
      simp only [zchk, Bool.and_eq_true] at h9
      exact va_mmax hx hb (by rw [hml]; exact hl.1.symm) hown (hts _ (zg_in h9.2.1.1.1)) (hts _ (zg_in h9.2.1.1.2)) (hts _ (zg_in h9.2.1.2)) (hts _ (zg_in h9.2.2)) (by omega) (by rw [zsum_map]; omega) (by omega) (by omega) (zdec hr (Nat.succ_ne_zero _)) (k _ _ _ _ _ hAt)
    · replace h := zI2_inv h
      obtain ⟨x, y, r, rfl, h⟩ := h
      replace h := ite_inv h
      obtain ⟨hn, h⟩ := h
      obtain ⟨rfl, rfl, rfl, rfl⟩ := aJ_inv h
      have h9 := hr.1
      simp only [zchk, Bool.and_eq_true] at h9
      exact va_mmin hx hb (by rw [hml]; exact hl.1.symm) hown (hts _ (zg_in h9.2.1.1.1)) (hts _ (zg_in h9.2.1.1.2)) (hts _ (zg_in h9.2.1.2)) (hts _ (zg_in h9.2.2)) (by omega) (by rw [zsum_map]; omega) (by omega) (by omega) (zdec hr (Nat.succ_ne_zero _)) (k _ _ _ _ _ hAt)
    · replace h := zJ2_inv h
      obtain ⟨x, y, r, rfl, h⟩ := h
      replace h := ite_inv h
      obtain ⟨hn, h⟩ := h
      obtain ⟨rfl, rfl, rfl, rfl⟩ := aJ_inv h
      have h9 := hr.1
      simp only [zchk, Bool.and_eq_true] at h9
      exact va_mmax_long hx hb (by rw [hml]; exact hl.1.symm) hown (hts _ (zg_in h9.2.1.1.1)) (hts _ (zg_in h9.2.1.1.2)) (hts _ (zg_in h9.2.1.2)) (hts _ (zg_in h9.2.2)) (by omega) (by rw [zsum_map]; omega) (by omega) (by omega) (zdec hr (Nat.succ_ne_zero _)) (k _ _ _ _ _ hAt)
    · cases h
  case invokevirtual i =>
    unfold zact at h
    dsimp only at h
    split at h
    · exact absurd h (zcall_noJ)
    · exact absurd h (zcall_noJ)
    · split at h
      · split at h
        · exact absurd h (zcall_noJ)
        · cases h
      · cases h
    · cases h
  case ireturn =>
    unfold zact at h
    dsimp only at h
    exfalso
    repeat' (first | split at h | (simp [aR] at h; done) | cases h)
  case lreturn =>
    unfold zact at h
    dsimp only at h
    exfalso
    repeat' (first | split at h | (simp [aR] at h; done) | cases h)
  case areturn =>
    unfold zact at h
    dsimp only at h
    exfalso
    repeat' (first | split at h | (simp [aR] at h; done) | cases h)
  case return_ =>
    unfold zact at h
    dsimp only at h
    exfalso
    repeat' (first | split at h | (simp [aR] at h; done) | cases h)
  all_goals (unfold zact at h; dsimp only at h; cases h)
end ZSTEP
