/-! THE ABSTRACT MACHINE'S CELLS IN THE REAL HEAP -/
def zU (base : Nat) : Nat → Prop := fun q => base ≤ q
def zad (base : Nat) (adR : Nat → Nat) (k : Nat) : Nat := if k < 1000 then base + k else adR k
def zcv (base : Nat) (adR : Nat → Nat) (v : Value) : Value := match v with
  | .ref k => .ref (zad base adR k)
  | v => v
def zcA (base : Nat) (adR : Nat → Nat) (a : vp_A) : vp_A := match a with
  | (n, .inr (.inr (.inr (.inr f)))) => (n, .inr (.inr (.inr (.inr (fun j => (f j).map (zad base adR))))))
  | x => x
def zcE (base : Nat) (tyc : Nat → ClassId) (adR : Nat → Nat) (c : zC) : va_E := match c with
  | .inl (t, a) => .inl (tyc t, zcA base adR a)
  | .inr (ci, fs) => .inr (ci, fs.map (zcv base adR))
def zwl (base : Nat) (tyc : Nat → ClassId) (adR : Nat → Nat) (σ : zW) : va_W := σ.mapIdx (fun k c => (base + k, zcE base tyc adR c))
def zty (tyc : Nat → ClassId) : List (ClassId × FieldType) := [(tyc 0, .int), (tyc 1, .long), (tyc 2, .boolean), (tyc 3, .object "LastMatches$Plain"), (tyc 4, .object "LastMatches$Clearing")]
def zlv (base : Nat) (adR : Nat → Nat) (ls : zL) : List (Nat × Value) := ls.map (fun q => (q.1, zcv base adR q.2))
def zsz (c : zC) : Nat := match c with
  | .inl (_, a) => a.1
  | .inr (_, fs) => fs.length
def zsl (σ : zW) : Nat := (σ.map zsz).sum
def zns : Cond → Bool
  | .methodLinkNest .. => true
  | .fieldLinkNest .. => true
  | .castable .. => true
  | _ => false
def zNst (U : State) : Prop := (∀ w ∈ lw_tbl, zns w = true → w.before #[] U = true) ∧ va_AO "LastMatches$Plain" U ∧ va_AO "LastMatches$Clearing" U
def zRO (base : Nat) (adR : Nat → Nat) (ro : zR) (U : State) (H : Heap) : Prop :=
  (∀ (k t N : Nat) (f : Nat → Int32), ro.1 k = some (t, N, f) → 1000 ≤ k → (t = 0 ∧ va_T .int (adR k) N (fun j => .int (f j)) (zU base) U H) ∨ (t = 5 ∧ va_T .byte (adR k) N (fun j => .int (f j)) (zU base) U H)) ∧
  (∀ k : Int, (k = 0 ∨ k = 1 ∨ k = 2 ∨ k = 3 ∨ k = 4) → va_Z (zsf k).1 (zsf k).2.1 (zsf k).2.2 (zcv base adR (zsv ro k)) (zU base) U H) ∧
  (∀ k : Nat, 2000 ≤ k → k < 2009 → va_O "java/lang/String" (adR k) (zU base) U H ∧ va_OF "java/lang/String" "coder" "B" (.int 0) (adR k) (zU base) U H ∧ va_OF "java/lang/String" "value" "[B" (.ref (adR (k + 100))) (adR k) (zU base) U H) ∧
  (∀ k : Nat, k < 9 → vk_R "LastMatches$Reading" (ztxt k).1 (ztxt k).2 (adR (2000 + k)) U)
theorem zns_tab {w : Cond} (h : zns w = true) : w.onTables = true := by
  cases w <;> first | rfl | (simp [zns] at h; done)
theorem zNst.use {U : State} {w : Cond} {A : Array Value} (h : zNst U) (hw : w ∈ lw_tbl) (hn : zns w = true) : w.before A U = true := va_tabs (zns_tab hn) rfl (h.1 w hw hn)
theorem zNst.same {u U : State} (h : u.vm = U.vm) (hZ : zNst u) : zNst U := ⟨fun w hw hn => va_tabs (zns_tab hn) h (hZ.1 w hw hn), hZ.2.1.moved (by rw [h]; exact Vm.Alike.refl _), hZ.2.2.moved (by rw [h]; exact Vm.Alike.refl _)⟩
theorem zNst.warm {s U : State} (hW : s.WarmedH U.vm) (hZ : zNst s) : zNst U := by
  refine ⟨fun w hw hn => ?_, hZ.2.1.moved hW.alike, hZ.2.2.moved hW.alike⟩
  have h := hZ.1 w hw hn
  cases w with
  | methodLinkNest a i x hh => exact va_Nw.warmM hW h
  | fieldLinkNest a i b n d hh => exact va_Nw.warmF hW h
  | castable C T => exact va_Nw.warmC hW h
  | _ => simp [zns] at hn
theorem zRO.same {base : Nat} {adR : Nat → Nat} {ro : zR} {u U : State} {H : Heap} (h : U.vm = u.vm) (hZ : zRO base adR ro u H) : zRO base adR ro U H := by
  obtain ⟨h1, h2, h3, h4⟩ := hZ
  have ha : u.vm.Alike U.vm := by rw [h]; exact Vm.Alike.refl _
  refine ⟨fun k t N f e g => ?_, fun k hk => (h2 k hk).moved ha, fun k g1 g2 => ?_, fun k hk => (h4 k hk).same h⟩
  · rcases h1 k t N f e g with ⟨a, b⟩ | ⟨a, b⟩
    · exact Or.inl ⟨a, b.moved ha⟩
    · exact Or.inr ⟨a, b.moved ha⟩
  · obtain ⟨a, b, c⟩ := h3 k g1 g2
    exact ⟨a.moved ha, b.moved ha, c.moved ha⟩
theorem zRO.step {base : Nat} {adR : Nat → Nat} {ro : zR} {s U : State} {H : Heap} {locs : List Loc} (hW : s.WarmedH U.vm) (hS : va_S (zU base) s.heap H locs) (hU : U.heap = H) (hZ : zRO base adR ro s s.heap) : zRO base adR ro U U.heap := by
  obtain ⟨h1, h2, h3, h4⟩ := hZ
  have ha := hW.alike
  have hk : ∀ a : Nat, a < s.heap.size → ¬ zU base a → U.heap[a]? = s.heap[a]? := fun a x y => by rw [hU]; exact hS.2.1 a x y
  refine ⟨fun k t N f e g => ?_, fun k hk' => ((h2 k hk').kept hk).moved ha, fun k g1 g2 => ?_, fun k hk' => (h4 k hk').warm hW⟩
  · rcases h1 k t N f e g with ⟨a, b⟩ | ⟨a, b⟩
    · exact Or.inl ⟨a, (b.kept hk).moved ha⟩
    · exact Or.inr ⟨a, (b.kept hk).moved ha⟩
  · obtain ⟨a, b, c⟩ := h3 k g1 g2
    exact ⟨(a.kept hk).moved ha, (b.kept hk).moved ha, (c.kept hk).moved ha⟩
theorem zcv_cat {base : Nat} {adR : Nat → Nat} (v : Value) : (zcv base adR v).category = v.category := by cases v <;> rfl
theorem zsum_map {base : Nat} {adR : Nat → Nat} (st : List Value) : ((st.map (zcv base adR)).map fun v => v.category).sum = zsum st := by
  unfold zsum
  rw [List.map_map]
  congr 1
  exact List.map_congr_left fun v _ => zcv_cat v
theorem zrm1_mem {i : Nat} {q : Nat × Value} : ∀ {ls : zL}, q ∈ zrm1 i ls → q ∈ ls ∧ ¬ (q.1 = i ∨ (q.1 + 1 = i ∧ q.2.category = 2)) := by
  intro ls
  induction ls with
  | nil => intro h; cases h
  | cons a l ih =>
    intro h
    obtain ⟨j, w⟩ := a
    simp only [zrm1] at h
    split at h
    · exact ⟨List.mem_cons_of_mem _ (ih h).1, (ih h).2⟩
    · rename_i hn
      rcases List.mem_cons.mp h with rfl | h
      · exact ⟨List.mem_cons_self, hn⟩
      · exact ⟨List.mem_cons_of_mem _ (ih h).1, (ih h).2⟩
theorem zst1_mem {i : Nat} {v : Value} {q : Nat × Value} : ∀ {ls : zL}, q ∈ zst1 i v ls → q = (i, v) ∨ (q ∈ ls ∧ ¬ (q.1 = i ∨ (q.1 + 1 = i ∧ q.2.category = 2))) := by
  intro ls
  induction ls with
  | nil => intro h; exact Or.inl (List.mem_singleton.mp h)
  | cons a l ih =>
    intro h
    obtain ⟨j, w⟩ := a
    simp only [zst1] at h
    split at h
    · rcases ih h with h | ⟨h1, h2⟩
      · exact Or.inl h
      · exact Or.inr ⟨List.mem_cons_of_mem _ h1, h2⟩
    · rename_i hn
      split at h
      · rcases List.mem_cons.mp h with h | h
        · exact Or.inl h
        · rcases List.mem_cons.mp h with rfl | h
          · exact Or.inr ⟨List.mem_cons_self, hn⟩
          · exact Or.inr ⟨List.mem_cons_of_mem _ (zrm1_mem h).1, (zrm1_mem h).2⟩
      · rcases List.mem_cons.mp h with rfl | h
        · exact Or.inr ⟨List.mem_cons_self, hn⟩
        · rcases ih h with h | ⟨h1, h2⟩
          · exact Or.inl h
          · exact Or.inr ⟨List.mem_cons_of_mem _ h1, h2⟩
theorem zrm2_mem {i : Nat} {q : Nat × Value} : ∀ {ls : zL}, q ∈ zrm2 i ls → q ∈ ls ∧ ¬ (q.1 = i ∨ q.1 = i + 1 ∨ (q.1 + 1 = i ∧ q.2.category = 2)) := by
  intro ls
  induction ls with
  | nil => intro h; cases h
  | cons a l ih =>
    intro h
    obtain ⟨j, w⟩ := a
    simp only [zrm2] at h
    split at h
    · exact ⟨List.mem_cons_of_mem _ (ih h).1, (ih h).2⟩
    · rename_i hn
      rcases List.mem_cons.mp h with rfl | h
      · exact ⟨List.mem_cons_self, hn⟩
      · exact ⟨List.mem_cons_of_mem _ (ih h).1, (ih h).2⟩
theorem zst2_mem {i : Nat} {v : Value} {q : Nat × Value} : ∀ {ls : zL}, q ∈ zst2 i v ls → q = (i, v) ∨ (q ∈ ls ∧ ¬ (q.1 = i ∨ q.1 = i + 1 ∨ (q.1 + 1 = i ∧ q.2.category = 2))) := by
  intro ls
  induction ls with
  | nil => intro h; exact Or.inl (List.mem_singleton.mp h)
  | cons a l ih =>
    intro h
    obtain ⟨j, w⟩ := a
    simp only [zst2] at h
    split at h
    · rcases ih h with h | ⟨h1, h2⟩
      · exact Or.inl h
      · exact Or.inr ⟨List.mem_cons_of_mem _ h1, h2⟩
    · rename_i hn
      split at h
      · rcases List.mem_cons.mp h with h | h
        · exact Or.inl h
        · rcases List.mem_cons.mp h with rfl | h
          · exact Or.inr ⟨List.mem_cons_self, hn⟩
          · exact Or.inr ⟨List.mem_cons_of_mem _ (zrm2_mem h).1, (zrm2_mem h).2⟩
      · rcases List.mem_cons.mp h with rfl | h
        · exact Or.inr ⟨List.mem_cons_self, hn⟩
        · rcases ih h with h | ⟨h1, h2⟩
          · exact Or.inl h
          · exact Or.inr ⟨List.mem_cons_of_mem _ h1, h2⟩
theorem zst1_has {base : Nat} {adR : Nat → Nat} {i n : Nat} {v : Value} {ls : zL} {lsA : Array Slot} (h : lv_has lsA n ((i, zcv base adR v) :: (zlv base adR ls).filter (fun q => !(q.1 == i) && !(q.1 + 1 == i && q.2.category == 2)))) : lv_has lsA n (zlv base adR (zst1 i v ls)) := by
  refine ⟨h.1, h.2.1, fun q hq => h.2.2 q ?_⟩
  obtain ⟨q0, h0, rfl⟩ := List.mem_map.mp hq
  rcases zst1_mem h0 with rfl | ⟨h1, h2⟩
  · exact List.mem_cons_self
  · refine List.mem_cons_of_mem _ (List.mem_filter.mpr ⟨List.mem_map.mpr ⟨q0, h1, rfl⟩, ?_⟩)
    simp only [zcv_cat]
    simp only [not_or, not_and] at h2
    simp [h2.1]
    by_cases z : q0.1 + 1 = i
    · exact Or.inr (h2.2 z)
    · exact Or.inl z
theorem zst2_has {base : Nat} {adR : Nat → Nat} {i n : Nat} {v : Value} {ls : zL} {lsA : Array Slot} (h : lv_has lsA n ((i, zcv base adR v) :: (zlv base adR ls).filter (fun q => !(q.1 == i) && (!(q.1 == i + 1) && !(q.1 + 1 == i && q.2.category == 2))))) : lv_has lsA n (zlv base adR (zst2 i v ls)) := by
  refine ⟨h.1, h.2.1, fun q hq => h.2.2 q ?_⟩
  obtain ⟨q0, h0, rfl⟩ := List.mem_map.mp hq
  rcases zst2_mem h0 with rfl | ⟨h1, h2⟩
  · exact List.mem_cons_self
  · refine List.mem_cons_of_mem _ (List.mem_filter.mpr ⟨List.mem_map.mpr ⟨q0, h1, rfl⟩, ?_⟩)
    simp only [zcv_cat]
    simp only [not_or, not_and] at h2
    simp [h2.1, h2.2.1]
    by_cases z : q0.1 + 1 = i
    · exact Or.inr (h2.2.2 z)
    · exact Or.inl z
theorem zkeep_mem {ks : List Nat} {q : Nat × Value} : ∀ {ls : zL}, q ∈ zkeep ks ls → q ∈ ls := by
  intro ls
  induction ls with
  | nil => intro h; cases h
  | cons a l ih =>
    intro h
    obtain ⟨j, w⟩ := a
    simp only [zkeep] at h
    split at h
    · rcases List.mem_cons.mp h with rfl | h
      · exact List.mem_cons_self
      · exact List.mem_cons_of_mem _ (ih h)
    · exact List.mem_cons_of_mem _ (ih h)
theorem zpr_has {base : Nat} {adR : Nat → Nat} {mi pc n : Nat} {ls : zL} {lsA : Array Slot} (h : lv_has lsA n (zlv base adR ls)) : lv_has lsA n (zlv base adR (zpr mi pc ls)) := by
  refine ⟨h.1, h.2.1, fun q hq => h.2.2 q ?_⟩
  obtain ⟨q0, h0, rfl⟩ := List.mem_map.mp hq
  refine List.mem_map.mpr ⟨q0, ?_, rfl⟩
  unfold zpr at h0
  split at h0
  · exact h0
  · exact zkeep_mem h0
theorem zlook_mem {ls : zL} {i : Nat} {v : Value} (h : zlook ls i = some v) : (i, v) ∈ ls := by
  induction ls with
  | nil => cases h
  | cons a l ih =>
    obtain ⟨j, w⟩ := a
    simp only [zlook] at h
    split at h
    · rename_i e
      cases h
      rw [e]
      exact List.mem_cons_self
    · exact List.mem_cons_of_mem _ (ih h)
theorem zlv_mem {base : Nat} {adR : Nat → Nat} {ls : zL} {i : Nat} {v : Value} (h : zlook ls i = some v) : (i, zcv base adR v) ∈ zlv base adR ls := List.mem_map.mpr ⟨(i, v), zlook_mem h, rfl⟩
theorem zlv_get {base : Nat} {adR : Nat → Nat} {ls : zL} {lsA : Array Slot} {n i : Nat} {v : Value} (hl : lv_has lsA n (zlv base adR ls)) (h : zlook ls i = some v) : lsA[i]? = some (.val (zcv base adR v)) := hl.2.2 _ (zlv_mem h)
theorem zlv_args {base : Nat} {adR : Nat → Nat} (vs : List Value) : ∀ i, zlv base adR (lv_args i vs) = lv_args i (vs.map (zcv base adR)) := by
  induction vs with
  | nil => intro i; rfl
  | cons v vs ih =>
    intro i
    show (i, zcv base adR v) :: zlv base adR (lv_args _ vs) = _
    rw [ih]
    show _ = (i, zcv base adR v) :: lv_args (if (zcv base adR v).category = 2 then i + 2 else i + 1) (vs.map (zcv base adR))
    rw [zcv_cat]
theorem lg_sl_len (vs : List Value) : (lg_sl vs).length ≤ zsum vs := by
  induction vs with
  | nil => exact Nat.le_refl _
  | cons v vs ih =>
    have e : lg_sl (v :: vs) = (if v.category = 2 then [.val v, .second] else [.val v]) ++ lg_sl vs := rfl
    have e2 : zsum (v :: vs) = v.category + zsum vs := by simp [zsum]
    rw [e, e2, List.length_append]
    rcases lv_cat v with h | h <;> simp [h] <;> omega
theorem zwl_get {base : Nat} {tyc : Nat → ClassId} {adR : Nat → Nat} {σ : zW} {k : Nat} {c : zC} (h : σ[k]? = some c) : (zwl base tyc adR σ)[k]? = some (base + k, zcE base tyc adR c) := by
  simp [zwl, List.getElem?_mapIdx, h]
theorem zwl_set {base : Nat} {tyc : Nat → ClassId} {adR : Nat → Nat} (σ : zW) (k : Nat) (c : zC) : (zwl base tyc adR σ).set k (base + k, zcE base tyc adR c) = zwl base tyc adR (σ.set k c) := by
  apply List.ext_getElem?
  intro j
  simp only [zwl, List.getElem?_set, List.getElem?_mapIdx, List.length_mapIdx]
  split
  · rename_i e
    subst e
    split <;> simp_all
  · rfl
theorem zwl_push {base : Nat} {tyc : Nat → ClassId} {adR : Nat → Nat} (σ : zW) (c : zC) : zwl base tyc adR σ ++ [(base + σ.length, zcE base tyc adR c)] = zwl base tyc adR (σ ++ [c]) := by
  simp [zwl, List.mapIdx_append]
theorem zwl_len {base : Nat} {tyc : Nat → ClassId} {adR : Nat → Nat} (σ : zW) : (zwl base tyc adR σ).length = σ.length := by simp [zwl]
theorem zwl_inv {base : Nat} {tyc : Nat → ClassId} {adR : Nat → Nat} {σ : zW} {k : Nat} {q : Nat × va_E} (h : (zwl base tyc adR σ)[k]? = some q) : q.1 = base + k := by
  simp only [zwl, List.getElem?_mapIdx, Option.map_eq_some_iff] at h
  obtain ⟨c, -, e⟩ := h
  rw [← e]
theorem zwl_D {base : Nat} {tyc : Nat → ClassId} {adR : Nat → Nat} (σ : zW) : va_D (zU base) (zwl base tyc adR σ) :=
  ⟨fun i j p q hi hj h => by have := zwl_inv hi; have := zwl_inv hj; omega, fun k q hk => by have := zwl_inv hk; show base ≤ q.1; omega⟩
theorem zsl_set {σ : zW} {k : Nat} {c c0 : zC} (h : σ[k]? = some c0) (e : zsz c = zsz c0) : zsl (σ.set k c) = zsl σ := by
  unfold zsl
  congr 1
  apply List.ext_getElem?
  intro j
  simp only [List.getElem?_map, List.getElem?_set]
  split
  · rename_i q
    subst q
    have := (List.getElem?_eq_some_iff.mp h).1
    rw [if_pos this, h, Option.map_some, Option.map_some, e]
  · rfl
theorem zsl_push (σ : zW) (c : zC) : zsl (σ ++ [c]) = zsl σ + zsz c := by simp [zsl]
/-- a frame's standing -/
def zFix (base : Nat) (D : va_G) (tyc : Nat → ClassId) (adR : Nat → Nat) (ro : zR) (p : Program) (s : State) (m : MethodId) (args : Array Value) (meth : Method) (c : Code) (mi : Nat) : Prop :=
  p.tables.exec = Jvm.exec ∧ c.code = mB mi ∧ c.maxLocals = mL mi ∧ s.vm.findClass (mN mi).cls = some m.cls ∧ ((mN mi).name = "<init>" → meth.name = "<init>") ∧ (∀ w ∈ zG, w.before args s = true) ∧ zNst s ∧ va_K D vwCl (zty tyc) s ∧ zRO base adR ro s s.heap ∧ base ≤ s.heap.size
def zAt (base : Nat) (D : va_G) (tyc : Nat → ClassId) (adR : Nat → Nat) (s : State) (S0 mi : Nat) (σ : zW) (ls : zL) (H : Heap) (locs : List Loc) (cells slots : Nat) (lsA : Array Slot) : Prop :=
  va_P D vwCl (zwl base tyc adR σ) H ∧ va_S (zU base) s.heap H locs ∧ base + σ.length = s.heap.size + cells ∧ zsl σ = S0 + slots ∧ lv_has lsA (mL mi) (zlv base adR ls)
theorem zI1_inv {st : List Value} {f : Int32 → List Value → zA} {a} (h : zI1 st f = some a) : ∃ x r, st = .int x :: r ∧ f x r = some a := by
  unfold zI1 at h
  split at h
  · exact ⟨_, _, rfl, h⟩
  · cases h
theorem zI2_inv {st : List Value} {f : Int32 → Int32 → List Value → zA} {a} (h : zI2 st f = some a) : ∃ x y r, st = .int y :: .int x :: r ∧ f x y r = some a := by
  unfold zI2 at h
  split at h
  · exact ⟨_, _, _, rfl, h⟩
  · cases h
theorem zJ1_inv {st : List Value} {f : Int64 → List Value → zA} {a} (h : zJ1 st f = some a) : ∃ x r, st = .long x :: r ∧ f x r = some a := by
  unfold zJ1 at h
  split at h
  · exact ⟨_, _, rfl, h⟩
  · cases h
theorem zJ2_inv {st : List Value} {f : Int64 → Int64 → List Value → zA} {a} (h : zJ2 st f = some a) : ∃ x y r, st = .long y :: .long x :: r ∧ f x y r = some a := by
  unfold zJ2 at h
  split at h
  · exact ⟨_, _, _, rfl, h⟩
  · cases h
theorem zP1_inv {st : List Value} {f : Nat → List Value → zA} {a} (h : zP1 st f = some a) : ∃ (x : Nat) (r : List Value), st = .ref x :: r ∧ f x r = some a := by
  unfold zP1 at h
  split at h
  · exact ⟨_, _, rfl, h⟩
  · cases h
theorem zLI_inv {ls : zL} {i : Nat} {f : Int32 → zA} {a} (h : zLI ls i f = some a) : ∃ x, zlook ls i = some (.int x) ∧ f x = some a := by
  unfold zLI at h
  split at h
  · exact ⟨_, by assumption, h⟩
  · cases h
theorem zLJ_inv {ls : zL} {i : Nat} {f : Int64 → zA} {a} (h : zLJ ls i f = some a) : ∃ x, zlook ls i = some (.long x) ∧ f x = some a := by
  unfold zLJ at h
  split at h
  · exact ⟨_, by assumption, h⟩
  · cases h
theorem zLP_inv {ls : zL} {i : Nat} {f : Nat → zA} {a} (h : zLP ls i f = some a) : ∃ (x : Nat), zlook ls i = some (.ref x) ∧ f x = some a := by
  unfold zLP at h
  split at h
  · exact ⟨_, by assumption, h⟩
  · cases h
theorem zT_inv {pc : Nat} {off : Int} {f : Nat → zA} {a} (h : zT pc off f = some a) : ∃ t : Nat, (pc : Int) + off = (t : Int) ∧ f t = some a := by
  unfold zT at h
  split at h
  · exact ⟨_, by omega, h⟩
  · cases h
theorem ite_inv {α : Type} {P : Prop} [Decidable P] {x : Option α} {a : α} (h : (if P then x else none) = some a) : P ∧ x = some a := by
  split at h
  · exact ⟨by assumption, h⟩
  · cases h
theorem nite_inv {α : Type} {P : Prop} [Decidable P] {x : Option α} {a : α} (h : (if P then none else x) = some a) : ¬ P ∧ x = some a := by
  split at h
  · cases h
  · exact ⟨by assumption, h⟩
theorem aJ_inv {pc pc' : Nat} {ls ls' : zL} {st st' : List Value} {σ σ' : zW} (h : aJ pc ls st σ = some (.inr (.inl (pc', ls', st', σ')))) : pc' = pc ∧ ls' = ls ∧ st' = st ∧ σ' = σ := by
  simp only [aJ, Option.some.injEq, Sum.inr.injEq, Sum.inl.injEq, Prod.mk.injEq] at h
  obtain ⟨a, b, c, d⟩ := h
  exact ⟨a.symm, b.symm, c.symm, d.symm⟩
