/-! the classes' fields: their words, types, names -/
def zln : Instr → Nat
  | .iload _ | .lload _ | .aload _ | .istore _ | .lstore _ | .astore _ | .bipush _ | .ldc _ | .newarray _ => 2
  | .sipush _ | .iinc _ _ | .ifCond _ _ | .if_icmp _ _ | .goto _ | .ifnull _ | .ifnonnull _ | .getfield _ | .putfield _ | .getstatic _ | .new _ | .anewarray _ | .invokevirtual _ | .invokespecial _ | .invokestatic _ | .ldc2_w _ => 3
  | .tableswitch .. | .lookupswitch .. => 0
  | _ => 1
def zlnb (r : Nat × Instr × Nat × List Int) : Bool := zln r.2.1 == 0 || r.2.2.1 == zln r.2.1
theorem zln_all : ((List.range 217).all fun mi => (mC mi).all zlnb) = true := by decide +kernel
def zfx (own : Nat) : List Int := match own with
  | 0 => []
  | 1 => [175, 177, 179, 181, 183, 185, 187, 189, 191, 193, 195, 197, 199, 201, 203, 205, 207, 209]
  | 2 => []
  | 3 => []
  | 4 => [227, 229, 231, 233, 235]
  | 5 => []
  | 6 => [283, 285, 287, 289, 291, 293, 295]
  | 7 => []
  | 8 => []
  | 9 => []
  | 10 => [253, 255, 257, 259]
  | 11 => [311, 313, 315, 317, 319, 321, 323, 325, 327, 329, 331, 333, 335]
  | 12 => [948, 950, 952, 954, 956, 958, 960, 962, 964, 966, 968, 970, 972, 974, 976, 978, 980, 982, 984, 986, 988]
  | _ => []
theorem zfx_all : ((List.range 13).all fun ci => match vwCl[ci]? with
  | some q => (List.range q.2.2).all (fun k => zg ((zfx ci).getD k 0) (u_lay q.1 q.2.1 k))
  | none => false) = true := by decide +kernel
theorem zcl_in {ci : Nat} {q : vw_C} (h : vwCl[ci]? = some q) : ∀ w ∈ u_ws q.1 q.2.1 q.2.2, w ∈ zG := by
  have hl : ci < 13 := (List.getElem?_eq_some_iff.mp h).1
  have h1 := List.all_eq_true.mp zfx_all ci (List.mem_range.mpr hl)
  rw [h] at h1
  intro w hw
  obtain ⟨k, hk, rfl⟩ := List.mem_map.mp hw
  exact zg_in (List.all_eq_true.mp h1 k hk)
theorem zcl_ty {ci : Nat} {q : vw_C} (h : vwCl[ci]? = some q) : ∀ k, k < q.2.2 → parseFieldDescriptor (q.2.1 k).2.2.1 = some (ztx ci k) := by
  have hl : ci < 13 := (List.getElem?_eq_some_iff.mp h).1
  match ci, hl, h with
  | 0, _, h => cases h; exact fun k hk => absurd hk (Nat.not_lt_zero k)
  | 1, _, h => cases h; exact tyX1_ok
  | 2, _, h => cases h; exact fun k hk => absurd hk (Nat.not_lt_zero k)
  | 3, _, h => cases h; exact fun k hk => absurd hk (Nat.not_lt_zero k)
  | 4, _, h => cases h; exact tyX4_ok
  | 5, _, h => cases h; exact fun k hk => absurd hk (Nat.not_lt_zero k)
  | 6, _, h => cases h; exact tyX6_ok
  | 7, _, h => cases h; exact fun k hk => absurd hk (Nat.not_lt_zero k)
  | 8, _, h => cases h; exact fun k hk => absurd hk (Nat.not_lt_zero k)
  | 9, _, h => cases h; exact fun k hk => absurd hk (Nat.not_lt_zero k)
  | 10, _, h => cases h; exact tyX10_ok
  | 11, _, h => cases h; exact tyX11_ok
  | 12, _, h => cases h; exact tyX12_ok
  | n + 13, hl, _ => exact absurd hl (by omega)
theorem zcl_nm {ci : Nat} {q : vw_C} (h : vwCl[ci]? = some q) : ∀ a, a < q.2.2 → ∀ b, b < q.2.2 → a ≠ b → (q.2.1 a).2.1 ≠ (q.2.1 b).2.1 := by
  have hl : ci < 13 := (List.getElem?_eq_some_iff.mp h).1
  match ci, hl, h with
  | 0, _, h => cases h; exact nmX0
  | 1, _, h => cases h; exact nmX1
  | 2, _, h => cases h; exact nmX2
  | 3, _, h => cases h; exact nmX3
  | 4, _, h => cases h; exact nmX4
  | 5, _, h => cases h; exact nmX5
  | 6, _, h => cases h; exact nmX6
  | 7, _, h => cases h; exact nmX7
  | 8, _, h => cases h; exact nmX8
  | 9, _, h => cases h; exact nmX9
  | 10, _, h => cases h; exact nmX10
  | 11, _, h => cases h; exact nmX11
  | 12, _, h => cases h; exact nmX12
  | n + 13, hl, _ => exact absurd hl (by omega)
theorem zrow {mi pc : Nat} {q : Instr × Nat × List Int} (h : zF mi pc = some q) (hm : mi < 217) : zchk mi (pc, q) = true ∧ zlnb (pc, q) = true := by
  unfold zF at h
  obtain ⟨r, hr, rfl⟩ := Option.map_eq_some_iff.mp h
  have h1 := List.mem_of_find?_eq_some hr
  have h2 := List.find?_some hr
  have e : r.1 = pc := by simpa using h2
  have e2 : r = (pc, r.2) := by rw [← e]
  exact ⟨by rw [← e2]; exact List.all_eq_true.mp (zchk_all mi hm) r h1, by rw [← e2]; exact List.all_eq_true.mp (List.all_eq_true.mp zln_all mi (List.mem_range.mpr hm)) r h1⟩
theorem zdec {mi pc : Nat} {ins : Instr} {len : Nat} {aux : List Int} (h : zchk mi (pc, ins, len, aux) = true ∧ zlnb (pc, ins, len, aux) = true) (hz : zln ins ≠ 0) : decode (mB mi) pc = .ok (ins, zln ins) := by
  have h1 : decode (mB mi) pc = .ok (ins, len) := by
    have := h.1
    unfold zchk at this
    rw [Bool.and_eq_true] at this
    simpa using this.1
  have h2 : len = zln ins := by
    have := h.2
    simp only [zlnb, Bool.or_eq_true, beq_iff_eq] at this
    exact this.resolve_left hz
  rw [← h2]; exact h1
theorem zdec0 {mi pc : Nat} {ins : Instr} {len : Nat} {aux : List Int} (h : zchk mi (pc, ins, len, aux) = true) : decode (mB mi) pc = .ok (ins, len) := by
  unfold zchk at h
  rw [Bool.and_eq_true] at h
  simpa using h.1
