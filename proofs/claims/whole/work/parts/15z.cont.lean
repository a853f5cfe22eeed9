/-! WHAT GOES ON AFTER A READ, A WRITE, A CALL: named, so that a walk doesn't look into it before it is due -/
section KON
noncomputable def kI (ro : zR) (d m pc : Nat) (ls : zL) (st : List Value) (σ : zW) : Int32 → zO := fun x => rn ro d m pc ls (.int x :: st) σ
theorem kI_app (ro : zR) (d m pc : Nat) (ls : zL) (st : List Value) (σ : zW) (x : Int32) : kI ro d m pc ls st σ x = rn ro d m pc ls (.int x :: st) σ := rfl
noncomputable def kJ (ro : zR) (d m pc : Nat) (ls : zL) (st : List Value) (σ : zW) : Int64 → zO := fun x => rn ro d m pc ls (.long x :: st) σ
theorem kJ_app (ro : zR) (d m pc : Nat) (ls : zL) (st : List Value) (σ : zW) (x : Int64) : kJ ro d m pc ls st σ x = rn ro d m pc ls (.long x :: st) σ := rfl
noncomputable def kP (ro : zR) (d m pc : Nat) (ls : zL) (st : List Value) (σ : zW) : Nat → zO := fun x => rn ro d m pc ls (.ref x :: st) σ
theorem kP_app (ro : zR) (d m pc : Nat) (ls : zL) (st : List Value) (σ : zW) (x : Nat) : kP ro d m pc ls st σ x = rn ro d m pc ls (.ref x :: st) σ := rfl
noncomputable def kV (ro : zR) (d m pc : Nat) (ls : zL) (st : List Value) (σ : zW) : Value → zO := fun x => rn ro d m pc ls (x :: st) σ
theorem kV_app (ro : zR) (d m pc : Nat) (ls : zL) (st : List Value) (σ : zW) (x : Value) : kV ro d m pc ls st σ x = rn ro d m pc ls (x :: st) σ := rfl
noncomputable def kS (ro : zR) (d m pc : Nat) (ls : zL) (st : List Value) (σ : zW) (a : Nat) : zC → zO := fun c => rn ro d m pc ls st (σ.set a c)
theorem kS_app (ro : zR) (d m pc : Nat) (ls : zL) (st : List Value) (σ : zW) (a : Nat) (c : zC) : kS ro d m pc ls st σ a c = rn ro d m pc ls st (σ.set a c) := rfl
noncomputable def kC (ro : zR) (d m pc : Nat) (ls : zL) (st : List Value) : Option Value → zW → zO := fun ov σ1 => rn ro d m pc ls (ov.toList ++ st) σ1
theorem kC_app (ro : zR) (d m pc : Nat) (ls : zL) (st : List Value) (ov : Option Value) (σ1 : zW) : kC ro d m pc ls st ov σ1 = rn ro d m pc ls (ov.toList ++ st) σ1 := rfl
noncomputable def kN (ro : zR) (d m pc : Nat) (ls : zL) (st : List Value) (σ : zW) (k : Nat) (n : Int32) : Int32 → zO := fun x => rn ro d m pc (zst1 k (.int (x + n)) ls) st σ
theorem kN_app (ro : zR) (d m pc : Nat) (ls : zL) (st : List Value) (σ : zW) (k : Nat) (n x : Int32) : kN ro d m pc ls st σ k n x = rn ro d m pc (zst1 k (.int (x + n)) ls) st σ := rfl
noncomputable def kM (ro : zR) (d m pc : Nat) (ks : List Nat) (ls : zL) (st : List Value) (σ : zW) (k : Nat) (n : Int32) : Int32 → zO := fun x => rn ro d m pc (zkeep ks (zst1 k (.int (x + n)) ls)) st σ
theorem kM_app (ro : zR) (d m pc : Nat) (ks : List Nat) (ls : zL) (st : List Value) (σ : zW) (k : Nat) (n x : Int32) : kM ro d m pc ks ls st σ k n x = rn ro d m pc (zkeep ks (zst1 k (.int (x + n)) ls)) st σ := rfl
end KON
