/-! SWITCHES -/
def zsw (x : Int32) : Int → List zO → zO → zO
  | _, [], dfl => dfl
  | k, r :: l, dfl => if x.toInt = k then r else zsw x (k + 1) l dfl
theorem zsw_spec (x : Int32) (dfl : zO) : ∀ (l : List zO) (k : Int), zsw x k l dfl = if x.toInt < k ∨ k + l.length ≤ x.toInt then dfl else l.getD (x.toInt - k).toNat dfl := by
  intro l
  induction l with
  | nil =>
    intro k
    show dfl = _
    rw [if_pos (by simp; omega)]
  | cons r l ih =>
    intro k
    show (if x.toInt = k then r else zsw x (k + 1) l dfl) = _
    by_cases h : x.toInt = k
    · rw [if_pos h, if_neg (by simp; omega), h, Int.sub_self]
      rfl
    · rw [if_neg h, ih (k + 1)]
      by_cases h2 : x.toInt < k + 1 ∨ k + 1 + (l.length : Int) ≤ x.toInt
      · rw [if_pos h2, if_pos (by simp; omega)]
      · rw [if_neg h2, if_neg (by simp; omega)]
        have e : (x.toInt - k).toNat = (x.toInt - (k + 1)).toNat + 1 := by omega
        rw [e]
        rfl
theorem rn_tsw {ro : zR} {d mi pc l : Nat} {a : List Int} {ls : zL} {st : List Value} {σ : zW} {x : Int32} {dflt lo hi : Int} {offs : Array Int} (hq : zF mi pc = some (.tableswitch dflt lo hi offs, l, a)) {td : Nat} (hd : (pc : Int) + dflt = (td : Int)) {ts : List Nat} (hts : offs.toList = ts.map (fun (t : Nat) => (t : Int) - (pc : Int))) (hhi : hi = lo + (ts.length : Int) - 1) : rn ro d mi pc ls (.int x :: st) σ = zsw x lo (ts.map (fun t => rn ro d mi t (zpr mi t ls) st σ)) (rn ro d mi td (zpr mi td ls) st σ) := by
  rw [zsw_spec, rn_eq hq, List.length_map]
  unfold zact
  dsimp only [zI1]
  rw [rk_if]
  by_cases h : x.toInt < lo ∨ hi < x.toInt
  · rw [if_pos h, if_pos (by omega), rk_T hd]
    rfl
  · rw [if_neg h, if_neg (by omega)]
    have hl : (x.toInt - lo).toNat < ts.length := by omega
    have e : offs[(x.toInt - lo).toNat]? = some ((ts[(x.toInt - lo).toNat] : Int) - (pc : Int)) := by
      rw [← Array.getElem?_toList, hts, List.getElem?_map, List.getElem?_eq_getElem hl]
      rfl
    rw [e]
    dsimp only
    rw [rk_T (t := ts[(x.toInt - lo).toNat]) (by omega), List.getD_eq_getElem?_getD, List.getElem?_map, List.getElem?_eq_getElem hl]
    rfl
theorem rn_lsw {ro : zR} {d mi pc l : Nat} {a : List Int} {ls : zL} {st : List Value} {σ : zW} {x : Int32} {dflt : Int} {ps : Array (Int × Int)} (hq : zF mi pc = some (.lookupswitch dflt ps, l, a)) (hp : (ps.toList.zip (ps.toList.drop 1)).all (fun (a, next) => a.1 < next.1) = true) {t : Nat} (ht : (pc : Int) + Op.lookupswitch.offset ps.toList dflt x.toInt = (t : Int)) : rn ro d mi pc ls (.int x :: st) σ = rn ro d mi t (zpr mi t ls) st σ := by
  rw [rn_eq hq]
  unfold zact
  dsimp only [zI1]
  rw [if_pos hp, rk_T ht]
  rfl
theorem rn_lsw2 {ro : zR} {d mi pc l : Nat} {a : List Int} {ls : zL} {st : List Value} {σ : zW} {x : Int32} {df o0 o1 : Int} (hq : zF mi pc = some (.lookupswitch df #[(0, o0), (1, o1)], l, a)) {td t0 t1 : Nat} (hd : (pc : Int) + df = (td : Int)) (h0 : (pc : Int) + o0 = (t0 : Int)) (h1 : (pc : Int) + o1 = (t1 : Int)) : rn ro d mi pc ls (.int x :: st) σ = if x = 0 then rn ro d mi t0 (zpr mi t0 ls) st σ else if x = 1 then rn ro d mi t1 (zpr mi t1 ls) st σ else rn ro d mi td (zpr mi td ls) st σ := by
  by_cases e0 : x = 0
  · rw [if_pos e0]
    subst e0
    exact rn_lsw hq (by rfl) h0
  · rw [if_neg e0]
    by_cases e1 : x = 1
    · rw [if_pos e1]
      subst e1
      exact rn_lsw hq (by rfl) h1
    · rw [if_neg e1]
      refine rn_lsw hq (by rfl) ?_
      show (pc : Int) + Op.lookupswitch.offset [(0, o0), (1, o1)] df x.toInt = _
      have f0 : Op.lookupswitch.offset [(0, o0), (1, o1)] df x.toInt = Op.lookupswitch.offset [(1, o1)] df x.toInt := lv_osw (k := 0) e0 rfl
      have f1 : Op.lookupswitch.offset [(1, o1)] df x.toInt = Op.lookupswitch.offset [] df x.toInt := lv_osw (k := 1) e1 rfl
      rw [f0, f1]
      exact hd
theorem zsw_cons (x : Int32) (k : Int) (r : zO) (l : List zO) (dfl : zO) : zsw x k (r :: l) dfl = if x.toInt = k then r else zsw x (k + 1) l dfl := rfl
theorem zsw_nil (x : Int32) (k : Int) (dfl : zO) : zsw x k [] dfl = dfl := rfl
theorem q30_1 (ro : zR) (ls : zL) (st : List Value) (x : Int32) (σ : zW) : rn ro 1 30 1 ls (.int x :: st) σ = zsw x 0 [rn ro 1 30 52 ls st σ, rn ro 1 30 57 ls st σ, rn ro 1 30 62 ls st σ, rn ro 1 30 67 ls st σ, rn ro 1 30 72 ls st σ, rn ro 1 30 77 ls st σ, rn ro 1 30 82 ls st σ, rn ro 1 30 100 ls st σ, rn ro 1 30 87 ls st σ] (rn ro 1 30 100 ls st σ) := rn_tsw (td := 100) (ts := [52, 57, 62, 67, 72, 77, 82, 100, 87]) (show zF 30 1 = some (.tableswitch 99 0 8 #[51, 56, 61, 66, 71, 76, 81, 99, 86], 51, []) by decide +kernel) (by decide) (by decide) (by decide)
theorem q61_10 (ro : zR) (ls : zL) (st : List Value) (x : Int32) (σ : zW) : rn ro 3 61 10 ls (.int x :: st) σ = zsw x 4 [rn ro 3 61 40 ls st σ, rn ro 3 61 54 ls st σ, rn ro 3 61 76 ls st σ, rn ro 3 61 90 ls st σ] (rn ro 3 61 96 ls st σ) := rn_tsw (td := 96) (ts := [40, 54, 76, 90]) (show zF 61 10 = some (.tableswitch 86 4 7 #[30, 44, 66, 80], 30, []) by decide +kernel) (by decide) (by decide) (by decide)
theorem q67_1 (ro : zR) (ls : zL) (st : List Value) (x : Int32) (σ : zW) : rn ro 1 67 1 ls (.int x :: st) σ = zsw x 0 [rn ro 1 67 48 ls st σ, rn ro 1 67 51 ls st σ, rn ro 1 67 54 ls st σ, rn ro 1 67 57 ls st σ, rn ro 1 67 60 ls st σ, rn ro 1 67 63 ls st σ, rn ro 1 67 66 ls st σ, rn ro 1 67 69 ls st σ] (rn ro 1 67 72 ls st σ) := rn_tsw (td := 72) (ts := [48, 51, 54, 57, 60, 63, 66, 69]) (show zF 67 1 = some (.tableswitch 71 0 7 #[47, 50, 53, 56, 59, 62, 65, 68], 47, []) by decide +kernel) (by decide) (by decide) (by decide)
theorem q99_19 (ro : zR) (ls : zL) (st : List Value) (x : Int32) (σ : zW) : rn ro 6 99 19 ls (.int x :: st) σ = zsw x 0 [rn ro 6 99 48 ls st σ, rn ro 6 99 60 ls st σ, rn ro 6 99 72 ls st σ, rn ro 6 99 81 ls st σ] (rn ro 6 99 90 ls st σ) := rn_tsw (td := 90) (ts := [48, 60, 72, 81]) (show zF 99 19 = some (.tableswitch 71 0 3 #[29, 41, 53, 62], 29, []) by decide +kernel) (by decide) (by decide) (by decide)
theorem q118_1 (ro : zR) (ls : zL) (st : List Value) (x : Int32) (σ : zW) : rn ro 1 118 1 ls (.int x :: st) σ = zsw x 0 [rn ro 1 118 28 ls st σ, rn ro 1 118 33 ls st σ, rn ro 1 118 38 ls st σ] (rn ro 1 118 43 ls st σ) := rn_tsw (td := 43) (ts := [28, 33, 38]) (show zF 118 1 = some (.tableswitch 42 0 2 #[27, 32, 37], 27, []) by decide +kernel) (by decide) (by decide) (by decide)
theorem q216_33 (ro : zR) (ls : zL) (st : List Value) (x : Int32) (σ : zW) : rn ro 20 216 33 ls (.int x :: st) σ = zsw x 0 [rn ro 20 216 184 ls st σ, rn ro 20 216 217 ls st σ, rn ro 20 216 250 ls st σ, rn ro 20 216 293 ls st σ, rn ro 20 216 326 ls st σ, rn ro 20 216 349 ls st σ, rn ro 20 216 372 ls st σ, rn ro 20 216 395 ls st σ, rn ro 20 216 408 ls st σ, rn ro 20 216 421 ls st σ, rn ro 20 216 486 ls st σ, rn ro 20 216 499 ls st σ, rn ro 20 216 512 ls st σ, rn ro 20 216 545 ls st σ, rn ro 20 216 578 ls st σ, rn ro 20 216 591 ls st σ, rn ro 20 216 614 ls st σ, rn ro 20 216 627 ls st σ, rn ro 20 216 640 ls st σ, rn ro 20 216 653 ls st σ, rn ro 20 216 676 ls st σ, rn ro 20 216 719 ls st σ, rn ro 20 216 742 ls st σ, rn ro 20 216 775 ls st σ, rn ro 20 216 808 ls st σ, rn ro 20 216 871 ls st σ, rn ro 20 216 894 ls st σ, rn ro 20 216 947 ls st σ, rn ro 20 216 980 ls st σ, rn ro 20 216 1004 ls st σ, rn ro 20 216 1027 ls st σ, rn ro 20 216 1050 ls st σ, rn ro 20 216 1073 ls st σ, rn ro 20 216 1096 ls st σ] (rn ro 20 216 1110 ls st σ) := rn_tsw (td := 1110) (ts := [184, 217, 250, 293, 326, 349, 372, 395, 408, 421, 486, 499, 512, 545, 578, 591, 614, 627, 640, 653, 676, 719, 742, 775, 808, 871, 894, 947, 980, 1004, 1027, 1050, 1073, 1096]) (show zF 216 33 = some (.tableswitch 1077 0 33 #[151, 184, 217, 260, 293, 316, 339, 362, 375, 388, 453, 466, 479, 512, 545, 558, 581, 594, 607, 620, 643, 686, 709, 742, 775, 838, 861, 914, 947, 971, 994, 1017, 1040, 1063], 151, []) by decide +kernel) (by decide) (by decide) (by decide)
theorem q15_1 (ro : zR) (ls : zL) (st : List Value) (x : Int32) (σ : zW) : rn ro 1 15 1 ls (.int x :: st) σ = if x = 0 then rn ro 1 15 28 ls st σ else if x = 1 then rn ro 1 15 40 ls st σ else rn ro 1 15 52 ls st σ := rn_lsw2 (td := 52) (t0 := 28) (t1 := 40) (show zF 15 1 = some (.lookupswitch 51 #[(0, 27), (1, 39)], 27, []) by decide +kernel) (by decide) (by decide) (by decide)
theorem q115_1 (ro : zR) (ls : zL) (st : List Value) (x : Int32) (σ : zW) : rn ro 2 115 1 ls (.int x :: st) σ = if x = 0 then rn ro 2 115 28 ls st σ else if x = 1 then rn ro 2 115 33 ls st σ else rn ro 2 115 38 ls st σ := rn_lsw2 (td := 38) (t0 := 28) (t1 := 33) (show zF 115 1 = some (.lookupswitch 37 #[(0, 27), (1, 32)], 27, []) by decide +kernel) (by decide) (by decide) (by decide)
