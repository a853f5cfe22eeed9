/-! EACH CALL: class and model answer alike and stay tied -/
section OPP
variable {N : Nat} {xs : Nat → Int32} {vf : Bool} {s : Nat → Nat → Nat}
theorem SInv.cnt (h : SInv s) (x : Int) : SInv (cntI s x) := h
theorem SInv.fr (h : SInv s) (n d : Nat) : SInv (frU s n d) := h
theorem SInv.book (h : SInv s) {a : Nat → Nat} (g : Good a) : SInv (sU s 0 a) := ⟨g, h.2⟩
theorem SInv.koY (h : SInv s) (c : Int) : SInv (oY s c).2 := by
  unfold oY
  split
  · rename_i hc
    split
    · exact h
    · rename_i h150
      refine ⟨h.1, ⟨?_, fun i hi => ?_⟩, h.2.2⟩
      · show s 3 0 + 1 ≤ 150
        have := h.2.1.1
        omega
      · show (if i = s 3 0 then c.toNat else s 4 i) ≤ 127
        split
        · omega
        · have hi' : i < s 3 0 + 1 := hi
          exact h.2.1.2 i (by omega)
  · exact h
theorem SInv.koI (h : SInv s) (i : Int) : SInv (oI s i).2 := by
  have k5 := h.2.2.1
  unfold oI
  split
  · refine ⟨h.1, h.2.1, fun j hj => ?_, fun _ => h.1, fun z => h.2.2.2.2 z⟩
    show (if j = 0 then 1 else s 5 j) ≤ 1
    split
    · exact Nat.le_refl 1
    · exact k5 j hj
  · split
    · refine ⟨h.1, h.2.1, fun j hj => ?_, fun z => h.2.2.2.1 z, fun _ => h.1⟩
      show (if j = 1 then 1 else s 5 j) ≤ 1
      split
      · exact Nat.le_refl 1
      · exact k5 j hj
    · exact h
theorem SInv.koF (h : SInv s) (i : Int) : SInv (oF s i).2 := by
  have k5 := h.2.2.1
  unfold oF
  split
  · split
    · exact h
    · rename_i z
      have := k5 0 (by decide)
      exact h.book (h.2.2.2.1 (by omega))
  · split
    · split
      · exact h
      · rename_i z
        have := k5 1 (by decide)
        exact h.book (h.2.2.2.2 (by omega))
    · exact h
theorem SInv.koV (h : SInv s) (w : Int) : SInv (oV s w).2 := by
  unfold oV
  split
  · exact h
  · exact h.cnt _
theorem SInv.koA (h : SInv s) (w : Int) : SInv (oA s w).2 := by
  unfold oA
  split
  · exact h
  · split <;> exact h
theorem SInv.koB (h : SInv s) (w : Int) : SInv (oB s w).2 := by
  unfold oB
  split <;> exact h
theorem SInv.koH (h : SInv s) (m w : Int) : SInv (oH s m w).2 := by
  unfold oH
  split
  · dsimp only
    split
    · exact h.fr _ _
    · exact h.fr _ _
  · exact h
theorem SInv.koQ (h : SInv s) (k : Int) : SInv (oQ s k).2 := by
  unfold oQ
  split
  · exact h.fr _ _
  · exact h
theorem SInv.koCa (h : SInv s) (k : Int) : SInv (oCa s k).2 := by
  unfold oCa
  split
  · split
    · exact h
    · exact h.fr _ _
  · exact h
theorem op0 (q : SInv s) (xw : Int32) (xn : Int32) : OpI (zro N xs vf) 87 141 [.int xw, .int xn] s := by
  obtain ⟨w, w1, w2, rfl⟩ := iZ_ex xw
  obtain ⟨n, n1, n2, rfl⟩ := iZ_ex xn
  exact ⟨_, _, cop_87 q ⟨w1, w2⟩ ⟨n1, n2⟩, mop_of (raw_141 q.1 ⟨w1, w2⟩ ⟨n1, n2⟩), (q.book (good_oG q.1 w n)).cnt _⟩
theorem op1 (q : SInv s) (xw : Int32) (xn : Int32) : OpI (zro N xs vf) 88 142 [.int xw, .int xn] s := by
  obtain ⟨w, w1, w2, rfl⟩ := iZ_ex xw
  obtain ⟨n, n1, n2, rfl⟩ := iZ_ex xn
  exact ⟨_, _, cop_88 q ⟨w1, w2⟩ ⟨n1, n2⟩, mop_of (raw_142 q.1 ⟨w1, w2⟩ ⟨n1, n2⟩), (q.book (good_oC q.1 w n)).cnt _⟩
theorem op2 (q : SInv s) (xw : Int32) (xn : Int32) (xl : Int32) : OpI (zro N xs vf) 89 143 [.int xw, .int xn, .int xl] s := by
  obtain ⟨w, w1, w2, rfl⟩ := iZ_ex xw
  obtain ⟨n, n1, n2, rfl⟩ := iZ_ex xn
  obtain ⟨l, l1, l2, rfl⟩ := iZ_ex xl
  exact ⟨_, _, cop_89 q ⟨w1, w2⟩ ⟨n1, n2⟩ ⟨l1, l2⟩, mop_of (raw_143 q.1 ⟨w1, w2⟩ ⟨n1, n2⟩ ⟨l1, l2⟩), (q.book (good_oM q.1 w n l)).cnt _⟩
theorem op3 (q : SInv s) (xw : Int32) (xn : Int32) : OpI (zro N xs vf) 90 144 [.int xw, .int xn] s := by
  obtain ⟨w, w1, w2, rfl⟩ := iZ_ex xw
  obtain ⟨n, n1, n2, rfl⟩ := iZ_ex xn
  exact ⟨_, _, cop_90 q ⟨w1, w2⟩ ⟨n1, n2⟩, mop_of (raw_144 q.1 ⟨w1, w2⟩ ⟨n1, n2⟩), (q.book (good_oS q.1 w n)).cnt _⟩
theorem op4 (q : SInv s) (xw : Int32) : OpI (zro N xs vf) 91 145 [.int xw] s := by
  obtain ⟨w, w1, w2, rfl⟩ := iZ_ex xw
  exact ⟨_, _, cop_91 q ⟨w1, w2⟩, mop_of (raw_145 q.1 ⟨w1, w2⟩), (q.book (good_oP q.1 w)).cnt _⟩
theorem op5 (q : SInv s) (xw : Int32) : OpI (zro N xs vf) 92 146 [.int xw] s := by
  obtain ⟨w, w1, w2, rfl⟩ := iZ_ex xw
  exact ⟨_, _, cop_92 q ⟨w1, w2⟩, mop_of (raw_146 q.1 ⟨w1, w2⟩), (q.book (good_oN q.1 w)).cnt _⟩
theorem op6 (q : SInv s) (xc : Int32) : OpI (zro N xs vf) 93 147 [.int xc] s := by
  obtain ⟨c, c1, c2, rfl⟩ := iZ_ex xc
  exact ⟨_, _, cop_93 q ⟨c1, c2⟩, mop_147 q ⟨c1, c2⟩, (q.koY c).cnt _⟩
theorem op7 (q : SInv s) : OpI (zro N xs vf) 94 148 [] s := ⟨_, _, cop_94 q, mop_148 q, ⟨q.1, ⟨Nat.zero_le _, fun i hi => absurd hi (Nat.not_lt_zero i)⟩, q.2.2⟩⟩
theorem op8 (q : SInv s) : OpI (zro N xs vf) 95 155 [] s := by
  obtain ⟨M, hM, hok, hno⟩ := rd_ex (t := s 4) (n := s 3 0) q.2.1.1
  refine ⟨_, _, cop_95 q hM hok hno, mop_155 q hM hok hno, ?_⟩
  unfold rdS
  split
  · exact q.book (good_dr M)
  · exact q
theorem op9_00 (q : SInv s) : OpI (zro N xs vf) 96 161 [.int 0, .int 0] s := by
  have c := cop_96 (N := N) (xs := xs) (vf := vf) q (l := 0) (f := 0) (by decide) (by decide)
  have m := mop_of (raw_161 (ro := zro N xs vf) q.1 (l := 0) (f := 0) (by decide) (by decide))
  exact ⟨_, _, c, m, (q.book (good_oT q.1 (by decide))).cnt _⟩
theorem op9_01 (q : SInv s) : OpI (zro N xs vf) 96 161 [.int 0, .int 1] s := by
  have c := cop_96 (N := N) (xs := xs) (vf := vf) q (l := 0) (f := 1) (by decide) (by decide)
  have m := mop_of (raw_161 (ro := zro N xs vf) q.1 (l := 0) (f := 1) (by decide) (by decide))
  exact ⟨_, _, c, m, (q.book (good_oT q.1 (by decide))).cnt _⟩
theorem op9_10 (q : SInv s) : OpI (zro N xs vf) 96 161 [.int 1, .int 0] s := by
  have c := cop_96 (N := N) (xs := xs) (vf := vf) q (l := 1) (f := 0) (by decide) (by decide)
  have m := mop_of (raw_161 (ro := zro N xs vf) q.1 (l := 1) (f := 0) (by decide) (by decide))
  exact ⟨_, _, c, m, (q.book (good_oT q.1 (by decide))).cnt _⟩
theorem op9_11 (q : SInv s) : OpI (zro N xs vf) 96 161 [.int 1, .int 1] s := by
  have c := cop_96 (N := N) (xs := xs) (vf := vf) q (l := 1) (f := 1) (by decide) (by decide)
  have m := mop_of (raw_161 (ro := zro N xs vf) q.1 (l := 1) (f := 1) (by decide) (by decide))
  exact ⟨_, _, c, m, (q.book (good_oT q.1 (by decide))).cnt _⟩
theorem op10 (q : SInv s) : OpI (zro N xs vf) 97 162 [] s := by
  have _h := q
  exact ⟨_, _, cop_97 q, mop_of (raw_162 q.1), (q.book (good_oR q.1)).cnt _⟩
theorem op11 (q : SInv s) : OpI (zro N xs vf) 98 163 [] s := by
  have _h := q
  exact ⟨_, _, cop_98 q, mop_of (raw_163 q.1), (q.book (good_oU q.1)).cnt _⟩
theorem op12 (q : SInv s) (xm : Int32) (xw : Int32) : OpI (zro N xs vf) 99 164 [.int xm, .int xw] s := by
  obtain ⟨m, m1, m2, rfl⟩ := iZ_ex xm
  obtain ⟨w, w1, w2, rfl⟩ := iZ_ex xw
  exact ⟨_, _, cop_99 q ⟨m1, m2⟩ ⟨w1, w2⟩, mop_164 q ⟨m1, m2⟩ ⟨w1, w2⟩, q.cnt _⟩
theorem op13 (q : SInv s) (xm : Int32) (xw : Int32) : OpI (zro N xs vf) 100 168 [.int xm, .int xw] s := by
  obtain ⟨m, m1, m2, rfl⟩ := iZ_ex xm
  obtain ⟨w, w1, w2, rfl⟩ := iZ_ex xw
  exact ⟨_, _, cop_100 q ⟨m1, m2⟩ ⟨w1, w2⟩, mop_168 q ⟨m1, m2⟩ ⟨w1, w2⟩, (q.koH m w).cnt _⟩
theorem op14 (q : SInv s) : OpI (zro N xs vf) 101 173 [] s := by
  have _h := q
  exact ⟨_, _, cop_101 q, mop_173 q, q.fr _ _⟩
theorem op15 (q : SInv s) (xk : Int32) : OpI (zro N xs vf) 102 175 [.int xk] s := by
  obtain ⟨k, k1, k2, rfl⟩ := iZ_ex xk
  exact ⟨_, _, cop_102 q ⟨k1, k2⟩, mop_175 q ⟨k1, k2⟩, (q.koQ k).cnt _⟩
theorem op16 (q : SInv s) : OpI (zro N xs vf) 103 176 [] s := by
  have _h := q
  exact ⟨_, _, cop_103 q, mop_176 q, q⟩
theorem op17 (q : SInv s) : OpI (zro N xs vf) 104 179 [] s := by
  have _h := q
  exact ⟨_, _, cop_104 q, mop_179 q, q.cnt _⟩
theorem op18 (q : SInv s) : OpI (zro N xs vf) 105 180 [] s := by
  have _h := q
  exact ⟨_, _, cop_105 q, mop_180 q, q.cnt _⟩
theorem op19 (q : SInv s) (xn : Int32) : OpI (zro N xs vf) 106 181 [.int xn] s := by
  obtain ⟨n, n1, n2, rfl⟩ := iZ_ex xn
  exact ⟨_, _, cop_106 q ⟨n1, n2⟩, mop_181 q ⟨n1, n2⟩, (q.koCa n).cnt _⟩
theorem op20 (q : SInv s) (xm : Int32) (xg : Int32) (xc : Int32) : OpI (zro N xs vf) 107 182 [.int xm, .int xg, .int xc] s := by
  obtain ⟨m, m1, m2, rfl⟩ := iZ_ex xm
  obtain ⟨g, g1, g2, rfl⟩ := iZ_ex xg
  obtain ⟨c, c1, c2, rfl⟩ := iZ_ex xc
  exact ⟨_, _, cop_107 q ⟨m1, m2⟩ ⟨g1, g2⟩ ⟨c1, c2⟩, mop_182 q ⟨m1, m2⟩ ⟨g1, g2⟩ ⟨c1, c2⟩, q.cnt _⟩
theorem op21 (q : SInv s) (xi : Int32) : OpI (zro N xs vf) 108 186 [.int xi] s := by
  obtain ⟨i, i1, i2, rfl⟩ := iZ_ex xi
  by_cases c : 0 ≤ i
  · exact ⟨_, _, (cop_108 q ⟨i1, i2⟩).1 c, (mop_186 q ⟨i1, i2⟩).1 c, q.fr _ _⟩
  · exact ⟨_, _, (cop_108 q ⟨i1, i2⟩).2 c, (mop_186 q ⟨i1, i2⟩).2 c, q.cnt _⟩
theorem op22 (q : SInv s) (xl : Int32) (xt : Int32) : OpI (zro N xs vf) 109 188 [.int xl, .int xt] s := by
  obtain ⟨l, l1, l2, rfl⟩ := iZ_ex xl
  obtain ⟨t, t1, t2, rfl⟩ := iZ_ex xt
  by_cases c : laC s l t
  · exact ⟨_, _, (cop_109 q ⟨l1, l2⟩ ⟨t1, t2⟩).1 c, (mop_188 q ⟨l1, l2⟩ ⟨t1, t2⟩).1 c, q⟩
  · exact ⟨_, _, (cop_109 q ⟨l1, l2⟩ ⟨t1, t2⟩).2 c, (mop_188 q ⟨l1, l2⟩ ⟨t1, t2⟩).2 c, q.cnt _⟩
theorem op23 (q : SInv s) (xn : Int32) (xi : Int32) : OpI (zro N xs vf) 110 189 [.int xn, .int xi] s := by
  obtain ⟨n, n1, n2, rfl⟩ := iZ_ex xn
  obtain ⟨i, i1, i2, rfl⟩ := iZ_ex xi
  by_cases c : orC n i
  · exact ⟨_, _, (cop_110 q ⟨n1, n2⟩ ⟨i1, i2⟩).1 c, (mop_189 q ⟨n1, n2⟩ ⟨i1, i2⟩).1 c, q⟩
  · exact ⟨_, _, (cop_110 q ⟨n1, n2⟩ ⟨i1, i2⟩).2 c, (mop_189 q ⟨n1, n2⟩ ⟨i1, i2⟩).2 c, q.cnt _⟩
theorem op24 (q : SInv s) (xf : Int32) (xe : Int32) (xb : Int32) (xt : Int32) (xi : Int32) : OpI (zro N xs vf) 111 190 [.int xf, .int xe, .int xb, .int xt, .int xi] s := by
  obtain ⟨f, f1, f2, rfl⟩ := iZ_ex xf
  obtain ⟨e, e1, e2, rfl⟩ := iZ_ex xe
  obtain ⟨b, b1, b2, rfl⟩ := iZ_ex xb
  obtain ⟨t, t1, t2, rfl⟩ := iZ_ex xt
  obtain ⟨i, i1, i2, rfl⟩ := iZ_ex xi
  by_cases c : feC f e b t i
  · exact ⟨_, _, (cop_111 q ⟨f1, f2⟩ ⟨e1, e2⟩ ⟨b1, b2⟩ ⟨t1, t2⟩ ⟨i1, i2⟩).1 c, (mop_190 q ⟨f1, f2⟩ ⟨e1, e2⟩ ⟨b1, b2⟩ ⟨t1, t2⟩ ⟨i1, i2⟩).1 c, q⟩
  · exact ⟨_, _, (cop_111 q ⟨f1, f2⟩ ⟨e1, e2⟩ ⟨b1, b2⟩ ⟨t1, t2⟩ ⟨i1, i2⟩).2 c, (mop_190 q ⟨f1, f2⟩ ⟨e1, e2⟩ ⟨b1, b2⟩ ⟨t1, t2⟩ ⟨i1, i2⟩).2 c, q.cnt _⟩
theorem op25 (q : SInv s) (xw : Int32) : OpI (zro N xs vf) 112 191 [.int xw] s := by
  obtain ⟨w, w1, w2, rfl⟩ := iZ_ex xw
  by_cases c : 0 ≤ w ∧ w ≤ 1
  · exact ⟨_, _, (cop_112 q ⟨w1, w2⟩).1 c, (mop_191 q ⟨w1, w2⟩).1 c, q⟩
  · exact ⟨_, _, (cop_112 q ⟨w1, w2⟩).2 c, (mop_191 q ⟨w1, w2⟩).2 c, q.cnt _⟩
theorem op26 (q : SInv s) (xm : Int32) (xt : Int32) (xk : Int32) (xj : Int32) : OpI (zro N xs vf) 113 192 [.int xm, .int xt, .int xk, .int xj] s := by
  obtain ⟨m, m1, m2, rfl⟩ := iZ_ex xm
  obtain ⟨t, t1, t2, rfl⟩ := iZ_ex xt
  obtain ⟨k, k1, k2, rfl⟩ := iZ_ex xk
  obtain ⟨j, j1, j2, rfl⟩ := iZ_ex xj
  by_cases c : wiC s m t k j
  · exact ⟨_, _, (cop_113 q ⟨m1, m2⟩ ⟨t1, t2⟩ ⟨k1, k2⟩ ⟨j1, j2⟩).1 c, (mop_192 q ⟨m1, m2⟩ ⟨t1, t2⟩ ⟨k1, k2⟩ ⟨j1, j2⟩).1 c, q⟩
  · exact ⟨_, _, (cop_113 q ⟨m1, m2⟩ ⟨t1, t2⟩ ⟨k1, k2⟩ ⟨j1, j2⟩).2 c, (mop_192 q ⟨m1, m2⟩ ⟨t1, t2⟩ ⟨k1, k2⟩ ⟨j1, j2⟩).2 c, q.cnt _⟩
theorem op27 (q : SInv s) (xn : Int32) (xx : Int32) : OpI (zro N xs vf) 114 193 [.int xn, .int xx] s := by
  obtain ⟨n, n1, n2, rfl⟩ := iZ_ex xn
  obtain ⟨x, x1, x2, rfl⟩ := iZ_ex xx
  exact ⟨_, _, cop_114 q ⟨n1, n2⟩ ⟨x1, x2⟩, mop_193 q ⟨n1, n2⟩ ⟨x1, x2⟩, q.cnt _⟩
theorem op28 (q : SInv s) (xw : Int32) : OpJ (zro N xs vf) 115 194 [.int xw] s := by
  obtain ⟨w, w1, w2, rfl⟩ := iZ_ex xw
  exact ⟨_, _, cop_115 q ⟨w1, w2⟩, mop_194 q ⟨w1, w2⟩, (q.koA w).cnt _⟩
theorem op29 (q : SInv s) (xi : Int32) : OpI (zro N xs vf) 116 195 [.int xi] s := by
  obtain ⟨i, i1, i2, rfl⟩ := iZ_ex xi
  exact ⟨_, _, cop_116 q ⟨i1, i2⟩, mop_195 q ⟨i1, i2⟩, (q.koI i).cnt _⟩
theorem op30 (q : SInv s) (xi : Int32) : OpI (zro N xs vf) 117 196 [.int xi] s := by
  obtain ⟨i, i1, i2, rfl⟩ := iZ_ex xi
  exact ⟨_, _, cop_117 q ⟨i1, i2⟩, mop_196 q ⟨i1, i2⟩, (q.koF i).cnt _⟩
theorem op31 (q : SInv s) (xw : Int32) : OpI (zro N xs vf) 118 197 [.int xw] s := by
  obtain ⟨w, w1, w2, rfl⟩ := iZ_ex xw
  exact ⟨_, _, cop_118 q ⟨w1, w2⟩, mop_197 q ⟨w1, w2⟩, q.koV w⟩
theorem op32 (q : SInv s) (xw : Int32) : OpI (zro N xs vf) 119 199 [.int xw] s := by
  obtain ⟨w, w1, w2, rfl⟩ := iZ_ex xw
  exact ⟨_, _, cop_119 q ⟨w1, w2⟩, mop_199 q ⟨w1, w2⟩, (q.koB w).cnt _⟩
theorem op33 (q : SInv s) : OpJ (zro N xs vf) 120 201 [] s := by
  have _h := q
  exact ⟨_, _, cop_120 q, mop_201 q, q⟩
end OPP
