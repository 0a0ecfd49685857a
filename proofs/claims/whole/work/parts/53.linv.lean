def mkL (x y : Int32) : Int64 := (x.toInt64 <<< ((nI 32).toInt64 &&& 63)) ||| (y.toInt64 &&& 4294967295)
/-- the signature at hand, on both sides -/
def SGR (sg : Bool) (hh : Nat) (xl xn sr : Int32) : Prop := (sg = true ∧ ∃ sl, sl < 2 ^ 31 ∧ xl = nI sl ∧ sr = nI sl ∧ xn = nI (35 + hh)) ∨ (sg = false ∧ xl = -1 ∧ xn = nI 0)
/-- at the head of the law's loop: both sides hold the same numbers -/
def LInv (dC : Nat → ClassId) (dI : Nat → Nat → Nat) (cJ cI : ClassId) (s : State) (b x0 k0 h0 c0 e0 e1 g0 t0 n0 n1 m0 m1 d0 d1 s0 p0 p1 o0 o1 y0 f1 f2 ma q1 q2 v1 v2 dd i : Nat) (H : Heap) (locs : List Loc) (ls : Array Slot) : Prop := ∃ (w1 w2 ov : Int64), ∃ (hh md us ln : Nat), ∃ (pv qv rv : Int64 × Int64), ∃ (ev nf mv tv fF fS eF eS : Nat → Int64), ∃ (dv dr : Nat → Int32), ∃ (PP : Nat → Int64 × Int64), ∃ (sg : Bool), ∃ (xl xn sr : Int32), (1 ≤ hh ∧ hh ≤ 4 ∧ md ≤ 2 ^ hh ∧ us ≤ 2 ^ hh ∧ ln ≤ 20) ∧ NOK w1 w2 ov hh md nf ∧ ROK w1 w2 ov hh md fF fS ∧ SGR sg hh xl xn sr ∧ va_P (dC, dI) vwCl [(x0, .inr (8, [.ref k0, .ref h0, .ref c0, .ref t0, .ref m0, .ref d0, .ref s0, .ref o0, .int (nI us)])), (k0, .inr (3, [.long w1, .long w2, .long ov, .int (nI hh)])), (h0, .inr (2, [.long pv.1, .long pv.2])), (c0, .inr (0, [.ref e0, .ref g0])), (g0, .inr (2, [.long qv.1, .long qv.2])), (e0, .inr (5, [.ref e1])), (e1, .inl (cJ, 70, .inr (.inl (ev)))), (t0, .inr (7, [.ref n0, .int (nI md)])), (n0, .inr (5, [.ref n1])), (n1, .inl (cJ, 64, .inr (.inl (nf)))), (m0, .inr (4, [.ref m1, .int (nI ln)])), (m1, .inl (cJ, 20, .inr (.inl (mv)))), (d0, .inr (1, [.ref d1])), (d1, .inl (cI, 35, .inl (dv))), (s0, .inr (6, [.ref p0, .int xl, .int xn])), (p0, .inr (5, [.ref p1])), (p1, .inl (cJ, 78, .inr (.inl (pr PP)))), (o0, .inr (5, [.ref o1])), (o1, .inl (cJ, 2, .inr (.inl (tv)))), (y0, .inr (9, [.long w1, .long w2, .long ov, .int (nI hh), .int (nI md), .int (nI us), .ref f1, .ref f2, .ref ma, .int (nI ln), .int (bI sg), .int sr, .ref q1, .ref q2, .long (tv 0), .long (tv 1), .long rv.1, .long rv.2, .ref v1, .ref v2, .ref dd])), (f1, .inl (cJ, 31, .inr (.inl (fF)))), (f2, .inl (cJ, 31, .inr (.inl (fS)))), (ma, .inl (cJ, 20, .inr (.inl (mv)))), (q1, .inl (cJ, 39, .inr (.inl (fun z => (PP z).1)))), (q2, .inl (cJ, 39, .inr (.inl (fun z => (PP z).2)))), (v1, .inl (cJ, 35, .inr (.inl (eF)))), (v2, .inl (cJ, 35, .inr (.inl (eS)))), (dd, .inl (cI, 35, .inl (dr)))] H ∧ va_D (fun q : Nat => s.heap.size ≤ q) [(x0, .inr (8, [.ref k0, .ref h0, .ref c0, .ref t0, .ref m0, .ref d0, .ref s0, .ref o0, .int (nI us)])), (k0, .inr (3, [.long w1, .long w2, .long ov, .int (nI hh)])), (h0, .inr (2, [.long pv.1, .long pv.2])), (c0, .inr (0, [.ref e0, .ref g0])), (g0, .inr (2, [.long qv.1, .long qv.2])), (e0, .inr (5, [.ref e1])), (e1, .inl (cJ, 70, .inr (.inl (ev)))), (t0, .inr (7, [.ref n0, .int (nI md)])), (n0, .inr (5, [.ref n1])), (n1, .inl (cJ, 64, .inr (.inl (nf)))), (m0, .inr (4, [.ref m1, .int (nI ln)])), (m1, .inl (cJ, 20, .inr (.inl (mv)))), (d0, .inr (1, [.ref d1])), (d1, .inl (cI, 35, .inl (dv))), (s0, .inr (6, [.ref p0, .int xl, .int xn])), (p0, .inr (5, [.ref p1])), (p1, .inl (cJ, 78, .inr (.inl (pr PP)))), (o0, .inr (5, [.ref o1])), (o1, .inl (cJ, 2, .inr (.inl (tv)))), (y0, .inr (9, [.long w1, .long w2, .long ov, .int (nI hh), .int (nI md), .int (nI us), .ref f1, .ref f2, .ref ma, .int (nI ln), .int (bI sg), .int sr, .ref q1, .ref q2, .long (tv 0), .long (tv 1), .long rv.1, .long rv.2, .ref v1, .ref v2, .ref dd])), (f1, .inl (cJ, 31, .inr (.inl (fF)))), (f2, .inl (cJ, 31, .inr (.inl (fS)))), (ma, .inl (cJ, 20, .inr (.inl (mv)))), (q1, .inl (cJ, 39, .inr (.inl (fun z => (PP z).1)))), (q2, .inl (cJ, 39, .inr (.inl (fun z => (PP z).2)))), (v1, .inl (cJ, 35, .inr (.inl (eF)))), (v2, .inl (cJ, 35, .inr (.inl (eS)))), (dd, .inl (cI, 35, .inl (dr)))] ∧ va_S (fun q : Nat => s.heap.size ≤ q) s.heap H locs ∧ lv_has ls 4 [(0, .ref b), (1, .ref x0), (2, .ref y0), (3, .int (nI i))]
theorem beg_cases (x : Int32) : (x < nI 1 ∨ nI 4 < x) ∨ ∃ hv, 1 ≤ hv ∧ hv ≤ 4 ∧ x = nI hv := by
  by_cases h1 : x < nI 1
  · exact Or.inl (Or.inl h1)
  · by_cases h2 : nI 4 < x
    · exact Or.inl (Or.inr h2)
    · have h0 : ¬ x < 0 := fun q => h1 (by
        rw [Int32.lt_iff_toInt_lt] at q ⊢
        have e0 : (0 : Int32).toInt = 0 := by decide
        have e1 : (nI 1).toInt = 1 := by decide
        rw [e0] at q
        rw [e1]
        omega)
      obtain ⟨j, hj, rfl⟩ := nI_of h0
      rw [q_lt hj (by decide)] at h1
      rw [q_lt (by decide) hj] at h2
      exact Or.inr ⟨j, by omega, by omega, rfl⟩
theorem gr_cases (x : Int32) : ¬ nI 1 ≤ x ∨ ∃ nn, (1 ≤ nn ∧ nn < 2 ^ 31) ∧ x = nI nn := by
  by_cases h : nI 1 ≤ x
  · have h0 : ¬ x < 0 := fun q => by
      rw [Int32.le_iff_toInt_le] at h
      rw [Int32.lt_iff_toInt_lt] at q
      have e0 : (0 : Int32).toInt = 0 := by decide
      have e1 : (nI 1).toInt = 1 := by decide
      rw [e0] at q
      rw [e1] at h
      omega
    obtain ⟨j, hj, rfl⟩ := nI_of h0
    rw [q_le (by decide) hj] at h
    exact Or.inr ⟨j, ⟨h, hj⟩, rfl⟩
  · exact Or.inl h
theorem neg_cases (x : Int32) : x < 0 ∨ ∃ y, y < 2 ^ 31 ∧ x = nI y := by
  by_cases h : x < 0
  · exact Or.inl h
  · exact Or.inr (nI_of h)
theorem sp_cases (hh : Nat) (xk xh : Int32) (h4 : hh ≤ 4 := by omega) : ¬ ((xh = 0 ∨ xh = nI 1) ∧ (¬ xk < 0 ∧ ¬ nI (35 + hh) ≤ xk)) ∨ ∃ k hf, hf ≤ 1 ∧ k < 35 + hh ∧ xk = nI k ∧ xh = nI hf := by
  by_cases h : (xh = 0 ∨ xh = nI 1) ∧ (¬ xk < 0 ∧ ¬ nI (35 + hh) ≤ xk)
  · obtain ⟨k, hk, ek⟩ := i_le (show 35 + hh < 2 ^ 31 by omega) h.2.1 h.2.2
    obtain ⟨hf, hf1, ehf⟩ := half_get h.1
    exact Or.inr ⟨k, hf, hf1, hk, ek, ehf⟩
  · exact Or.inl h
theorem tl_cases (xh : Int32) : ¬ (xh = 0 ∨ xh = nI 1) ∨ ∃ hf, hf ≤ 1 ∧ xh = nI hf := by
  by_cases h : xh = 0 ∨ xh = nI 1
  · exact Or.inr (half_get h)
  · exact Or.inl h
theorem sg_cases {hh md us : Nat} (hus : us ≤ 2 ^ hh) : ¬ 2 ^ hh ≤ md ∨ (2 ^ hh ≤ md ∧ us = 2 ^ hh) ∨ (2 ^ hh ≤ md ∧ us < 2 ^ hh) := by omega
theorem np_0 (xk xh : Int32) : ¬ ((xh = 0 ∨ xh = nI 1) ∧ (¬ xk < 0 ∧ ¬ nI 0 ≤ xk)) := fun q => q.2.2 (by rw [nI_0]; exact Int32.not_lt.mp q.2.1)
theorem told_0 (tv : Nat → Int64) (x : Int64) {hf : Nat} (h : hf ≤ 1) : vp_updL tv (2 * 0 + hf) x 0 = if hf = 0 then x else tv 0 := by
  rcases (show hf = 0 ∨ hf = 1 by omega) with rfl | rfl
  · rfl
  · rfl
theorem told_1 (tv : Nat → Int64) (x : Int64) {hf : Nat} (h : hf ≤ 1) : vp_updL tv (2 * 0 + hf) x 1 = if hf = 0 then tv 1 else x := by
  rcases (show hf = 0 ∨ hf = 1 by omega) with rfl | rfl
  · rfl
  · rfl
section LSL
variable {p : Program} {l : Launch} {e : Env} {R : Room} {s : State} {m : MethodId} {args : Array Value} {below : List Frame} {meth : Method} {c : Code} {H H0 : Heap} {locs : List Loc} {cells slots : Nat} {Q : State → Prop} {cc : ByteArray} {pc : Nat} {ls : Array Slot} {rest : List Value} {A : Nat → Prop}
theorem st_sld (hexec : p.tables.exec = Jvm.exec) (hb : c.code = cc) {b L : Nat} {xs : Nat → Int32} (hX : va_X b L xs s H0) (hbl : b < H0.size) (hbA : ¬ A b) (hS : va_S A H0 H locs) {i : Int32} (j : Nat) (hi : i = nI j) (hj : j < L) (hL : L < 2 ^ 31) (hdg : decode cc pc = .ok (.iaload, 1)) (kk : W p l e R s m args below meth c H locs cells slots Q (F0 m (pc + 1) ls (.int (xs j) :: rest))) : W p l e R s m args below meth c H locs cells slots Q (F0 m pc ls (.int i :: .ref b :: rest)) := by
  subst hi
  refine va_sld hexec hb hX hbl hbA hS (vp_in_nI hj hL) hdg ?_
  rw [nI_clamp (Nat.lt_trans hj hL)]
  exact kk
end LSL
