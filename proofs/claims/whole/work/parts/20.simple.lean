set_option maxHeartbeats 4000000 in
set_option maxRecDepth 100000 in
theorem c_LeafSigner_isRootMade (l : Launch) (dC : Nat → ClassId) (dI : Nat → Nat → Nat) (cJ cI : ClassId) (x0 k0 h0 c0 t0 m0 d0 s0 o0 n0 : Nat) (w1 w2 ov : Int64) (hh md : Nat) (xu : Int32) (h4 : hh ≤ 4) (hmd : md < 2 ^ 31) (sz : Nat) : Met l yX8_isRootMade wsX8_isRootMade ({ frames := 1, cells := 0, slots := 0, locals := 23 }) (va_Pc [.ref x0] (st_B (dC, dI) vwCl [(cJ, .long), (cI, .int)] [(x0, .inr (8, [.ref k0, .ref h0, .ref c0, .ref t0, .ref m0, .ref d0, .ref s0, .ref o0, .int xu])), (k0, .inr (3, [.long w1, .long w2, .long ov, .int (nI hh)])), (t0, .inr (7, [.ref n0, .int (nI md)]))] sz)) (va_Qi (fun (r : Int32) (_ : Unit) => r = bI (decide (2 ^ hh ≤ md))) (st_E (dC, dI) vwCl [(cJ, .long), (cI, .int)] (va_A [(x0, .inr (8, [.ref k0, .ref h0, .ref c0, .ref t0, .ref m0, .ref d0, .ref s0, .ref o0, .int xu])), (k0, .inr (3, [.long w1, .long w2, .long ov, .int (nI hh)])), (t0, .inr (7, [.ref n0, .int (nI md)]))] sz) (fun _ => [(x0, .inr (8, [.ref k0, .ref h0, .ref c0, .ref t0, .ref m0, .ref d0, .ref s0, .ref o0, .int xu])), (k0, .inr (3, [.long w1, .long w2, .long ov, .int (nI hh)])), (t0, .inr (7, [.ref n0, .int (nI md)]))])) (va_A [(x0, .inr (8, [.ref k0, .ref h0, .ref c0, .ref t0, .ref m0, .ref d0, .ref s0, .ref o0, .int xu])), (k0, .inr (3, [.long w1, .long w2, .long ov, .int (nI hh)])), (t0, .inr (7, [.ref n0, .int (nI md)]))] sz)) 0 0 (va_A [(x0, .inr (8, [.ref k0, .ref h0, .ref c0, .ref t0, .ref m0, .ref d0, .ref s0, .ref o0, .int xu])), (k0, .inr (3, [.long w1, .long w2, .long ov, .int (nI hh)])), (t0, .inr (7, [.ref n0, .int (nI md)]))] sz) := by
  refine Met.ofW (cc := cX8_isRootMade) (maxL := 1) (ret := (some .boolean)) (by decide) rfl ?_
  intro p e s m args below meth c s₁ B hml hv
  obtain ⟨rfl, hsz, hP, hK, hD0⟩ := hv
  have hx := B.exec
  have hb := B.bytes
  have hr := B.returns
  have hts := atoms_spec (ws := wsX8_isRootMade) B.pre
  have hown : s.vm.findClass RX8 = some m.cls := findClass_of_methodNamed B.named
  have hlocks := B.notSynchronized
  subst hsz
  have hD := hD0.self (sz := s.heap.size)
  generalize hAe : va_A [(x0, .inr (8, [.ref k0, .ref h0, .ref c0, .ref t0, .ref m0, .ref d0, .ref s0, .ref o0, .int xu])), (k0, .inr (3, [.long w1, .long w2, .long ov, .int (nI hh)])), (t0, .inr (7, [.ref n0, .int (nI md)]))] s.heap.size = A at hD ⊢
  have hA : ∀ q : Nat, s.heap.size ≤ q → A q := fun q h => by rw [← hAe]; exact Or.inr h
  have hS : va_S A s.heap s.heap [] := va_S.rf
  have hP : va_P (dC, dI) vwCl [(x0, .inr (8, [.ref k0, .ref h0, .ref c0, .ref t0, .ref m0, .ref d0, .ref s0, .ref o0, .int xu])), (k0, .inr (3, [.long w1, .long w2, .long ov, .int (nI hh)])), (t0, .inr (7, [.ref n0, .int (nI md)]))] s.heap := hP
  have hl := lv_entry ([.ref x0]) (n := 1) (Nat.le_of_ble_eq_true rfl)
  rw [lg_entry_eq]
  generalize (lg_sl ([.ref x0]) ++ List.replicate (1 - (lg_sl ([.ref x0])).length) Slot.unset).toArray = ls at hl ⊢
  have iX8 : ∀ w ∈ wsX80, w ∈ wsX8_isRootMade := by decide +kernel
  have iX3 : ∀ w ∈ wsX30, w ∈ wsX8_isRootMade := by decide +kernel
  have f33 := hts (.fieldLink RX8 33 "LeafSigner" "tree" "LLeafSigner$Tree;") (by decide +kernel)
  have f10 := hts (.fieldLink RX8 10 "LeafSigner" "keys" "LLeafSigner$Keys;") (by decide +kernel)
  have f115 := hts (.fieldLink RX8 115 "LeafSigner$Keys" "height" "I") (by decide +kernel)
  have hl : lv_has ls 1 [(0, .ref x0)] := hl
  refine lv_aload_n hx hb dX8_isRootMade_0 rfl (lv_at hl 0 rfl) ?_
  refine va_get (D := (dC, dI)) (ci := 8) (v := .ref t0) (C := RX8) (T := TX8) (N := 9) hx hb hts iX8 hown hK hP 0 rfl rfl 3 (by decide) f33 (fun _ h9 => h9) rfl dX8_isRootMade_1 ?_
  refine lv_aload_n hx hb dX8_isRootMade_4 rfl (lv_at hl 0 rfl) ?_
  refine va_get (D := (dC, dI)) (ci := 8) (v := .ref k0) (C := RX8) (T := TX8) (N := 9) hx hb hts iX8 hown hK hP 0 rfl rfl 0 (by decide) f10 (fun _ h9 => h9) rfl dX8_isRootMade_5 ?_
  refine va_get (D := (dC, dI)) (ci := 3) (v := .int (nI hh)) (C := RX3) (T := TX3) (N := 4) hx hb hts iX3 hown hK hP 1 rfl rfl 3 (by decide) f115 (fun _ h9 => h9) rfl dX8_isRootMade_8 ?_
  refine lv_aload_n hx hb dX8_isRootMade_11 rfl (lv_at hl 0 rfl) ?_
  refine va_get (D := (dC, dI)) (ci := 8) (v := .ref k0) (C := RX8) (T := TX8) (N := 9) hx hb hts iX8 hown hK hP 0 rfl rfl 0 (by decide) f10 (fun _ h9 => h9) rfl dX8_isRootMade_12 ?_
  refine va_get (D := (dC, dI)) (ci := 3) (v := .int (nI hh)) (C := RX3) (T := TX3) (N := 4) hx hb hts iX3 hown hK hP 1 rfl rfl 3 (by decide) f115 (fun _ h9 => h9) rfl dX8_isRootMade_15 ?_
  refine lv_iconst (v := nI 0) hx hb dX8_isRootMade_18 (by decide) ?_
  refine st_calli (va_runV (As := [.int (nI hh), .int (nI hh), .int (nI 0)]) (rest := []) ⟨hx, hb, hml, hown, hts⟩ (c_Tree_isMade l dC dI cJ cI t0 n0 hh md (nI hh) (nI 0) (by omega) (by omega) s.heap.size) (cwV 3 hts gX8_isRootMade_X7_isMade rfl rfl rfl (by decide +kernel) ⟨Nat.le_of_ble_eq_true rfl, Nat.le_of_ble_eq_true rfl⟩) (st_preV hK hP hD [2] rfl rfl (ci := 7) (q0 := 0) rfl rfl) rfl rfl hl.1 rfl (lv_room (Nat.le_of_ble_eq_true rfl)) dX8_isRootMade_19 ⟨Nat.le_of_ble_eq_true rfl, Nat.le_of_ble_eq_true rfl⟩) hP hD hS hA [2] [0, 1] (wr := [(x0, .inr (8, [.ref k0, .ref h0, .ref c0, .ref t0, .ref m0, .ref d0, .ref s0, .ref o0, .int xu])), (k0, .inr (3, [.long w1, .long w2, .long ov, .int (nI hh)]))]) rfl rfl (by decide) (by decide) [0, 1, 2] (res := fun _ => [(x0, .inr (8, [.ref k0, .ref h0, .ref c0, .ref t0, .ref m0, .ref d0, .ref s0, .ref o0, .int xu])), (k0, .inr (3, [.long w1, .long w2, .long ov, .int (nI hh)])), (t0, .inr (7, [.ref n0, .int (nI md)]))]) (fun _ => rfl) (by decide) (fun r_1 _ H locs hu hP hD hS => ?_)
  have hP : va_P (dC, dI) vwCl [(x0, .inr (8, [.ref k0, .ref h0, .ref c0, .ref t0, .ref m0, .ref d0, .ref s0, .ref o0, .int xu])), (k0, .inr (3, [.long w1, .long w2, .long ov, .int (nI hh)])), (t0, .inr (7, [.ref n0, .int (nI md)]))] H := hP
  have hD : va_D A [(x0, .inr (8, [.ref k0, .ref h0, .ref c0, .ref t0, .ref m0, .ref d0, .ref s0, .ref o0, .int xu])), (k0, .inr (3, [.long w1, .long w2, .long ov, .int (nI hh)])), (t0, .inr (7, [.ref n0, .int (nI md)]))] := hD
  subst hu
  refine st_i (y := bI (decide (2 ^ hh ≤ md))) (congrArg bI (isMB_root h4)) ?_
  exact W.zret (v := bI (decide (2 ^ hh ≤ md))) hx hb hr (nar_b _) (fun t ht hW => ⟨⟨bI (decide (2 ^ hh ≤ md)), (), rfl, rfl, by rw [ht]; exact hP, va_K.moved hW.alike hK, hD⟩, hS.F ht⟩) hS.2.2 dX8_isRootMade_22

set_option maxHeartbeats 4000000 in
set_option maxRecDepth 100000 in
theorem c_begin_no (l : Launch) (dC : Nat → ClassId) (dI : Nat → Nat → Nat) (cJ cI : ClassId) (x0 k0 h0 c0 t0 m0 d0 s0 o0 : Nat) (x1 x2 xo : Int64) (xh xu : Int32) (hbad : xh < nI 1 ∨ nI 4 < xh) (sz : Nat) : Met l yX8_begin wsX8_begin ({ frames := 0, cells := 0, slots := 0, locals := 0 }) (va_Pc [.ref x0, .long x1, .long x2, .long xo, .int xh] (st_B (dC, dI) vwCl [(cJ, .long), (cI, .int)] [(x0, .inr (8, [.ref k0, .ref h0, .ref c0, .ref t0, .ref m0, .ref d0, .ref s0, .ref o0, .int xu]))] sz)) (va_Qi (fun (r : Int32) (_ : Unit) => r = nI 0) (st_E (dC, dI) vwCl [(cJ, .long), (cI, .int)] (va_A [(x0, .inr (8, [.ref k0, .ref h0, .ref c0, .ref t0, .ref m0, .ref d0, .ref s0, .ref o0, .int xu]))] sz) (fun _ => [(x0, .inr (8, [.ref k0, .ref h0, .ref c0, .ref t0, .ref m0, .ref d0, .ref s0, .ref o0, .int xu]))])) (va_A [(x0, .inr (8, [.ref k0, .ref h0, .ref c0, .ref t0, .ref m0, .ref d0, .ref s0, .ref o0, .int xu]))] sz)) 0 0 (va_A [(x0, .inr (8, [.ref k0, .ref h0, .ref c0, .ref t0, .ref m0, .ref d0, .ref s0, .ref o0, .int xu]))] sz) := by
  refine Met.ofW (cc := cX8_begin) (maxL := 8) (ret := (some .int)) (by decide) rfl ?_
  intro p e s m args below meth c s₁ B hml hv
  obtain ⟨rfl, hsz, hP, hK, hD0⟩ := hv
  have hx := B.exec
  have hb := B.bytes
  have hr := B.returns
  have hts := atoms_spec (ws := wsX8_begin) B.pre
  have hown : s.vm.findClass RX8 = some m.cls := findClass_of_methodNamed B.named
  have hlocks := B.notSynchronized
  subst hsz
  have hD := hD0.self (sz := s.heap.size)
  generalize hAe : va_A [(x0, .inr (8, [.ref k0, .ref h0, .ref c0, .ref t0, .ref m0, .ref d0, .ref s0, .ref o0, .int xu]))] s.heap.size = A at hD ⊢
  have hA : ∀ q : Nat, s.heap.size ≤ q → A q := fun q h => by rw [← hAe]; exact Or.inr h
  have hS : va_S A s.heap s.heap [] := va_S.rf
  have hP : va_P (dC, dI) vwCl [(x0, .inr (8, [.ref k0, .ref h0, .ref c0, .ref t0, .ref m0, .ref d0, .ref s0, .ref o0, .int xu]))] s.heap := hP
  have hl := lv_entry ([.ref x0, .long x1, .long x2, .long xo, .int xh]) (n := 8) (Nat.le_of_ble_eq_true rfl)
  rw [lg_entry_eq]
  generalize (lg_sl ([.ref x0, .long x1, .long x2, .long xo, .int xh]) ++ List.replicate (8 - (lg_sl ([.ref x0, .long x1, .long x2, .long xo, .int xh])).length) Slot.unset).toArray = ls at hl ⊢
  have hl : lv_has ls 8 [(0, .ref x0), (1, .long x1), (3, .long x2), (5, .long xo), (7, .int xh)] := hl
  refine lv_iload hx hb dX8_begin_0 (lv_at hl 4 rfl) ?_
  refine lv_iconst (v := nI 1) hx hb dX8_begin_2 (by decide) ?_
  refine lv_icmp_lt (tgt := 12) hx hb dX8_begin_3 (by decide) (fun c3 => ?_) (fun c3 => ?_)
  ·
    refine lv_iconst (v := nI 0) hx hb dX8_begin_12 (by decide) ?_
    exact W.iret (v := nI 0) hx hb hr (fun t ht hW => ⟨⟨nI 0, (), rfl, rfl, by rw [ht]; exact hP, va_K.moved hW.alike hK, hD⟩, hS.F ht⟩) hS.2.2 dX8_begin_13
  ·
    refine lv_iload hx hb dX8_begin_6 (lv_at hl 4 rfl) ?_
    refine lv_iconst (v := nI 4) hx hb dX8_begin_8 (by decide) ?_
    refine lv_icmp_le (tgt := 14) hx hb dX8_begin_9 (by decide) (fun c9 => ?_) (fun c9 => ?_)
    ·
      exact absurd c9 (fun q => hbad.elim c3 (fun z => absurd q (Int32.not_le.mpr z)))
    ·
      refine lv_iconst (v := nI 0) hx hb dX8_begin_12 (by decide) ?_
      exact W.iret (v := nI 0) hx hb hr (fun t ht hW => ⟨⟨nI 0, (), rfl, rfl, by rw [ht]; exact hP, va_K.moved hW.alike hK, hD⟩, hS.F ht⟩) hS.2.2 dX8_begin_13

set_option maxHeartbeats 4000000 in
set_option maxRecDepth 100000 in
theorem c_begin_ok (l : Launch) (dC : Nat → ClassId) (dI : Nat → Nat → Nat) (cJ cI : ClassId) (x0 k0 h0 c0 t0 m0 d0 s0 o0 n0 p0 : Nat) (x1 x2 xo w1 w2 ov : Int64) (hv : Nat) (hi xu xm xl xn : Int32) (hv1 : 1 ≤ hv) (hv4 : hv ≤ 4) (sz : Nat) : Met l yX8_begin wsX8_begin ({ frames := 1, cells := 0, slots := 0, locals := 27 }) (va_Pc [.ref x0, .long x1, .long x2, .long xo, .int (nI hv)] (st_B (dC, dI) vwCl [(cJ, .long), (cI, .int)] [(x0, .inr (8, [.ref k0, .ref h0, .ref c0, .ref t0, .ref m0, .ref d0, .ref s0, .ref o0, .int xu])), (k0, .inr (3, [.long w1, .long w2, .long ov, .int hi])), (t0, .inr (7, [.ref n0, .int xm])), (s0, .inr (6, [.ref p0, .int xl, .int xn]))] sz)) (va_Qi (fun (r : Int32) (_ : Unit) => r = nI 1) (st_E (dC, dI) vwCl [(cJ, .long), (cI, .int)] (va_A [(x0, .inr (8, [.ref k0, .ref h0, .ref c0, .ref t0, .ref m0, .ref d0, .ref s0, .ref o0, .int xu])), (k0, .inr (3, [.long w1, .long w2, .long ov, .int hi])), (t0, .inr (7, [.ref n0, .int xm])), (s0, .inr (6, [.ref p0, .int xl, .int xn]))] sz) (fun _ => [(x0, .inr (8, [.ref k0, .ref h0, .ref c0, .ref t0, .ref m0, .ref d0, .ref s0, .ref o0, .int (nI 0)])), (k0, .inr (3, [.long x1, .long x2, .long xo, .int (nI hv)])), (t0, .inr (7, [.ref n0, .int (nI 0)])), (s0, .inr (6, [.ref p0, .int (-1), .int (nI 0)]))])) (va_A [(x0, .inr (8, [.ref k0, .ref h0, .ref c0, .ref t0, .ref m0, .ref d0, .ref s0, .ref o0, .int xu])), (k0, .inr (3, [.long w1, .long w2, .long ov, .int hi])), (t0, .inr (7, [.ref n0, .int xm])), (s0, .inr (6, [.ref p0, .int xl, .int xn]))] sz)) 0 0 (va_A [(x0, .inr (8, [.ref k0, .ref h0, .ref c0, .ref t0, .ref m0, .ref d0, .ref s0, .ref o0, .int xu])), (k0, .inr (3, [.long w1, .long w2, .long ov, .int hi])), (t0, .inr (7, [.ref n0, .int xm])), (s0, .inr (6, [.ref p0, .int xl, .int xn]))] sz) := by
  refine Met.ofW (cc := cX8_begin) (maxL := 8) (ret := (some .int)) (by decide) rfl ?_
  intro p e s m args below meth c s₁ B hml hv
  obtain ⟨rfl, hsz, hP, hK, hD0⟩ := hv
  have hx := B.exec
  have hb := B.bytes
  have hr := B.returns
  have hts := atoms_spec (ws := wsX8_begin) B.pre
  have hown : s.vm.findClass RX8 = some m.cls := findClass_of_methodNamed B.named
  have hlocks := B.notSynchronized
  subst hsz
  have hD := hD0.self (sz := s.heap.size)
  generalize hAe : va_A [(x0, .inr (8, [.ref k0, .ref h0, .ref c0, .ref t0, .ref m0, .ref d0, .ref s0, .ref o0, .int xu])), (k0, .inr (3, [.long w1, .long w2, .long ov, .int hi])), (t0, .inr (7, [.ref n0, .int xm])), (s0, .inr (6, [.ref p0, .int xl, .int xn]))] s.heap.size = A at hD ⊢
  have hA : ∀ q : Nat, s.heap.size ≤ q → A q := fun q h => by rw [← hAe]; exact Or.inr h
  have hS : va_S A s.heap s.heap [] := va_S.rf
  have hP : va_P (dC, dI) vwCl [(x0, .inr (8, [.ref k0, .ref h0, .ref c0, .ref t0, .ref m0, .ref d0, .ref s0, .ref o0, .int xu])), (k0, .inr (3, [.long w1, .long w2, .long ov, .int hi])), (t0, .inr (7, [.ref n0, .int xm])), (s0, .inr (6, [.ref p0, .int xl, .int xn]))] s.heap := hP
  have hl := lv_entry ([.ref x0, .long x1, .long x2, .long xo, .int (nI hv)]) (n := 8) (Nat.le_of_ble_eq_true rfl)
  rw [lg_entry_eq]
  generalize (lg_sl ([.ref x0, .long x1, .long x2, .long xo, .int (nI hv)]) ++ List.replicate (8 - (lg_sl ([.ref x0, .long x1, .long x2, .long xo, .int (nI hv)])).length) Slot.unset).toArray = ls at hl ⊢
  have iX8 : ∀ w ∈ wsX80, w ∈ wsX8_begin := by decide +kernel
  have f10 := hts (.fieldLink RX8 10 "LeafSigner" "keys" "LLeafSigner$Keys;") (by decide +kernel)
  have f33 := hts (.fieldLink RX8 33 "LeafSigner" "tree" "LLeafSigner$Tree;") (by decide +kernel)
  have f54 := hts (.fieldLink RX8 54 "LeafSigner" "signature" "LLeafSigner$Signature;") (by decide +kernel)
  have f67 := hts (.fieldLink RX8 67 "LeafSigner" "used" "I") (by decide +kernel)
  have hl : lv_has ls 8 [(0, .ref x0), (1, .long x1), (3, .long x2), (5, .long xo), (7, .int (nI hv))] := hl
  refine lv_iload hx hb dX8_begin_0 (lv_at hl 4 rfl) ?_
  refine lv_iconst (v := nI 1) hx hb dX8_begin_2 (by decide) ?_
  refine lv_icmp_lt (tgt := 12) hx hb dX8_begin_3 (by decide) (fun c3 => ?_) (fun c3 => ?_)
  ·
    rw [q_lt (by omega) (by omega)] at c3
    exact absurd c3 (by omega)
  ·
    rw [q_lt (by omega) (by omega)] at c3
    refine lv_iload hx hb dX8_begin_6 (lv_at hl 4 rfl) ?_
    refine lv_iconst (v := nI 4) hx hb dX8_begin_8 (by decide) ?_
    refine lv_icmp_le (tgt := 14) hx hb dX8_begin_9 (by decide) (fun c9 => ?_) (fun c9 => ?_)
    ·
      rw [q_le (by omega) (by omega)] at c9
      refine lv_aload_n hx hb dX8_begin_14 rfl (lv_at hl 0 rfl) ?_
      refine va_get (D := (dC, dI)) (ci := 8) (v := .ref k0) (C := RX8) (T := TX8) (N := 9) hx hb hts iX8 hown hK hP 0 rfl rfl 0 (by decide) f10 (fun _ h9 => h9) rfl dX8_begin_15 ?_
      refine lv_lload_n hx hb dX8_begin_18 rfl (lv_at hl 1 rfl) ?_
      refine lv_lload_n hx hb dX8_begin_19 rfl (lv_at hl 2 rfl) ?_
      refine lv_lload hx hb dX8_begin_20 (lv_at hl 3 rfl) ?_
      refine lv_iload hx hb dX8_begin_22 (lv_at hl 4 rfl) ?_
      refine st_callv (va_runV (As := [.long x1, .long x2, .long xo, .int (nI hv)]) (rest := []) ⟨hx, hb, hml, hown, hts⟩ (c_Keys_renew l dC dI cJ cI k0 w1 w2 ov x1 x2 xo hi (nI hv)  s.heap.size) (cwV 4 hts gX8_begin_X3_renew rfl rfl rfl (by decide +kernel) ⟨Nat.le_of_ble_eq_true rfl, Nat.le_of_ble_eq_true rfl⟩) (st_preV hK hP hD [1] rfl rfl (ci := 3) (q0 := 0) rfl rfl) rfl rfl hl.1 rfl (lv_room (Nat.le_of_ble_eq_true rfl)) dX8_begin_24 ⟨Nat.le_of_ble_eq_true rfl, Nat.le_of_ble_eq_true rfl⟩) hP hD hS hA [1] [0, 2, 3] (wr := [(x0, .inr (8, [.ref k0, .ref h0, .ref c0, .ref t0, .ref m0, .ref d0, .ref s0, .ref o0, .int xu])), (t0, .inr (7, [.ref n0, .int xm])), (s0, .inr (6, [.ref p0, .int xl, .int xn]))]) rfl rfl (by decide) (by decide) [0, 3, 1, 2] (res := fun _ => [(x0, .inr (8, [.ref k0, .ref h0, .ref c0, .ref t0, .ref m0, .ref d0, .ref s0, .ref o0, .int xu])), (k0, .inr (3, [.long x1, .long x2, .long xo, .int (nI hv)])), (t0, .inr (7, [.ref n0, .int xm])), (s0, .inr (6, [.ref p0, .int xl, .int xn]))]) (fun _ => rfl) (by decide) (fun  _ H locs hu hP hD hS => ?_)
      have hP : va_P (dC, dI) vwCl [(x0, .inr (8, [.ref k0, .ref h0, .ref c0, .ref t0, .ref m0, .ref d0, .ref s0, .ref o0, .int xu])), (k0, .inr (3, [.long x1, .long x2, .long xo, .int (nI hv)])), (t0, .inr (7, [.ref n0, .int xm])), (s0, .inr (6, [.ref p0, .int xl, .int xn]))] H := hP
      have hD : va_D A [(x0, .inr (8, [.ref k0, .ref h0, .ref c0, .ref t0, .ref m0, .ref d0, .ref s0, .ref o0, .int xu])), (k0, .inr (3, [.long x1, .long x2, .long xo, .int (nI hv)])), (t0, .inr (7, [.ref n0, .int xm])), (s0, .inr (6, [.ref p0, .int xl, .int xn]))] := hD
      refine lv_aload_n hx hb dX8_begin_27 rfl (lv_at hl 0 rfl) ?_
      refine va_get (D := (dC, dI)) (ci := 8) (v := .ref t0) (C := RX8) (T := TX8) (N := 9) hx hb hts iX8 hown hK hP 0 rfl rfl 3 (by decide) f33 (fun _ h9 => h9) rfl dX8_begin_28 ?_
      refine st_callv (va_runV (As := []) (rest := []) ⟨hx, hb, hml, hown, hts⟩ (c_Tree_clear l dC dI cJ cI t0 n0 xm  H.size) (cwV 0 hts gX8_begin_X7_clear rfl rfl rfl (by decide +kernel) ⟨Nat.le_of_ble_eq_true rfl, Nat.le_of_ble_eq_true rfl⟩) (st_preV hK hP hD [2] rfl rfl (ci := 7) (q0 := 0) rfl rfl) rfl rfl hl.1 rfl (lv_room (Nat.le_of_ble_eq_true rfl)) dX8_begin_31 ⟨Nat.le_of_ble_eq_true rfl, Nat.le_of_ble_eq_true rfl⟩) hP hD hS hA [2] [0, 1, 3] (wr := [(x0, .inr (8, [.ref k0, .ref h0, .ref c0, .ref t0, .ref m0, .ref d0, .ref s0, .ref o0, .int xu])), (k0, .inr (3, [.long x1, .long x2, .long xo, .int (nI hv)])), (s0, .inr (6, [.ref p0, .int xl, .int xn]))]) rfl rfl (by decide) (by decide) [0, 1, 3, 2] (res := fun _ => [(x0, .inr (8, [.ref k0, .ref h0, .ref c0, .ref t0, .ref m0, .ref d0, .ref s0, .ref o0, .int xu])), (k0, .inr (3, [.long x1, .long x2, .long xo, .int (nI hv)])), (t0, .inr (7, [.ref n0, .int (nI 0)])), (s0, .inr (6, [.ref p0, .int xl, .int xn]))]) (fun _ => rfl) (by decide) (fun  _ H locs hu hP hD hS => ?_)
      have hP : va_P (dC, dI) vwCl [(x0, .inr (8, [.ref k0, .ref h0, .ref c0, .ref t0, .ref m0, .ref d0, .ref s0, .ref o0, .int xu])), (k0, .inr (3, [.long x1, .long x2, .long xo, .int (nI hv)])), (t0, .inr (7, [.ref n0, .int (nI 0)])), (s0, .inr (6, [.ref p0, .int xl, .int xn]))] H := hP
      have hD : va_D A [(x0, .inr (8, [.ref k0, .ref h0, .ref c0, .ref t0, .ref m0, .ref d0, .ref s0, .ref o0, .int xu])), (k0, .inr (3, [.long x1, .long x2, .long xo, .int (nI hv)])), (t0, .inr (7, [.ref n0, .int (nI 0)])), (s0, .inr (6, [.ref p0, .int xl, .int xn]))] := hD
      refine lv_aload_n hx hb dX8_begin_34 rfl (lv_at hl 0 rfl) ?_
      refine va_get (D := (dC, dI)) (ci := 8) (v := .ref s0) (C := RX8) (T := TX8) (N := 9) hx hb hts iX8 hown hK hP 0 rfl rfl 6 (by decide) f54 (fun _ h9 => h9) rfl dX8_begin_35 ?_
      refine st_callv (va_runV (As := []) (rest := []) ⟨hx, hb, hml, hown, hts⟩ (c_Signature_clear l dC dI cJ cI s0 p0 xl xn  H.size) (cwV 0 hts gX8_begin_X6_clear rfl rfl rfl (by decide +kernel) ⟨Nat.le_of_ble_eq_true rfl, Nat.le_of_ble_eq_true rfl⟩) (st_preV hK hP hD [3] rfl rfl (ci := 6) (q0 := 0) rfl rfl) rfl rfl hl.1 rfl (lv_room (Nat.le_of_ble_eq_true rfl)) dX8_begin_38 ⟨Nat.le_of_ble_eq_true rfl, Nat.le_of_ble_eq_true rfl⟩) hP hD hS hA [3] [0, 1, 2] (wr := [(x0, .inr (8, [.ref k0, .ref h0, .ref c0, .ref t0, .ref m0, .ref d0, .ref s0, .ref o0, .int xu])), (k0, .inr (3, [.long x1, .long x2, .long xo, .int (nI hv)])), (t0, .inr (7, [.ref n0, .int (nI 0)]))]) rfl rfl (by decide) (by decide) [0, 1, 2, 3] (res := fun _ => [(x0, .inr (8, [.ref k0, .ref h0, .ref c0, .ref t0, .ref m0, .ref d0, .ref s0, .ref o0, .int xu])), (k0, .inr (3, [.long x1, .long x2, .long xo, .int (nI hv)])), (t0, .inr (7, [.ref n0, .int (nI 0)])), (s0, .inr (6, [.ref p0, .int (-1), .int (nI 0)]))]) (fun _ => rfl) (by decide) (fun  _ H locs hu hP hD hS => ?_)
      have hP : va_P (dC, dI) vwCl [(x0, .inr (8, [.ref k0, .ref h0, .ref c0, .ref t0, .ref m0, .ref d0, .ref s0, .ref o0, .int xu])), (k0, .inr (3, [.long x1, .long x2, .long xo, .int (nI hv)])), (t0, .inr (7, [.ref n0, .int (nI 0)])), (s0, .inr (6, [.ref p0, .int (-1), .int (nI 0)]))] H := hP
      have hD : va_D A [(x0, .inr (8, [.ref k0, .ref h0, .ref c0, .ref t0, .ref m0, .ref d0, .ref s0, .ref o0, .int xu])), (k0, .inr (3, [.long x1, .long x2, .long xo, .int (nI hv)])), (t0, .inr (7, [.ref n0, .int (nI 0)])), (s0, .inr (6, [.ref p0, .int (-1), .int (nI 0)]))] := hD
      refine lv_aload_n hx hb dX8_begin_41 rfl (lv_at hl 0 rfl) ?_
      refine lv_iconst (v := nI 0) hx hb dX8_begin_42 (by decide) ?_
      refine va_put (D := (dC, dI)) (ci := 8) (v := .int (nI 0)) (ty := .int) (C := RX8) (T := TX8) (N := 9) hx hb hts iX8 tyX8 tyX8_ok nmX8 hown hK hP hD hS 0 rfl rfl 8 (by decide) f67 (fun _ h9 => h9) rfl (by decide +kernel) rfl rfl (Nat.le_of_ble_eq_true rfl) dX8_begin_43 (fun H locs hP hD hS => ?_)
      have hP : va_P (dC, dI) vwCl [(x0, .inr (8, [.ref k0, .ref h0, .ref c0, .ref t0, .ref m0, .ref d0, .ref s0, .ref o0, .int (nI 0)])), (k0, .inr (3, [.long x1, .long x2, .long xo, .int (nI hv)])), (t0, .inr (7, [.ref n0, .int (nI 0)])), (s0, .inr (6, [.ref p0, .int (-1), .int (nI 0)]))] H := hP
      have hD : va_D A [(x0, .inr (8, [.ref k0, .ref h0, .ref c0, .ref t0, .ref m0, .ref d0, .ref s0, .ref o0, .int (nI 0)])), (k0, .inr (3, [.long x1, .long x2, .long xo, .int (nI hv)])), (t0, .inr (7, [.ref n0, .int (nI 0)])), (s0, .inr (6, [.ref p0, .int (-1), .int (nI 0)]))] := hD
      refine lv_iconst (v := nI 1) hx hb dX8_begin_46 (by decide) ?_
      exact W.iret (v := nI 1) hx hb hr (fun t ht hW => ⟨⟨nI 1, (), rfl, rfl, by rw [ht]; exact hP, va_K.moved hW.alike hK, hD⟩, hS.F ht⟩) hS.2.2 dX8_begin_47
    ·
      rw [q_le (by omega) (by omega)] at c9
      exact absurd c9 (by omega)

set_option maxHeartbeats 4000000 in
set_option maxRecDepth 100000 in
theorem c_grow_no (l : Launch) (dC : Nat → ClassId) (dI : Nat → Nat → Nat) (cJ cI : ClassId) (x0 k0 h0 c0 t0 m0 d0 s0 o0 : Nat) (xv xu : Int32) (hbad : ¬ nI 1 ≤ xv) (sz : Nat) : Met l yX8_grow wsX8_grow ({ frames := 0, cells := 0, slots := 0, locals := 0 }) (va_Pc [.ref x0, .int xv] (st_B (dC, dI) vwCl [(cJ, .long), (cI, .int)] [(x0, .inr (8, [.ref k0, .ref h0, .ref c0, .ref t0, .ref m0, .ref d0, .ref s0, .ref o0, .int xu]))] sz)) (va_Qi (fun (r : Int32) (_ : Unit) => r = -1) (st_E (dC, dI) vwCl [(cJ, .long), (cI, .int)] (va_A [(x0, .inr (8, [.ref k0, .ref h0, .ref c0, .ref t0, .ref m0, .ref d0, .ref s0, .ref o0, .int xu]))] sz) (fun _ => [(x0, .inr (8, [.ref k0, .ref h0, .ref c0, .ref t0, .ref m0, .ref d0, .ref s0, .ref o0, .int xu]))])) (va_A [(x0, .inr (8, [.ref k0, .ref h0, .ref c0, .ref t0, .ref m0, .ref d0, .ref s0, .ref o0, .int xu]))] sz)) 0 0 (va_A [(x0, .inr (8, [.ref k0, .ref h0, .ref c0, .ref t0, .ref m0, .ref d0, .ref s0, .ref o0, .int xu]))] sz) := by
  refine Met.ofW (cc := cX8_grow) (maxL := 5) (ret := (some .int)) (by decide) rfl ?_
  intro p e s m args below meth c s₁ B hml hv
  obtain ⟨rfl, hsz, hP, hK, hD0⟩ := hv
  have hx := B.exec
  have hb := B.bytes
  have hr := B.returns
  have hts := atoms_spec (ws := wsX8_grow) B.pre
  have hown : s.vm.findClass RX8 = some m.cls := findClass_of_methodNamed B.named
  have hlocks := B.notSynchronized
  subst hsz
  have hD := hD0.self (sz := s.heap.size)
  generalize hAe : va_A [(x0, .inr (8, [.ref k0, .ref h0, .ref c0, .ref t0, .ref m0, .ref d0, .ref s0, .ref o0, .int xu]))] s.heap.size = A at hD ⊢
  have hA : ∀ q : Nat, s.heap.size ≤ q → A q := fun q h => by rw [← hAe]; exact Or.inr h
  have hS : va_S A s.heap s.heap [] := va_S.rf
  have hP : va_P (dC, dI) vwCl [(x0, .inr (8, [.ref k0, .ref h0, .ref c0, .ref t0, .ref m0, .ref d0, .ref s0, .ref o0, .int xu]))] s.heap := hP
  have hl := lv_entry ([.ref x0, .int xv]) (n := 5) (Nat.le_of_ble_eq_true rfl)
  rw [lg_entry_eq]
  generalize (lg_sl ([.ref x0, .int xv]) ++ List.replicate (5 - (lg_sl ([.ref x0, .int xv])).length) Slot.unset).toArray = ls at hl ⊢
  have hl : lv_has ls 5 [(0, .ref x0), (1, .int xv)] := hl
  refine lv_iload_n hx hb dX8_grow_0 rfl (lv_at hl 1 rfl) ?_
  refine lv_iconst (v := nI 1) hx hb dX8_grow_1 (by decide) ?_
  refine lv_icmp_ge (tgt := 7) hx hb dX8_grow_2 (by decide) (fun c2 => ?_) (fun c2 => ?_)
  ·
    exact absurd c2 hbad
  ·
    refine lv_iconst (v := -1) hx hb dX8_grow_5 (by decide) ?_
    exact W.iret (v := -1) hx hb hr (fun t ht hW => ⟨⟨-1, (), rfl, rfl, by rw [ht]; exact hP, va_K.moved hW.alike hK, hD⟩, hS.F ht⟩) hS.2.2 dX8_grow_6

set_option maxHeartbeats 4000000 in
set_option maxRecDepth 100000 in
theorem c_LeafSigner_node (l : Launch) (dC : Nat → ClassId) (dI : Nat → Nat → Nat) (cJ cI : ClassId) (x0 k0 h0 c0 t0 m0 d0 s0 o0 n0 n1 : Nat) (w1 w2 ov : Int64) (hh md : Nat) (xl xi xh xu : Int32) (nf : Nat → Int64) (h4 : hh ≤ 4) (hmd : md ≤ 2 ^ hh) (hN : NOK w1 w2 ov hh md nf) (sz : Nat) : Met l yX8_node wsX8_node ({ frames := 1, cells := 0, slots := 0, locals := 23 }) (va_Pc [.ref x0, .int xl, .int xi, .int xh] (st_B (dC, dI) vwCl [(cJ, .long), (cI, .int)] [(x0, .inr (8, [.ref k0, .ref h0, .ref c0, .ref t0, .ref m0, .ref d0, .ref s0, .ref o0, .int xu])), (k0, .inr (3, [.long w1, .long w2, .long ov, .int (nI hh)])), (t0, .inr (7, [.ref n0, .int (nI md)])), (n0, .inr (5, [.ref n1])), (n1, .inl (cJ, 64, .inr (.inl (nf))))] sz)) (va_Ql (fun (r : Int64) (_ : Unit) => r = ndA w1 w2 ov hh md xl xi xh) (st_E (dC, dI) vwCl [(cJ, .long), (cI, .int)] (va_A [(x0, .inr (8, [.ref k0, .ref h0, .ref c0, .ref t0, .ref m0, .ref d0, .ref s0, .ref o0, .int xu])), (k0, .inr (3, [.long w1, .long w2, .long ov, .int (nI hh)])), (t0, .inr (7, [.ref n0, .int (nI md)])), (n0, .inr (5, [.ref n1])), (n1, .inl (cJ, 64, .inr (.inl (nf))))] sz) (fun _ => [(x0, .inr (8, [.ref k0, .ref h0, .ref c0, .ref t0, .ref m0, .ref d0, .ref s0, .ref o0, .int xu])), (k0, .inr (3, [.long w1, .long w2, .long ov, .int (nI hh)])), (t0, .inr (7, [.ref n0, .int (nI md)])), (n0, .inr (5, [.ref n1])), (n1, .inl (cJ, 64, .inr (.inl (nf))))])) (va_A [(x0, .inr (8, [.ref k0, .ref h0, .ref c0, .ref t0, .ref m0, .ref d0, .ref s0, .ref o0, .int xu])), (k0, .inr (3, [.long w1, .long w2, .long ov, .int (nI hh)])), (t0, .inr (7, [.ref n0, .int (nI md)])), (n0, .inr (5, [.ref n1])), (n1, .inl (cJ, 64, .inr (.inl (nf))))] sz)) 0 0 (va_A [(x0, .inr (8, [.ref k0, .ref h0, .ref c0, .ref t0, .ref m0, .ref d0, .ref s0, .ref o0, .int xu])), (k0, .inr (3, [.long w1, .long w2, .long ov, .int (nI hh)])), (t0, .inr (7, [.ref n0, .int (nI md)])), (n0, .inr (5, [.ref n1])), (n1, .inl (cJ, 64, .inr (.inl (nf))))] sz) := by
  refine Met.ofW (cc := cX8_node) (maxL := 4) (ret := (some .long)) (by decide) rfl ?_
  intro p e s m args below meth c s₁ B hml hv
  obtain ⟨rfl, hsz, hP, hK, hD0⟩ := hv
  have hx := B.exec
  have hb := B.bytes
  have hr := B.returns
  have hts := atoms_spec (ws := wsX8_node) B.pre
  have hown : s.vm.findClass RX8 = some m.cls := findClass_of_methodNamed B.named
  have hlocks := B.notSynchronized
  subst hsz
  have hD := hD0.self (sz := s.heap.size)
  generalize hAe : va_A [(x0, .inr (8, [.ref k0, .ref h0, .ref c0, .ref t0, .ref m0, .ref d0, .ref s0, .ref o0, .int xu])), (k0, .inr (3, [.long w1, .long w2, .long ov, .int (nI hh)])), (t0, .inr (7, [.ref n0, .int (nI md)])), (n0, .inr (5, [.ref n1])), (n1, .inl (cJ, 64, .inr (.inl (nf))))] s.heap.size = A at hD ⊢
  have hA : ∀ q : Nat, s.heap.size ≤ q → A q := fun q h => by rw [← hAe]; exact Or.inr h
  have hS : va_S A s.heap s.heap [] := va_S.rf
  have hP : va_P (dC, dI) vwCl [(x0, .inr (8, [.ref k0, .ref h0, .ref c0, .ref t0, .ref m0, .ref d0, .ref s0, .ref o0, .int xu])), (k0, .inr (3, [.long w1, .long w2, .long ov, .int (nI hh)])), (t0, .inr (7, [.ref n0, .int (nI md)])), (n0, .inr (5, [.ref n1])), (n1, .inl (cJ, 64, .inr (.inl (nf))))] s.heap := hP
  have hl := lv_entry ([.ref x0, .int xl, .int xi, .int xh]) (n := 4) (Nat.le_of_ble_eq_true rfl)
  rw [lg_entry_eq]
  generalize (lg_sl ([.ref x0, .int xl, .int xi, .int xh]) ++ List.replicate (4 - (lg_sl ([.ref x0, .int xl, .int xi, .int xh])).length) Slot.unset).toArray = ls at hl ⊢
  have iX8 : ∀ w ∈ wsX80, w ∈ wsX8_node := by decide +kernel
  have iX3 : ∀ w ∈ wsX30, w ∈ wsX8_node := by decide +kernel
  have iX7 : ∀ w ∈ wsX70, w ∈ wsX8_node := by decide +kernel
  have f33 := hts (.fieldLink RX8 33 "LeafSigner" "tree" "LLeafSigner$Tree;") (by decide +kernel)
  have f10 := hts (.fieldLink RX8 10 "LeafSigner" "keys" "LLeafSigner$Keys;") (by decide +kernel)
  have f115 := hts (.fieldLink RX8 115 "LeafSigner$Keys" "height" "I") (by decide +kernel)
  have f122 := hts (.fieldLink RX8 122 "LeafSigner$Tree" "nodes" "LLeafSigner$Pairs;") (by decide +kernel)
  have hl : lv_has ls 4 [(0, .ref x0), (1, .int xl), (2, .int xi), (3, .int xh)] := hl
  have hp := p2_le h4
  refine lv_iload_n hx hb dX8_node_0 rfl (lv_at hl 3 rfl) ?_
  refine st_calli (va_runS (As := [.int xh]) (rest := []) ⟨hx, hb, hml, hown, hts⟩ (c_LeafSigner_isHalf l dC dI cJ cI  xh  s.heap.size) (va_cwS 1 hts gX8_node_X8_isHalf rfl rfl rfl (by decide +kernel) ⟨Nat.le_of_ble_eq_true rfl, Nat.le_of_ble_eq_true rfl⟩) (st_preS hK hP hD [] rfl rfl) rfl rfl hl.1 rfl (lv_room (Nat.le_of_ble_eq_true rfl)) dX8_node_1 ⟨Nat.le_of_ble_eq_true rfl, Nat.le_of_ble_eq_true rfl⟩) hP hD hS hA [] [0, 1, 2, 3, 4] (wr := [(x0, .inr (8, [.ref k0, .ref h0, .ref c0, .ref t0, .ref m0, .ref d0, .ref s0, .ref o0, .int xu])), (k0, .inr (3, [.long w1, .long w2, .long ov, .int (nI hh)])), (t0, .inr (7, [.ref n0, .int (nI md)])), (n0, .inr (5, [.ref n1])), (n1, .inl (cJ, 64, .inr (.inl (nf))))]) rfl rfl (by decide) (by decide) [0, 1, 2, 3, 4] (res := fun _ => [(x0, .inr (8, [.ref k0, .ref h0, .ref c0, .ref t0, .ref m0, .ref d0, .ref s0, .ref o0, .int xu])), (k0, .inr (3, [.long w1, .long w2, .long ov, .int (nI hh)])), (t0, .inr (7, [.ref n0, .int (nI md)])), (n0, .inr (5, [.ref n1])), (n1, .inl (cJ, 64, .inr (.inl (nf))))]) (fun _ => rfl) (by decide) (fun r_1 _ H locs hu hP hD hS => ?_)
  have hP : va_P (dC, dI) vwCl [(x0, .inr (8, [.ref k0, .ref h0, .ref c0, .ref t0, .ref m0, .ref d0, .ref s0, .ref o0, .int xu])), (k0, .inr (3, [.long w1, .long w2, .long ov, .int (nI hh)])), (t0, .inr (7, [.ref n0, .int (nI md)])), (n0, .inr (5, [.ref n1])), (n1, .inl (cJ, 64, .inr (.inl (nf))))] H := hP
  have hD : va_D A [(x0, .inr (8, [.ref k0, .ref h0, .ref c0, .ref t0, .ref m0, .ref d0, .ref s0, .ref o0, .int xu])), (k0, .inr (3, [.long w1, .long w2, .long ov, .int (nI hh)])), (t0, .inr (7, [.ref n0, .int (nI md)])), (n0, .inr (5, [.ref n1])), (n1, .inl (cJ, 64, .inr (.inl (nf))))] := hD
  subst hu
  refine lv_if_eq (tgt := 26) hx hb dX8_node_4 (by decide) (fun c4 => ?_) (fun c4 => ?_)
  ·
    rw [q_b0] at c4
    refine lv_lconst (v := lN 0) hx hb dX8_node_26 (by decide) ?_
    exact W.lret (v := lN 0) hx hb hr (fun t ht hW => ⟨⟨lN 0, (), rfl, ndA_n (fun q => db_f c4 q.1), by rw [ht]; exact hP, va_K.moved hW.alike hK, hD⟩, hS.F ht⟩) hS.2.2 dX8_node_27
  ·
    rw [q_b0] at c4
    refine lv_aload_n hx hb dX8_node_7 rfl (lv_at hl 0 rfl) ?_
    refine va_get (D := (dC, dI)) (ci := 8) (v := .ref t0) (C := RX8) (T := TX8) (N := 9) hx hb hts iX8 hown hK hP 0 rfl rfl 3 (by decide) f33 (fun _ h9 => h9) rfl dX8_node_8 ?_
    refine lv_aload_n hx hb dX8_node_11 rfl (lv_at hl 0 rfl) ?_
    refine va_get (D := (dC, dI)) (ci := 8) (v := .ref k0) (C := RX8) (T := TX8) (N := 9) hx hb hts iX8 hown hK hP 0 rfl rfl 0 (by decide) f10 (fun _ h9 => h9) rfl dX8_node_12 ?_
    refine va_get (D := (dC, dI)) (ci := 3) (v := .int (nI hh)) (C := RX3) (T := TX3) (N := 4) hx hb hts iX3 hown hK hP 1 rfl rfl 3 (by decide) f115 (fun _ h9 => h9) rfl dX8_node_15 ?_
    refine lv_iload_n hx hb dX8_node_18 rfl (lv_at hl 1 rfl) ?_
    refine lv_iload_n hx hb dX8_node_19 rfl (lv_at hl 2 rfl) ?_
    refine st_calli (va_runV (As := [.int (nI hh), .int xl, .int xi]) (rest := []) ⟨hx, hb, hml, hown, hts⟩ (c_Tree_isMade l dC dI cJ cI t0 n0 hh md xl xi (by omega) (by omega) H.size) (cwV 3 hts gX8_node_X7_isMade rfl rfl rfl (by decide +kernel) ⟨Nat.le_of_ble_eq_true rfl, Nat.le_of_ble_eq_true rfl⟩) (st_preV hK hP hD [2] rfl rfl (ci := 7) (q0 := 0) rfl rfl) rfl rfl hl.1 rfl (lv_room (Nat.le_of_ble_eq_true rfl)) dX8_node_20 ⟨Nat.le_of_ble_eq_true rfl, Nat.le_of_ble_eq_true rfl⟩) hP hD hS hA [2] [0, 1, 3, 4] (wr := [(x0, .inr (8, [.ref k0, .ref h0, .ref c0, .ref t0, .ref m0, .ref d0, .ref s0, .ref o0, .int xu])), (k0, .inr (3, [.long w1, .long w2, .long ov, .int (nI hh)])), (n0, .inr (5, [.ref n1])), (n1, .inl (cJ, 64, .inr (.inl (nf))))]) rfl rfl (by decide) (by decide) [0, 1, 4, 2, 3] (res := fun _ => [(x0, .inr (8, [.ref k0, .ref h0, .ref c0, .ref t0, .ref m0, .ref d0, .ref s0, .ref o0, .int xu])), (k0, .inr (3, [.long w1, .long w2, .long ov, .int (nI hh)])), (t0, .inr (7, [.ref n0, .int (nI md)])), (n0, .inr (5, [.ref n1])), (n1, .inl (cJ, 64, .inr (.inl (nf))))]) (fun _ => rfl) (by decide) (fun r_2 _ H locs hu hP hD hS => ?_)
    have hP : va_P (dC, dI) vwCl [(x0, .inr (8, [.ref k0, .ref h0, .ref c0, .ref t0, .ref m0, .ref d0, .ref s0, .ref o0, .int xu])), (k0, .inr (3, [.long w1, .long w2, .long ov, .int (nI hh)])), (t0, .inr (7, [.ref n0, .int (nI md)])), (n0, .inr (5, [.ref n1])), (n1, .inl (cJ, 64, .inr (.inl (nf))))] H := hP
    have hD : va_D A [(x0, .inr (8, [.ref k0, .ref h0, .ref c0, .ref t0, .ref m0, .ref d0, .ref s0, .ref o0, .int xu])), (k0, .inr (3, [.long w1, .long w2, .long ov, .int (nI hh)])), (t0, .inr (7, [.ref n0, .int (nI md)])), (n0, .inr (5, [.ref n1])), (n1, .inl (cJ, 64, .inr (.inl (nf))))] := hD
    subst hu
    refine lv_if_ne (tgt := 28) hx hb dX8_node_23 (by decide) (fun c23 => ?_) (fun c23 => ?_)
    ·
      rw [q_b0] at c23
      obtain ⟨lv, iv, hlv, hiv, hM, rfl, rfl⟩ := isM_get h4 (bf_not c23)
      obtain ⟨hf, hf1, rfl⟩ := half_get (db_t c4)
      have hsl := slot_lt h4 hlv hmd hM
      refine lv_aload_n hx hb dX8_node_28 rfl (lv_at hl 0 rfl) ?_
      refine va_get (D := (dC, dI)) (ci := 8) (v := .ref t0) (C := RX8) (T := TX8) (N := 9) hx hb hts iX8 hown hK hP 0 rfl rfl 3 (by decide) f33 (fun _ h9 => h9) rfl dX8_node_29 ?_
      refine va_get (D := (dC, dI)) (ci := 7) (v := .ref n0) (C := RX7) (T := TX7) (N := 2) hx hb hts iX7 hown hK hP 2 rfl rfl 0 (by decide) f122 (fun _ h9 => h9) rfl dX8_node_32 ?_
      refine lv_aload_n hx hb dX8_node_35 rfl (lv_at hl 0 rfl) ?_
      refine va_get (D := (dC, dI)) (ci := 8) (v := .ref k0) (C := RX8) (T := TX8) (N := 9) hx hb hts iX8 hown hK hP 0 rfl rfl 0 (by decide) f10 (fun _ h9 => h9) rfl dX8_node_36 ?_
      refine va_get (D := (dC, dI)) (ci := 3) (v := .int (nI hh)) (C := RX3) (T := TX3) (N := 4) hx hb hts iX3 hown hK hP 1 rfl rfl 3 (by decide) f115 (fun _ h9 => h9) rfl dX8_node_39 ?_
      refine lv_iload_n hx hb dX8_node_42 rfl (lv_at hl 1 rfl) ?_
      refine lv_iload_n hx hb dX8_node_43 rfl (lv_at hl 2 rfl) ?_
      refine st_calli (va_runS (As := [.int (nI hh), .int (nI lv), .int (nI iv)]) (rest := [.ref n0]) ⟨hx, hb, hml, hown, hts⟩ (c_Tree_slot l dC dI cJ cI  hh lv iv (by omega) (by omega) H.size) (va_cwS 3 hts gX8_node_X7_slot rfl rfl rfl (by decide +kernel) ⟨Nat.le_of_ble_eq_true rfl, Nat.le_of_ble_eq_true rfl⟩) (st_preS hK hP hD [] rfl rfl) rfl rfl hl.1 rfl (lv_room (Nat.le_of_ble_eq_true rfl)) dX8_node_44 ⟨Nat.le_of_ble_eq_true rfl, Nat.le_of_ble_eq_true rfl⟩) hP hD hS hA [] [0, 1, 2, 3, 4] (wr := [(x0, .inr (8, [.ref k0, .ref h0, .ref c0, .ref t0, .ref m0, .ref d0, .ref s0, .ref o0, .int xu])), (k0, .inr (3, [.long w1, .long w2, .long ov, .int (nI hh)])), (t0, .inr (7, [.ref n0, .int (nI md)])), (n0, .inr (5, [.ref n1])), (n1, .inl (cJ, 64, .inr (.inl (nf))))]) rfl rfl (by decide) (by decide) [0, 1, 2, 3, 4] (res := fun _ => [(x0, .inr (8, [.ref k0, .ref h0, .ref c0, .ref t0, .ref m0, .ref d0, .ref s0, .ref o0, .int xu])), (k0, .inr (3, [.long w1, .long w2, .long ov, .int (nI hh)])), (t0, .inr (7, [.ref n0, .int (nI md)])), (n0, .inr (5, [.ref n1])), (n1, .inl (cJ, 64, .inr (.inl (nf))))]) (fun _ => rfl) (by decide) (fun r_3 _ H locs hu hP hD hS => ?_)
      have hP : va_P (dC, dI) vwCl [(x0, .inr (8, [.ref k0, .ref h0, .ref c0, .ref t0, .ref m0, .ref d0, .ref s0, .ref o0, .int xu])), (k0, .inr (3, [.long w1, .long w2, .long ov, .int (nI hh)])), (t0, .inr (7, [.ref n0, .int (nI md)])), (n0, .inr (5, [.ref n1])), (n1, .inl (cJ, 64, .inr (.inl (nf))))] H := hP
      have hD : va_D A [(x0, .inr (8, [.ref k0, .ref h0, .ref c0, .ref t0, .ref m0, .ref d0, .ref s0, .ref o0, .int xu])), (k0, .inr (3, [.long w1, .long w2, .long ov, .int (nI hh)])), (t0, .inr (7, [.ref n0, .int (nI md)])), (n0, .inr (5, [.ref n1])), (n1, .inl (cJ, 64, .inr (.inl (nf))))] := hD
      subst hu
      refine lv_iload_n hx hb dX8_node_47 rfl (lv_at hl 3 rfl) ?_
      refine st_calll (va_runV (As := [.int (nI (2 ^ (hh - lv) + iv)), .int (nI hf)]) (rest := []) ⟨hx, hb, hml, hown, hts⟩ (c_Pairs_at l dC dI cJ cI n0 n1 64 nf (2 ^ (hh - lv) + iv) hf (by omega) (by omega) H.size) (cwV 2 hts gX8_node_X5_at rfl rfl rfl (by decide +kernel) ⟨Nat.le_of_ble_eq_true rfl, Nat.le_of_ble_eq_true rfl⟩) (st_preV hK hP hD [3, 4] rfl rfl (ci := 5) (q0 := 0) rfl rfl) rfl rfl hl.1 rfl (lv_room (Nat.le_of_ble_eq_true rfl)) dX8_node_48 ⟨Nat.le_of_ble_eq_true rfl, Nat.le_of_ble_eq_true rfl⟩) hP hD hS hA [3, 4] [0, 1, 2] (wr := [(x0, .inr (8, [.ref k0, .ref h0, .ref c0, .ref t0, .ref m0, .ref d0, .ref s0, .ref o0, .int xu])), (k0, .inr (3, [.long w1, .long w2, .long ov, .int (nI hh)])), (t0, .inr (7, [.ref n0, .int (nI md)]))]) rfl rfl (by decide) (by decide) [0, 1, 2, 3, 4] (res := fun _ => [(x0, .inr (8, [.ref k0, .ref h0, .ref c0, .ref t0, .ref m0, .ref d0, .ref s0, .ref o0, .int xu])), (k0, .inr (3, [.long w1, .long w2, .long ov, .int (nI hh)])), (t0, .inr (7, [.ref n0, .int (nI md)])), (n0, .inr (5, [.ref n1])), (n1, .inl (cJ, 64, .inr (.inl (nf))))]) (fun _ => rfl) (by decide) (fun r_4 _ H locs hu hP hD hS => ?_)
      have hP : va_P (dC, dI) vwCl [(x0, .inr (8, [.ref k0, .ref h0, .ref c0, .ref t0, .ref m0, .ref d0, .ref s0, .ref o0, .int xu])), (k0, .inr (3, [.long w1, .long w2, .long ov, .int (nI hh)])), (t0, .inr (7, [.ref n0, .int (nI md)])), (n0, .inr (5, [.ref n1])), (n1, .inl (cJ, 64, .inr (.inl (nf))))] H := hP
      have hD : va_D A [(x0, .inr (8, [.ref k0, .ref h0, .ref c0, .ref t0, .ref m0, .ref d0, .ref s0, .ref o0, .int xu])), (k0, .inr (3, [.long w1, .long w2, .long ov, .int (nI hh)])), (t0, .inr (7, [.ref n0, .int (nI md)])), (n0, .inr (5, [.ref n1])), (n1, .inl (cJ, 64, .inr (.inl (nf))))] := hD
      subst hu
      exact W.lret (v := nf (2 * (2 ^ (hh - lv) + iv) + hf)) hx hb hr (fun t ht hW => ⟨⟨nf (2 * (2 ^ (hh - lv) + iv) + hf), (), rfl, by rw [ndA_y h4 hf1 hlv hiv hM, ← hN lv iv hlv hM]; exact hlf_at _ _ hf1, by rw [ht]; exact hP, va_K.moved hW.alike hK, hD⟩, hS.F ht⟩) hS.2.2 dX8_node_51
    ·
      rw [q_b0] at c23
      refine lv_lconst (v := lN 0) hx hb dX8_node_26 (by decide) ?_
      exact W.lret (v := lN 0) hx hb hr (fun t ht hW => ⟨⟨lN 0, (), rfl, ndA_n (fun q => by rw [q.2] at c23; exact absurd c23 (by decide)), by rw [ht]; exact hP, va_K.moved hW.alike hK, hD⟩, hS.F ht⟩) hS.2.2 dX8_node_27

set_option maxHeartbeats 4000000 in
set_option maxRecDepth 100000 in
theorem c_feed_no (l : Launch) (dC : Nat → ClassId) (dI : Nat → Nat → Nat) (cJ cI : ClassId) (x0 k0 h0 c0 t0 m0 d0 s0 o0 m1 : Nat) (xv : Int64) (xu : Int32) (ln : Nat) (mv : Nat → Int64) (hln : ln = 20) (sz : Nat) : Met l yX8_feed wsX8_feed ({ frames := 1, cells := 0, slots := 0, locals := 20 }) (va_Pc [.ref x0, .long xv] (st_B (dC, dI) vwCl [(cJ, .long), (cI, .int)] [(x0, .inr (8, [.ref k0, .ref h0, .ref c0, .ref t0, .ref m0, .ref d0, .ref s0, .ref o0, .int xu])), (m0, .inr (4, [.ref m1, .int (nI ln)])), (m1, .inl (cJ, 20, .inr (.inl (mv))))] sz)) (va_Qi (fun (r : Int32) (_ : Unit) => r = -1) (st_E (dC, dI) vwCl [(cJ, .long), (cI, .int)] (va_A [(x0, .inr (8, [.ref k0, .ref h0, .ref c0, .ref t0, .ref m0, .ref d0, .ref s0, .ref o0, .int xu])), (m0, .inr (4, [.ref m1, .int (nI ln)])), (m1, .inl (cJ, 20, .inr (.inl (mv))))] sz) (fun _ => [(x0, .inr (8, [.ref k0, .ref h0, .ref c0, .ref t0, .ref m0, .ref d0, .ref s0, .ref o0, .int xu])), (m0, .inr (4, [.ref m1, .int (nI ln)])), (m1, .inl (cJ, 20, .inr (.inl (mv))))])) (va_A [(x0, .inr (8, [.ref k0, .ref h0, .ref c0, .ref t0, .ref m0, .ref d0, .ref s0, .ref o0, .int xu])), (m0, .inr (4, [.ref m1, .int (nI ln)])), (m1, .inl (cJ, 20, .inr (.inl (mv))))] sz)) 0 0 (va_A [(x0, .inr (8, [.ref k0, .ref h0, .ref c0, .ref t0, .ref m0, .ref d0, .ref s0, .ref o0, .int xu])), (m0, .inr (4, [.ref m1, .int (nI ln)])), (m1, .inl (cJ, 20, .inr (.inl (mv))))] sz) := by
  refine Met.ofW (cc := cX8_feed) (maxL := 3) (ret := (some .int)) (by decide) rfl ?_
  intro p e s m args below meth c s₁ B hml hv
  obtain ⟨rfl, hsz, hP, hK, hD0⟩ := hv
  have hx := B.exec
  have hb := B.bytes
  have hr := B.returns
  have hts := atoms_spec (ws := wsX8_feed) B.pre
  have hown : s.vm.findClass RX8 = some m.cls := findClass_of_methodNamed B.named
  have hlocks := B.notSynchronized
  subst hsz
  have hD := hD0.self (sz := s.heap.size)
  generalize hAe : va_A [(x0, .inr (8, [.ref k0, .ref h0, .ref c0, .ref t0, .ref m0, .ref d0, .ref s0, .ref o0, .int xu])), (m0, .inr (4, [.ref m1, .int (nI ln)])), (m1, .inl (cJ, 20, .inr (.inl (mv))))] s.heap.size = A at hD ⊢
  have hA : ∀ q : Nat, s.heap.size ≤ q → A q := fun q h => by rw [← hAe]; exact Or.inr h
  have hS : va_S A s.heap s.heap [] := va_S.rf
  have hP : va_P (dC, dI) vwCl [(x0, .inr (8, [.ref k0, .ref h0, .ref c0, .ref t0, .ref m0, .ref d0, .ref s0, .ref o0, .int xu])), (m0, .inr (4, [.ref m1, .int (nI ln)])), (m1, .inl (cJ, 20, .inr (.inl (mv))))] s.heap := hP
  have hl := lv_entry ([.ref x0, .long xv]) (n := 3) (Nat.le_of_ble_eq_true rfl)
  rw [lg_entry_eq]
  generalize (lg_sl ([.ref x0, .long xv]) ++ List.replicate (3 - (lg_sl ([.ref x0, .long xv])).length) Slot.unset).toArray = ls at hl ⊢
  have iX8 : ∀ w ∈ wsX80, w ∈ wsX8_feed := by decide +kernel
  have f40 := hts (.fieldLink RX8 40 "LeafSigner" "message" "LLeafSigner$Message;") (by decide +kernel)
  have hl : lv_has ls 3 [(0, .ref x0), (1, .long xv)] := hl
  refine lv_aload_n hx hb dX8_feed_0 rfl (lv_at hl 0 rfl) ?_
  refine va_get (D := (dC, dI)) (ci := 8) (v := .ref m0) (C := RX8) (T := TX8) (N := 9) hx hb hts iX8 hown hK hP 0 rfl rfl 4 (by decide) f40 (fun _ h9 => h9) rfl dX8_feed_1 ?_
  refine st_calli (va_runV (As := []) (rest := []) ⟨hx, hb, hml, hown, hts⟩ (c_Message_isFull l dC dI cJ cI m0 m1 ln mv (by omega) s.heap.size) (cwV 0 hts gX8_feed_X4_isFull rfl rfl rfl (by decide +kernel) ⟨Nat.le_of_ble_eq_true rfl, Nat.le_of_ble_eq_true rfl⟩) (st_preV hK hP hD [1, 2] rfl rfl (ci := 4) (q0 := 0) rfl rfl) rfl rfl hl.1 rfl (lv_room (Nat.le_of_ble_eq_true rfl)) dX8_feed_4 ⟨Nat.le_of_ble_eq_true rfl, Nat.le_of_ble_eq_true rfl⟩) hP hD hS hA [1, 2] [0] (wr := [(x0, .inr (8, [.ref k0, .ref h0, .ref c0, .ref t0, .ref m0, .ref d0, .ref s0, .ref o0, .int xu]))]) rfl rfl (by decide) (by decide) [0, 1, 2] (res := fun _ => [(x0, .inr (8, [.ref k0, .ref h0, .ref c0, .ref t0, .ref m0, .ref d0, .ref s0, .ref o0, .int xu])), (m0, .inr (4, [.ref m1, .int (nI ln)])), (m1, .inl (cJ, 20, .inr (.inl (mv))))]) (fun _ => rfl) (by decide) (fun r_1 _ H locs hu hP hD hS => ?_)
  have hP : va_P (dC, dI) vwCl [(x0, .inr (8, [.ref k0, .ref h0, .ref c0, .ref t0, .ref m0, .ref d0, .ref s0, .ref o0, .int xu])), (m0, .inr (4, [.ref m1, .int (nI ln)])), (m1, .inl (cJ, 20, .inr (.inl (mv))))] H := hP
  have hD : va_D A [(x0, .inr (8, [.ref k0, .ref h0, .ref c0, .ref t0, .ref m0, .ref d0, .ref s0, .ref o0, .int xu])), (m0, .inr (4, [.ref m1, .int (nI ln)])), (m1, .inl (cJ, 20, .inr (.inl (mv))))] := hD
  subst hu
  refine lv_if_eq (tgt := 12) hx hb dX8_feed_7 (by decide) (fun c7 => ?_) (fun c7 => ?_)
  ·
    rw [q_b0] at c7
    exact absurd (by omega) (db_f c7)
  ·
    rw [q_b0] at c7
    refine lv_iconst (v := -1) hx hb dX8_feed_10 (by decide) ?_
    exact W.iret (v := -1) hx hb hr (fun t ht hW => ⟨⟨-1, (), rfl, rfl, by rw [ht]; exact hP, va_K.moved hW.alike hK, hD⟩, hS.F ht⟩) hS.2.2 dX8_feed_11

set_option maxHeartbeats 4000000 in
set_option maxRecDepth 100000 in
theorem c_feed_ok (l : Launch) (dC : Nat → ClassId) (dI : Nat → Nat → Nat) (cJ cI : ClassId) (x0 k0 h0 c0 t0 m0 d0 s0 o0 m1 : Nat) (xv : Int64) (xu : Int32) (ln : Nat) (mv : Nat → Int64) (hln : ln < 20) (sz : Nat) : Met l yX8_feed wsX8_feed ({ frames := 1, cells := 0, slots := 0, locals := 22 }) (va_Pc [.ref x0, .long xv] (st_B (dC, dI) vwCl [(cJ, .long), (cI, .int)] [(x0, .inr (8, [.ref k0, .ref h0, .ref c0, .ref t0, .ref m0, .ref d0, .ref s0, .ref o0, .int xu])), (m0, .inr (4, [.ref m1, .int (nI ln)])), (m1, .inl (cJ, 20, .inr (.inl (mv))))] sz)) (va_Qi (fun (r : Int32) (_ : Unit) => r = nI (ln + 1)) (st_E (dC, dI) vwCl [(cJ, .long), (cI, .int)] (va_A [(x0, .inr (8, [.ref k0, .ref h0, .ref c0, .ref t0, .ref m0, .ref d0, .ref s0, .ref o0, .int xu])), (m0, .inr (4, [.ref m1, .int (nI ln)])), (m1, .inl (cJ, 20, .inr (.inl (mv))))] sz) (fun _ => [(x0, .inr (8, [.ref k0, .ref h0, .ref c0, .ref t0, .ref m0, .ref d0, .ref s0, .ref o0, .int xu])), (m0, .inr (4, [.ref m1, .int (nI (ln + 1))])), (m1, .inl (cJ, 20, .inr (.inl (vp_updL mv ln xv))))])) (va_A [(x0, .inr (8, [.ref k0, .ref h0, .ref c0, .ref t0, .ref m0, .ref d0, .ref s0, .ref o0, .int xu])), (m0, .inr (4, [.ref m1, .int (nI ln)])), (m1, .inl (cJ, 20, .inr (.inl (mv))))] sz)) 0 0 (va_A [(x0, .inr (8, [.ref k0, .ref h0, .ref c0, .ref t0, .ref m0, .ref d0, .ref s0, .ref o0, .int xu])), (m0, .inr (4, [.ref m1, .int (nI ln)])), (m1, .inl (cJ, 20, .inr (.inl (mv))))] sz) := by
  refine Met.ofW (cc := cX8_feed) (maxL := 3) (ret := (some .int)) (by decide) rfl ?_
  intro p e s m args below meth c s₁ B hml hv
  obtain ⟨rfl, hsz, hP, hK, hD0⟩ := hv
  have hx := B.exec
  have hb := B.bytes
  have hr := B.returns
  have hts := atoms_spec (ws := wsX8_feed) B.pre
  have hown : s.vm.findClass RX8 = some m.cls := findClass_of_methodNamed B.named
  have hlocks := B.notSynchronized
  subst hsz
  have hD := hD0.self (sz := s.heap.size)
  generalize hAe : va_A [(x0, .inr (8, [.ref k0, .ref h0, .ref c0, .ref t0, .ref m0, .ref d0, .ref s0, .ref o0, .int xu])), (m0, .inr (4, [.ref m1, .int (nI ln)])), (m1, .inl (cJ, 20, .inr (.inl (mv))))] s.heap.size = A at hD ⊢
  have hA : ∀ q : Nat, s.heap.size ≤ q → A q := fun q h => by rw [← hAe]; exact Or.inr h
  have hS : va_S A s.heap s.heap [] := va_S.rf
  have hP : va_P (dC, dI) vwCl [(x0, .inr (8, [.ref k0, .ref h0, .ref c0, .ref t0, .ref m0, .ref d0, .ref s0, .ref o0, .int xu])), (m0, .inr (4, [.ref m1, .int (nI ln)])), (m1, .inl (cJ, 20, .inr (.inl (mv))))] s.heap := hP
  have hl := lv_entry ([.ref x0, .long xv]) (n := 3) (Nat.le_of_ble_eq_true rfl)
  rw [lg_entry_eq]
  generalize (lg_sl ([.ref x0, .long xv]) ++ List.replicate (3 - (lg_sl ([.ref x0, .long xv])).length) Slot.unset).toArray = ls at hl ⊢
  have iX8 : ∀ w ∈ wsX80, w ∈ wsX8_feed := by decide +kernel
  have iX4 : ∀ w ∈ wsX40, w ∈ wsX8_feed := by decide +kernel
  have f40 := hts (.fieldLink RX8 40 "LeafSigner" "message" "LLeafSigner$Message;") (by decide +kernel)
  have f141 := hts (.fieldLink RX8 141 "LeafSigner$Message" "size" "I") (by decide +kernel)
  have hl : lv_has ls 3 [(0, .ref x0), (1, .long xv)] := hl
  refine lv_aload_n hx hb dX8_feed_0 rfl (lv_at hl 0 rfl) ?_
  refine va_get (D := (dC, dI)) (ci := 8) (v := .ref m0) (C := RX8) (T := TX8) (N := 9) hx hb hts iX8 hown hK hP 0 rfl rfl 4 (by decide) f40 (fun _ h9 => h9) rfl dX8_feed_1 ?_
  refine st_calli (va_runV (As := []) (rest := []) ⟨hx, hb, hml, hown, hts⟩ (c_Message_isFull l dC dI cJ cI m0 m1 ln mv (by omega) s.heap.size) (cwV 0 hts gX8_feed_X4_isFull rfl rfl rfl (by decide +kernel) ⟨Nat.le_of_ble_eq_true rfl, Nat.le_of_ble_eq_true rfl⟩) (st_preV hK hP hD [1, 2] rfl rfl (ci := 4) (q0 := 0) rfl rfl) rfl rfl hl.1 rfl (lv_room (Nat.le_of_ble_eq_true rfl)) dX8_feed_4 ⟨Nat.le_of_ble_eq_true rfl, Nat.le_of_ble_eq_true rfl⟩) hP hD hS hA [1, 2] [0] (wr := [(x0, .inr (8, [.ref k0, .ref h0, .ref c0, .ref t0, .ref m0, .ref d0, .ref s0, .ref o0, .int xu]))]) rfl rfl (by decide) (by decide) [0, 1, 2] (res := fun _ => [(x0, .inr (8, [.ref k0, .ref h0, .ref c0, .ref t0, .ref m0, .ref d0, .ref s0, .ref o0, .int xu])), (m0, .inr (4, [.ref m1, .int (nI ln)])), (m1, .inl (cJ, 20, .inr (.inl (mv))))]) (fun _ => rfl) (by decide) (fun r_1 _ H locs hu hP hD hS => ?_)
  have hP : va_P (dC, dI) vwCl [(x0, .inr (8, [.ref k0, .ref h0, .ref c0, .ref t0, .ref m0, .ref d0, .ref s0, .ref o0, .int xu])), (m0, .inr (4, [.ref m1, .int (nI ln)])), (m1, .inl (cJ, 20, .inr (.inl (mv))))] H := hP
  have hD : va_D A [(x0, .inr (8, [.ref k0, .ref h0, .ref c0, .ref t0, .ref m0, .ref d0, .ref s0, .ref o0, .int xu])), (m0, .inr (4, [.ref m1, .int (nI ln)])), (m1, .inl (cJ, 20, .inr (.inl (mv))))] := hD
  subst hu
  refine lv_if_eq (tgt := 12) hx hb dX8_feed_7 (by decide) (fun c7 => ?_) (fun c7 => ?_)
  ·
    rw [q_b0] at c7
    refine lv_aload_n hx hb dX8_feed_12 rfl (lv_at hl 0 rfl) ?_
    refine va_get (D := (dC, dI)) (ci := 8) (v := .ref m0) (C := RX8) (T := TX8) (N := 9) hx hb hts iX8 hown hK hP 0 rfl rfl 4 (by decide) f40 (fun _ h9 => h9) rfl dX8_feed_13 ?_
    refine lv_lload_n hx hb dX8_feed_16 rfl (lv_at hl 1 rfl) ?_
    refine st_callv (va_runV (As := [.long xv]) (rest := []) ⟨hx, hb, hml, hown, hts⟩ (c_Message_append l dC dI cJ cI m0 m1 ln mv xv (by omega) H.size) (cwV 1 hts gX8_feed_X4_append rfl rfl rfl (by decide +kernel) ⟨Nat.le_of_ble_eq_true rfl, Nat.le_of_ble_eq_true rfl⟩) (st_preV hK hP hD [1, 2] rfl rfl (ci := 4) (q0 := 0) rfl rfl) rfl rfl hl.1 rfl (lv_room (Nat.le_of_ble_eq_true rfl)) dX8_feed_17 ⟨Nat.le_of_ble_eq_true rfl, Nat.le_of_ble_eq_true rfl⟩) hP hD hS hA [1, 2] [0] (wr := [(x0, .inr (8, [.ref k0, .ref h0, .ref c0, .ref t0, .ref m0, .ref d0, .ref s0, .ref o0, .int xu]))]) rfl rfl (by decide) (by decide) [0, 1, 2] (res := fun _ => [(x0, .inr (8, [.ref k0, .ref h0, .ref c0, .ref t0, .ref m0, .ref d0, .ref s0, .ref o0, .int xu])), (m0, .inr (4, [.ref m1, .int (nI (ln + 1))])), (m1, .inl (cJ, 20, .inr (.inl (vp_updL mv ln xv))))]) (fun _ => rfl) (by decide) (fun  _ H locs hu hP hD hS => ?_)
    have hP : va_P (dC, dI) vwCl [(x0, .inr (8, [.ref k0, .ref h0, .ref c0, .ref t0, .ref m0, .ref d0, .ref s0, .ref o0, .int xu])), (m0, .inr (4, [.ref m1, .int (nI (ln + 1))])), (m1, .inl (cJ, 20, .inr (.inl (vp_updL mv ln xv))))] H := hP
    have hD : va_D A [(x0, .inr (8, [.ref k0, .ref h0, .ref c0, .ref t0, .ref m0, .ref d0, .ref s0, .ref o0, .int xu])), (m0, .inr (4, [.ref m1, .int (nI (ln + 1))])), (m1, .inl (cJ, 20, .inr (.inl (vp_updL mv ln xv))))] := hD
    refine lv_aload_n hx hb dX8_feed_20 rfl (lv_at hl 0 rfl) ?_
    refine va_get (D := (dC, dI)) (ci := 8) (v := .ref m0) (C := RX8) (T := TX8) (N := 9) hx hb hts iX8 hown hK hP 0 rfl rfl 4 (by decide) f40 (fun _ h9 => h9) rfl dX8_feed_21 ?_
    refine va_get (D := (dC, dI)) (ci := 4) (v := .int (nI (ln + 1))) (C := RX4) (T := TX4) (N := 2) hx hb hts iX4 hown hK hP 1 rfl rfl 1 (by decide) f141 (fun _ h9 => h9) rfl dX8_feed_24 ?_
    exact W.iret (v := nI (ln + 1)) hx hb hr (fun t ht hW => ⟨⟨nI (ln + 1), (), rfl, rfl, by rw [ht]; exact hP, va_K.moved hW.alike hK, hD⟩, hS.F ht⟩) hS.2.2 dX8_feed_27
  ·
    rw [q_b0] at c7
    exact absurd (db_t c7) (by omega)

set_option maxHeartbeats 4000000 in
set_option maxRecDepth 100000 in
theorem c_LeafSigner_reset (l : Launch) (dC : Nat → ClassId) (dI : Nat → Nat → Nat) (cJ cI : ClassId) (x0 k0 h0 c0 t0 m0 d0 s0 o0 m1 : Nat) (xu : Int32) (ln : Nat) (mv : Nat → Int64) (sz : Nat) : Met l yX8_reset wsX8_reset ({ frames := 1, cells := 0, slots := 0, locals := 20 }) (va_Pc [.ref x0] (st_B (dC, dI) vwCl [(cJ, .long), (cI, .int)] [(x0, .inr (8, [.ref k0, .ref h0, .ref c0, .ref t0, .ref m0, .ref d0, .ref s0, .ref o0, .int xu])), (m0, .inr (4, [.ref m1, .int (nI ln)])), (m1, .inl (cJ, 20, .inr (.inl (mv))))] sz)) (va_Qi (fun (r : Int32) (_ : Unit) => r = nI ln) (st_E (dC, dI) vwCl [(cJ, .long), (cI, .int)] (va_A [(x0, .inr (8, [.ref k0, .ref h0, .ref c0, .ref t0, .ref m0, .ref d0, .ref s0, .ref o0, .int xu])), (m0, .inr (4, [.ref m1, .int (nI ln)])), (m1, .inl (cJ, 20, .inr (.inl (mv))))] sz) (fun _ => [(x0, .inr (8, [.ref k0, .ref h0, .ref c0, .ref t0, .ref m0, .ref d0, .ref s0, .ref o0, .int xu])), (m0, .inr (4, [.ref m1, .int (nI 0)])), (m1, .inl (cJ, 20, .inr (.inl (mv))))])) (va_A [(x0, .inr (8, [.ref k0, .ref h0, .ref c0, .ref t0, .ref m0, .ref d0, .ref s0, .ref o0, .int xu])), (m0, .inr (4, [.ref m1, .int (nI ln)])), (m1, .inl (cJ, 20, .inr (.inl (mv))))] sz)) 0 0 (va_A [(x0, .inr (8, [.ref k0, .ref h0, .ref c0, .ref t0, .ref m0, .ref d0, .ref s0, .ref o0, .int xu])), (m0, .inr (4, [.ref m1, .int (nI ln)])), (m1, .inl (cJ, 20, .inr (.inl (mv))))] sz) := by
  refine Met.ofW (cc := cX8_reset) (maxL := 2) (ret := (some .int)) (by decide) rfl ?_
  intro p e s m args below meth c s₁ B hml hv
  obtain ⟨rfl, hsz, hP, hK, hD0⟩ := hv
  have hx := B.exec
  have hb := B.bytes
  have hr := B.returns
  have hts := atoms_spec (ws := wsX8_reset) B.pre
  have hown : s.vm.findClass RX8 = some m.cls := findClass_of_methodNamed B.named
  have hlocks := B.notSynchronized
  subst hsz
  have hD := hD0.self (sz := s.heap.size)
  generalize hAe : va_A [(x0, .inr (8, [.ref k0, .ref h0, .ref c0, .ref t0, .ref m0, .ref d0, .ref s0, .ref o0, .int xu])), (m0, .inr (4, [.ref m1, .int (nI ln)])), (m1, .inl (cJ, 20, .inr (.inl (mv))))] s.heap.size = A at hD ⊢
  have hA : ∀ q : Nat, s.heap.size ≤ q → A q := fun q h => by rw [← hAe]; exact Or.inr h
  have hS : va_S A s.heap s.heap [] := va_S.rf
  have hP : va_P (dC, dI) vwCl [(x0, .inr (8, [.ref k0, .ref h0, .ref c0, .ref t0, .ref m0, .ref d0, .ref s0, .ref o0, .int xu])), (m0, .inr (4, [.ref m1, .int (nI ln)])), (m1, .inl (cJ, 20, .inr (.inl (mv))))] s.heap := hP
  have hl := lv_entry ([.ref x0]) (n := 2) (Nat.le_of_ble_eq_true rfl)
  rw [lg_entry_eq]
  generalize (lg_sl ([.ref x0]) ++ List.replicate (2 - (lg_sl ([.ref x0])).length) Slot.unset).toArray = ls at hl ⊢
  have iX8 : ∀ w ∈ wsX80, w ∈ wsX8_reset := by decide +kernel
  have iX4 : ∀ w ∈ wsX40, w ∈ wsX8_reset := by decide +kernel
  have f40 := hts (.fieldLink RX8 40 "LeafSigner" "message" "LLeafSigner$Message;") (by decide +kernel)
  have f141 := hts (.fieldLink RX8 141 "LeafSigner$Message" "size" "I") (by decide +kernel)
  have hl : lv_has ls 2 [(0, .ref x0)] := hl
  refine lv_aload_n hx hb dX8_reset_0 rfl (lv_at hl 0 rfl) ?_
  refine va_get (D := (dC, dI)) (ci := 8) (v := .ref m0) (C := RX8) (T := TX8) (N := 9) hx hb hts iX8 hown hK hP 0 rfl rfl 4 (by decide) f40 (fun _ h9 => h9) rfl dX8_reset_1 ?_
  refine va_get (D := (dC, dI)) (ci := 4) (v := .int (nI ln)) (C := RX4) (T := TX4) (N := 2) hx hb hts iX4 hown hK hP 1 rfl rfl 1 (by decide) f141 (fun _ h9 => h9) rfl dX8_reset_4 ?_
  refine lv_istore_n (lv' := [(1, .int (nI ln)), (0, .ref x0)]) hx hb dX8_reset_7 rfl hl (by decide) rfl (fun ls hl => ?_)
  refine lv_aload_n hx hb dX8_reset_8 rfl (lv_at hl 1 rfl) ?_
  refine va_get (D := (dC, dI)) (ci := 8) (v := .ref m0) (C := RX8) (T := TX8) (N := 9) hx hb hts iX8 hown hK hP 0 rfl rfl 4 (by decide) f40 (fun _ h9 => h9) rfl dX8_reset_9 ?_
  refine st_callv (va_runV (As := []) (rest := []) ⟨hx, hb, hml, hown, hts⟩ (c_Message_clear l dC dI cJ cI m0 m1 ln mv  s.heap.size) (cwV 0 hts gX8_reset_X4_clear rfl rfl rfl (by decide +kernel) ⟨Nat.le_of_ble_eq_true rfl, Nat.le_of_ble_eq_true rfl⟩) (st_preV hK hP hD [1, 2] rfl rfl (ci := 4) (q0 := 0) rfl rfl) rfl rfl hl.1 rfl (lv_room (Nat.le_of_ble_eq_true rfl)) dX8_reset_12 ⟨Nat.le_of_ble_eq_true rfl, Nat.le_of_ble_eq_true rfl⟩) hP hD hS hA [1, 2] [0] (wr := [(x0, .inr (8, [.ref k0, .ref h0, .ref c0, .ref t0, .ref m0, .ref d0, .ref s0, .ref o0, .int xu]))]) rfl rfl (by decide) (by decide) [0, 1, 2] (res := fun _ => [(x0, .inr (8, [.ref k0, .ref h0, .ref c0, .ref t0, .ref m0, .ref d0, .ref s0, .ref o0, .int xu])), (m0, .inr (4, [.ref m1, .int (nI 0)])), (m1, .inl (cJ, 20, .inr (.inl (mv))))]) (fun _ => rfl) (by decide) (fun  _ H locs hu hP hD hS => ?_)
  have hP : va_P (dC, dI) vwCl [(x0, .inr (8, [.ref k0, .ref h0, .ref c0, .ref t0, .ref m0, .ref d0, .ref s0, .ref o0, .int xu])), (m0, .inr (4, [.ref m1, .int (nI 0)])), (m1, .inl (cJ, 20, .inr (.inl (mv))))] H := hP
  have hD : va_D A [(x0, .inr (8, [.ref k0, .ref h0, .ref c0, .ref t0, .ref m0, .ref d0, .ref s0, .ref o0, .int xu])), (m0, .inr (4, [.ref m1, .int (nI 0)])), (m1, .inl (cJ, 20, .inr (.inl (mv))))] := hD
  refine lv_iload_n hx hb dX8_reset_15 rfl (lv_at hl 0 rfl) ?_
  exact W.iret (v := nI ln) hx hb hr (fun t ht hW => ⟨⟨nI ln, (), rfl, rfl, by rw [ht]; exact hP, va_K.moved hW.alike hK, hD⟩, hS.F ht⟩) hS.2.2 dX8_reset_16

set_option maxHeartbeats 4000000 in
set_option maxRecDepth 100000 in
theorem c_LeafSigner_leaf (l : Launch) (dC : Nat → ClassId) (dI : Nat → Nat → Nat) (cJ cI : ClassId) (x0 k0 h0 c0 t0 m0 d0 s0 o0 p0 : Nat) (xu xl xn : Int32) (sz : Nat) : Met l yX8_leaf wsX8_leaf ({ frames := 0, cells := 0, slots := 0, locals := 0 }) (va_Pc [.ref x0] (st_B (dC, dI) vwCl [(cJ, .long), (cI, .int)] [(x0, .inr (8, [.ref k0, .ref h0, .ref c0, .ref t0, .ref m0, .ref d0, .ref s0, .ref o0, .int xu])), (s0, .inr (6, [.ref p0, .int xl, .int xn]))] sz)) (va_Qi (fun (r : Int32) (_ : Unit) => r = xl) (st_E (dC, dI) vwCl [(cJ, .long), (cI, .int)] (va_A [(x0, .inr (8, [.ref k0, .ref h0, .ref c0, .ref t0, .ref m0, .ref d0, .ref s0, .ref o0, .int xu])), (s0, .inr (6, [.ref p0, .int xl, .int xn]))] sz) (fun _ => [(x0, .inr (8, [.ref k0, .ref h0, .ref c0, .ref t0, .ref m0, .ref d0, .ref s0, .ref o0, .int xu])), (s0, .inr (6, [.ref p0, .int xl, .int xn]))])) (va_A [(x0, .inr (8, [.ref k0, .ref h0, .ref c0, .ref t0, .ref m0, .ref d0, .ref s0, .ref o0, .int xu])), (s0, .inr (6, [.ref p0, .int xl, .int xn]))] sz)) 0 0 (va_A [(x0, .inr (8, [.ref k0, .ref h0, .ref c0, .ref t0, .ref m0, .ref d0, .ref s0, .ref o0, .int xu])), (s0, .inr (6, [.ref p0, .int xl, .int xn]))] sz) := by
  refine Met.ofW (cc := cX8_leaf) (maxL := 1) (ret := (some .int)) (by decide) rfl ?_
  intro p e s m args below meth c s₁ B hml hv
  obtain ⟨rfl, hsz, hP, hK, hD0⟩ := hv
  have hx := B.exec
  have hb := B.bytes
  have hr := B.returns
  have hts := atoms_spec (ws := wsX8_leaf) B.pre
  have hown : s.vm.findClass RX8 = some m.cls := findClass_of_methodNamed B.named
  have hlocks := B.notSynchronized
  subst hsz
  have hD := hD0.self (sz := s.heap.size)
  generalize hAe : va_A [(x0, .inr (8, [.ref k0, .ref h0, .ref c0, .ref t0, .ref m0, .ref d0, .ref s0, .ref o0, .int xu])), (s0, .inr (6, [.ref p0, .int xl, .int xn]))] s.heap.size = A at hD ⊢
  have hA : ∀ q : Nat, s.heap.size ≤ q → A q := fun q h => by rw [← hAe]; exact Or.inr h
  have hS : va_S A s.heap s.heap [] := va_S.rf
  have hP : va_P (dC, dI) vwCl [(x0, .inr (8, [.ref k0, .ref h0, .ref c0, .ref t0, .ref m0, .ref d0, .ref s0, .ref o0, .int xu])), (s0, .inr (6, [.ref p0, .int xl, .int xn]))] s.heap := hP
  have hl := lv_entry ([.ref x0]) (n := 1) (Nat.le_of_ble_eq_true rfl)
  rw [lg_entry_eq]
  generalize (lg_sl ([.ref x0]) ++ List.replicate (1 - (lg_sl ([.ref x0])).length) Slot.unset).toArray = ls at hl ⊢
  have iX8 : ∀ w ∈ wsX80, w ∈ wsX8_leaf := by decide +kernel
  have iX6 : ∀ w ∈ wsX60, w ∈ wsX8_leaf := by decide +kernel
  have f54 := hts (.fieldLink RX8 54 "LeafSigner" "signature" "LLeafSigner$Signature;") (by decide +kernel)
  have f176 := hts (.fieldLink RX8 176 "LeafSigner$Signature" "leaf" "I") (by decide +kernel)
  have hl : lv_has ls 1 [(0, .ref x0)] := hl
  refine lv_aload_n hx hb dX8_leaf_0 rfl (lv_at hl 0 rfl) ?_
  refine va_get (D := (dC, dI)) (ci := 8) (v := .ref s0) (C := RX8) (T := TX8) (N := 9) hx hb hts iX8 hown hK hP 0 rfl rfl 6 (by decide) f54 (fun _ h9 => h9) rfl dX8_leaf_1 ?_
  refine va_get (D := (dC, dI)) (ci := 6) (v := .int xl) (C := RX6) (T := TX6) (N := 3) hx hb hts iX6 hown hK hP 1 rfl rfl 1 (by decide) f176 (fun _ h9 => h9) rfl dX8_leaf_4 ?_
  exact W.iret (v := xl) hx hb hr (fun t ht hW => ⟨⟨xl, (), rfl, rfl, by rw [ht]; exact hP, va_K.moved hW.alike hK, hD⟩, hS.F ht⟩) hS.2.2 dX8_leaf_7

set_option maxHeartbeats 4000000 in
set_option maxRecDepth 100000 in
theorem c_LeafSigner_part (l : Launch) (dC : Nat → ClassId) (dI : Nat → Nat → Nat) (cJ cI : ClassId) (x0 k0 h0 c0 t0 m0 d0 s0 o0 p0 p1 : Nat) (xu xl xk xh : Int32) (sn : Nat) (PP : Nat → Int64 × Int64) (hs : sn ≤ 39) (sz : Nat) : Met l yX8_part wsX8_part ({ frames := 1, cells := 0, slots := 0, locals := 22 }) (va_Pc [.ref x0, .int xk, .int xh] (st_B (dC, dI) vwCl [(cJ, .long), (cI, .int)] [(x0, .inr (8, [.ref k0, .ref h0, .ref c0, .ref t0, .ref m0, .ref d0, .ref s0, .ref o0, .int xu])), (s0, .inr (6, [.ref p0, .int xl, .int (nI sn)])), (p0, .inr (5, [.ref p1])), (p1, .inl (cJ, 78, .inr (.inl (pr PP))))] sz)) (va_Ql (fun (r : Int64) (_ : Unit) => r = ptA PP sn xk xh) (st_E (dC, dI) vwCl [(cJ, .long), (cI, .int)] (va_A [(x0, .inr (8, [.ref k0, .ref h0, .ref c0, .ref t0, .ref m0, .ref d0, .ref s0, .ref o0, .int xu])), (s0, .inr (6, [.ref p0, .int xl, .int (nI sn)])), (p0, .inr (5, [.ref p1])), (p1, .inl (cJ, 78, .inr (.inl (pr PP))))] sz) (fun _ => [(x0, .inr (8, [.ref k0, .ref h0, .ref c0, .ref t0, .ref m0, .ref d0, .ref s0, .ref o0, .int xu])), (s0, .inr (6, [.ref p0, .int xl, .int (nI sn)])), (p0, .inr (5, [.ref p1])), (p1, .inl (cJ, 78, .inr (.inl (pr PP))))])) (va_A [(x0, .inr (8, [.ref k0, .ref h0, .ref c0, .ref t0, .ref m0, .ref d0, .ref s0, .ref o0, .int xu])), (s0, .inr (6, [.ref p0, .int xl, .int (nI sn)])), (p0, .inr (5, [.ref p1])), (p1, .inl (cJ, 78, .inr (.inl (pr PP))))] sz)) 0 0 (va_A [(x0, .inr (8, [.ref k0, .ref h0, .ref c0, .ref t0, .ref m0, .ref d0, .ref s0, .ref o0, .int xu])), (s0, .inr (6, [.ref p0, .int xl, .int (nI sn)])), (p0, .inr (5, [.ref p1])), (p1, .inl (cJ, 78, .inr (.inl (pr PP))))] sz) := by
  refine Met.ofW (cc := cX8_part) (maxL := 3) (ret := (some .long)) (by decide) rfl ?_
  intro p e s m args below meth c s₁ B hml hv
  obtain ⟨rfl, hsz, hP, hK, hD0⟩ := hv
  have hx := B.exec
  have hb := B.bytes
  have hr := B.returns
  have hts := atoms_spec (ws := wsX8_part) B.pre
  have hown : s.vm.findClass RX8 = some m.cls := findClass_of_methodNamed B.named
  have hlocks := B.notSynchronized
  subst hsz
  have hD := hD0.self (sz := s.heap.size)
  generalize hAe : va_A [(x0, .inr (8, [.ref k0, .ref h0, .ref c0, .ref t0, .ref m0, .ref d0, .ref s0, .ref o0, .int xu])), (s0, .inr (6, [.ref p0, .int xl, .int (nI sn)])), (p0, .inr (5, [.ref p1])), (p1, .inl (cJ, 78, .inr (.inl (pr PP))))] s.heap.size = A at hD ⊢
  have hA : ∀ q : Nat, s.heap.size ≤ q → A q := fun q h => by rw [← hAe]; exact Or.inr h
  have hS : va_S A s.heap s.heap [] := va_S.rf
  have hP : va_P (dC, dI) vwCl [(x0, .inr (8, [.ref k0, .ref h0, .ref c0, .ref t0, .ref m0, .ref d0, .ref s0, .ref o0, .int xu])), (s0, .inr (6, [.ref p0, .int xl, .int (nI sn)])), (p0, .inr (5, [.ref p1])), (p1, .inl (cJ, 78, .inr (.inl (pr PP))))] s.heap := hP
  have hl := lv_entry ([.ref x0, .int xk, .int xh]) (n := 3) (Nat.le_of_ble_eq_true rfl)
  rw [lg_entry_eq]
  generalize (lg_sl ([.ref x0, .int xk, .int xh]) ++ List.replicate (3 - (lg_sl ([.ref x0, .int xk, .int xh])).length) Slot.unset).toArray = ls at hl ⊢
  have iX8 : ∀ w ∈ wsX80, w ∈ wsX8_part := by decide +kernel
  have iX6 : ∀ w ∈ wsX60, w ∈ wsX8_part := by decide +kernel
  have f54 := hts (.fieldLink RX8 54 "LeafSigner" "signature" "LLeafSigner$Signature;") (by decide +kernel)
  have f162 := hts (.fieldLink RX8 162 "LeafSigner$Signature" "parts" "LLeafSigner$Pairs;") (by decide +kernel)
  have hl : lv_has ls 3 [(0, .ref x0), (1, .int xk), (2, .int xh)] := hl
  refine lv_iload_n hx hb dX8_part_0 rfl (lv_at hl 2 rfl) ?_
  refine st_calli (va_runS (As := [.int xh]) (rest := []) ⟨hx, hb, hml, hown, hts⟩ (c_LeafSigner_isHalf l dC dI cJ cI  xh  s.heap.size) (va_cwS 1 hts gX8_part_X8_isHalf rfl rfl rfl (by decide +kernel) ⟨Nat.le_of_ble_eq_true rfl, Nat.le_of_ble_eq_true rfl⟩) (st_preS hK hP hD [] rfl rfl) rfl rfl hl.1 rfl (lv_room (Nat.le_of_ble_eq_true rfl)) dX8_part_1 ⟨Nat.le_of_ble_eq_true rfl, Nat.le_of_ble_eq_true rfl⟩) hP hD hS hA [] [0, 1, 2, 3] (wr := [(x0, .inr (8, [.ref k0, .ref h0, .ref c0, .ref t0, .ref m0, .ref d0, .ref s0, .ref o0, .int xu])), (s0, .inr (6, [.ref p0, .int xl, .int (nI sn)])), (p0, .inr (5, [.ref p1])), (p1, .inl (cJ, 78, .inr (.inl (pr PP))))]) rfl rfl (by decide) (by decide) [0, 1, 2, 3] (res := fun _ => [(x0, .inr (8, [.ref k0, .ref h0, .ref c0, .ref t0, .ref m0, .ref d0, .ref s0, .ref o0, .int xu])), (s0, .inr (6, [.ref p0, .int xl, .int (nI sn)])), (p0, .inr (5, [.ref p1])), (p1, .inl (cJ, 78, .inr (.inl (pr PP))))]) (fun _ => rfl) (by decide) (fun r_1 _ H locs hu hP hD hS => ?_)
  have hP : va_P (dC, dI) vwCl [(x0, .inr (8, [.ref k0, .ref h0, .ref c0, .ref t0, .ref m0, .ref d0, .ref s0, .ref o0, .int xu])), (s0, .inr (6, [.ref p0, .int xl, .int (nI sn)])), (p0, .inr (5, [.ref p1])), (p1, .inl (cJ, 78, .inr (.inl (pr PP))))] H := hP
  have hD : va_D A [(x0, .inr (8, [.ref k0, .ref h0, .ref c0, .ref t0, .ref m0, .ref d0, .ref s0, .ref o0, .int xu])), (s0, .inr (6, [.ref p0, .int xl, .int (nI sn)])), (p0, .inr (5, [.ref p1])), (p1, .inl (cJ, 78, .inr (.inl (pr PP))))] := hD
  subst hu
  refine lv_if_eq (tgt := 18) hx hb dX8_part_4 (by decide) (fun c4 => ?_) (fun c4 => ?_)
  ·
    rw [q_b0] at c4
    refine lv_lconst (v := lN 0) hx hb dX8_part_18 (by decide) ?_
    exact W.lret (v := lN 0) hx hb hr (fun t ht hW => ⟨⟨lN 0, (), rfl, ptA_n (fun q => db_f c4 q.1), by rw [ht]; exact hP, va_K.moved hW.alike hK, hD⟩, hS.F ht⟩) hS.2.2 dX8_part_19
  ·
    rw [q_b0] at c4
    refine lv_aload_n hx hb dX8_part_7 rfl (lv_at hl 0 rfl) ?_
    refine va_get (D := (dC, dI)) (ci := 8) (v := .ref s0) (C := RX8) (T := TX8) (N := 9) hx hb hts iX8 hown hK hP 0 rfl rfl 6 (by decide) f54 (fun _ h9 => h9) rfl dX8_part_8 ?_
    refine lv_iload_n hx hb dX8_part_11 rfl (lv_at hl 1 rfl) ?_
    refine st_calli (va_runV (As := [.int xk]) (rest := []) ⟨hx, hb, hml, hown, hts⟩ (c_Signature_hasPart l dC dI cJ cI s0 p0 xl (nI sn) xk  H.size) (cwV 1 hts gX8_part_X6_hasPart rfl rfl rfl (by decide +kernel) ⟨Nat.le_of_ble_eq_true rfl, Nat.le_of_ble_eq_true rfl⟩) (st_preV hK hP hD [1] rfl rfl (ci := 6) (q0 := 0) rfl rfl) rfl rfl hl.1 rfl (lv_room (Nat.le_of_ble_eq_true rfl)) dX8_part_12 ⟨Nat.le_of_ble_eq_true rfl, Nat.le_of_ble_eq_true rfl⟩) hP hD hS hA [1] [0, 2, 3] (wr := [(x0, .inr (8, [.ref k0, .ref h0, .ref c0, .ref t0, .ref m0, .ref d0, .ref s0, .ref o0, .int xu])), (p0, .inr (5, [.ref p1])), (p1, .inl (cJ, 78, .inr (.inl (pr PP))))]) rfl rfl (by decide) (by decide) [0, 3, 1, 2] (res := fun _ => [(x0, .inr (8, [.ref k0, .ref h0, .ref c0, .ref t0, .ref m0, .ref d0, .ref s0, .ref o0, .int xu])), (s0, .inr (6, [.ref p0, .int xl, .int (nI sn)])), (p0, .inr (5, [.ref p1])), (p1, .inl (cJ, 78, .inr (.inl (pr PP))))]) (fun _ => rfl) (by decide) (fun r_2 _ H locs hu hP hD hS => ?_)
    have hP : va_P (dC, dI) vwCl [(x0, .inr (8, [.ref k0, .ref h0, .ref c0, .ref t0, .ref m0, .ref d0, .ref s0, .ref o0, .int xu])), (s0, .inr (6, [.ref p0, .int xl, .int (nI sn)])), (p0, .inr (5, [.ref p1])), (p1, .inl (cJ, 78, .inr (.inl (pr PP))))] H := hP
    have hD : va_D A [(x0, .inr (8, [.ref k0, .ref h0, .ref c0, .ref t0, .ref m0, .ref d0, .ref s0, .ref o0, .int xu])), (s0, .inr (6, [.ref p0, .int xl, .int (nI sn)])), (p0, .inr (5, [.ref p1])), (p1, .inl (cJ, 78, .inr (.inl (pr PP))))] := hD
    subst hu
    refine lv_if_ne (tgt := 20) hx hb dX8_part_15 (by decide) (fun c15 => ?_) (fun c15 => ?_)
    ·
      rw [q_b0] at c15
      obtain ⟨k, hk, rfl⟩ := i_le (by omega) (db_t c15).1 (db_t c15).2
      obtain ⟨hf, hf1, rfl⟩ := half_get (db_t c4)
      refine lv_aload_n hx hb dX8_part_20 rfl (lv_at hl 0 rfl) ?_
      refine va_get (D := (dC, dI)) (ci := 8) (v := .ref s0) (C := RX8) (T := TX8) (N := 9) hx hb hts iX8 hown hK hP 0 rfl rfl 6 (by decide) f54 (fun _ h9 => h9) rfl dX8_part_21 ?_
      refine va_get (D := (dC, dI)) (ci := 6) (v := .ref p0) (C := RX6) (T := TX6) (N := 3) hx hb hts iX6 hown hK hP 1 rfl rfl 0 (by decide) f162 (fun _ h9 => h9) rfl dX8_part_24 ?_
      refine lv_iload_n hx hb dX8_part_27 rfl (lv_at hl 1 rfl) ?_
      refine lv_iload_n hx hb dX8_part_28 rfl (lv_at hl 2 rfl) ?_
      refine st_calll (va_runV (As := [.int (nI k), .int (nI hf)]) (rest := []) ⟨hx, hb, hml, hown, hts⟩ (c_Pairs_at l dC dI cJ cI p0 p1 78 (pr PP) k hf (by omega) (by omega) H.size) (cwV 2 hts gX8_part_X5_at rfl rfl rfl (by decide +kernel) ⟨Nat.le_of_ble_eq_true rfl, Nat.le_of_ble_eq_true rfl⟩) (st_preV hK hP hD [2, 3] rfl rfl (ci := 5) (q0 := 0) rfl rfl) rfl rfl hl.1 rfl (lv_room (Nat.le_of_ble_eq_true rfl)) dX8_part_29 ⟨Nat.le_of_ble_eq_true rfl, Nat.le_of_ble_eq_true rfl⟩) hP hD hS hA [2, 3] [0, 1] (wr := [(x0, .inr (8, [.ref k0, .ref h0, .ref c0, .ref t0, .ref m0, .ref d0, .ref s0, .ref o0, .int xu])), (s0, .inr (6, [.ref p0, .int xl, .int (nI sn)]))]) rfl rfl (by decide) (by decide) [0, 1, 2, 3] (res := fun _ => [(x0, .inr (8, [.ref k0, .ref h0, .ref c0, .ref t0, .ref m0, .ref d0, .ref s0, .ref o0, .int xu])), (s0, .inr (6, [.ref p0, .int xl, .int (nI sn)])), (p0, .inr (5, [.ref p1])), (p1, .inl (cJ, 78, .inr (.inl (pr PP))))]) (fun _ => rfl) (by decide) (fun r_3 _ H locs hu hP hD hS => ?_)
      have hP : va_P (dC, dI) vwCl [(x0, .inr (8, [.ref k0, .ref h0, .ref c0, .ref t0, .ref m0, .ref d0, .ref s0, .ref o0, .int xu])), (s0, .inr (6, [.ref p0, .int xl, .int (nI sn)])), (p0, .inr (5, [.ref p1])), (p1, .inl (cJ, 78, .inr (.inl (pr PP))))] H := hP
      have hD : va_D A [(x0, .inr (8, [.ref k0, .ref h0, .ref c0, .ref t0, .ref m0, .ref d0, .ref s0, .ref o0, .int xu])), (s0, .inr (6, [.ref p0, .int xl, .int (nI sn)])), (p0, .inr (5, [.ref p1])), (p1, .inl (cJ, 78, .inr (.inl (pr PP))))] := hD
      subst hu
      exact W.lret (v := (pr PP) (2 * k + hf)) hx hb hr (fun t ht hW => ⟨⟨(pr PP) (2 * k + hf), (), rfl, by rw [← ptA_y (by omega) hf1 hk, ← gp2_pr PP k]; exact hlf_at _ _ hf1, by rw [ht]; exact hP, va_K.moved hW.alike hK, hD⟩, hS.F ht⟩) hS.2.2 dX8_part_32
    ·
      rw [q_b0] at c15
      refine lv_lconst (v := lN 0) hx hb dX8_part_18 (by decide) ?_
      exact W.lret (v := lN 0) hx hb hr (fun t ht hW => ⟨⟨lN 0, (), rfl, ptA_n (fun q => db_f c15 q.2), by rw [ht]; exact hP, va_K.moved hW.alike hK, hD⟩, hS.F ht⟩) hS.2.2 dX8_part_19

set_option maxHeartbeats 4000000 in
set_option maxRecDepth 100000 in
theorem c_setLeaf_no (l : Launch) (dC : Nat → ClassId) (dI : Nat → Nat → Nat) (cJ cI : ClassId) (x0 k0 h0 c0 t0 m0 d0 s0 o0 p0 : Nat) (xu xl xn yl : Int32) (hbad : xl = -1 ∨ yl < 0) (sz : Nat) : Met l yX8_setLeaf wsX8_setLeaf ({ frames := 1, cells := 0, slots := 0, locals := 20 }) (va_Pc [.ref x0, .int yl] (st_B (dC, dI) vwCl [(cJ, .long), (cI, .int)] [(x0, .inr (8, [.ref k0, .ref h0, .ref c0, .ref t0, .ref m0, .ref d0, .ref s0, .ref o0, .int xu])), (s0, .inr (6, [.ref p0, .int xl, .int xn]))] sz)) (va_Qi (fun (r : Int32) (_ : Unit) => r = nI 0) (st_E (dC, dI) vwCl [(cJ, .long), (cI, .int)] (va_A [(x0, .inr (8, [.ref k0, .ref h0, .ref c0, .ref t0, .ref m0, .ref d0, .ref s0, .ref o0, .int xu])), (s0, .inr (6, [.ref p0, .int xl, .int xn]))] sz) (fun _ => [(x0, .inr (8, [.ref k0, .ref h0, .ref c0, .ref t0, .ref m0, .ref d0, .ref s0, .ref o0, .int xu])), (s0, .inr (6, [.ref p0, .int xl, .int xn]))])) (va_A [(x0, .inr (8, [.ref k0, .ref h0, .ref c0, .ref t0, .ref m0, .ref d0, .ref s0, .ref o0, .int xu])), (s0, .inr (6, [.ref p0, .int xl, .int xn]))] sz)) 0 0 (va_A [(x0, .inr (8, [.ref k0, .ref h0, .ref c0, .ref t0, .ref m0, .ref d0, .ref s0, .ref o0, .int xu])), (s0, .inr (6, [.ref p0, .int xl, .int xn]))] sz) := by
  refine Met.ofW (cc := cX8_setLeaf) (maxL := 2) (ret := (some .int)) (by decide) rfl ?_
  intro p e s m args below meth c s₁ B hml hv
  obtain ⟨rfl, hsz, hP, hK, hD0⟩ := hv
  have hx := B.exec
  have hb := B.bytes
  have hr := B.returns
  have hts := atoms_spec (ws := wsX8_setLeaf) B.pre
  have hown : s.vm.findClass RX8 = some m.cls := findClass_of_methodNamed B.named
  have hlocks := B.notSynchronized
  subst hsz
  have hD := hD0.self (sz := s.heap.size)
  generalize hAe : va_A [(x0, .inr (8, [.ref k0, .ref h0, .ref c0, .ref t0, .ref m0, .ref d0, .ref s0, .ref o0, .int xu])), (s0, .inr (6, [.ref p0, .int xl, .int xn]))] s.heap.size = A at hD ⊢
  have hA : ∀ q : Nat, s.heap.size ≤ q → A q := fun q h => by rw [← hAe]; exact Or.inr h
  have hS : va_S A s.heap s.heap [] := va_S.rf
  have hP : va_P (dC, dI) vwCl [(x0, .inr (8, [.ref k0, .ref h0, .ref c0, .ref t0, .ref m0, .ref d0, .ref s0, .ref o0, .int xu])), (s0, .inr (6, [.ref p0, .int xl, .int xn]))] s.heap := hP
  have hl := lv_entry ([.ref x0, .int yl]) (n := 2) (Nat.le_of_ble_eq_true rfl)
  rw [lg_entry_eq]
  generalize (lg_sl ([.ref x0, .int yl]) ++ List.replicate (2 - (lg_sl ([.ref x0, .int yl])).length) Slot.unset).toArray = ls at hl ⊢
  have iX8 : ∀ w ∈ wsX80, w ∈ wsX8_setLeaf := by decide +kernel
  have f54 := hts (.fieldLink RX8 54 "LeafSigner" "signature" "LLeafSigner$Signature;") (by decide +kernel)
  have hl : lv_has ls 2 [(0, .ref x0), (1, .int yl)] := hl
  refine lv_aload_n hx hb dX8_setLeaf_0 rfl (lv_at hl 0 rfl) ?_
  refine va_get (D := (dC, dI)) (ci := 8) (v := .ref s0) (C := RX8) (T := TX8) (N := 9) hx hb hts iX8 hown hK hP 0 rfl rfl 6 (by decide) f54 (fun _ h9 => h9) rfl dX8_setLeaf_1 ?_
  refine st_calli (va_runV (As := []) (rest := []) ⟨hx, hb, hml, hown, hts⟩ (c_Signature_isThere l dC dI cJ cI s0 p0 xl xn  s.heap.size) (cwV 0 hts gX8_setLeaf_X6_isThere rfl rfl rfl (by decide +kernel) ⟨Nat.le_of_ble_eq_true rfl, Nat.le_of_ble_eq_true rfl⟩) (st_preV hK hP hD [1] rfl rfl (ci := 6) (q0 := 0) rfl rfl) rfl rfl hl.1 rfl (lv_room (Nat.le_of_ble_eq_true rfl)) dX8_setLeaf_4 ⟨Nat.le_of_ble_eq_true rfl, Nat.le_of_ble_eq_true rfl⟩) hP hD hS hA [1] [0] (wr := [(x0, .inr (8, [.ref k0, .ref h0, .ref c0, .ref t0, .ref m0, .ref d0, .ref s0, .ref o0, .int xu]))]) rfl rfl (by decide) (by decide) [0, 1] (res := fun _ => [(x0, .inr (8, [.ref k0, .ref h0, .ref c0, .ref t0, .ref m0, .ref d0, .ref s0, .ref o0, .int xu])), (s0, .inr (6, [.ref p0, .int xl, .int xn]))]) (fun _ => rfl) (by decide) (fun r_1 _ H locs hu hP hD hS => ?_)
  have hP : va_P (dC, dI) vwCl [(x0, .inr (8, [.ref k0, .ref h0, .ref c0, .ref t0, .ref m0, .ref d0, .ref s0, .ref o0, .int xu])), (s0, .inr (6, [.ref p0, .int xl, .int xn]))] H := hP
  have hD : va_D A [(x0, .inr (8, [.ref k0, .ref h0, .ref c0, .ref t0, .ref m0, .ref d0, .ref s0, .ref o0, .int xu])), (s0, .inr (6, [.ref p0, .int xl, .int xn]))] := hD
  subst hu
  refine lv_if_eq (tgt := 14) hx hb dX8_setLeaf_7 (by decide) (fun c7 => ?_) (fun c7 => ?_)
  ·
    rw [q_b0] at c7
    refine lv_iconst (v := nI 0) hx hb dX8_setLeaf_14 (by decide) ?_
    exact W.iret (v := nI 0) hx hb hr (fun t ht hW => ⟨⟨nI 0, (), rfl, rfl, by rw [ht]; exact hP, va_K.moved hW.alike hK, hD⟩, hS.F ht⟩) hS.2.2 dX8_setLeaf_15
  ·
    rw [q_b0] at c7
    refine lv_iload_n hx hb dX8_setLeaf_10 rfl (lv_at hl 1 rfl) ?_
    refine lv_if_ge (tgt := 16) hx hb dX8_setLeaf_11 (by decide) (fun c11 => ?_) (fun c11 => ?_)
    ·
      exact absurd c11 (fun q => hbad.elim (fun z => (show ¬ xl = -1 from db_t c7) z) (fun z => absurd q (Int32.not_le.mpr z)))
    ·
      refine lv_iconst (v := nI 0) hx hb dX8_setLeaf_14 (by decide) ?_
      exact W.iret (v := nI 0) hx hb hr (fun t ht hW => ⟨⟨nI 0, (), rfl, rfl, by rw [ht]; exact hP, va_K.moved hW.alike hK, hD⟩, hS.F ht⟩) hS.2.2 dX8_setLeaf_15

set_option maxHeartbeats 4000000 in
set_option maxRecDepth 100000 in
theorem c_setLeaf_ok (l : Launch) (dC : Nat → ClassId) (dI : Nat → Nat → Nat) (cJ cI : ClassId) (x0 k0 h0 c0 t0 m0 d0 s0 o0 p0 : Nat) (xu xl xn : Int32) (yl : Nat) (hok : ¬ xl = -1) (hy : yl < 2 ^ 31) (sz : Nat) : Met l yX8_setLeaf wsX8_setLeaf ({ frames := 1, cells := 0, slots := 0, locals := 20 }) (va_Pc [.ref x0, .int (nI yl)] (st_B (dC, dI) vwCl [(cJ, .long), (cI, .int)] [(x0, .inr (8, [.ref k0, .ref h0, .ref c0, .ref t0, .ref m0, .ref d0, .ref s0, .ref o0, .int xu])), (s0, .inr (6, [.ref p0, .int xl, .int xn]))] sz)) (va_Qi (fun (r : Int32) (_ : Unit) => r = nI 1) (st_E (dC, dI) vwCl [(cJ, .long), (cI, .int)] (va_A [(x0, .inr (8, [.ref k0, .ref h0, .ref c0, .ref t0, .ref m0, .ref d0, .ref s0, .ref o0, .int xu])), (s0, .inr (6, [.ref p0, .int xl, .int xn]))] sz) (fun _ => [(x0, .inr (8, [.ref k0, .ref h0, .ref c0, .ref t0, .ref m0, .ref d0, .ref s0, .ref o0, .int xu])), (s0, .inr (6, [.ref p0, .int (nI yl), .int xn]))])) (va_A [(x0, .inr (8, [.ref k0, .ref h0, .ref c0, .ref t0, .ref m0, .ref d0, .ref s0, .ref o0, .int xu])), (s0, .inr (6, [.ref p0, .int xl, .int xn]))] sz)) 0 0 (va_A [(x0, .inr (8, [.ref k0, .ref h0, .ref c0, .ref t0, .ref m0, .ref d0, .ref s0, .ref o0, .int xu])), (s0, .inr (6, [.ref p0, .int xl, .int xn]))] sz) := by
  refine Met.ofW (cc := cX8_setLeaf) (maxL := 2) (ret := (some .int)) (by decide) rfl ?_
  intro p e s m args below meth c s₁ B hml hv
  obtain ⟨rfl, hsz, hP, hK, hD0⟩ := hv
  have hx := B.exec
  have hb := B.bytes
  have hr := B.returns
  have hts := atoms_spec (ws := wsX8_setLeaf) B.pre
  have hown : s.vm.findClass RX8 = some m.cls := findClass_of_methodNamed B.named
  have hlocks := B.notSynchronized
  subst hsz
  have hD := hD0.self (sz := s.heap.size)
  generalize hAe : va_A [(x0, .inr (8, [.ref k0, .ref h0, .ref c0, .ref t0, .ref m0, .ref d0, .ref s0, .ref o0, .int xu])), (s0, .inr (6, [.ref p0, .int xl, .int xn]))] s.heap.size = A at hD ⊢
  have hA : ∀ q : Nat, s.heap.size ≤ q → A q := fun q h => by rw [← hAe]; exact Or.inr h
  have hS : va_S A s.heap s.heap [] := va_S.rf
  have hP : va_P (dC, dI) vwCl [(x0, .inr (8, [.ref k0, .ref h0, .ref c0, .ref t0, .ref m0, .ref d0, .ref s0, .ref o0, .int xu])), (s0, .inr (6, [.ref p0, .int xl, .int xn]))] s.heap := hP
  have hl := lv_entry ([.ref x0, .int (nI yl)]) (n := 2) (Nat.le_of_ble_eq_true rfl)
  rw [lg_entry_eq]
  generalize (lg_sl ([.ref x0, .int (nI yl)]) ++ List.replicate (2 - (lg_sl ([.ref x0, .int (nI yl)])).length) Slot.unset).toArray = ls at hl ⊢
  have iX8 : ∀ w ∈ wsX80, w ∈ wsX8_setLeaf := by decide +kernel
  have iX6 : ∀ w ∈ wsX60, w ∈ wsX8_setLeaf := by decide +kernel
  have f54 := hts (.fieldLink RX8 54 "LeafSigner" "signature" "LLeafSigner$Signature;") (by decide +kernel)
  have f176 := hts (.fieldLink RX8 176 "LeafSigner$Signature" "leaf" "I") (by decide +kernel)
  have hl : lv_has ls 2 [(0, .ref x0), (1, .int (nI yl))] := hl
  refine lv_aload_n hx hb dX8_setLeaf_0 rfl (lv_at hl 0 rfl) ?_
  refine va_get (D := (dC, dI)) (ci := 8) (v := .ref s0) (C := RX8) (T := TX8) (N := 9) hx hb hts iX8 hown hK hP 0 rfl rfl 6 (by decide) f54 (fun _ h9 => h9) rfl dX8_setLeaf_1 ?_
  refine st_calli (va_runV (As := []) (rest := []) ⟨hx, hb, hml, hown, hts⟩ (c_Signature_isThere l dC dI cJ cI s0 p0 xl xn  s.heap.size) (cwV 0 hts gX8_setLeaf_X6_isThere rfl rfl rfl (by decide +kernel) ⟨Nat.le_of_ble_eq_true rfl, Nat.le_of_ble_eq_true rfl⟩) (st_preV hK hP hD [1] rfl rfl (ci := 6) (q0 := 0) rfl rfl) rfl rfl hl.1 rfl (lv_room (Nat.le_of_ble_eq_true rfl)) dX8_setLeaf_4 ⟨Nat.le_of_ble_eq_true rfl, Nat.le_of_ble_eq_true rfl⟩) hP hD hS hA [1] [0] (wr := [(x0, .inr (8, [.ref k0, .ref h0, .ref c0, .ref t0, .ref m0, .ref d0, .ref s0, .ref o0, .int xu]))]) rfl rfl (by decide) (by decide) [0, 1] (res := fun _ => [(x0, .inr (8, [.ref k0, .ref h0, .ref c0, .ref t0, .ref m0, .ref d0, .ref s0, .ref o0, .int xu])), (s0, .inr (6, [.ref p0, .int xl, .int xn]))]) (fun _ => rfl) (by decide) (fun r_1 _ H locs hu hP hD hS => ?_)
  have hP : va_P (dC, dI) vwCl [(x0, .inr (8, [.ref k0, .ref h0, .ref c0, .ref t0, .ref m0, .ref d0, .ref s0, .ref o0, .int xu])), (s0, .inr (6, [.ref p0, .int xl, .int xn]))] H := hP
  have hD : va_D A [(x0, .inr (8, [.ref k0, .ref h0, .ref c0, .ref t0, .ref m0, .ref d0, .ref s0, .ref o0, .int xu])), (s0, .inr (6, [.ref p0, .int xl, .int xn]))] := hD
  subst hu
  refine lv_if_eq (tgt := 14) hx hb dX8_setLeaf_7 (by decide) (fun c7 => ?_) (fun c7 => ?_)
  ·
    rw [q_b0] at c7
    exact absurd hok (db_f c7)
  ·
    rw [q_b0] at c7
    refine lv_iload_n hx hb dX8_setLeaf_10 rfl (lv_at hl 1 rfl) ?_
    refine lv_if_ge (tgt := 16) hx hb dX8_setLeaf_11 (by decide) (fun c11 => ?_) (fun c11 => ?_)
    ·
      rw [q_ge0 (by omega)] at c11
      refine lv_aload_n hx hb dX8_setLeaf_16 rfl (lv_at hl 0 rfl) ?_
      refine va_get (D := (dC, dI)) (ci := 8) (v := .ref s0) (C := RX8) (T := TX8) (N := 9) hx hb hts iX8 hown hK hP 0 rfl rfl 6 (by decide) f54 (fun _ h9 => h9) rfl dX8_setLeaf_17 ?_
      refine lv_iload_n hx hb dX8_setLeaf_20 rfl (lv_at hl 1 rfl) ?_
      refine va_put (D := (dC, dI)) (ci := 6) (v := .int (nI yl)) (ty := .int) (C := RX6) (T := TX6) (N := 3) hx hb hts iX6 tyX6 tyX6_ok nmX6 hown hK hP hD hS 1 rfl rfl 1 (by decide) f176 (fun _ h9 => h9) rfl (by decide +kernel) rfl rfl (Nat.le_of_ble_eq_true rfl) dX8_setLeaf_21 (fun H locs hP hD hS => ?_)
      have hP : va_P (dC, dI) vwCl [(x0, .inr (8, [.ref k0, .ref h0, .ref c0, .ref t0, .ref m0, .ref d0, .ref s0, .ref o0, .int xu])), (s0, .inr (6, [.ref p0, .int (nI yl), .int xn]))] H := hP
      have hD : va_D A [(x0, .inr (8, [.ref k0, .ref h0, .ref c0, .ref t0, .ref m0, .ref d0, .ref s0, .ref o0, .int xu])), (s0, .inr (6, [.ref p0, .int (nI yl), .int xn]))] := hD
      refine lv_iconst (v := nI 1) hx hb dX8_setLeaf_24 (by decide) ?_
      exact W.iret (v := nI 1) hx hb hr (fun t ht hW => ⟨⟨nI 1, (), rfl, rfl, by rw [ht]; exact hP, va_K.moved hW.alike hK, hD⟩, hS.F ht⟩) hS.2.2 dX8_setLeaf_25
    ·
      rw [q_ge0 (by omega)] at c11
      exact absurd c11 (by omega)

set_option maxHeartbeats 4000000 in
set_option maxRecDepth 100000 in
theorem c_setPart_no (l : Launch) (dC : Nat → ClassId) (dI : Nat → Nat → Nat) (cJ cI : ClassId) (x0 k0 h0 c0 t0 m0 d0 s0 o0 p0 p1 : Nat) (xu xl xk xh xn : Int32) (xv : Int64) (hbad : ¬ ((xh = 0 ∨ xh = nI 1) ∧ (¬ xk < 0 ∧ ¬ xn ≤ xk))) (sz : Nat) : Met l yX8_setPart wsX8_setPart ({ frames := 1, cells := 0, slots := 0, locals := 21 }) (va_Pc [.ref x0, .int xk, .int xh, .long xv] (st_B (dC, dI) vwCl [(cJ, .long), (cI, .int)] [(x0, .inr (8, [.ref k0, .ref h0, .ref c0, .ref t0, .ref m0, .ref d0, .ref s0, .ref o0, .int xu])), (s0, .inr (6, [.ref p0, .int xl, .int xn]))] sz)) (va_Qi (fun (r : Int32) (_ : Unit) => r = nI 0) (st_E (dC, dI) vwCl [(cJ, .long), (cI, .int)] (va_A [(x0, .inr (8, [.ref k0, .ref h0, .ref c0, .ref t0, .ref m0, .ref d0, .ref s0, .ref o0, .int xu])), (s0, .inr (6, [.ref p0, .int xl, .int xn]))] sz) (fun _ => [(x0, .inr (8, [.ref k0, .ref h0, .ref c0, .ref t0, .ref m0, .ref d0, .ref s0, .ref o0, .int xu])), (s0, .inr (6, [.ref p0, .int xl, .int xn]))])) (va_A [(x0, .inr (8, [.ref k0, .ref h0, .ref c0, .ref t0, .ref m0, .ref d0, .ref s0, .ref o0, .int xu])), (s0, .inr (6, [.ref p0, .int xl, .int xn]))] sz)) 0 0 (va_A [(x0, .inr (8, [.ref k0, .ref h0, .ref c0, .ref t0, .ref m0, .ref d0, .ref s0, .ref o0, .int xu])), (s0, .inr (6, [.ref p0, .int xl, .int xn]))] sz) := by
  refine Met.ofW (cc := cX8_setPart) (maxL := 5) (ret := (some .int)) (by decide) rfl ?_
  intro p e s m args below meth c s₁ B hml hv
  obtain ⟨rfl, hsz, hP, hK, hD0⟩ := hv
  have hx := B.exec
  have hb := B.bytes
  have hr := B.returns
  have hts := atoms_spec (ws := wsX8_setPart) B.pre
  have hown : s.vm.findClass RX8 = some m.cls := findClass_of_methodNamed B.named
  have hlocks := B.notSynchronized
  subst hsz
  have hD := hD0.self (sz := s.heap.size)
  generalize hAe : va_A [(x0, .inr (8, [.ref k0, .ref h0, .ref c0, .ref t0, .ref m0, .ref d0, .ref s0, .ref o0, .int xu])), (s0, .inr (6, [.ref p0, .int xl, .int xn]))] s.heap.size = A at hD ⊢
  have hA : ∀ q : Nat, s.heap.size ≤ q → A q := fun q h => by rw [← hAe]; exact Or.inr h
  have hS : va_S A s.heap s.heap [] := va_S.rf
  have hP : va_P (dC, dI) vwCl [(x0, .inr (8, [.ref k0, .ref h0, .ref c0, .ref t0, .ref m0, .ref d0, .ref s0, .ref o0, .int xu])), (s0, .inr (6, [.ref p0, .int xl, .int xn]))] s.heap := hP
  have hl := lv_entry ([.ref x0, .int xk, .int xh, .long xv]) (n := 5) (Nat.le_of_ble_eq_true rfl)
  rw [lg_entry_eq]
  generalize (lg_sl ([.ref x0, .int xk, .int xh, .long xv]) ++ List.replicate (5 - (lg_sl ([.ref x0, .int xk, .int xh, .long xv])).length) Slot.unset).toArray = ls at hl ⊢
  have iX8 : ∀ w ∈ wsX80, w ∈ wsX8_setPart := by decide +kernel
  have f54 := hts (.fieldLink RX8 54 "LeafSigner" "signature" "LLeafSigner$Signature;") (by decide +kernel)
  have hl : lv_has ls 5 [(0, .ref x0), (1, .int xk), (2, .int xh), (3, .long xv)] := hl
  refine lv_iload_n hx hb dX8_setPart_0 rfl (lv_at hl 2 rfl) ?_
  refine st_calli (va_runS (As := [.int xh]) (rest := []) ⟨hx, hb, hml, hown, hts⟩ (c_LeafSigner_isHalf l dC dI cJ cI  xh  s.heap.size) (va_cwS 1 hts gX8_setPart_X8_isHalf rfl rfl rfl (by decide +kernel) ⟨Nat.le_of_ble_eq_true rfl, Nat.le_of_ble_eq_true rfl⟩) (st_preS hK hP hD [] rfl rfl) rfl rfl hl.1 rfl (lv_room (Nat.le_of_ble_eq_true rfl)) dX8_setPart_1 ⟨Nat.le_of_ble_eq_true rfl, Nat.le_of_ble_eq_true rfl⟩) hP hD hS hA [] [0, 1] (wr := [(x0, .inr (8, [.ref k0, .ref h0, .ref c0, .ref t0, .ref m0, .ref d0, .ref s0, .ref o0, .int xu])), (s0, .inr (6, [.ref p0, .int xl, .int xn]))]) rfl rfl (by decide) (by decide) [0, 1] (res := fun _ => [(x0, .inr (8, [.ref k0, .ref h0, .ref c0, .ref t0, .ref m0, .ref d0, .ref s0, .ref o0, .int xu])), (s0, .inr (6, [.ref p0, .int xl, .int xn]))]) (fun _ => rfl) (by decide) (fun r_1 _ H locs hu hP hD hS => ?_)
  have hP : va_P (dC, dI) vwCl [(x0, .inr (8, [.ref k0, .ref h0, .ref c0, .ref t0, .ref m0, .ref d0, .ref s0, .ref o0, .int xu])), (s0, .inr (6, [.ref p0, .int xl, .int xn]))] H := hP
  have hD : va_D A [(x0, .inr (8, [.ref k0, .ref h0, .ref c0, .ref t0, .ref m0, .ref d0, .ref s0, .ref o0, .int xu])), (s0, .inr (6, [.ref p0, .int xl, .int xn]))] := hD
  subst hu
  refine lv_if_eq (tgt := 18) hx hb dX8_setPart_4 (by decide) (fun c4 => ?_) (fun c4 => ?_)
  ·
    rw [q_b0] at c4
    refine lv_iconst (v := nI 0) hx hb dX8_setPart_18 (by decide) ?_
    exact W.iret (v := nI 0) hx hb hr (fun t ht hW => ⟨⟨nI 0, (), rfl, rfl, by rw [ht]; exact hP, va_K.moved hW.alike hK, hD⟩, hS.F ht⟩) hS.2.2 dX8_setPart_19
  ·
    rw [q_b0] at c4
    refine lv_aload_n hx hb dX8_setPart_7 rfl (lv_at hl 0 rfl) ?_
    refine va_get (D := (dC, dI)) (ci := 8) (v := .ref s0) (C := RX8) (T := TX8) (N := 9) hx hb hts iX8 hown hK hP 0 rfl rfl 6 (by decide) f54 (fun _ h9 => h9) rfl dX8_setPart_8 ?_
    refine lv_iload_n hx hb dX8_setPart_11 rfl (lv_at hl 1 rfl) ?_
    refine st_calli (va_runV (As := [.int xk]) (rest := []) ⟨hx, hb, hml, hown, hts⟩ (c_Signature_hasPart l dC dI cJ cI s0 p0 xl xn xk  H.size) (cwV 1 hts gX8_setPart_X6_hasPart rfl rfl rfl (by decide +kernel) ⟨Nat.le_of_ble_eq_true rfl, Nat.le_of_ble_eq_true rfl⟩) (st_preV hK hP hD [1] rfl rfl (ci := 6) (q0 := 0) rfl rfl) rfl rfl hl.1 rfl (lv_room (Nat.le_of_ble_eq_true rfl)) dX8_setPart_12 ⟨Nat.le_of_ble_eq_true rfl, Nat.le_of_ble_eq_true rfl⟩) hP hD hS hA [1] [0] (wr := [(x0, .inr (8, [.ref k0, .ref h0, .ref c0, .ref t0, .ref m0, .ref d0, .ref s0, .ref o0, .int xu]))]) rfl rfl (by decide) (by decide) [0, 1] (res := fun _ => [(x0, .inr (8, [.ref k0, .ref h0, .ref c0, .ref t0, .ref m0, .ref d0, .ref s0, .ref o0, .int xu])), (s0, .inr (6, [.ref p0, .int xl, .int xn]))]) (fun _ => rfl) (by decide) (fun r_2 _ H locs hu hP hD hS => ?_)
    have hP : va_P (dC, dI) vwCl [(x0, .inr (8, [.ref k0, .ref h0, .ref c0, .ref t0, .ref m0, .ref d0, .ref s0, .ref o0, .int xu])), (s0, .inr (6, [.ref p0, .int xl, .int xn]))] H := hP
    have hD : va_D A [(x0, .inr (8, [.ref k0, .ref h0, .ref c0, .ref t0, .ref m0, .ref d0, .ref s0, .ref o0, .int xu])), (s0, .inr (6, [.ref p0, .int xl, .int xn]))] := hD
    subst hu
    refine lv_if_ne (tgt := 20) hx hb dX8_setPart_15 (by decide) (fun c15 => ?_) (fun c15 => ?_)
    ·
      rw [q_b0] at c15
      exact absurd ⟨db_t c4, db_t c15⟩ hbad
    ·
      rw [q_b0] at c15
      refine lv_iconst (v := nI 0) hx hb dX8_setPart_18 (by decide) ?_
      exact W.iret (v := nI 0) hx hb hr (fun t ht hW => ⟨⟨nI 0, (), rfl, rfl, by rw [ht]; exact hP, va_K.moved hW.alike hK, hD⟩, hS.F ht⟩) hS.2.2 dX8_setPart_19

set_option maxHeartbeats 4000000 in
set_option maxRecDepth 100000 in
theorem c_setPart_ok (l : Launch) (dC : Nat → ClassId) (dI : Nat → Nat → Nat) (cJ cI : ClassId) (x0 k0 h0 c0 t0 m0 d0 s0 o0 p0 p1 : Nat) (xu xl : Int32) (xv : Int64) (k hf sn : Nat) (PP : Nat → Int64 × Int64) (hs : sn ≤ 39) (hf1 : hf ≤ 1) (hk : k < sn) (sz : Nat) : Met l yX8_setPart wsX8_setPart ({ frames := 1, cells := 0, slots := 0, locals := 24 }) (va_Pc [.ref x0, .int (nI k), .int (nI hf), .long xv] (st_B (dC, dI) vwCl [(cJ, .long), (cI, .int)] [(x0, .inr (8, [.ref k0, .ref h0, .ref c0, .ref t0, .ref m0, .ref d0, .ref s0, .ref o0, .int xu])), (s0, .inr (6, [.ref p0, .int xl, .int (nI sn)])), (p0, .inr (5, [.ref p1])), (p1, .inl (cJ, 78, .inr (.inl (pr PP))))] sz)) (va_Qi (fun (r : Int32) (_ : Unit) => r = nI 1) (st_E (dC, dI) vwCl [(cJ, .long), (cI, .int)] (va_A [(x0, .inr (8, [.ref k0, .ref h0, .ref c0, .ref t0, .ref m0, .ref d0, .ref s0, .ref o0, .int xu])), (s0, .inr (6, [.ref p0, .int xl, .int (nI sn)])), (p0, .inr (5, [.ref p1])), (p1, .inl (cJ, 78, .inr (.inl (pr PP))))] sz) (fun _ => [(x0, .inr (8, [.ref k0, .ref h0, .ref c0, .ref t0, .ref m0, .ref d0, .ref s0, .ref o0, .int xu])), (s0, .inr (6, [.ref p0, .int xl, .int (nI sn)])), (p0, .inr (5, [.ref p1])), (p1, .inl (cJ, 78, .inr (.inl (pr (upP PP k hf xv)))))])) (va_A [(x0, .inr (8, [.ref k0, .ref h0, .ref c0, .ref t0, .ref m0, .ref d0, .ref s0, .ref o0, .int xu])), (s0, .inr (6, [.ref p0, .int xl, .int (nI sn)])), (p0, .inr (5, [.ref p1])), (p1, .inl (cJ, 78, .inr (.inl (pr PP))))] sz)) 0 0 (va_A [(x0, .inr (8, [.ref k0, .ref h0, .ref c0, .ref t0, .ref m0, .ref d0, .ref s0, .ref o0, .int xu])), (s0, .inr (6, [.ref p0, .int xl, .int (nI sn)])), (p0, .inr (5, [.ref p1])), (p1, .inl (cJ, 78, .inr (.inl (pr PP))))] sz) := by
  refine Met.ofW (cc := cX8_setPart) (maxL := 5) (ret := (some .int)) (by decide) rfl ?_
  intro p e s m args below meth c s₁ B hml hv
  obtain ⟨rfl, hsz, hP, hK, hD0⟩ := hv
  have hx := B.exec
  have hb := B.bytes
  have hr := B.returns
  have hts := atoms_spec (ws := wsX8_setPart) B.pre
  have hown : s.vm.findClass RX8 = some m.cls := findClass_of_methodNamed B.named
  have hlocks := B.notSynchronized
  subst hsz
  have hD := hD0.self (sz := s.heap.size)
  generalize hAe : va_A [(x0, .inr (8, [.ref k0, .ref h0, .ref c0, .ref t0, .ref m0, .ref d0, .ref s0, .ref o0, .int xu])), (s0, .inr (6, [.ref p0, .int xl, .int (nI sn)])), (p0, .inr (5, [.ref p1])), (p1, .inl (cJ, 78, .inr (.inl (pr PP))))] s.heap.size = A at hD ⊢
  have hA : ∀ q : Nat, s.heap.size ≤ q → A q := fun q h => by rw [← hAe]; exact Or.inr h
  have hS : va_S A s.heap s.heap [] := va_S.rf
  have hP : va_P (dC, dI) vwCl [(x0, .inr (8, [.ref k0, .ref h0, .ref c0, .ref t0, .ref m0, .ref d0, .ref s0, .ref o0, .int xu])), (s0, .inr (6, [.ref p0, .int xl, .int (nI sn)])), (p0, .inr (5, [.ref p1])), (p1, .inl (cJ, 78, .inr (.inl (pr PP))))] s.heap := hP
  have hl := lv_entry ([.ref x0, .int (nI k), .int (nI hf), .long xv]) (n := 5) (Nat.le_of_ble_eq_true rfl)
  rw [lg_entry_eq]
  generalize (lg_sl ([.ref x0, .int (nI k), .int (nI hf), .long xv]) ++ List.replicate (5 - (lg_sl ([.ref x0, .int (nI k), .int (nI hf), .long xv])).length) Slot.unset).toArray = ls at hl ⊢
  have iX8 : ∀ w ∈ wsX80, w ∈ wsX8_setPart := by decide +kernel
  have iX6 : ∀ w ∈ wsX60, w ∈ wsX8_setPart := by decide +kernel
  have f54 := hts (.fieldLink RX8 54 "LeafSigner" "signature" "LLeafSigner$Signature;") (by decide +kernel)
  have f162 := hts (.fieldLink RX8 162 "LeafSigner$Signature" "parts" "LLeafSigner$Pairs;") (by decide +kernel)
  have hl : lv_has ls 5 [(0, .ref x0), (1, .int (nI k)), (2, .int (nI hf)), (3, .long xv)] := hl
  refine lv_iload_n hx hb dX8_setPart_0 rfl (lv_at hl 2 rfl) ?_
  refine st_calli (va_runS (As := [.int (nI hf)]) (rest := []) ⟨hx, hb, hml, hown, hts⟩ (c_LeafSigner_isHalf l dC dI cJ cI  (nI hf)  s.heap.size) (va_cwS 1 hts gX8_setPart_X8_isHalf rfl rfl rfl (by decide +kernel) ⟨Nat.le_of_ble_eq_true rfl, Nat.le_of_ble_eq_true rfl⟩) (st_preS hK hP hD [] rfl rfl) rfl rfl hl.1 rfl (lv_room (Nat.le_of_ble_eq_true rfl)) dX8_setPart_1 ⟨Nat.le_of_ble_eq_true rfl, Nat.le_of_ble_eq_true rfl⟩) hP hD hS hA [] [0, 1, 2, 3] (wr := [(x0, .inr (8, [.ref k0, .ref h0, .ref c0, .ref t0, .ref m0, .ref d0, .ref s0, .ref o0, .int xu])), (s0, .inr (6, [.ref p0, .int xl, .int (nI sn)])), (p0, .inr (5, [.ref p1])), (p1, .inl (cJ, 78, .inr (.inl (pr PP))))]) rfl rfl (by decide) (by decide) [0, 1, 2, 3] (res := fun _ => [(x0, .inr (8, [.ref k0, .ref h0, .ref c0, .ref t0, .ref m0, .ref d0, .ref s0, .ref o0, .int xu])), (s0, .inr (6, [.ref p0, .int xl, .int (nI sn)])), (p0, .inr (5, [.ref p1])), (p1, .inl (cJ, 78, .inr (.inl (pr PP))))]) (fun _ => rfl) (by decide) (fun r_1 _ H locs hu hP hD hS => ?_)
  have hP : va_P (dC, dI) vwCl [(x0, .inr (8, [.ref k0, .ref h0, .ref c0, .ref t0, .ref m0, .ref d0, .ref s0, .ref o0, .int xu])), (s0, .inr (6, [.ref p0, .int xl, .int (nI sn)])), (p0, .inr (5, [.ref p1])), (p1, .inl (cJ, 78, .inr (.inl (pr PP))))] H := hP
  have hD : va_D A [(x0, .inr (8, [.ref k0, .ref h0, .ref c0, .ref t0, .ref m0, .ref d0, .ref s0, .ref o0, .int xu])), (s0, .inr (6, [.ref p0, .int xl, .int (nI sn)])), (p0, .inr (5, [.ref p1])), (p1, .inl (cJ, 78, .inr (.inl (pr PP))))] := hD
  subst hu
  refine lv_if_eq (tgt := 18) hx hb dX8_setPart_4 (by decide) (fun c4 => ?_) (fun c4 => ?_)
  ·
    rw [q_b0] at c4
    exact absurd (half_of hf1) (db_f c4)
  ·
    rw [q_b0] at c4
    refine lv_aload_n hx hb dX8_setPart_7 rfl (lv_at hl 0 rfl) ?_
    refine va_get (D := (dC, dI)) (ci := 8) (v := .ref s0) (C := RX8) (T := TX8) (N := 9) hx hb hts iX8 hown hK hP 0 rfl rfl 6 (by decide) f54 (fun _ h9 => h9) rfl dX8_setPart_8 ?_
    refine lv_iload_n hx hb dX8_setPart_11 rfl (lv_at hl 1 rfl) ?_
    refine st_calli (va_runV (As := [.int (nI k)]) (rest := []) ⟨hx, hb, hml, hown, hts⟩ (c_Signature_hasPart l dC dI cJ cI s0 p0 xl (nI sn) (nI k)  H.size) (cwV 1 hts gX8_setPart_X6_hasPart rfl rfl rfl (by decide +kernel) ⟨Nat.le_of_ble_eq_true rfl, Nat.le_of_ble_eq_true rfl⟩) (st_preV hK hP hD [1] rfl rfl (ci := 6) (q0 := 0) rfl rfl) rfl rfl hl.1 rfl (lv_room (Nat.le_of_ble_eq_true rfl)) dX8_setPart_12 ⟨Nat.le_of_ble_eq_true rfl, Nat.le_of_ble_eq_true rfl⟩) hP hD hS hA [1] [0, 2, 3] (wr := [(x0, .inr (8, [.ref k0, .ref h0, .ref c0, .ref t0, .ref m0, .ref d0, .ref s0, .ref o0, .int xu])), (p0, .inr (5, [.ref p1])), (p1, .inl (cJ, 78, .inr (.inl (pr PP))))]) rfl rfl (by decide) (by decide) [0, 3, 1, 2] (res := fun _ => [(x0, .inr (8, [.ref k0, .ref h0, .ref c0, .ref t0, .ref m0, .ref d0, .ref s0, .ref o0, .int xu])), (s0, .inr (6, [.ref p0, .int xl, .int (nI sn)])), (p0, .inr (5, [.ref p1])), (p1, .inl (cJ, 78, .inr (.inl (pr PP))))]) (fun _ => rfl) (by decide) (fun r_2 _ H locs hu hP hD hS => ?_)
    have hP : va_P (dC, dI) vwCl [(x0, .inr (8, [.ref k0, .ref h0, .ref c0, .ref t0, .ref m0, .ref d0, .ref s0, .ref o0, .int xu])), (s0, .inr (6, [.ref p0, .int xl, .int (nI sn)])), (p0, .inr (5, [.ref p1])), (p1, .inl (cJ, 78, .inr (.inl (pr PP))))] H := hP
    have hD : va_D A [(x0, .inr (8, [.ref k0, .ref h0, .ref c0, .ref t0, .ref m0, .ref d0, .ref s0, .ref o0, .int xu])), (s0, .inr (6, [.ref p0, .int xl, .int (nI sn)])), (p0, .inr (5, [.ref p1])), (p1, .inl (cJ, 78, .inr (.inl (pr PP))))] := hD
    subst hu
    refine lv_if_ne (tgt := 20) hx hb dX8_setPart_15 (by decide) (fun c15 => ?_) (fun c15 => ?_)
    ·
      rw [q_b0] at c15
      refine lv_aload_n hx hb dX8_setPart_20 rfl (lv_at hl 0 rfl) ?_
      refine va_get (D := (dC, dI)) (ci := 8) (v := .ref s0) (C := RX8) (T := TX8) (N := 9) hx hb hts iX8 hown hK hP 0 rfl rfl 6 (by decide) f54 (fun _ h9 => h9) rfl dX8_setPart_21 ?_
      refine va_get (D := (dC, dI)) (ci := 6) (v := .ref p0) (C := RX6) (T := TX6) (N := 3) hx hb hts iX6 hown hK hP 1 rfl rfl 0 (by decide) f162 (fun _ h9 => h9) rfl dX8_setPart_24 ?_
      refine lv_iload_n hx hb dX8_setPart_27 rfl (lv_at hl 1 rfl) ?_
      refine lv_iload_n hx hb dX8_setPart_28 rfl (lv_at hl 2 rfl) ?_
      refine lv_lload_n hx hb dX8_setPart_29 rfl (lv_at hl 3 rfl) ?_
      refine st_callv (va_runV (As := [.int (nI k), .int (nI hf), .long xv]) (rest := []) ⟨hx, hb, hml, hown, hts⟩ (c_Pairs_put l dC dI cJ cI p0 p1 78 (pr PP) k hf xv (by omega) (by omega) H.size) (cwV 3 hts gX8_setPart_X5_put rfl rfl rfl (by decide +kernel) ⟨Nat.le_of_ble_eq_true rfl, Nat.le_of_ble_eq_true rfl⟩) (st_preV hK hP hD [2, 3] rfl rfl (ci := 5) (q0 := 0) rfl rfl) rfl rfl hl.1 rfl (lv_room (Nat.le_of_ble_eq_true rfl)) dX8_setPart_30 ⟨Nat.le_of_ble_eq_true rfl, Nat.le_of_ble_eq_true rfl⟩) hP hD hS hA [2, 3] [0, 1] (wr := [(x0, .inr (8, [.ref k0, .ref h0, .ref c0, .ref t0, .ref m0, .ref d0, .ref s0, .ref o0, .int xu])), (s0, .inr (6, [.ref p0, .int xl, .int (nI sn)]))]) rfl rfl (by decide) (by decide) [0, 1, 2, 3] (res := fun _ => [(x0, .inr (8, [.ref k0, .ref h0, .ref c0, .ref t0, .ref m0, .ref d0, .ref s0, .ref o0, .int xu])), (s0, .inr (6, [.ref p0, .int xl, .int (nI sn)])), (p0, .inr (5, [.ref p1])), (p1, .inl (cJ, 78, .inr (.inl (vp_updL (pr PP) (2 * k + hf) xv))))]) (fun _ => rfl) (by decide) (fun  _ H locs hu hP hD hS => ?_)
      have hP : va_P (dC, dI) vwCl [(x0, .inr (8, [.ref k0, .ref h0, .ref c0, .ref t0, .ref m0, .ref d0, .ref s0, .ref o0, .int xu])), (s0, .inr (6, [.ref p0, .int xl, .int (nI sn)])), (p0, .inr (5, [.ref p1])), (p1, .inl (cJ, 78, .inr (.inl (vp_updL (pr PP) (2 * k + hf) xv))))] H := hP
      have hD : va_D A [(x0, .inr (8, [.ref k0, .ref h0, .ref c0, .ref t0, .ref m0, .ref d0, .ref s0, .ref o0, .int xu])), (s0, .inr (6, [.ref p0, .int xl, .int (nI sn)])), (p0, .inr (5, [.ref p1])), (p1, .inl (cJ, 78, .inr (.inl (vp_updL (pr PP) (2 * k + hf) xv))))] := hD
      refine lv_iconst (v := nI 1) hx hb dX8_setPart_33 (by decide) ?_
      have eW_3 : ([(x0, .inr (8, [.ref k0, .ref h0, .ref c0, .ref t0, .ref m0, .ref d0, .ref s0, .ref o0, .int xu])), (s0, .inr (6, [.ref p0, .int xl, .int (nI sn)])), (p0, .inr (5, [.ref p1])), (p1, .inl (cJ, 78, .inr (.inl (vp_updL (pr PP) (2 * k + hf) xv))))] : va_W) = [(x0, .inr (8, [.ref k0, .ref h0, .ref c0, .ref t0, .ref m0, .ref d0, .ref s0, .ref o0, .int xu])), (s0, .inr (6, [.ref p0, .int xl, .int (nI sn)])), (p0, .inr (5, [.ref p1])), (p1, .inl (cJ, 78, .inr (.inl (pr (upP PP k hf xv)))))] := by rw [upP_pr _ _ hf1]
      have hP : va_P (dC, dI) vwCl [(x0, .inr (8, [.ref k0, .ref h0, .ref c0, .ref t0, .ref m0, .ref d0, .ref s0, .ref o0, .int xu])), (s0, .inr (6, [.ref p0, .int xl, .int (nI sn)])), (p0, .inr (5, [.ref p1])), (p1, .inl (cJ, 78, .inr (.inl (pr (upP PP k hf xv)))))] H := by rw [← eW_3]; exact hP
      have hD : va_D A [(x0, .inr (8, [.ref k0, .ref h0, .ref c0, .ref t0, .ref m0, .ref d0, .ref s0, .ref o0, .int xu])), (s0, .inr (6, [.ref p0, .int xl, .int (nI sn)])), (p0, .inr (5, [.ref p1])), (p1, .inl (cJ, 78, .inr (.inl (pr (upP PP k hf xv)))))] := by rw [← eW_3]; exact hD
      exact W.iret (v := nI 1) hx hb hr (fun t ht hW => ⟨⟨nI 1, (), rfl, rfl, by rw [ht]; exact hP, va_K.moved hW.alike hK, hD⟩, hS.F ht⟩) hS.2.2 dX8_setPart_34
    ·
      rw [q_b0] at c15
      exact absurd ⟨by rw [q_lt0 (by omega)]; omega, by rw [q_le (by omega) (by omega)]; omega⟩ (db_f c15)

set_option maxHeartbeats 4000000 in
set_option maxRecDepth 100000 in
theorem c_tell_no (l : Launch) (dC : Nat → ClassId) (dI : Nat → Nat → Nat) (cJ cI : ClassId) (x0 k0 h0 c0 t0 m0 d0 s0 o0 o1 : Nat) (xu xh : Int32) (xv : Int64) (hbad : ¬ (xh = 0 ∨ xh = nI 1)) (sz : Nat) : Met l yX8_tell wsX8_tell ({ frames := 1, cells := 0, slots := 0, locals := 20 }) (va_Pc [.ref x0, .int xh, .long xv] (st_B (dC, dI) vwCl [(cJ, .long), (cI, .int)] [(x0, .inr (8, [.ref k0, .ref h0, .ref c0, .ref t0, .ref m0, .ref d0, .ref s0, .ref o0, .int xu]))] sz)) (va_Qi (fun (r : Int32) (_ : Unit) => r = nI 0) (st_E (dC, dI) vwCl [(cJ, .long), (cI, .int)] (va_A [(x0, .inr (8, [.ref k0, .ref h0, .ref c0, .ref t0, .ref m0, .ref d0, .ref s0, .ref o0, .int xu]))] sz) (fun _ => [(x0, .inr (8, [.ref k0, .ref h0, .ref c0, .ref t0, .ref m0, .ref d0, .ref s0, .ref o0, .int xu]))])) (va_A [(x0, .inr (8, [.ref k0, .ref h0, .ref c0, .ref t0, .ref m0, .ref d0, .ref s0, .ref o0, .int xu]))] sz)) 0 0 (va_A [(x0, .inr (8, [.ref k0, .ref h0, .ref c0, .ref t0, .ref m0, .ref d0, .ref s0, .ref o0, .int xu]))] sz) := by
  refine Met.ofW (cc := cX8_tell) (maxL := 4) (ret := (some .int)) (by decide) rfl ?_
  intro p e s m args below meth c s₁ B hml hv
  obtain ⟨rfl, hsz, hP, hK, hD0⟩ := hv
  have hx := B.exec
  have hb := B.bytes
  have hr := B.returns
  have hts := atoms_spec (ws := wsX8_tell) B.pre
  have hown : s.vm.findClass RX8 = some m.cls := findClass_of_methodNamed B.named
  have hlocks := B.notSynchronized
  subst hsz
  have hD := hD0.self (sz := s.heap.size)
  generalize hAe : va_A [(x0, .inr (8, [.ref k0, .ref h0, .ref c0, .ref t0, .ref m0, .ref d0, .ref s0, .ref o0, .int xu]))] s.heap.size = A at hD ⊢
  have hA : ∀ q : Nat, s.heap.size ≤ q → A q := fun q h => by rw [← hAe]; exact Or.inr h
  have hS : va_S A s.heap s.heap [] := va_S.rf
  have hP : va_P (dC, dI) vwCl [(x0, .inr (8, [.ref k0, .ref h0, .ref c0, .ref t0, .ref m0, .ref d0, .ref s0, .ref o0, .int xu]))] s.heap := hP
  have hl := lv_entry ([.ref x0, .int xh, .long xv]) (n := 4) (Nat.le_of_ble_eq_true rfl)
  rw [lg_entry_eq]
  generalize (lg_sl ([.ref x0, .int xh, .long xv]) ++ List.replicate (4 - (lg_sl ([.ref x0, .int xh, .long xv])).length) Slot.unset).toArray = ls at hl ⊢
  have hl : lv_has ls 4 [(0, .ref x0), (1, .int xh), (2, .long xv)] := hl
  refine lv_iload_n hx hb dX8_tell_0 rfl (lv_at hl 1 rfl) ?_
  refine st_calli (va_runS (As := [.int xh]) (rest := []) ⟨hx, hb, hml, hown, hts⟩ (c_LeafSigner_isHalf l dC dI cJ cI  xh  s.heap.size) (va_cwS 1 hts gX8_tell_X8_isHalf rfl rfl rfl (by decide +kernel) ⟨Nat.le_of_ble_eq_true rfl, Nat.le_of_ble_eq_true rfl⟩) (st_preS hK hP hD [] rfl rfl) rfl rfl hl.1 rfl (lv_room (Nat.le_of_ble_eq_true rfl)) dX8_tell_1 ⟨Nat.le_of_ble_eq_true rfl, Nat.le_of_ble_eq_true rfl⟩) hP hD hS hA [] [0] (wr := [(x0, .inr (8, [.ref k0, .ref h0, .ref c0, .ref t0, .ref m0, .ref d0, .ref s0, .ref o0, .int xu]))]) rfl rfl (by decide) (by decide) [0] (res := fun _ => [(x0, .inr (8, [.ref k0, .ref h0, .ref c0, .ref t0, .ref m0, .ref d0, .ref s0, .ref o0, .int xu]))]) (fun _ => rfl) (by decide) (fun r_1 _ H locs hu hP hD hS => ?_)
  have hP : va_P (dC, dI) vwCl [(x0, .inr (8, [.ref k0, .ref h0, .ref c0, .ref t0, .ref m0, .ref d0, .ref s0, .ref o0, .int xu]))] H := hP
  have hD : va_D A [(x0, .inr (8, [.ref k0, .ref h0, .ref c0, .ref t0, .ref m0, .ref d0, .ref s0, .ref o0, .int xu]))] := hD
  subst hu
  refine lv_if_ne (tgt := 9) hx hb dX8_tell_4 (by decide) (fun c4 => ?_) (fun c4 => ?_)
  ·
    rw [q_b0] at c4
    exact absurd (db_t c4) hbad
  ·
    rw [q_b0] at c4
    refine lv_iconst (v := nI 0) hx hb dX8_tell_7 (by decide) ?_
    exact W.iret (v := nI 0) hx hb hr (fun t ht hW => ⟨⟨nI 0, (), rfl, rfl, by rw [ht]; exact hP, va_K.moved hW.alike hK, hD⟩, hS.F ht⟩) hS.2.2 dX8_tell_8

set_option maxHeartbeats 4000000 in
set_option maxRecDepth 100000 in
theorem c_tell_ok (l : Launch) (dC : Nat → ClassId) (dI : Nat → Nat → Nat) (cJ cI : ClassId) (x0 k0 h0 c0 t0 m0 d0 s0 o0 o1 : Nat) (xu : Int32) (xv : Int64) (hf : Nat) (tv : Nat → Int64) (hf1 : hf ≤ 1) (sz : Nat) : Met l yX8_tell wsX8_tell ({ frames := 1, cells := 0, slots := 0, locals := 24 }) (va_Pc [.ref x0, .int (nI hf), .long xv] (st_B (dC, dI) vwCl [(cJ, .long), (cI, .int)] [(x0, .inr (8, [.ref k0, .ref h0, .ref c0, .ref t0, .ref m0, .ref d0, .ref s0, .ref o0, .int xu])), (o0, .inr (5, [.ref o1])), (o1, .inl (cJ, 2, .inr (.inl (tv))))] sz)) (va_Qi (fun (r : Int32) (_ : Unit) => r = nI 1) (st_E (dC, dI) vwCl [(cJ, .long), (cI, .int)] (va_A [(x0, .inr (8, [.ref k0, .ref h0, .ref c0, .ref t0, .ref m0, .ref d0, .ref s0, .ref o0, .int xu])), (o0, .inr (5, [.ref o1])), (o1, .inl (cJ, 2, .inr (.inl (tv))))] sz) (fun _ => [(x0, .inr (8, [.ref k0, .ref h0, .ref c0, .ref t0, .ref m0, .ref d0, .ref s0, .ref o0, .int xu])), (o0, .inr (5, [.ref o1])), (o1, .inl (cJ, 2, .inr (.inl (vp_updL tv (2 * 0 + hf) xv))))])) (va_A [(x0, .inr (8, [.ref k0, .ref h0, .ref c0, .ref t0, .ref m0, .ref d0, .ref s0, .ref o0, .int xu])), (o0, .inr (5, [.ref o1])), (o1, .inl (cJ, 2, .inr (.inl (tv))))] sz)) 0 0 (va_A [(x0, .inr (8, [.ref k0, .ref h0, .ref c0, .ref t0, .ref m0, .ref d0, .ref s0, .ref o0, .int xu])), (o0, .inr (5, [.ref o1])), (o1, .inl (cJ, 2, .inr (.inl (tv))))] sz) := by
  refine Met.ofW (cc := cX8_tell) (maxL := 4) (ret := (some .int)) (by decide) rfl ?_
  intro p e s m args below meth c s₁ B hml hv
  obtain ⟨rfl, hsz, hP, hK, hD0⟩ := hv
  have hx := B.exec
  have hb := B.bytes
  have hr := B.returns
  have hts := atoms_spec (ws := wsX8_tell) B.pre
  have hown : s.vm.findClass RX8 = some m.cls := findClass_of_methodNamed B.named
  have hlocks := B.notSynchronized
  subst hsz
  have hD := hD0.self (sz := s.heap.size)
  generalize hAe : va_A [(x0, .inr (8, [.ref k0, .ref h0, .ref c0, .ref t0, .ref m0, .ref d0, .ref s0, .ref o0, .int xu])), (o0, .inr (5, [.ref o1])), (o1, .inl (cJ, 2, .inr (.inl (tv))))] s.heap.size = A at hD ⊢
  have hA : ∀ q : Nat, s.heap.size ≤ q → A q := fun q h => by rw [← hAe]; exact Or.inr h
  have hS : va_S A s.heap s.heap [] := va_S.rf
  have hP : va_P (dC, dI) vwCl [(x0, .inr (8, [.ref k0, .ref h0, .ref c0, .ref t0, .ref m0, .ref d0, .ref s0, .ref o0, .int xu])), (o0, .inr (5, [.ref o1])), (o1, .inl (cJ, 2, .inr (.inl (tv))))] s.heap := hP
  have hl := lv_entry ([.ref x0, .int (nI hf), .long xv]) (n := 4) (Nat.le_of_ble_eq_true rfl)
  rw [lg_entry_eq]
  generalize (lg_sl ([.ref x0, .int (nI hf), .long xv]) ++ List.replicate (4 - (lg_sl ([.ref x0, .int (nI hf), .long xv])).length) Slot.unset).toArray = ls at hl ⊢
  have iX8 : ∀ w ∈ wsX80, w ∈ wsX8_tell := by decide +kernel
  have f63 := hts (.fieldLink RX8 63 "LeafSigner" "told" "LLeafSigner$Pairs;") (by decide +kernel)
  have hl : lv_has ls 4 [(0, .ref x0), (1, .int (nI hf)), (2, .long xv)] := hl
  refine lv_iload_n hx hb dX8_tell_0 rfl (lv_at hl 1 rfl) ?_
  refine st_calli (va_runS (As := [.int (nI hf)]) (rest := []) ⟨hx, hb, hml, hown, hts⟩ (c_LeafSigner_isHalf l dC dI cJ cI  (nI hf)  s.heap.size) (va_cwS 1 hts gX8_tell_X8_isHalf rfl rfl rfl (by decide +kernel) ⟨Nat.le_of_ble_eq_true rfl, Nat.le_of_ble_eq_true rfl⟩) (st_preS hK hP hD [] rfl rfl) rfl rfl hl.1 rfl (lv_room (Nat.le_of_ble_eq_true rfl)) dX8_tell_1 ⟨Nat.le_of_ble_eq_true rfl, Nat.le_of_ble_eq_true rfl⟩) hP hD hS hA [] [0, 1, 2] (wr := [(x0, .inr (8, [.ref k0, .ref h0, .ref c0, .ref t0, .ref m0, .ref d0, .ref s0, .ref o0, .int xu])), (o0, .inr (5, [.ref o1])), (o1, .inl (cJ, 2, .inr (.inl (tv))))]) rfl rfl (by decide) (by decide) [0, 1, 2] (res := fun _ => [(x0, .inr (8, [.ref k0, .ref h0, .ref c0, .ref t0, .ref m0, .ref d0, .ref s0, .ref o0, .int xu])), (o0, .inr (5, [.ref o1])), (o1, .inl (cJ, 2, .inr (.inl (tv))))]) (fun _ => rfl) (by decide) (fun r_1 _ H locs hu hP hD hS => ?_)
  have hP : va_P (dC, dI) vwCl [(x0, .inr (8, [.ref k0, .ref h0, .ref c0, .ref t0, .ref m0, .ref d0, .ref s0, .ref o0, .int xu])), (o0, .inr (5, [.ref o1])), (o1, .inl (cJ, 2, .inr (.inl (tv))))] H := hP
  have hD : va_D A [(x0, .inr (8, [.ref k0, .ref h0, .ref c0, .ref t0, .ref m0, .ref d0, .ref s0, .ref o0, .int xu])), (o0, .inr (5, [.ref o1])), (o1, .inl (cJ, 2, .inr (.inl (tv))))] := hD
  subst hu
  refine lv_if_ne (tgt := 9) hx hb dX8_tell_4 (by decide) (fun c4 => ?_) (fun c4 => ?_)
  ·
    rw [q_b0] at c4
    refine lv_aload_n hx hb dX8_tell_9 rfl (lv_at hl 0 rfl) ?_
    refine va_get (D := (dC, dI)) (ci := 8) (v := .ref o0) (C := RX8) (T := TX8) (N := 9) hx hb hts iX8 hown hK hP 0 rfl rfl 7 (by decide) f63 (fun _ h9 => h9) rfl dX8_tell_10 ?_
    refine lv_iconst (v := nI 0) hx hb dX8_tell_13 (by decide) ?_
    refine lv_iload_n hx hb dX8_tell_14 rfl (lv_at hl 1 rfl) ?_
    refine lv_lload_n hx hb dX8_tell_15 rfl (lv_at hl 2 rfl) ?_
    refine st_callv (va_runV (As := [.int (nI 0), .int (nI hf), .long xv]) (rest := []) ⟨hx, hb, hml, hown, hts⟩ (c_Pairs_put l dC dI cJ cI o0 o1 2 tv 0 hf xv (by omega) (by omega) H.size) (cwV 3 hts gX8_tell_X5_put rfl rfl rfl (by decide +kernel) ⟨Nat.le_of_ble_eq_true rfl, Nat.le_of_ble_eq_true rfl⟩) (st_preV hK hP hD [1, 2] rfl rfl (ci := 5) (q0 := 0) rfl rfl) rfl rfl hl.1 rfl (lv_room (Nat.le_of_ble_eq_true rfl)) dX8_tell_16 ⟨Nat.le_of_ble_eq_true rfl, Nat.le_of_ble_eq_true rfl⟩) hP hD hS hA [1, 2] [0] (wr := [(x0, .inr (8, [.ref k0, .ref h0, .ref c0, .ref t0, .ref m0, .ref d0, .ref s0, .ref o0, .int xu]))]) rfl rfl (by decide) (by decide) [0, 1, 2] (res := fun _ => [(x0, .inr (8, [.ref k0, .ref h0, .ref c0, .ref t0, .ref m0, .ref d0, .ref s0, .ref o0, .int xu])), (o0, .inr (5, [.ref o1])), (o1, .inl (cJ, 2, .inr (.inl (vp_updL tv (2 * 0 + hf) xv))))]) (fun _ => rfl) (by decide) (fun  _ H locs hu hP hD hS => ?_)
    have hP : va_P (dC, dI) vwCl [(x0, .inr (8, [.ref k0, .ref h0, .ref c0, .ref t0, .ref m0, .ref d0, .ref s0, .ref o0, .int xu])), (o0, .inr (5, [.ref o1])), (o1, .inl (cJ, 2, .inr (.inl (vp_updL tv (2 * 0 + hf) xv))))] H := hP
    have hD : va_D A [(x0, .inr (8, [.ref k0, .ref h0, .ref c0, .ref t0, .ref m0, .ref d0, .ref s0, .ref o0, .int xu])), (o0, .inr (5, [.ref o1])), (o1, .inl (cJ, 2, .inr (.inl (vp_updL tv (2 * 0 + hf) xv))))] := hD
    refine lv_iconst (v := nI 1) hx hb dX8_tell_19 (by decide) ?_
    exact W.iret (v := nI 1) hx hb hr (fun t ht hW => ⟨⟨nI 1, (), rfl, rfl, by rw [ht]; exact hP, va_K.moved hW.alike hK, hD⟩, hS.F ht⟩) hS.2.2 dX8_tell_20
  ·
    rw [q_b0] at c4
    exact absurd (half_of hf1) (db_f c4)

set_option maxHeartbeats 4000000 in
set_option maxRecDepth 100000 in
theorem c_LeafSigner_hash (l : Launch) (dC : Nat → ClassId) (dI : Nat → Nat → Nat) (cJ cI : ClassId) (x0 k0 h0 c0 t0 m0 d0 s0 o0 m1 : Nat) (xu xk xh : Int32) (pv : Int64 × Int64) (ln : Nat) (mv : Nat → Int64) (hln : ln ≤ 20) (sz : Nat) : Met l yX8_hash wsX8_hash ({ frames := 3, cells := 0, slots := 0, locals := 69 }) (va_Pc [.ref x0, .int xk, .int xh] (st_B (dC, dI) vwCl [(cJ, .long), (cI, .int)] [(x0, .inr (8, [.ref k0, .ref h0, .ref c0, .ref t0, .ref m0, .ref d0, .ref s0, .ref o0, .int xu])), (h0, .inr (2, [.long pv.1, .long pv.2])), (m0, .inr (4, [.ref m1, .int (nI ln)])), (m1, .inl (cJ, 20, .inr (.inl (mv))))] sz)) (va_Ql (fun (r : Int64) (u : (Int64 × Int64)) => r = hsA xk mv ln xh ∧ (True)) (st_E (dC, dI) vwCl [(cJ, .long), (cI, .int)] (va_A [(x0, .inr (8, [.ref k0, .ref h0, .ref c0, .ref t0, .ref m0, .ref d0, .ref s0, .ref o0, .int xu])), (h0, .inr (2, [.long pv.1, .long pv.2])), (m0, .inr (4, [.ref m1, .int (nI ln)])), (m1, .inl (cJ, 20, .inr (.inl (mv))))] sz) (fun u => [(x0, .inr (8, [.ref k0, .ref h0, .ref c0, .ref t0, .ref m0, .ref d0, .ref s0, .ref o0, .int xu])), (h0, .inr (2, [.long u.1, .long u.2])), (m0, .inr (4, [.ref m1, .int (nI ln)])), (m1, .inl (cJ, 20, .inr (.inl (mv))))])) (va_A [(x0, .inr (8, [.ref k0, .ref h0, .ref c0, .ref t0, .ref m0, .ref d0, .ref s0, .ref o0, .int xu])), (h0, .inr (2, [.long pv.1, .long pv.2])), (m0, .inr (4, [.ref m1, .int (nI ln)])), (m1, .inl (cJ, 20, .inr (.inl (mv))))] sz)) 0 0 (va_A [(x0, .inr (8, [.ref k0, .ref h0, .ref c0, .ref t0, .ref m0, .ref d0, .ref s0, .ref o0, .int xu])), (h0, .inr (2, [.long pv.1, .long pv.2])), (m0, .inr (4, [.ref m1, .int (nI ln)])), (m1, .inl (cJ, 20, .inr (.inl (mv))))] sz) := by
  refine Met.ofW (cc := cX8_hash) (maxL := 3) (ret := (some .long)) (by decide) rfl ?_
  intro p e s m args below meth c s₁ B hml hv
  obtain ⟨rfl, hsz, hP, hK, hD0⟩ := hv
  have hx := B.exec
  have hb := B.bytes
  have hr := B.returns
  have hts := atoms_spec (ws := wsX8_hash) B.pre
  have hown : s.vm.findClass RX8 = some m.cls := findClass_of_methodNamed B.named
  have hlocks := B.notSynchronized
  subst hsz
  have hD := hD0.self (sz := s.heap.size)
  generalize hAe : va_A [(x0, .inr (8, [.ref k0, .ref h0, .ref c0, .ref t0, .ref m0, .ref d0, .ref s0, .ref o0, .int xu])), (h0, .inr (2, [.long pv.1, .long pv.2])), (m0, .inr (4, [.ref m1, .int (nI ln)])), (m1, .inl (cJ, 20, .inr (.inl (mv))))] s.heap.size = A at hD ⊢
  have hA : ∀ q : Nat, s.heap.size ≤ q → A q := fun q h => by rw [← hAe]; exact Or.inr h
  have hS : va_S A s.heap s.heap [] := va_S.rf
  have hP : va_P (dC, dI) vwCl [(x0, .inr (8, [.ref k0, .ref h0, .ref c0, .ref t0, .ref m0, .ref d0, .ref s0, .ref o0, .int xu])), (h0, .inr (2, [.long pv.1, .long pv.2])), (m0, .inr (4, [.ref m1, .int (nI ln)])), (m1, .inl (cJ, 20, .inr (.inl (mv))))] s.heap := hP
  have hl := lv_entry ([.ref x0, .int xk, .int xh]) (n := 3) (Nat.le_of_ble_eq_true rfl)
  rw [lg_entry_eq]
  generalize (lg_sl ([.ref x0, .int xk, .int xh]) ++ List.replicate (3 - (lg_sl ([.ref x0, .int xk, .int xh])).length) Slot.unset).toArray = ls at hl ⊢
  have iX8 : ∀ w ∈ wsX80, w ∈ wsX8_hash := by decide +kernel
  have iX4 : ∀ w ∈ wsX40, w ∈ wsX8_hash := by decide +kernel
  have iX2 : ∀ w ∈ wsX20, w ∈ wsX8_hash := by decide +kernel
  have f19 := hts (.fieldLink RX8 19 "LeafSigner" "hasher" "LLeafSigner$Hasher;") (by decide +kernel)
  have f40 := hts (.fieldLink RX8 40 "LeafSigner" "message" "LLeafSigner$Message;") (by decide +kernel)
  have f141 := hts (.fieldLink RX8 141 "LeafSigner$Message" "size" "I") (by decide +kernel)
  have f210 := hts (.fieldLink RX8 210 "LeafSigner$Hasher" "b" "J") (by decide +kernel)
  have f207 := hts (.fieldLink RX8 207 "LeafSigner$Hasher" "a" "J") (by decide +kernel)
  have hl : lv_has ls 3 [(0, .ref x0), (1, .int xk), (2, .int xh)] := hl
  refine lv_iload_n hx hb dX8_hash_0 rfl (lv_at hl 2 rfl) ?_
  refine st_calli (va_runS (As := [.int xh]) (rest := []) ⟨hx, hb, hml, hown, hts⟩ (c_LeafSigner_isHalf l dC dI cJ cI  xh  s.heap.size) (va_cwS 1 hts gX8_hash_X8_isHalf rfl rfl rfl (by decide +kernel) ⟨Nat.le_of_ble_eq_true rfl, Nat.le_of_ble_eq_true rfl⟩) (st_preS hK hP hD [] rfl rfl) rfl rfl hl.1 rfl (lv_room (Nat.le_of_ble_eq_true rfl)) dX8_hash_1 ⟨Nat.le_of_ble_eq_true rfl, Nat.le_of_ble_eq_true rfl⟩) hP hD hS hA [] [0, 1, 2, 3] (wr := [(x0, .inr (8, [.ref k0, .ref h0, .ref c0, .ref t0, .ref m0, .ref d0, .ref s0, .ref o0, .int xu])), (h0, .inr (2, [.long pv.1, .long pv.2])), (m0, .inr (4, [.ref m1, .int (nI ln)])), (m1, .inl (cJ, 20, .inr (.inl (mv))))]) rfl rfl (by decide) (by decide) [0, 1, 2, 3] (res := fun _ => [(x0, .inr (8, [.ref k0, .ref h0, .ref c0, .ref t0, .ref m0, .ref d0, .ref s0, .ref o0, .int xu])), (h0, .inr (2, [.long pv.1, .long pv.2])), (m0, .inr (4, [.ref m1, .int (nI ln)])), (m1, .inl (cJ, 20, .inr (.inl (mv))))]) (fun _ => rfl) (by decide) (fun r_1 _ H locs hu hP hD hS => ?_)
  have hP : va_P (dC, dI) vwCl [(x0, .inr (8, [.ref k0, .ref h0, .ref c0, .ref t0, .ref m0, .ref d0, .ref s0, .ref o0, .int xu])), (h0, .inr (2, [.long pv.1, .long pv.2])), (m0, .inr (4, [.ref m1, .int (nI ln)])), (m1, .inl (cJ, 20, .inr (.inl (mv))))] H := hP
  have hD : va_D A [(x0, .inr (8, [.ref k0, .ref h0, .ref c0, .ref t0, .ref m0, .ref d0, .ref s0, .ref o0, .int xu])), (h0, .inr (2, [.long pv.1, .long pv.2])), (m0, .inr (4, [.ref m1, .int (nI ln)])), (m1, .inl (cJ, 20, .inr (.inl (mv))))] := hD
  subst hu
  refine lv_if_ne (tgt := 9) hx hb dX8_hash_4 (by decide) (fun c4 => ?_) (fun c4 => ?_)
  ·
    rw [q_b0] at c4
    refine lv_aload_n hx hb dX8_hash_9 rfl (lv_at hl 0 rfl) ?_
    refine va_get (D := (dC, dI)) (ci := 8) (v := .ref h0) (C := RX8) (T := TX8) (N := 9) hx hb hts iX8 hown hK hP 0 rfl rfl 1 (by decide) f19 (fun _ h9 => h9) rfl dX8_hash_10 ?_
    refine lv_iload_n hx hb dX8_hash_13 rfl (lv_at hl 1 rfl) ?_
    refine lv_aload_n hx hb dX8_hash_14 rfl (lv_at hl 0 rfl) ?_
    refine va_get (D := (dC, dI)) (ci := 8) (v := .ref m0) (C := RX8) (T := TX8) (N := 9) hx hb hts iX8 hown hK hP 0 rfl rfl 4 (by decide) f40 (fun _ h9 => h9) rfl dX8_hash_15 ?_
    refine va_get (D := (dC, dI)) (ci := 4) (v := .int (nI ln)) (C := RX4) (T := TX4) (N := 2) hx hb hts iX4 hown hK hP 2 rfl rfl 1 (by decide) f141 (fun _ h9 => h9) rfl dX8_hash_18 ?_
    refine st_callv (va_runV (As := [.int xk, .int (nI ln)]) (rest := []) ⟨hx, hb, hml, hown, hts⟩ (c_Hasher_start l dC dI cJ cI h0 pv xk (nI ln) xk.toInt64 (lN ln) rfl (nI_l (by omega)) H.size) (cwV 2 hts gX8_hash_X2_start rfl rfl rfl (by decide +kernel) ⟨Nat.le_of_ble_eq_true rfl, Nat.le_of_ble_eq_true rfl⟩) (st_preV hK hP hD [1] rfl rfl (ci := 2) (q0 := 0) rfl rfl) rfl rfl hl.1 rfl (lv_room (Nat.le_of_ble_eq_true rfl)) dX8_hash_21 ⟨Nat.le_of_ble_eq_true rfl, Nat.le_of_ble_eq_true rfl⟩) hP hD hS hA [1] [0, 2, 3] (wr := [(x0, .inr (8, [.ref k0, .ref h0, .ref c0, .ref t0, .ref m0, .ref d0, .ref s0, .ref o0, .int xu])), (m0, .inr (4, [.ref m1, .int (nI ln)])), (m1, .inl (cJ, 20, .inr (.inl (mv))))]) rfl rfl (by decide) (by decide) [0, 3, 1, 2] (res := fun _ => [(x0, .inr (8, [.ref k0, .ref h0, .ref c0, .ref t0, .ref m0, .ref d0, .ref s0, .ref o0, .int xu])), (h0, .inr (2, [.long xk.toInt64, .long (lN ln)])), (m0, .inr (4, [.ref m1, .int (nI ln)])), (m1, .inl (cJ, 20, .inr (.inl (mv))))]) (fun _ => rfl) (by decide) (fun  _ H locs hu hP hD hS => ?_)
    have hP : va_P (dC, dI) vwCl [(x0, .inr (8, [.ref k0, .ref h0, .ref c0, .ref t0, .ref m0, .ref d0, .ref s0, .ref o0, .int xu])), (h0, .inr (2, [.long xk.toInt64, .long (lN ln)])), (m0, .inr (4, [.ref m1, .int (nI ln)])), (m1, .inl (cJ, 20, .inr (.inl (mv))))] H := hP
    have hD : va_D A [(x0, .inr (8, [.ref k0, .ref h0, .ref c0, .ref t0, .ref m0, .ref d0, .ref s0, .ref o0, .int xu])), (h0, .inr (2, [.long xk.toInt64, .long (lN ln)])), (m0, .inr (4, [.ref m1, .int (nI ln)])), (m1, .inl (cJ, 20, .inr (.inl (mv))))] := hD
    refine lv_aload_n hx hb dX8_hash_24 rfl (lv_at hl 0 rfl) ?_
    refine va_get (D := (dC, dI)) (ci := 8) (v := .ref h0) (C := RX8) (T := TX8) (N := 9) hx hb hts iX8 hown hK hP 0 rfl rfl 1 (by decide) f19 (fun _ h9 => h9) rfl dX8_hash_25 ?_
    refine lv_aload_n hx hb dX8_hash_28 rfl (lv_at hl 0 rfl) ?_
    refine va_get (D := (dC, dI)) (ci := 8) (v := .ref m0) (C := RX8) (T := TX8) (N := 9) hx hb hts iX8 hown hK hP 0 rfl rfl 4 (by decide) f40 (fun _ h9 => h9) rfl dX8_hash_29 ?_
    refine st_callv (va_runV (As := [.ref m0]) (rest := []) ⟨hx, hb, hml, hown, hts⟩ (c_Hasher_addMessage l dC dI cJ cI h0 m0 m1 (xk.toInt64, lN ln) ln mv (by omega) H.size) (cwV 1 hts gX8_hash_X2_addMessage rfl rfl rfl (by decide +kernel) ⟨Nat.le_of_ble_eq_true rfl, Nat.le_of_ble_eq_true rfl⟩) (st_preV hK hP hD [1, 2, 3] rfl rfl (ci := 2) (q0 := 0) rfl rfl) rfl rfl hl.1 rfl (lv_room (Nat.le_of_ble_eq_true rfl)) dX8_hash_32 ⟨Nat.le_of_ble_eq_true rfl, Nat.le_of_ble_eq_true rfl⟩) hP hD hS hA [1, 2, 3] [0] (wr := [(x0, .inr (8, [.ref k0, .ref h0, .ref c0, .ref t0, .ref m0, .ref d0, .ref s0, .ref o0, .int xu]))]) rfl rfl (by decide) (by decide) [0, 1, 2, 3] (res := fun _ => [(x0, .inr (8, [.ref k0, .ref h0, .ref c0, .ref t0, .ref m0, .ref d0, .ref s0, .ref o0, .int xu])), (h0, .inr (2, [.long ((hm (xk.toInt64, lN ln) mv ln).1), .long ((hm (xk.toInt64, lN ln) mv ln).2)])), (m0, .inr (4, [.ref m1, .int (nI ln)])), (m1, .inl (cJ, 20, .inr (.inl (mv))))]) (fun _ => rfl) (by decide) (fun  _ H locs hu hP hD hS => ?_)
    have hP : va_P (dC, dI) vwCl [(x0, .inr (8, [.ref k0, .ref h0, .ref c0, .ref t0, .ref m0, .ref d0, .ref s0, .ref o0, .int xu])), (h0, .inr (2, [.long ((hm (xk.toInt64, lN ln) mv ln).1), .long ((hm (xk.toInt64, lN ln) mv ln).2)])), (m0, .inr (4, [.ref m1, .int (nI ln)])), (m1, .inl (cJ, 20, .inr (.inl (mv))))] H := hP
    have hD : va_D A [(x0, .inr (8, [.ref k0, .ref h0, .ref c0, .ref t0, .ref m0, .ref d0, .ref s0, .ref o0, .int xu])), (h0, .inr (2, [.long ((hm (xk.toInt64, lN ln) mv ln).1), .long ((hm (xk.toInt64, lN ln) mv ln).2)])), (m0, .inr (4, [.ref m1, .int (nI ln)])), (m1, .inl (cJ, 20, .inr (.inl (mv))))] := hD
    refine lv_iload_n hx hb dX8_hash_35 rfl (lv_at hl 2 rfl) ?_
    refine lv_if_ne (tgt := 49) hx hb dX8_hash_36 (by decide) (fun c36 => ?_) (fun c36 => ?_)
    ·
      refine lv_aload_n hx hb dX8_hash_49 rfl (lv_at hl 0 rfl) ?_
      refine va_get (D := (dC, dI)) (ci := 8) (v := .ref h0) (C := RX8) (T := TX8) (N := 9) hx hb hts iX8 hown hK hP 0 rfl rfl 1 (by decide) f19 (fun _ h9 => h9) rfl dX8_hash_50 ?_
      refine va_get (D := (dC, dI)) (ci := 2) (v := .long ((hm (xk.toInt64, lN ln) mv ln).2)) (C := RX2) (T := TX2) (N := 2) hx hb hts iX2 hown hK hP 1 rfl rfl 1 (by decide) f210 (fun _ h9 => h9) rfl dX8_hash_53 ?_
      exact W.lret (v := (hm (xk.toInt64, lN ln) mv ln).2) hx hb hr (fun t ht hW => ⟨⟨(hm (xk.toInt64, lN ln) mv ln).2, (hm (xk.toInt64, lN ln) mv ln), rfl, ⟨by unfold hsA; rw [if_neg c36, if_pos ((db_t c4).resolve_left c36)], trivial⟩, by rw [ht]; exact hP, va_K.moved hW.alike hK, hD⟩, hS.F ht⟩) hS.2.2 dX8_hash_56
    ·
      refine lv_aload_n hx hb dX8_hash_39 rfl (lv_at hl 0 rfl) ?_
      refine va_get (D := (dC, dI)) (ci := 8) (v := .ref h0) (C := RX8) (T := TX8) (N := 9) hx hb hts iX8 hown hK hP 0 rfl rfl 1 (by decide) f19 (fun _ h9 => h9) rfl dX8_hash_40 ?_
      refine va_get (D := (dC, dI)) (ci := 2) (v := .long ((hm (xk.toInt64, lN ln) mv ln).1)) (C := RX2) (T := TX2) (N := 2) hx hb hts iX2 hown hK hP 1 rfl rfl 0 (by decide) f207 (fun _ h9 => h9) rfl dX8_hash_43 ?_
      refine lv_goto (tgt := 56) hx hb dX8_hash_46 (by decide) ?_
      exact W.lret (v := (hm (xk.toInt64, lN ln) mv ln).1) hx hb hr (fun t ht hW => ⟨⟨(hm (xk.toInt64, lN ln) mv ln).1, (hm (xk.toInt64, lN ln) mv ln), rfl, ⟨by unfold hsA; rw [if_pos c36], trivial⟩, by rw [ht]; exact hP, va_K.moved hW.alike hK, hD⟩, hS.F ht⟩) hS.2.2 dX8_hash_56
  ·
    rw [q_b0] at c4
    refine lv_lconst (v := lN 0) hx hb dX8_hash_7 (by decide) ?_
    exact W.lret (v := lN 0) hx hb hr (fun t ht hW => ⟨⟨lN 0, pv, rfl, ⟨by unfold hsA; rw [if_neg (fun q => db_f c4 (Or.inl q)), if_neg (fun q => db_f c4 (Or.inr q))], trivial⟩, by rw [ht]; exact hP, va_K.moved hW.alike hK, hD⟩, hS.F ht⟩) hS.2.2 dX8_hash_8

set_option maxHeartbeats 4000000 in
set_option maxRecDepth 100000 in
theorem c_LeafSigner_count (l : Launch) (dC : Nat → ClassId) (dI : Nat → Nat → Nat) (cJ cI : ClassId) (x0 k0 h0 c0 t0 m0 d0 s0 o0 n0 m1 p0 : Nat) (w1 w2 ov : Int64) (hh md us ln : Nat) (xl xn xw : Int32) (mv : Nat → Int64) (h4 : hh ≤ 4) (sz : Nat) : Met l yX8_count wsX8_count ({ frames := 1, cells := 0, slots := 0, locals := 20 }) (va_Pc [.ref x0, .int xw] (st_B (dC, dI) vwCl [(cJ, .long), (cI, .int)] [(x0, .inr (8, [.ref k0, .ref h0, .ref c0, .ref t0, .ref m0, .ref d0, .ref s0, .ref o0, .int (nI us)])), (k0, .inr (3, [.long w1, .long w2, .long ov, .int (nI hh)])), (t0, .inr (7, [.ref n0, .int (nI md)])), (m0, .inr (4, [.ref m1, .int (nI ln)])), (m1, .inl (cJ, 20, .inr (.inl (mv)))), (s0, .inr (6, [.ref p0, .int xl, .int xn]))] sz)) (va_Qi (fun (r : Int32) (_ : Unit) => r = ctA hh md us ln xn xw) (st_E (dC, dI) vwCl [(cJ, .long), (cI, .int)] (va_A [(x0, .inr (8, [.ref k0, .ref h0, .ref c0, .ref t0, .ref m0, .ref d0, .ref s0, .ref o0, .int (nI us)])), (k0, .inr (3, [.long w1, .long w2, .long ov, .int (nI hh)])), (t0, .inr (7, [.ref n0, .int (nI md)])), (m0, .inr (4, [.ref m1, .int (nI ln)])), (m1, .inl (cJ, 20, .inr (.inl (mv)))), (s0, .inr (6, [.ref p0, .int xl, .int xn]))] sz) (fun _ => [(x0, .inr (8, [.ref k0, .ref h0, .ref c0, .ref t0, .ref m0, .ref d0, .ref s0, .ref o0, .int (nI us)])), (k0, .inr (3, [.long w1, .long w2, .long ov, .int (nI hh)])), (t0, .inr (7, [.ref n0, .int (nI md)])), (m0, .inr (4, [.ref m1, .int (nI ln)])), (m1, .inl (cJ, 20, .inr (.inl (mv)))), (s0, .inr (6, [.ref p0, .int xl, .int xn]))])) (va_A [(x0, .inr (8, [.ref k0, .ref h0, .ref c0, .ref t0, .ref m0, .ref d0, .ref s0, .ref o0, .int (nI us)])), (k0, .inr (3, [.long w1, .long w2, .long ov, .int (nI hh)])), (t0, .inr (7, [.ref n0, .int (nI md)])), (m0, .inr (4, [.ref m1, .int (nI ln)])), (m1, .inl (cJ, 20, .inr (.inl (mv)))), (s0, .inr (6, [.ref p0, .int xl, .int xn]))] sz)) 0 0 (va_A [(x0, .inr (8, [.ref k0, .ref h0, .ref c0, .ref t0, .ref m0, .ref d0, .ref s0, .ref o0, .int (nI us)])), (k0, .inr (3, [.long w1, .long w2, .long ov, .int (nI hh)])), (t0, .inr (7, [.ref n0, .int (nI md)])), (m0, .inr (4, [.ref m1, .int (nI ln)])), (m1, .inl (cJ, 20, .inr (.inl (mv)))), (s0, .inr (6, [.ref p0, .int xl, .int xn]))] sz) := by
  refine Met.ofW (cc := cX8_count) (maxL := 2) (ret := (some .int)) (by decide) rfl ?_
  intro p e s m args below meth c s₁ B hml hv
  obtain ⟨rfl, hsz, hP, hK, hD0⟩ := hv
  have hx := B.exec
  have hb := B.bytes
  have hr := B.returns
  have hts := atoms_spec (ws := wsX8_count) B.pre
  have hown : s.vm.findClass RX8 = some m.cls := findClass_of_methodNamed B.named
  have hlocks := B.notSynchronized
  subst hsz
  have hD := hD0.self (sz := s.heap.size)
  generalize hAe : va_A [(x0, .inr (8, [.ref k0, .ref h0, .ref c0, .ref t0, .ref m0, .ref d0, .ref s0, .ref o0, .int (nI us)])), (k0, .inr (3, [.long w1, .long w2, .long ov, .int (nI hh)])), (t0, .inr (7, [.ref n0, .int (nI md)])), (m0, .inr (4, [.ref m1, .int (nI ln)])), (m1, .inl (cJ, 20, .inr (.inl (mv)))), (s0, .inr (6, [.ref p0, .int xl, .int xn]))] s.heap.size = A at hD ⊢
  have hA : ∀ q : Nat, s.heap.size ≤ q → A q := fun q h => by rw [← hAe]; exact Or.inr h
  have hS : va_S A s.heap s.heap [] := va_S.rf
  have hP : va_P (dC, dI) vwCl [(x0, .inr (8, [.ref k0, .ref h0, .ref c0, .ref t0, .ref m0, .ref d0, .ref s0, .ref o0, .int (nI us)])), (k0, .inr (3, [.long w1, .long w2, .long ov, .int (nI hh)])), (t0, .inr (7, [.ref n0, .int (nI md)])), (m0, .inr (4, [.ref m1, .int (nI ln)])), (m1, .inl (cJ, 20, .inr (.inl (mv)))), (s0, .inr (6, [.ref p0, .int xl, .int xn]))] s.heap := hP
  have hl := lv_entry ([.ref x0, .int xw]) (n := 2) (Nat.le_of_ble_eq_true rfl)
  rw [lg_entry_eq]
  generalize (lg_sl ([.ref x0, .int xw]) ++ List.replicate (2 - (lg_sl ([.ref x0, .int xw])).length) Slot.unset).toArray = ls at hl ⊢
  have iX8 : ∀ w ∈ wsX80, w ∈ wsX8_count := by decide +kernel
  have iX7 : ∀ w ∈ wsX70, w ∈ wsX8_count := by decide +kernel
  have iX4 : ∀ w ∈ wsX40, w ∈ wsX8_count := by decide +kernel
  have iX6 : ∀ w ∈ wsX60, w ∈ wsX8_count := by decide +kernel
  have f10 := hts (.fieldLink RX8 10 "LeafSigner" "keys" "LLeafSigner$Keys;") (by decide +kernel)
  have f33 := hts (.fieldLink RX8 33 "LeafSigner" "tree" "LLeafSigner$Tree;") (by decide +kernel)
  have f83 := hts (.fieldLink RX8 83 "LeafSigner$Tree" "made" "I") (by decide +kernel)
  have f67 := hts (.fieldLink RX8 67 "LeafSigner" "used" "I") (by decide +kernel)
  have f40 := hts (.fieldLink RX8 40 "LeafSigner" "message" "LLeafSigner$Message;") (by decide +kernel)
  have f141 := hts (.fieldLink RX8 141 "LeafSigner$Message" "size" "I") (by decide +kernel)
  have f54 := hts (.fieldLink RX8 54 "LeafSigner" "signature" "LLeafSigner$Signature;") (by decide +kernel)
  have f213 := hts (.fieldLink RX8 213 "LeafSigner$Signature" "size" "I") (by decide +kernel)
  have hl : lv_has ls 2 [(0, .ref x0), (1, .int xw)] := hl
  refine lv_iload_n hx hb dX8_count_0 rfl (lv_at hl 1 rfl) ?_
  by_cases e0 : xw = nI 0
  ·
    subst e0
    refine lv_tableIn (tgt := 36) hx hb dX8_count_1 (by decide) (by decide) (by first | rfl | decide) (by decide) ?_
    refine lv_aload_n hx hb dX8_count_36 rfl (lv_at hl 0 rfl) ?_
    refine va_get (D := (dC, dI)) (ci := 8) (v := .ref k0) (C := RX8) (T := TX8) (N := 9) hx hb hts iX8 hown hK hP 0 rfl rfl 0 (by decide) f10 (fun _ h9 => h9) rfl dX8_count_37 ?_
    refine st_calli (va_runV (As := []) (rest := []) ⟨hx, hb, hml, hown, hts⟩ (c_Keys_leaves l dC dI cJ cI k0 w1 w2 ov hh (by omega) s.heap.size) (cwV 0 hts gX8_count_X3_leaves rfl rfl rfl (by decide +kernel) ⟨Nat.le_of_ble_eq_true rfl, Nat.le_of_ble_eq_true rfl⟩) (st_preV hK hP hD [1] rfl rfl (ci := 3) (q0 := 0) rfl rfl) rfl rfl hl.1 rfl (lv_room (Nat.le_of_ble_eq_true rfl)) dX8_count_40 ⟨Nat.le_of_ble_eq_true rfl, Nat.le_of_ble_eq_true rfl⟩) hP hD hS hA [1] [0, 2, 3, 4, 5] (wr := [(x0, .inr (8, [.ref k0, .ref h0, .ref c0, .ref t0, .ref m0, .ref d0, .ref s0, .ref o0, .int (nI us)])), (t0, .inr (7, [.ref n0, .int (nI md)])), (m0, .inr (4, [.ref m1, .int (nI ln)])), (m1, .inl (cJ, 20, .inr (.inl (mv)))), (s0, .inr (6, [.ref p0, .int xl, .int xn]))]) rfl rfl (by decide) (by decide) [0, 5, 1, 2, 3, 4] (res := fun _ => [(x0, .inr (8, [.ref k0, .ref h0, .ref c0, .ref t0, .ref m0, .ref d0, .ref s0, .ref o0, .int (nI us)])), (k0, .inr (3, [.long w1, .long w2, .long ov, .int (nI hh)])), (t0, .inr (7, [.ref n0, .int (nI md)])), (m0, .inr (4, [.ref m1, .int (nI ln)])), (m1, .inl (cJ, 20, .inr (.inl (mv)))), (s0, .inr (6, [.ref p0, .int xl, .int xn]))]) (fun _ => rfl) (by decide) (fun r_1 _ H locs hu hP hD hS => ?_)
    have hP : va_P (dC, dI) vwCl [(x0, .inr (8, [.ref k0, .ref h0, .ref c0, .ref t0, .ref m0, .ref d0, .ref s0, .ref o0, .int (nI us)])), (k0, .inr (3, [.long w1, .long w2, .long ov, .int (nI hh)])), (t0, .inr (7, [.ref n0, .int (nI md)])), (m0, .inr (4, [.ref m1, .int (nI ln)])), (m1, .inl (cJ, 20, .inr (.inl (mv)))), (s0, .inr (6, [.ref p0, .int xl, .int xn]))] H := hP
    have hD : va_D A [(x0, .inr (8, [.ref k0, .ref h0, .ref c0, .ref t0, .ref m0, .ref d0, .ref s0, .ref o0, .int (nI us)])), (k0, .inr (3, [.long w1, .long w2, .long ov, .int (nI hh)])), (t0, .inr (7, [.ref n0, .int (nI md)])), (m0, .inr (4, [.ref m1, .int (nI ln)])), (m1, .inl (cJ, 20, .inr (.inl (mv)))), (s0, .inr (6, [.ref p0, .int xl, .int xn]))] := hD
    subst hu
    exact W.iret (v := nI (2 ^ hh)) hx hb hr (fun t ht hW => ⟨⟨nI (2 ^ hh), (), rfl, by unfold ctA; rw [if_pos rfl], by rw [ht]; exact hP, va_K.moved hW.alike hK, hD⟩, hS.F ht⟩) hS.2.2 dX8_count_43
  by_cases e1 : xw = nI 1
  ·
    subst e1
    refine lv_tableIn (tgt := 44) hx hb dX8_count_1 (by decide) (by decide) (by first | rfl | decide) (by decide) ?_
    refine lv_aload_n hx hb dX8_count_44 rfl (lv_at hl 0 rfl) ?_
    refine va_get (D := (dC, dI)) (ci := 8) (v := .ref t0) (C := RX8) (T := TX8) (N := 9) hx hb hts iX8 hown hK hP 0 rfl rfl 3 (by decide) f33 (fun _ h9 => h9) rfl dX8_count_45 ?_
    refine va_get (D := (dC, dI)) (ci := 7) (v := .int (nI md)) (C := RX7) (T := TX7) (N := 2) hx hb hts iX7 hown hK hP 2 rfl rfl 1 (by decide) f83 (fun _ h9 => h9) rfl dX8_count_48 ?_
    exact W.iret (v := nI md) hx hb hr (fun t ht hW => ⟨⟨nI md, (), rfl, by unfold ctA; rw [if_neg (show ¬ nI 1 = nI 0 by decide)]; rw [if_pos rfl], by rw [ht]; exact hP, va_K.moved hW.alike hK, hD⟩, hS.F ht⟩) hS.2.2 dX8_count_51
  by_cases e2 : xw = nI 2
  ·
    subst e2
    refine lv_tableIn (tgt := 52) hx hb dX8_count_1 (by decide) (by decide) (by first | rfl | decide) (by decide) ?_
    refine lv_aload_n hx hb dX8_count_52 rfl (lv_at hl 0 rfl) ?_
    refine va_get (D := (dC, dI)) (ci := 8) (v := .int (nI us)) (C := RX8) (T := TX8) (N := 9) hx hb hts iX8 hown hK hP 0 rfl rfl 8 (by decide) f67 (fun _ h9 => h9) rfl dX8_count_53 ?_
    exact W.iret (v := nI us) hx hb hr (fun t ht hW => ⟨⟨nI us, (), rfl, by unfold ctA; rw [if_neg (show ¬ nI 2 = nI 0 by decide)]; rw [if_neg (show ¬ nI 2 = nI 1 by decide)]; rw [if_pos rfl], by rw [ht]; exact hP, va_K.moved hW.alike hK, hD⟩, hS.F ht⟩) hS.2.2 dX8_count_56
  by_cases e3 : xw = nI 3
  ·
    subst e3
    refine lv_tableIn (tgt := 57) hx hb dX8_count_1 (by decide) (by decide) (by first | rfl | decide) (by decide) ?_
    refine lv_aload_n hx hb dX8_count_57 rfl (lv_at hl 0 rfl) ?_
    refine va_get (D := (dC, dI)) (ci := 8) (v := .ref m0) (C := RX8) (T := TX8) (N := 9) hx hb hts iX8 hown hK hP 0 rfl rfl 4 (by decide) f40 (fun _ h9 => h9) rfl dX8_count_58 ?_
    refine va_get (D := (dC, dI)) (ci := 4) (v := .int (nI ln)) (C := RX4) (T := TX4) (N := 2) hx hb hts iX4 hown hK hP 3 rfl rfl 1 (by decide) f141 (fun _ h9 => h9) rfl dX8_count_61 ?_
    exact W.iret (v := nI ln) hx hb hr (fun t ht hW => ⟨⟨nI ln, (), rfl, by unfold ctA; rw [if_neg (show ¬ nI 3 = nI 0 by decide)]; rw [if_neg (show ¬ nI 3 = nI 1 by decide)]; rw [if_neg (show ¬ nI 3 = nI 2 by decide)]; rw [if_pos rfl], by rw [ht]; exact hP, va_K.moved hW.alike hK, hD⟩, hS.F ht⟩) hS.2.2 dX8_count_64
  by_cases e4 : xw = nI 4
  ·
    subst e4
    refine lv_tableIn (tgt := 65) hx hb dX8_count_1 (by decide) (by decide) (by first | rfl | decide) (by decide) ?_
    refine lv_aload_n hx hb dX8_count_65 rfl (lv_at hl 0 rfl) ?_
    refine va_get (D := (dC, dI)) (ci := 8) (v := .ref s0) (C := RX8) (T := TX8) (N := 9) hx hb hts iX8 hown hK hP 0 rfl rfl 6 (by decide) f54 (fun _ h9 => h9) rfl dX8_count_66 ?_
    refine va_get (D := (dC, dI)) (ci := 6) (v := .int xn) (C := RX6) (T := TX6) (N := 3) hx hb hts iX6 hown hK hP 5 rfl rfl 2 (by decide) f213 (fun _ h9 => h9) rfl dX8_count_69 ?_
    exact W.iret (v := xn) hx hb hr (fun t ht hW => ⟨⟨xn, (), rfl, by unfold ctA; rw [if_neg (show ¬ nI 4 = nI 0 by decide)]; rw [if_neg (show ¬ nI 4 = nI 1 by decide)]; rw [if_neg (show ¬ nI 4 = nI 2 by decide)]; rw [if_neg (show ¬ nI 4 = nI 3 by decide)]; rw [if_pos rfl], by rw [ht]; exact hP, va_K.moved hW.alike hK, hD⟩, hS.F ht⟩) hS.2.2 dX8_count_72
  refine lv_tableOut (tgt := 73) hx hb dX8_count_1 (sw_out e0 e1 e2 e3 e4) (by decide) ?_
  refine lv_iconst (v := -1) hx hb dX8_count_73 (by decide) ?_
  exact W.iret (v := -1) hx hb hr (fun t ht hW => ⟨⟨-1, (), rfl, by unfold ctA; rw [if_neg e0, if_neg e1, if_neg e2, if_neg e3, if_neg e4], by rw [ht]; exact hP, va_K.moved hW.alike hK, hD⟩, hS.F ht⟩) hS.2.2 dX8_count_74
