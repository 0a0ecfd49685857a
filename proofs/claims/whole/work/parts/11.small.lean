set_option maxHeartbeats 4000000 in
set_option maxRecDepth 100000 in
theorem c_Keys_renew (l : Launch) (dC : Nat → ClassId) (dI : Nat → Nat → Nat) (cJ cI : ClassId) (k0 : Nat) (w1 w2 ov x1 x2 xo : Int64) (hi xh : Int32) (sz : Nat) : Met l yX3_renew wsX3_renew ({ frames := 0, cells := 0, slots := 0, locals := 0 }) (va_Pc [.ref k0, .long x1, .long x2, .long xo, .int xh] (st_B (dC, dI) vwCl [(cJ, .long), (cI, .int)] [(k0, .inr (3, [.long w1, .long w2, .long ov, .int hi]))] sz)) (va_Qv (fun _ : Unit => True) (st_E (dC, dI) vwCl [(cJ, .long), (cI, .int)] (va_A [(k0, .inr (3, [.long w1, .long w2, .long ov, .int hi]))] sz) (fun _ => [(k0, .inr (3, [.long x1, .long x2, .long xo, .int xh]))])) (va_A [(k0, .inr (3, [.long w1, .long w2, .long ov, .int hi]))] sz)) 0 0 (va_A [(k0, .inr (3, [.long w1, .long w2, .long ov, .int hi]))] sz) := by
  refine Met.ofW (cc := cX3_renew) (maxL := 8) (ret := none) (by decide) rfl ?_
  intro p e s m args below meth c s₁ B hml hv
  obtain ⟨rfl, hsz, hP, hK, hD0⟩ := hv
  have hx := B.exec
  have hb := B.bytes
  have hr := B.returns
  have hts := atoms_spec (ws := wsX3_renew) B.pre
  have hown : s.vm.findClass RX3 = some m.cls := findClass_of_methodNamed B.named
  have hlocks := B.notSynchronized
  subst hsz
  have hD := hD0.self (sz := s.heap.size)
  generalize hAe : va_A [(k0, .inr (3, [.long w1, .long w2, .long ov, .int hi]))] s.heap.size = A at hD ⊢
  have hA : ∀ q : Nat, s.heap.size ≤ q → A q := fun q h => by rw [← hAe]; exact Or.inr h
  have hS : va_S A s.heap s.heap [] := va_S.rf
  have hP : va_P (dC, dI) vwCl [(k0, .inr (3, [.long w1, .long w2, .long ov, .int hi]))] s.heap := hP
  have hl := lv_entry ([.ref k0, .long x1, .long x2, .long xo, .int xh]) (n := 8) (Nat.le_of_ble_eq_true rfl)
  rw [lg_entry_eq]
  generalize (lg_sl ([.ref k0, .long x1, .long x2, .long xo, .int xh]) ++ List.replicate (8 - (lg_sl ([.ref k0, .long x1, .long x2, .long xo, .int xh])).length) Slot.unset).toArray = ls at hl ⊢
  have iX3 : ∀ w ∈ wsX30, w ∈ wsX3_renew := by decide +kernel
  have f15 := hts (.fieldLink RX3 15 "LeafSigner$Keys" "one" "J") (by decide +kernel)
  have f19 := hts (.fieldLink RX3 19 "LeafSigner$Keys" "two" "J") (by decide +kernel)
  have f22 := hts (.fieldLink RX3 22 "LeafSigner$Keys" "open" "J") (by decide +kernel)
  have f9 := hts (.fieldLink RX3 9 "LeafSigner$Keys" "height" "I") (by decide +kernel)
  have hl : lv_has ls 8 [(0, .ref k0), (1, .long x1), (3, .long x2), (5, .long xo), (7, .int xh)] := hl
  refine lv_aload_n hx hb dX3_renew_0 rfl (lv_at hl 0 rfl) ?_
  refine lv_lload_n hx hb dX3_renew_1 rfl (lv_at hl 1 rfl) ?_
  refine va_put (D := (dC, dI)) (ci := 3) (v := .long x1) (ty := .long) (C := RX3) (T := TX3) (N := 4) hx hb hts iX3 tyX3 tyX3_ok nmX3 hown hK hP hD hS 0 rfl rfl 0 (by decide) f15 (fun _ h9 => h9) rfl (by decide +kernel) rfl rfl (Nat.le_of_ble_eq_true rfl) dX3_renew_2 (fun H locs hP hD hS => ?_)
  have hP : va_P (dC, dI) vwCl [(k0, .inr (3, [.long x1, .long w2, .long ov, .int hi]))] H := hP
  have hD : va_D A [(k0, .inr (3, [.long x1, .long w2, .long ov, .int hi]))] := hD
  refine lv_aload_n hx hb dX3_renew_5 rfl (lv_at hl 0 rfl) ?_
  refine lv_lload_n hx hb dX3_renew_6 rfl (lv_at hl 2 rfl) ?_
  refine va_put (D := (dC, dI)) (ci := 3) (v := .long x2) (ty := .long) (C := RX3) (T := TX3) (N := 4) hx hb hts iX3 tyX3 tyX3_ok nmX3 hown hK hP hD hS 0 rfl rfl 1 (by decide) f19 (fun _ h9 => h9) rfl (by decide +kernel) rfl rfl (Nat.le_of_ble_eq_true rfl) dX3_renew_7 (fun H locs hP hD hS => ?_)
  have hP : va_P (dC, dI) vwCl [(k0, .inr (3, [.long x1, .long x2, .long ov, .int hi]))] H := hP
  have hD : va_D A [(k0, .inr (3, [.long x1, .long x2, .long ov, .int hi]))] := hD
  refine lv_aload_n hx hb dX3_renew_10 rfl (lv_at hl 0 rfl) ?_
  refine lv_lload hx hb dX3_renew_11 (lv_at hl 3 rfl) ?_
  refine va_put (D := (dC, dI)) (ci := 3) (v := .long xo) (ty := .long) (C := RX3) (T := TX3) (N := 4) hx hb hts iX3 tyX3 tyX3_ok nmX3 hown hK hP hD hS 0 rfl rfl 2 (by decide) f22 (fun _ h9 => h9) rfl (by decide +kernel) rfl rfl (Nat.le_of_ble_eq_true rfl) dX3_renew_13 (fun H locs hP hD hS => ?_)
  have hP : va_P (dC, dI) vwCl [(k0, .inr (3, [.long x1, .long x2, .long xo, .int hi]))] H := hP
  have hD : va_D A [(k0, .inr (3, [.long x1, .long x2, .long xo, .int hi]))] := hD
  refine lv_aload_n hx hb dX3_renew_16 rfl (lv_at hl 0 rfl) ?_
  refine lv_iload hx hb dX3_renew_17 (lv_at hl 4 rfl) ?_
  refine va_put (D := (dC, dI)) (ci := 3) (v := .int xh) (ty := .int) (C := RX3) (T := TX3) (N := 4) hx hb hts iX3 tyX3 tyX3_ok nmX3 hown hK hP hD hS 0 rfl rfl 3 (by decide) f9 (fun _ h9 => h9) rfl (by decide +kernel) rfl rfl (Nat.le_of_ble_eq_true rfl) dX3_renew_19 (fun H locs hP hD hS => ?_)
  have hP : va_P (dC, dI) vwCl [(k0, .inr (3, [.long x1, .long x2, .long xo, .int xh]))] H := hP
  have hD : va_D A [(k0, .inr (3, [.long x1, .long x2, .long xo, .int xh]))] := hD
  exact W.vret hx hb hr (fun t ht hW => ⟨⟨(), rfl, trivial, by rw [ht]; exact hP, va_K.moved hW.alike hK, hD⟩, hS.F ht⟩) hS.2.2 dX3_renew_22

set_option maxHeartbeats 4000000 in
set_option maxRecDepth 100000 in
theorem c_Keys_leaves (l : Launch) (dC : Nat → ClassId) (dI : Nat → Nat → Nat) (cJ cI : ClassId) (k0 : Nat) (w1 w2 ov : Int64) (hh : Nat) (hh4 : hh ≤ 4) (sz : Nat) : Met l yX3_leaves wsX3_leaves ({ frames := 0, cells := 0, slots := 0, locals := 0 }) (va_Pc [.ref k0] (st_B (dC, dI) vwCl [(cJ, .long), (cI, .int)] [(k0, .inr (3, [.long w1, .long w2, .long ov, .int (nI hh)]))] sz)) (va_Qi (fun (r : Int32) (_ : Unit) => r = nI (2 ^ hh)) (st_E (dC, dI) vwCl [(cJ, .long), (cI, .int)] (va_A [(k0, .inr (3, [.long w1, .long w2, .long ov, .int (nI hh)]))] sz) (fun _ => [(k0, .inr (3, [.long w1, .long w2, .long ov, .int (nI hh)]))])) (va_A [(k0, .inr (3, [.long w1, .long w2, .long ov, .int (nI hh)]))] sz)) 0 0 (va_A [(k0, .inr (3, [.long w1, .long w2, .long ov, .int (nI hh)]))] sz) := by
  refine Met.ofW (cc := cX3_leaves) (maxL := 1) (ret := (some .int)) (by decide) rfl ?_
  intro p e s m args below meth c s₁ B hml hv
  obtain ⟨rfl, hsz, hP, hK, hD0⟩ := hv
  have hx := B.exec
  have hb := B.bytes
  have hr := B.returns
  have hts := atoms_spec (ws := wsX3_leaves) B.pre
  have hown : s.vm.findClass RX3 = some m.cls := findClass_of_methodNamed B.named
  have hlocks := B.notSynchronized
  subst hsz
  have hD := hD0.self (sz := s.heap.size)
  generalize hAe : va_A [(k0, .inr (3, [.long w1, .long w2, .long ov, .int (nI hh)]))] s.heap.size = A at hD ⊢
  have hA : ∀ q : Nat, s.heap.size ≤ q → A q := fun q h => by rw [← hAe]; exact Or.inr h
  have hS : va_S A s.heap s.heap [] := va_S.rf
  have hP : va_P (dC, dI) vwCl [(k0, .inr (3, [.long w1, .long w2, .long ov, .int (nI hh)]))] s.heap := hP
  have hl := lv_entry ([.ref k0]) (n := 1) (Nat.le_of_ble_eq_true rfl)
  rw [lg_entry_eq]
  generalize (lg_sl ([.ref k0]) ++ List.replicate (1 - (lg_sl ([.ref k0])).length) Slot.unset).toArray = ls at hl ⊢
  have iX3 : ∀ w ∈ wsX30, w ∈ wsX3_leaves := by decide +kernel
  have f9 := hts (.fieldLink RX3 9 "LeafSigner$Keys" "height" "I") (by decide +kernel)
  have hl : lv_has ls 1 [(0, .ref k0)] := hl
  refine lv_iconst (v := nI 1) hx hb dX3_leaves_0 (by decide) ?_
  refine lv_aload_n hx hb dX3_leaves_1 rfl (lv_at hl 0 rfl) ?_
  refine va_get (D := (dC, dI)) (ci := 3) (v := .int (nI hh)) (C := RX3) (T := TX3) (N := 4) hx hb hts iX3 hown hK hP 0 rfl rfl 3 (by decide) f9 (fun _ h9 => h9) rfl dX3_leaves_2 ?_
  refine lv_ishl hx hb dX3_leaves_5 ?_
  refine st_i (y := nI (2 ^ hh)) (st_shl1 (by omega)) ?_
  exact W.iret (v := nI (2 ^ hh)) hx hb hr (fun t ht hW => ⟨⟨nI (2 ^ hh), (), rfl, rfl, by rw [ht]; exact hP, va_K.moved hW.alike hK, hD⟩, hS.F ht⟩) hS.2.2 dX3_leaves_6

set_option maxHeartbeats 4000000 in
set_option maxRecDepth 100000 in
theorem c_Keys_hasLeaf (l : Launch) (dC : Nat → ClassId) (dI : Nat → Nat → Nat) (cJ cI : ClassId) (k0 : Nat) (w1 w2 ov : Int64) (hh : Nat) (xl : Int32) (hh4 : hh ≤ 4) (sz : Nat) : Met l yX3_hasLeaf wsX3_hasLeaf ({ frames := 1, cells := 0, slots := 0, locals := 20 }) (va_Pc [.ref k0, .int xl] (st_B (dC, dI) vwCl [(cJ, .long), (cI, .int)] [(k0, .inr (3, [.long w1, .long w2, .long ov, .int (nI hh)]))] sz)) (va_Qi (fun (r : Int32) (_ : Unit) => r = bI (decide (¬ xl < 0 ∧ ¬ nI (2 ^ hh) ≤ xl))) (st_E (dC, dI) vwCl [(cJ, .long), (cI, .int)] (va_A [(k0, .inr (3, [.long w1, .long w2, .long ov, .int (nI hh)]))] sz) (fun _ => [(k0, .inr (3, [.long w1, .long w2, .long ov, .int (nI hh)]))])) (va_A [(k0, .inr (3, [.long w1, .long w2, .long ov, .int (nI hh)]))] sz)) 0 0 (va_A [(k0, .inr (3, [.long w1, .long w2, .long ov, .int (nI hh)]))] sz) := by
  refine Met.ofW (cc := cX3_hasLeaf) (maxL := 2) (ret := (some .boolean)) (by decide) rfl ?_
  intro p e s m args below meth c s₁ B hml hv
  obtain ⟨rfl, hsz, hP, hK, hD0⟩ := hv
  have hx := B.exec
  have hb := B.bytes
  have hr := B.returns
  have hts := atoms_spec (ws := wsX3_hasLeaf) B.pre
  have hown : s.vm.findClass RX3 = some m.cls := findClass_of_methodNamed B.named
  have hlocks := B.notSynchronized
  subst hsz
  have hD := hD0.self (sz := s.heap.size)
  generalize hAe : va_A [(k0, .inr (3, [.long w1, .long w2, .long ov, .int (nI hh)]))] s.heap.size = A at hD ⊢
  have hA : ∀ q : Nat, s.heap.size ≤ q → A q := fun q h => by rw [← hAe]; exact Or.inr h
  have hS : va_S A s.heap s.heap [] := va_S.rf
  have hP : va_P (dC, dI) vwCl [(k0, .inr (3, [.long w1, .long w2, .long ov, .int (nI hh)]))] s.heap := hP
  have hl := lv_entry ([.ref k0, .int xl]) (n := 2) (Nat.le_of_ble_eq_true rfl)
  rw [lg_entry_eq]
  generalize (lg_sl ([.ref k0, .int xl]) ++ List.replicate (2 - (lg_sl ([.ref k0, .int xl])).length) Slot.unset).toArray = ls at hl ⊢
  have hl : lv_has ls 2 [(0, .ref k0), (1, .int xl)] := hl
  refine lv_iload_n hx hb dX3_hasLeaf_0 rfl (lv_at hl 1 rfl) ?_
  refine lv_if_lt (tgt := 16) hx hb dX3_hasLeaf_1 (by decide) (fun c1 => ?_) (fun c1 => ?_)
  ·
    refine lv_iconst (v := nI 0) hx hb dX3_hasLeaf_16 (by decide) ?_
    exact W.zret (v := nI 0) hx hb hr (by decide) (fun t ht hW => ⟨⟨nI 0, (), rfl, bI_f (fun q => q.1 c1), by rw [ht]; exact hP, va_K.moved hW.alike hK, hD⟩, hS.F ht⟩) hS.2.2 dX3_hasLeaf_17
  ·
    refine lv_iload_n hx hb dX3_hasLeaf_4 rfl (lv_at hl 1 rfl) ?_
    refine lv_aload_n hx hb dX3_hasLeaf_5 rfl (lv_at hl 0 rfl) ?_
    refine st_calli (va_runV (As := []) (rest := [.int xl]) ⟨hx, hb, hml, hown, hts⟩ (c_Keys_leaves l dC dI cJ cI k0 w1 w2 ov hh (by omega) s.heap.size) (cwV 0 hts gX3_hasLeaf_X3_leaves rfl rfl rfl (by decide +kernel) ⟨Nat.le_of_ble_eq_true rfl, Nat.le_of_ble_eq_true rfl⟩) (st_preV hK hP hD [0] rfl rfl (ci := 3) (q0 := 0) rfl rfl) rfl rfl hl.1 rfl (lv_room (Nat.le_of_ble_eq_true rfl)) dX3_hasLeaf_6 ⟨Nat.le_of_ble_eq_true rfl, Nat.le_of_ble_eq_true rfl⟩) hP hD hS hA [0] [] (wr := []) rfl rfl (by decide) (by decide) [0] (res := fun _ => [(k0, .inr (3, [.long w1, .long w2, .long ov, .int (nI hh)]))]) (fun _ => rfl) (by decide) (fun r_1 _ H locs hu hP hD hS => ?_)
    have hP : va_P (dC, dI) vwCl [(k0, .inr (3, [.long w1, .long w2, .long ov, .int (nI hh)]))] H := hP
    have hD : va_D A [(k0, .inr (3, [.long w1, .long w2, .long ov, .int (nI hh)]))] := hD
    subst hu
    refine lv_icmp_ge (tgt := 16) hx hb dX3_hasLeaf_9 (by decide) (fun c9 => ?_) (fun c9 => ?_)
    ·
      refine lv_iconst (v := nI 0) hx hb dX3_hasLeaf_16 (by decide) ?_
      exact W.zret (v := nI 0) hx hb hr (by decide) (fun t ht hW => ⟨⟨nI 0, (), rfl, bI_f (fun q => q.2 c9), by rw [ht]; exact hP, va_K.moved hW.alike hK, hD⟩, hS.F ht⟩) hS.2.2 dX3_hasLeaf_17
    ·
      refine lv_iconst (v := nI 1) hx hb dX3_hasLeaf_12 (by decide) ?_
      refine lv_goto (tgt := 17) hx hb dX3_hasLeaf_13 (by decide) ?_
      exact W.zret (v := nI 1) hx hb hr (by decide) (fun t ht hW => ⟨⟨nI 1, (), rfl, bI_t ⟨c1, c9⟩, by rw [ht]; exact hP, va_K.moved hW.alike hK, hD⟩, hS.F ht⟩) hS.2.2 dX3_hasLeaf_17

set_option maxHeartbeats 4000000 in
set_option maxRecDepth 100000 in
theorem c_Message_isFull (l : Launch) (dC : Nat → ClassId) (dI : Nat → Nat → Nat) (cJ cI : ClassId) (m0 m1 : Nat) (ln : Nat) (mv : Nat → Int64) (hln : ln ≤ 20) (sz : Nat) : Met l yX4_isFull wsX4_isFull ({ frames := 0, cells := 0, slots := 0, locals := 0 }) (va_Pc [.ref m0] (st_B (dC, dI) vwCl [(cJ, .long), (cI, .int)] [(m0, .inr (4, [.ref m1, .int (nI ln)])), (m1, .inl (cJ, 20, .inr (.inl (mv))))] sz)) (va_Qi (fun (r : Int32) (_ : Unit) => r = bI (decide (20 ≤ ln))) (st_E (dC, dI) vwCl [(cJ, .long), (cI, .int)] (va_A [(m0, .inr (4, [.ref m1, .int (nI ln)])), (m1, .inl (cJ, 20, .inr (.inl (mv))))] sz) (fun _ => [(m0, .inr (4, [.ref m1, .int (nI ln)])), (m1, .inl (cJ, 20, .inr (.inl (mv))))])) (va_A [(m0, .inr (4, [.ref m1, .int (nI ln)])), (m1, .inl (cJ, 20, .inr (.inl (mv))))] sz)) 0 0 (va_A [(m0, .inr (4, [.ref m1, .int (nI ln)])), (m1, .inl (cJ, 20, .inr (.inl (mv))))] sz) := by
  refine Met.ofW (cc := cX4_isFull) (maxL := 1) (ret := (some .boolean)) (by decide) rfl ?_
  intro p e s m args below meth c s₁ B hml hv
  obtain ⟨rfl, hsz, hP, hK, hD0⟩ := hv
  have hx := B.exec
  have hb := B.bytes
  have hr := B.returns
  have hts := atoms_spec (ws := wsX4_isFull) B.pre
  have hown : s.vm.findClass RX4 = some m.cls := findClass_of_methodNamed B.named
  have hlocks := B.notSynchronized
  subst hsz
  have hD := hD0.self (sz := s.heap.size)
  generalize hAe : va_A [(m0, .inr (4, [.ref m1, .int (nI ln)])), (m1, .inl (cJ, 20, .inr (.inl (mv))))] s.heap.size = A at hD ⊢
  have hA : ∀ q : Nat, s.heap.size ≤ q → A q := fun q h => by rw [← hAe]; exact Or.inr h
  have hS : va_S A s.heap s.heap [] := va_S.rf
  have hP : va_P (dC, dI) vwCl [(m0, .inr (4, [.ref m1, .int (nI ln)])), (m1, .inl (cJ, 20, .inr (.inl (mv))))] s.heap := hP
  have hl := lv_entry ([.ref m0]) (n := 1) (Nat.le_of_ble_eq_true rfl)
  rw [lg_entry_eq]
  generalize (lg_sl ([.ref m0]) ++ List.replicate (1 - (lg_sl ([.ref m0])).length) Slot.unset).toArray = ls at hl ⊢
  have iX4 : ∀ w ∈ wsX40, w ∈ wsX4_isFull := by decide +kernel
  have f13 := hts (.fieldLink RX4 13 "LeafSigner$Message" "size" "I") (by decide +kernel)
  have hl : lv_has ls 1 [(0, .ref m0)] := hl
  refine lv_aload_n hx hb dX4_isFull_0 rfl (lv_at hl 0 rfl) ?_
  refine va_get (D := (dC, dI)) (ci := 4) (v := .int (nI ln)) (C := RX4) (T := TX4) (N := 2) hx hb hts iX4 hown hK hP 0 rfl rfl 1 (by decide) f13 (fun _ h9 => h9) rfl dX4_isFull_1 ?_
  refine lv_bipush (v := nI 20) hx hb dX4_isFull_4 (by decide) ?_
  refine lv_icmp_lt (tgt := 13) hx hb dX4_isFull_6 (by decide) (fun c6 => ?_) (fun c6 => ?_)
  ·
    rw [q_lt (by omega) (by omega)] at c6
    refine lv_iconst (v := nI 0) hx hb dX4_isFull_13 (by decide) ?_
    exact W.zret (v := nI 0) hx hb hr (by decide) (fun t ht hW => ⟨⟨nI 0, (), rfl, bI_f (by omega), by rw [ht]; exact hP, va_K.moved hW.alike hK, hD⟩, hS.F ht⟩) hS.2.2 dX4_isFull_14
  ·
    rw [q_lt (by omega) (by omega)] at c6
    refine lv_iconst (v := nI 1) hx hb dX4_isFull_9 (by decide) ?_
    refine lv_goto (tgt := 14) hx hb dX4_isFull_10 (by decide) ?_
    exact W.zret (v := nI 1) hx hb hr (by decide) (fun t ht hW => ⟨⟨nI 1, (), rfl, bI_t (by omega), by rw [ht]; exact hP, va_K.moved hW.alike hK, hD⟩, hS.F ht⟩) hS.2.2 dX4_isFull_14

set_option maxHeartbeats 4000000 in
set_option maxRecDepth 100000 in
theorem c_Message_append (l : Launch) (dC : Nat → ClassId) (dI : Nat → Nat → Nat) (cJ cI : ClassId) (m0 m1 : Nat) (ln : Nat) (mv : Nat → Int64) (xv : Int64) (hln : ln < 20) (sz : Nat) : Met l yX4_append wsX4_append ({ frames := 0, cells := 0, slots := 0, locals := 0 }) (va_Pc [.ref m0, .long xv] (st_B (dC, dI) vwCl [(cJ, .long), (cI, .int)] [(m0, .inr (4, [.ref m1, .int (nI ln)])), (m1, .inl (cJ, 20, .inr (.inl (mv))))] sz)) (va_Qv (fun _ : Unit => True) (st_E (dC, dI) vwCl [(cJ, .long), (cI, .int)] (va_A [(m0, .inr (4, [.ref m1, .int (nI ln)])), (m1, .inl (cJ, 20, .inr (.inl (mv))))] sz) (fun _ => [(m0, .inr (4, [.ref m1, .int (nI (ln + 1))])), (m1, .inl (cJ, 20, .inr (.inl (vp_updL mv ln xv))))])) (va_A [(m0, .inr (4, [.ref m1, .int (nI ln)])), (m1, .inl (cJ, 20, .inr (.inl (mv))))] sz)) 0 0 (va_A [(m0, .inr (4, [.ref m1, .int (nI ln)])), (m1, .inl (cJ, 20, .inr (.inl (mv))))] sz) := by
  refine Met.ofW (cc := cX4_append) (maxL := 3) (ret := none) (by decide) rfl ?_
  intro p e s m args below meth c s₁ B hml hv
  obtain ⟨rfl, hsz, hP, hK, hD0⟩ := hv
  have hx := B.exec
  have hb := B.bytes
  have hr := B.returns
  have hts := atoms_spec (ws := wsX4_append) B.pre
  have hown : s.vm.findClass RX4 = some m.cls := findClass_of_methodNamed B.named
  have hlocks := B.notSynchronized
  subst hsz
  have hD := hD0.self (sz := s.heap.size)
  generalize hAe : va_A [(m0, .inr (4, [.ref m1, .int (nI ln)])), (m1, .inl (cJ, 20, .inr (.inl (mv))))] s.heap.size = A at hD ⊢
  have hA : ∀ q : Nat, s.heap.size ≤ q → A q := fun q h => by rw [← hAe]; exact Or.inr h
  have hS : va_S A s.heap s.heap [] := va_S.rf
  have hP : va_P (dC, dI) vwCl [(m0, .inr (4, [.ref m1, .int (nI ln)])), (m1, .inl (cJ, 20, .inr (.inl (mv))))] s.heap := hP
  have hl := lv_entry ([.ref m0, .long xv]) (n := 3) (Nat.le_of_ble_eq_true rfl)
  rw [lg_entry_eq]
  generalize (lg_sl ([.ref m0, .long xv]) ++ List.replicate (3 - (lg_sl ([.ref m0, .long xv])).length) Slot.unset).toArray = ls at hl ⊢
  have iX4 : ∀ w ∈ wsX40, w ∈ wsX4_append := by decide +kernel
  have f9 := hts (.fieldLink RX4 9 "LeafSigner$Message" "longs" "[J") (by decide +kernel)
  have f13 := hts (.fieldLink RX4 13 "LeafSigner$Message" "size" "I") (by decide +kernel)
  have hl : lv_has ls 3 [(0, .ref m0), (1, .long xv)] := hl
  refine lv_aload_n hx hb dX4_append_0 rfl (lv_at hl 0 rfl) ?_
  refine va_get (D := (dC, dI)) (ci := 4) (v := .ref m1) (C := RX4) (T := TX4) (N := 2) hx hb hts iX4 hown hK hP 0 rfl rfl 0 (by decide) f9 (fun _ h9 => h9) rfl dX4_append_1 ?_
  refine lv_aload_n hx hb dX4_append_4 rfl (lv_at hl 0 rfl) ?_
  refine va_get (D := (dC, dI)) (ci := 4) (v := .int (nI ln)) (C := RX4) (T := TX4) (N := 2) hx hb hts iX4 hown hK hP 0 rfl rfl 1 (by decide) f13 (fun _ h9 => h9) rfl dX4_append_5 ?_
  refine lv_lload_n hx hb dX4_append_8 rfl (lv_at hl 1 rfl) ?_
  refine st_last hx hb hK hP hD hS 1 0 rfl rfl ln rfl (by omega) (by omega) dX4_append_9 (fun H locs hP hD hS => ?_)
  have hP : va_P (dC, dI) vwCl [(m0, .inr (4, [.ref m1, .int (nI ln)])), (m1, .inl (cJ, 20, .inr (.inl (vp_updL mv ln xv))))] H := hP
  have hD : va_D A [(m0, .inr (4, [.ref m1, .int (nI ln)])), (m1, .inl (cJ, 20, .inr (.inl (vp_updL mv ln xv))))] := hD
  refine lv_aload_n hx hb dX4_append_10 rfl (lv_at hl 0 rfl) ?_
  refine lv_dup hx hb dX4_append_11 rfl ?_
  refine va_get (D := (dC, dI)) (ci := 4) (v := .int (nI ln)) (C := RX4) (T := TX4) (N := 2) hx hb hts iX4 hown hK hP 0 rfl rfl 1 (by decide) f13 (fun _ h9 => h9) rfl dX4_append_12 ?_
  refine lv_iconst (v := nI 1) hx hb dX4_append_15 (by decide) ?_
  refine lv_iadd hx hb dX4_append_16 ?_
  refine st_i (y := nI (ln + 1)) (nI_add ln 1) ?_
  refine va_put (D := (dC, dI)) (ci := 4) (v := .int (nI (ln + 1))) (ty := .int) (C := RX4) (T := TX4) (N := 2) hx hb hts iX4 tyX4 tyX4_ok nmX4 hown hK hP hD hS 0 rfl rfl 1 (by decide) f13 (fun _ h9 => h9) rfl (by decide +kernel) rfl rfl (Nat.le_of_ble_eq_true rfl) dX4_append_17 (fun H locs hP hD hS => ?_)
  have hP : va_P (dC, dI) vwCl [(m0, .inr (4, [.ref m1, .int (nI (ln + 1))])), (m1, .inl (cJ, 20, .inr (.inl (vp_updL mv ln xv))))] H := hP
  have hD : va_D A [(m0, .inr (4, [.ref m1, .int (nI (ln + 1))])), (m1, .inl (cJ, 20, .inr (.inl (vp_updL mv ln xv))))] := hD
  exact W.vret hx hb hr (fun t ht hW => ⟨⟨(), rfl, trivial, by rw [ht]; exact hP, va_K.moved hW.alike hK, hD⟩, hS.F ht⟩) hS.2.2 dX4_append_20

set_option maxHeartbeats 4000000 in
set_option maxRecDepth 100000 in
theorem c_Message_clear (l : Launch) (dC : Nat → ClassId) (dI : Nat → Nat → Nat) (cJ cI : ClassId) (m0 m1 : Nat) (ln : Nat) (mv : Nat → Int64) (sz : Nat) : Met l yX4_clear wsX4_clear ({ frames := 0, cells := 0, slots := 0, locals := 0 }) (va_Pc [.ref m0] (st_B (dC, dI) vwCl [(cJ, .long), (cI, .int)] [(m0, .inr (4, [.ref m1, .int (nI ln)])), (m1, .inl (cJ, 20, .inr (.inl (mv))))] sz)) (va_Qv (fun _ : Unit => True) (st_E (dC, dI) vwCl [(cJ, .long), (cI, .int)] (va_A [(m0, .inr (4, [.ref m1, .int (nI ln)])), (m1, .inl (cJ, 20, .inr (.inl (mv))))] sz) (fun _ => [(m0, .inr (4, [.ref m1, .int (nI 0)])), (m1, .inl (cJ, 20, .inr (.inl (mv))))])) (va_A [(m0, .inr (4, [.ref m1, .int (nI ln)])), (m1, .inl (cJ, 20, .inr (.inl (mv))))] sz)) 0 0 (va_A [(m0, .inr (4, [.ref m1, .int (nI ln)])), (m1, .inl (cJ, 20, .inr (.inl (mv))))] sz) := by
  refine Met.ofW (cc := cX4_clear) (maxL := 1) (ret := none) (by decide) rfl ?_
  intro p e s m args below meth c s₁ B hml hv
  obtain ⟨rfl, hsz, hP, hK, hD0⟩ := hv
  have hx := B.exec
  have hb := B.bytes
  have hr := B.returns
  have hts := atoms_spec (ws := wsX4_clear) B.pre
  have hown : s.vm.findClass RX4 = some m.cls := findClass_of_methodNamed B.named
  have hlocks := B.notSynchronized
  subst hsz
  have hD := hD0.self (sz := s.heap.size)
  generalize hAe : va_A [(m0, .inr (4, [.ref m1, .int (nI ln)])), (m1, .inl (cJ, 20, .inr (.inl (mv))))] s.heap.size = A at hD ⊢
  have hA : ∀ q : Nat, s.heap.size ≤ q → A q := fun q h => by rw [← hAe]; exact Or.inr h
  have hS : va_S A s.heap s.heap [] := va_S.rf
  have hP : va_P (dC, dI) vwCl [(m0, .inr (4, [.ref m1, .int (nI ln)])), (m1, .inl (cJ, 20, .inr (.inl (mv))))] s.heap := hP
  have hl := lv_entry ([.ref m0]) (n := 1) (Nat.le_of_ble_eq_true rfl)
  rw [lg_entry_eq]
  generalize (lg_sl ([.ref m0]) ++ List.replicate (1 - (lg_sl ([.ref m0])).length) Slot.unset).toArray = ls at hl ⊢
  have iX4 : ∀ w ∈ wsX40, w ∈ wsX4_clear := by decide +kernel
  have f13 := hts (.fieldLink RX4 13 "LeafSigner$Message" "size" "I") (by decide +kernel)
  have hl : lv_has ls 1 [(0, .ref m0)] := hl
  refine lv_aload_n hx hb dX4_clear_0 rfl (lv_at hl 0 rfl) ?_
  refine lv_iconst (v := nI 0) hx hb dX4_clear_1 (by decide) ?_
  refine va_put (D := (dC, dI)) (ci := 4) (v := .int (nI 0)) (ty := .int) (C := RX4) (T := TX4) (N := 2) hx hb hts iX4 tyX4 tyX4_ok nmX4 hown hK hP hD hS 0 rfl rfl 1 (by decide) f13 (fun _ h9 => h9) rfl (by decide +kernel) rfl rfl (Nat.le_of_ble_eq_true rfl) dX4_clear_2 (fun H locs hP hD hS => ?_)
  have hP : va_P (dC, dI) vwCl [(m0, .inr (4, [.ref m1, .int (nI 0)])), (m1, .inl (cJ, 20, .inr (.inl (mv))))] H := hP
  have hD : va_D A [(m0, .inr (4, [.ref m1, .int (nI 0)])), (m1, .inl (cJ, 20, .inr (.inl (mv))))] := hD
  exact W.vret hx hb hr (fun t ht hW => ⟨⟨(), rfl, trivial, by rw [ht]; exact hP, va_K.moved hW.alike hK, hD⟩, hS.F ht⟩) hS.2.2 dX4_clear_5

set_option maxHeartbeats 4000000 in
set_option maxRecDepth 100000 in
theorem c_Signature_open (l : Launch) (dC : Nat → ClassId) (dI : Nat → Nat → Nat) (cJ cI : ClassId) (s0 p0 : Nat) (xl xn yl yn : Int32) (sz : Nat) : Met l yX6_open wsX6_open ({ frames := 0, cells := 0, slots := 0, locals := 0 }) (va_Pc [.ref s0, .int yl, .int yn] (st_B (dC, dI) vwCl [(cJ, .long), (cI, .int)] [(s0, .inr (6, [.ref p0, .int xl, .int xn]))] sz)) (va_Qv (fun _ : Unit => True) (st_E (dC, dI) vwCl [(cJ, .long), (cI, .int)] (va_A [(s0, .inr (6, [.ref p0, .int xl, .int xn]))] sz) (fun _ => [(s0, .inr (6, [.ref p0, .int yl, .int yn]))])) (va_A [(s0, .inr (6, [.ref p0, .int xl, .int xn]))] sz)) 0 0 (va_A [(s0, .inr (6, [.ref p0, .int xl, .int xn]))] sz) := by
  refine Met.ofW (cc := cX6_open) (maxL := 3) (ret := none) (by decide) rfl ?_
  intro p e s m args below meth c s₁ B hml hv
  obtain ⟨rfl, hsz, hP, hK, hD0⟩ := hv
  have hx := B.exec
  have hb := B.bytes
  have hr := B.returns
  have hts := atoms_spec (ws := wsX6_open) B.pre
  have hown : s.vm.findClass RX6 = some m.cls := findClass_of_methodNamed B.named
  have hlocks := B.notSynchronized
  subst hsz
  have hD := hD0.self (sz := s.heap.size)
  generalize hAe : va_A [(s0, .inr (6, [.ref p0, .int xl, .int xn]))] s.heap.size = A at hD ⊢
  have hA : ∀ q : Nat, s.heap.size ≤ q → A q := fun q h => by rw [← hAe]; exact Or.inr h
  have hS : va_S A s.heap s.heap [] := va_S.rf
  have hP : va_P (dC, dI) vwCl [(s0, .inr (6, [.ref p0, .int xl, .int xn]))] s.heap := hP
  have hl := lv_entry ([.ref s0, .int yl, .int yn]) (n := 3) (Nat.le_of_ble_eq_true rfl)
  rw [lg_entry_eq]
  generalize (lg_sl ([.ref s0, .int yl, .int yn]) ++ List.replicate (3 - (lg_sl ([.ref s0, .int yl, .int yn])).length) Slot.unset).toArray = ls at hl ⊢
  have iX6 : ∀ w ∈ wsX60, w ∈ wsX6_open := by decide +kernel
  have f20 := hts (.fieldLink RX6 20 "LeafSigner$Signature" "leaf" "I") (by decide +kernel)
  have f24 := hts (.fieldLink RX6 24 "LeafSigner$Signature" "size" "I") (by decide +kernel)
  have hl : lv_has ls 3 [(0, .ref s0), (1, .int yl), (2, .int yn)] := hl
  refine lv_aload_n hx hb dX6_open_0 rfl (lv_at hl 0 rfl) ?_
  refine lv_iload_n hx hb dX6_open_1 rfl (lv_at hl 1 rfl) ?_
  refine va_put (D := (dC, dI)) (ci := 6) (v := .int yl) (ty := .int) (C := RX6) (T := TX6) (N := 3) hx hb hts iX6 tyX6 tyX6_ok nmX6 hown hK hP hD hS 0 rfl rfl 1 (by decide) f20 (fun _ h9 => h9) rfl (by decide +kernel) rfl rfl (Nat.le_of_ble_eq_true rfl) dX6_open_2 (fun H locs hP hD hS => ?_)
  have hP : va_P (dC, dI) vwCl [(s0, .inr (6, [.ref p0, .int yl, .int xn]))] H := hP
  have hD : va_D A [(s0, .inr (6, [.ref p0, .int yl, .int xn]))] := hD
  refine lv_aload_n hx hb dX6_open_5 rfl (lv_at hl 0 rfl) ?_
  refine lv_iload_n hx hb dX6_open_6 rfl (lv_at hl 2 rfl) ?_
  refine va_put (D := (dC, dI)) (ci := 6) (v := .int yn) (ty := .int) (C := RX6) (T := TX6) (N := 3) hx hb hts iX6 tyX6 tyX6_ok nmX6 hown hK hP hD hS 0 rfl rfl 2 (by decide) f24 (fun _ h9 => h9) rfl (by decide +kernel) rfl rfl (Nat.le_of_ble_eq_true rfl) dX6_open_7 (fun H locs hP hD hS => ?_)
  have hP : va_P (dC, dI) vwCl [(s0, .inr (6, [.ref p0, .int yl, .int yn]))] H := hP
  have hD : va_D A [(s0, .inr (6, [.ref p0, .int yl, .int yn]))] := hD
  exact W.vret hx hb hr (fun t ht hW => ⟨⟨(), rfl, trivial, by rw [ht]; exact hP, va_K.moved hW.alike hK, hD⟩, hS.F ht⟩) hS.2.2 dX6_open_10

set_option maxHeartbeats 4000000 in
set_option maxRecDepth 100000 in
theorem c_Signature_clear (l : Launch) (dC : Nat → ClassId) (dI : Nat → Nat → Nat) (cJ cI : ClassId) (s0 p0 : Nat) (xl xn : Int32) (sz : Nat) : Met l yX6_clear wsX6_clear ({ frames := 0, cells := 0, slots := 0, locals := 0 }) (va_Pc [.ref s0] (st_B (dC, dI) vwCl [(cJ, .long), (cI, .int)] [(s0, .inr (6, [.ref p0, .int xl, .int xn]))] sz)) (va_Qv (fun _ : Unit => True) (st_E (dC, dI) vwCl [(cJ, .long), (cI, .int)] (va_A [(s0, .inr (6, [.ref p0, .int xl, .int xn]))] sz) (fun _ => [(s0, .inr (6, [.ref p0, .int (-1), .int (nI 0)]))])) (va_A [(s0, .inr (6, [.ref p0, .int xl, .int xn]))] sz)) 0 0 (va_A [(s0, .inr (6, [.ref p0, .int xl, .int xn]))] sz) := by
  refine Met.ofW (cc := cX6_clear) (maxL := 1) (ret := none) (by decide) rfl ?_
  intro p e s m args below meth c s₁ B hml hv
  obtain ⟨rfl, hsz, hP, hK, hD0⟩ := hv
  have hx := B.exec
  have hb := B.bytes
  have hr := B.returns
  have hts := atoms_spec (ws := wsX6_clear) B.pre
  have hown : s.vm.findClass RX6 = some m.cls := findClass_of_methodNamed B.named
  have hlocks := B.notSynchronized
  subst hsz
  have hD := hD0.self (sz := s.heap.size)
  generalize hAe : va_A [(s0, .inr (6, [.ref p0, .int xl, .int xn]))] s.heap.size = A at hD ⊢
  have hA : ∀ q : Nat, s.heap.size ≤ q → A q := fun q h => by rw [← hAe]; exact Or.inr h
  have hS : va_S A s.heap s.heap [] := va_S.rf
  have hP : va_P (dC, dI) vwCl [(s0, .inr (6, [.ref p0, .int xl, .int xn]))] s.heap := hP
  have hl := lv_entry ([.ref s0]) (n := 1) (Nat.le_of_ble_eq_true rfl)
  rw [lg_entry_eq]
  generalize (lg_sl ([.ref s0]) ++ List.replicate (1 - (lg_sl ([.ref s0])).length) Slot.unset).toArray = ls at hl ⊢
  have iX6 : ∀ w ∈ wsX60, w ∈ wsX6_clear := by decide +kernel
  have f20 := hts (.fieldLink RX6 20 "LeafSigner$Signature" "leaf" "I") (by decide +kernel)
  have f24 := hts (.fieldLink RX6 24 "LeafSigner$Signature" "size" "I") (by decide +kernel)
  have hl : lv_has ls 1 [(0, .ref s0)] := hl
  refine lv_aload_n hx hb dX6_clear_0 rfl (lv_at hl 0 rfl) ?_
  refine lv_iconst (v := -1) hx hb dX6_clear_1 (by decide) ?_
  refine va_put (D := (dC, dI)) (ci := 6) (v := .int (-1)) (ty := .int) (C := RX6) (T := TX6) (N := 3) hx hb hts iX6 tyX6 tyX6_ok nmX6 hown hK hP hD hS 0 rfl rfl 1 (by decide) f20 (fun _ h9 => h9) rfl (by decide +kernel) rfl rfl (Nat.le_of_ble_eq_true rfl) dX6_clear_2 (fun H locs hP hD hS => ?_)
  have hP : va_P (dC, dI) vwCl [(s0, .inr (6, [.ref p0, .int (-1), .int xn]))] H := hP
  have hD : va_D A [(s0, .inr (6, [.ref p0, .int (-1), .int xn]))] := hD
  refine lv_aload_n hx hb dX6_clear_5 rfl (lv_at hl 0 rfl) ?_
  refine lv_iconst (v := nI 0) hx hb dX6_clear_6 (by decide) ?_
  refine va_put (D := (dC, dI)) (ci := 6) (v := .int (nI 0)) (ty := .int) (C := RX6) (T := TX6) (N := 3) hx hb hts iX6 tyX6 tyX6_ok nmX6 hown hK hP hD hS 0 rfl rfl 2 (by decide) f24 (fun _ h9 => h9) rfl (by decide +kernel) rfl rfl (Nat.le_of_ble_eq_true rfl) dX6_clear_7 (fun H locs hP hD hS => ?_)
  have hP : va_P (dC, dI) vwCl [(s0, .inr (6, [.ref p0, .int (-1), .int (nI 0)]))] H := hP
  have hD : va_D A [(s0, .inr (6, [.ref p0, .int (-1), .int (nI 0)]))] := hD
  exact W.vret hx hb hr (fun t ht hW => ⟨⟨(), rfl, trivial, by rw [ht]; exact hP, va_K.moved hW.alike hK, hD⟩, hS.F ht⟩) hS.2.2 dX6_clear_10

set_option maxHeartbeats 4000000 in
set_option maxRecDepth 100000 in
theorem c_Signature_isThere (l : Launch) (dC : Nat → ClassId) (dI : Nat → Nat → Nat) (cJ cI : ClassId) (s0 p0 : Nat) (xl xn : Int32) (sz : Nat) : Met l yX6_isThere wsX6_isThere ({ frames := 0, cells := 0, slots := 0, locals := 0 }) (va_Pc [.ref s0] (st_B (dC, dI) vwCl [(cJ, .long), (cI, .int)] [(s0, .inr (6, [.ref p0, .int xl, .int xn]))] sz)) (va_Qi (fun (r : Int32) (_ : Unit) => r = bI (decide (¬ xl = -1))) (st_E (dC, dI) vwCl [(cJ, .long), (cI, .int)] (va_A [(s0, .inr (6, [.ref p0, .int xl, .int xn]))] sz) (fun _ => [(s0, .inr (6, [.ref p0, .int xl, .int xn]))])) (va_A [(s0, .inr (6, [.ref p0, .int xl, .int xn]))] sz)) 0 0 (va_A [(s0, .inr (6, [.ref p0, .int xl, .int xn]))] sz) := by
  refine Met.ofW (cc := cX6_isThere) (maxL := 1) (ret := (some .boolean)) (by decide) rfl ?_
  intro p e s m args below meth c s₁ B hml hv
  obtain ⟨rfl, hsz, hP, hK, hD0⟩ := hv
  have hx := B.exec
  have hb := B.bytes
  have hr := B.returns
  have hts := atoms_spec (ws := wsX6_isThere) B.pre
  have hown : s.vm.findClass RX6 = some m.cls := findClass_of_methodNamed B.named
  have hlocks := B.notSynchronized
  subst hsz
  have hD := hD0.self (sz := s.heap.size)
  generalize hAe : va_A [(s0, .inr (6, [.ref p0, .int xl, .int xn]))] s.heap.size = A at hD ⊢
  have hA : ∀ q : Nat, s.heap.size ≤ q → A q := fun q h => by rw [← hAe]; exact Or.inr h
  have hS : va_S A s.heap s.heap [] := va_S.rf
  have hP : va_P (dC, dI) vwCl [(s0, .inr (6, [.ref p0, .int xl, .int xn]))] s.heap := hP
  have hl := lv_entry ([.ref s0]) (n := 1) (Nat.le_of_ble_eq_true rfl)
  rw [lg_entry_eq]
  generalize (lg_sl ([.ref s0]) ++ List.replicate (1 - (lg_sl ([.ref s0])).length) Slot.unset).toArray = ls at hl ⊢
  have iX6 : ∀ w ∈ wsX60, w ∈ wsX6_isThere := by decide +kernel
  have f20 := hts (.fieldLink RX6 20 "LeafSigner$Signature" "leaf" "I") (by decide +kernel)
  have hl : lv_has ls 1 [(0, .ref s0)] := hl
  refine lv_aload_n hx hb dX6_isThere_0 rfl (lv_at hl 0 rfl) ?_
  refine va_get (D := (dC, dI)) (ci := 6) (v := .int xl) (C := RX6) (T := TX6) (N := 3) hx hb hts iX6 hown hK hP 0 rfl rfl 1 (by decide) f20 (fun _ h9 => h9) rfl dX6_isThere_1 ?_
  refine lv_iconst (v := -1) hx hb dX6_isThere_4 (by decide) ?_
  refine lv_icmp_eq (tgt := 12) hx hb dX6_isThere_5 (by decide) (fun c5 => ?_) (fun c5 => ?_)
  ·
    refine lv_iconst (v := nI 0) hx hb dX6_isThere_12 (by decide) ?_
    exact W.zret (v := nI 0) hx hb hr (by decide) (fun t ht hW => ⟨⟨nI 0, (), rfl, bI_f (fun q => q c5), by rw [ht]; exact hP, va_K.moved hW.alike hK, hD⟩, hS.F ht⟩) hS.2.2 dX6_isThere_13
  ·
    refine lv_iconst (v := nI 1) hx hb dX6_isThere_8 (by decide) ?_
    refine lv_goto (tgt := 13) hx hb dX6_isThere_9 (by decide) ?_
    exact W.zret (v := nI 1) hx hb hr (by decide) (fun t ht hW => ⟨⟨nI 1, (), rfl, bI_t c5, by rw [ht]; exact hP, va_K.moved hW.alike hK, hD⟩, hS.F ht⟩) hS.2.2 dX6_isThere_13

set_option maxHeartbeats 4000000 in
set_option maxRecDepth 100000 in
theorem c_Signature_hasPart (l : Launch) (dC : Nat → ClassId) (dI : Nat → Nat → Nat) (cJ cI : ClassId) (s0 p0 : Nat) (xl xn yk : Int32) (sz : Nat) : Met l yX6_hasPart wsX6_hasPart ({ frames := 0, cells := 0, slots := 0, locals := 0 }) (va_Pc [.ref s0, .int yk] (st_B (dC, dI) vwCl [(cJ, .long), (cI, .int)] [(s0, .inr (6, [.ref p0, .int xl, .int xn]))] sz)) (va_Qi (fun (r : Int32) (_ : Unit) => r = bI (decide (¬ yk < 0 ∧ ¬ xn ≤ yk))) (st_E (dC, dI) vwCl [(cJ, .long), (cI, .int)] (va_A [(s0, .inr (6, [.ref p0, .int xl, .int xn]))] sz) (fun _ => [(s0, .inr (6, [.ref p0, .int xl, .int xn]))])) (va_A [(s0, .inr (6, [.ref p0, .int xl, .int xn]))] sz)) 0 0 (va_A [(s0, .inr (6, [.ref p0, .int xl, .int xn]))] sz) := by
  refine Met.ofW (cc := cX6_hasPart) (maxL := 2) (ret := (some .boolean)) (by decide) rfl ?_
  intro p e s m args below meth c s₁ B hml hv
  obtain ⟨rfl, hsz, hP, hK, hD0⟩ := hv
  have hx := B.exec
  have hb := B.bytes
  have hr := B.returns
  have hts := atoms_spec (ws := wsX6_hasPart) B.pre
  have hown : s.vm.findClass RX6 = some m.cls := findClass_of_methodNamed B.named
  have hlocks := B.notSynchronized
  subst hsz
  have hD := hD0.self (sz := s.heap.size)
  generalize hAe : va_A [(s0, .inr (6, [.ref p0, .int xl, .int xn]))] s.heap.size = A at hD ⊢
  have hA : ∀ q : Nat, s.heap.size ≤ q → A q := fun q h => by rw [← hAe]; exact Or.inr h
  have hS : va_S A s.heap s.heap [] := va_S.rf
  have hP : va_P (dC, dI) vwCl [(s0, .inr (6, [.ref p0, .int xl, .int xn]))] s.heap := hP
  have hl := lv_entry ([.ref s0, .int yk]) (n := 2) (Nat.le_of_ble_eq_true rfl)
  rw [lg_entry_eq]
  generalize (lg_sl ([.ref s0, .int yk]) ++ List.replicate (2 - (lg_sl ([.ref s0, .int yk])).length) Slot.unset).toArray = ls at hl ⊢
  have iX6 : ∀ w ∈ wsX60, w ∈ wsX6_hasPart := by decide +kernel
  have f24 := hts (.fieldLink RX6 24 "LeafSigner$Signature" "size" "I") (by decide +kernel)
  have hl : lv_has ls 2 [(0, .ref s0), (1, .int yk)] := hl
  refine lv_iload_n hx hb dX6_hasPart_0 rfl (lv_at hl 1 rfl) ?_
  refine lv_if_lt (tgt := 16) hx hb dX6_hasPart_1 (by decide) (fun c1 => ?_) (fun c1 => ?_)
  ·
    refine lv_iconst (v := nI 0) hx hb dX6_hasPart_16 (by decide) ?_
    exact W.zret (v := nI 0) hx hb hr (by decide) (fun t ht hW => ⟨⟨nI 0, (), rfl, bI_f (fun q => q.1 c1), by rw [ht]; exact hP, va_K.moved hW.alike hK, hD⟩, hS.F ht⟩) hS.2.2 dX6_hasPart_17
  ·
    refine lv_iload_n hx hb dX6_hasPart_4 rfl (lv_at hl 1 rfl) ?_
    refine lv_aload_n hx hb dX6_hasPart_5 rfl (lv_at hl 0 rfl) ?_
    refine va_get (D := (dC, dI)) (ci := 6) (v := .int xn) (C := RX6) (T := TX6) (N := 3) hx hb hts iX6 hown hK hP 0 rfl rfl 2 (by decide) f24 (fun _ h9 => h9) rfl dX6_hasPart_6 ?_
    refine lv_icmp_ge (tgt := 16) hx hb dX6_hasPart_9 (by decide) (fun c9 => ?_) (fun c9 => ?_)
    ·
      refine lv_iconst (v := nI 0) hx hb dX6_hasPart_16 (by decide) ?_
      exact W.zret (v := nI 0) hx hb hr (by decide) (fun t ht hW => ⟨⟨nI 0, (), rfl, bI_f (fun q => q.2 c9), by rw [ht]; exact hP, va_K.moved hW.alike hK, hD⟩, hS.F ht⟩) hS.2.2 dX6_hasPart_17
    ·
      refine lv_iconst (v := nI 1) hx hb dX6_hasPart_12 (by decide) ?_
      refine lv_goto (tgt := 17) hx hb dX6_hasPart_13 (by decide) ?_
      exact W.zret (v := nI 1) hx hb hr (by decide) (fun t ht hW => ⟨⟨nI 1, (), rfl, bI_t ⟨c1, c9⟩, by rw [ht]; exact hP, va_K.moved hW.alike hK, hD⟩, hS.F ht⟩) hS.2.2 dX6_hasPart_17

set_option maxHeartbeats 4000000 in
set_option maxRecDepth 100000 in
theorem c_Tree_slot (l : Launch) (dC : Nat → ClassId) (dI : Nat → Nat → Nat) (cJ cI : ClassId) (hh lv iv : Nat) (h4 : hh ≤ 4) (hlv : lv ≤ hh) (sz : Nat) : Met l yX7_slot wsX7_slot ({ frames := 0, cells := 0, slots := 0, locals := 0 }) (va_Pc [.int (nI hh), .int (nI lv), .int (nI iv)] (st_B (dC, dI) vwCl [(cJ, .long), (cI, .int)] [] sz)) (va_Qi (fun (r : Int32) (_ : Unit) => r = nI (2 ^ (hh - lv) + iv)) (st_E (dC, dI) vwCl [(cJ, .long), (cI, .int)] (va_A [] sz) (fun _ => [])) (va_A [] sz)) 0 0 (va_A [] sz) := by
  refine Met.ofW (cc := cX7_slot) (maxL := 3) (ret := (some .int)) (by decide) rfl ?_
  intro p e s m args below meth c s₁ B hml hv
  obtain ⟨rfl, hsz, hP, hK, hD0⟩ := hv
  have hx := B.exec
  have hb := B.bytes
  have hr := B.returns
  have hts := atoms_spec (ws := wsX7_slot) B.pre
  have hown : s.vm.findClass RX7 = some m.cls := findClass_of_methodNamed B.named
  have hlocks := B.notSynchronized
  subst hsz
  have hD := hD0.self (sz := s.heap.size)
  generalize hAe : va_A [] s.heap.size = A at hD ⊢
  have hA : ∀ q : Nat, s.heap.size ≤ q → A q := fun q h => by rw [← hAe]; exact Or.inr h
  have hS : va_S A s.heap s.heap [] := va_S.rf
  have hP : va_P (dC, dI) vwCl [] s.heap := hP
  have hl := lv_entry ([.int (nI hh), .int (nI lv), .int (nI iv)]) (n := 3) (Nat.le_of_ble_eq_true rfl)
  rw [lg_entry_eq]
  generalize (lg_sl ([.int (nI hh), .int (nI lv), .int (nI iv)]) ++ List.replicate (3 - (lg_sl ([.int (nI hh), .int (nI lv), .int (nI iv)])).length) Slot.unset).toArray = ls at hl ⊢
  have hl : lv_has ls 3 [(0, .int (nI hh)), (1, .int (nI lv)), (2, .int (nI iv))] := hl
  refine lv_iconst (v := nI 1) hx hb dX7_slot_0 (by decide) ?_
  refine lv_iload_n hx hb dX7_slot_1 rfl (lv_at hl 0 rfl) ?_
  refine lv_iload_n hx hb dX7_slot_2 rfl (lv_at hl 1 rfl) ?_
  refine lv_isub hx hb dX7_slot_3 ?_
  refine st_i (y := nI (hh - lv)) (pk_sub (by omega)) ?_
  refine lv_ishl hx hb dX7_slot_4 ?_
  refine st_i (y := nI (2 ^ (hh - lv))) (st_shl1 (by omega)) ?_
  refine lv_iload_n hx hb dX7_slot_5 rfl (lv_at hl 2 rfl) ?_
  refine lv_iadd hx hb dX7_slot_6 ?_
  refine st_i (y := nI (2 ^ (hh - lv) + iv)) (nI_add (2 ^ (hh - lv)) iv) ?_
  exact W.iret (v := nI (2 ^ (hh - lv) + iv)) hx hb hr (fun t ht hW => ⟨⟨nI (2 ^ (hh - lv) + iv), (), rfl, rfl, by rw [ht]; exact hP, va_K.moved hW.alike hK, hD⟩, hS.F ht⟩) hS.2.2 dX7_slot_7

set_option maxHeartbeats 4000000 in
set_option maxRecDepth 100000 in
theorem c_Tree_clear (l : Launch) (dC : Nat → ClassId) (dI : Nat → Nat → Nat) (cJ cI : ClassId) (t0 n0 : Nat) (xm : Int32) (sz : Nat) : Met l yX7_clear wsX7_clear ({ frames := 0, cells := 0, slots := 0, locals := 0 }) (va_Pc [.ref t0] (st_B (dC, dI) vwCl [(cJ, .long), (cI, .int)] [(t0, .inr (7, [.ref n0, .int xm]))] sz)) (va_Qv (fun _ : Unit => True) (st_E (dC, dI) vwCl [(cJ, .long), (cI, .int)] (va_A [(t0, .inr (7, [.ref n0, .int xm]))] sz) (fun _ => [(t0, .inr (7, [.ref n0, .int (nI 0)]))])) (va_A [(t0, .inr (7, [.ref n0, .int xm]))] sz)) 0 0 (va_A [(t0, .inr (7, [.ref n0, .int xm]))] sz) := by
  refine Met.ofW (cc := cX7_clear) (maxL := 1) (ret := none) (by decide) rfl ?_
  intro p e s m args below meth c s₁ B hml hv
  obtain ⟨rfl, hsz, hP, hK, hD0⟩ := hv
  have hx := B.exec
  have hb := B.bytes
  have hr := B.returns
  have hts := atoms_spec (ws := wsX7_clear) B.pre
  have hown : s.vm.findClass RX7 = some m.cls := findClass_of_methodNamed B.named
  have hlocks := B.notSynchronized
  subst hsz
  have hD := hD0.self (sz := s.heap.size)
  generalize hAe : va_A [(t0, .inr (7, [.ref n0, .int xm]))] s.heap.size = A at hD ⊢
  have hA : ∀ q : Nat, s.heap.size ≤ q → A q := fun q h => by rw [← hAe]; exact Or.inr h
  have hS : va_S A s.heap s.heap [] := va_S.rf
  have hP : va_P (dC, dI) vwCl [(t0, .inr (7, [.ref n0, .int xm]))] s.heap := hP
  have hl := lv_entry ([.ref t0]) (n := 1) (Nat.le_of_ble_eq_true rfl)
  rw [lg_entry_eq]
  generalize (lg_sl ([.ref t0]) ++ List.replicate (1 - (lg_sl ([.ref t0])).length) Slot.unset).toArray = ls at hl ⊢
  have iX7 : ∀ w ∈ wsX70, w ∈ wsX7_clear := by decide +kernel
  have f20 := hts (.fieldLink RX7 20 "LeafSigner$Tree" "made" "I") (by decide +kernel)
  have hl : lv_has ls 1 [(0, .ref t0)] := hl
  refine lv_aload_n hx hb dX7_clear_0 rfl (lv_at hl 0 rfl) ?_
  refine lv_iconst (v := nI 0) hx hb dX7_clear_1 (by decide) ?_
  refine va_put (D := (dC, dI)) (ci := 7) (v := .int (nI 0)) (ty := .int) (C := RX7) (T := TX7) (N := 2) hx hb hts iX7 tyX7 tyX7_ok nmX7 hown hK hP hD hS 0 rfl rfl 1 (by decide) f20 (fun _ h9 => h9) rfl (by decide +kernel) rfl rfl (Nat.le_of_ble_eq_true rfl) dX7_clear_2 (fun H locs hP hD hS => ?_)
  have hP : va_P (dC, dI) vwCl [(t0, .inr (7, [.ref n0, .int (nI 0)]))] H := hP
  have hD : va_D A [(t0, .inr (7, [.ref n0, .int (nI 0)]))] := hD
  exact W.vret hx hb hr (fun t ht hW => ⟨⟨(), rfl, trivial, by rw [ht]; exact hP, va_K.moved hW.alike hK, hD⟩, hS.F ht⟩) hS.2.2 dX7_clear_5

set_option maxHeartbeats 4000000 in
set_option maxRecDepth 100000 in
theorem c_Tree_isMade (l : Launch) (dC : Nat → ClassId) (dI : Nat → Nat → Nat) (cJ cI : ClassId) (t0 n0 : Nat) (hh md : Nat) (xl xi : Int32) (h4 : hh ≤ 4) (hmd : md < 2 ^ 31) (sz : Nat) : Met l yX7_isMade wsX7_isMade ({ frames := 0, cells := 0, slots := 0, locals := 0 }) (va_Pc [.ref t0, .int (nI hh), .int xl, .int xi] (st_B (dC, dI) vwCl [(cJ, .long), (cI, .int)] [(t0, .inr (7, [.ref n0, .int (nI md)]))] sz)) (va_Qi (fun (r : Int32) (_ : Unit) => r = bI (isMB hh md xl xi)) (st_E (dC, dI) vwCl [(cJ, .long), (cI, .int)] (va_A [(t0, .inr (7, [.ref n0, .int (nI md)]))] sz) (fun _ => [(t0, .inr (7, [.ref n0, .int (nI md)]))])) (va_A [(t0, .inr (7, [.ref n0, .int (nI md)]))] sz)) 0 0 (va_A [(t0, .inr (7, [.ref n0, .int (nI md)]))] sz) := by
  refine Met.ofW (cc := cX7_isMade) (maxL := 4) (ret := (some .boolean)) (by decide) rfl ?_
  intro p e s m args below meth c s₁ B hml hv
  obtain ⟨rfl, hsz, hP, hK, hD0⟩ := hv
  have hx := B.exec
  have hb := B.bytes
  have hr := B.returns
  have hts := atoms_spec (ws := wsX7_isMade) B.pre
  have hown : s.vm.findClass RX7 = some m.cls := findClass_of_methodNamed B.named
  have hlocks := B.notSynchronized
  subst hsz
  have hD := hD0.self (sz := s.heap.size)
  generalize hAe : va_A [(t0, .inr (7, [.ref n0, .int (nI md)]))] s.heap.size = A at hD ⊢
  have hA : ∀ q : Nat, s.heap.size ≤ q → A q := fun q h => by rw [← hAe]; exact Or.inr h
  have hS : va_S A s.heap s.heap [] := va_S.rf
  have hP : va_P (dC, dI) vwCl [(t0, .inr (7, [.ref n0, .int (nI md)]))] s.heap := hP
  have hl := lv_entry ([.ref t0, .int (nI hh), .int xl, .int xi]) (n := 4) (Nat.le_of_ble_eq_true rfl)
  rw [lg_entry_eq]
  generalize (lg_sl ([.ref t0, .int (nI hh), .int xl, .int xi]) ++ List.replicate (4 - (lg_sl ([.ref t0, .int (nI hh), .int xl, .int xi])).length) Slot.unset).toArray = ls at hl ⊢
  have iX7 : ∀ w ∈ wsX70, w ∈ wsX7_isMade := by decide +kernel
  have f20 := hts (.fieldLink RX7 20 "LeafSigner$Tree" "made" "I") (by decide +kernel)
  have hl : lv_has ls 4 [(0, .ref t0), (1, .int (nI hh)), (2, .int xl), (3, .int xi)] := hl
  refine lv_iload_n hx hb dX7_isMade_0 rfl (lv_at hl 2 rfl) ?_
  refine lv_if_lt (tgt := 27) hx hb dX7_isMade_1 (by decide) (fun c1 => ?_) (fun c1 => ?_)
  ·
    refine lv_iconst (v := nI 0) hx hb dX7_isMade_27 (by decide) ?_
    exact W.zret (v := nI 0) hx hb hr (by decide) (fun t ht hW => ⟨⟨nI 0, (), rfl, bI_f2 (fun q => (isMB_iff.mp q).1 c1), by rw [ht]; exact hP, va_K.moved hW.alike hK, hD⟩, hS.F ht⟩) hS.2.2 dX7_isMade_28
  ·
    refine lv_iload_n hx hb dX7_isMade_4 rfl (lv_at hl 2 rfl) ?_
    refine lv_iload_n hx hb dX7_isMade_5 rfl (lv_at hl 1 rfl) ?_
    refine lv_icmp_gt (tgt := 27) hx hb dX7_isMade_6 (by decide) (fun c6 => ?_) (fun c6 => ?_)
    ·
      refine lv_iconst (v := nI 0) hx hb dX7_isMade_27 (by decide) ?_
      exact W.zret (v := nI 0) hx hb hr (by decide) (fun t ht hW => ⟨⟨nI 0, (), rfl, bI_f2 (fun q => (isMB_iff.mp q).2.1 c6), by rw [ht]; exact hP, va_K.moved hW.alike hK, hD⟩, hS.F ht⟩) hS.2.2 dX7_isMade_28
    ·
      obtain ⟨lv, hlv, rfl⟩ := isM_lv c1 c6 h4
      refine lv_iload_n hx hb dX7_isMade_9 rfl (lv_at hl 3 rfl) ?_
      refine lv_if_lt (tgt := 27) hx hb dX7_isMade_10 (by decide) (fun c10 => ?_) (fun c10 => ?_)
      ·
        refine lv_iconst (v := nI 0) hx hb dX7_isMade_27 (by decide) ?_
        exact W.zret (v := nI 0) hx hb hr (by decide) (fun t ht hW => ⟨⟨nI 0, (), rfl, bI_f2 (fun q => (isMB_iff.mp q).2.2.1 c10), by rw [ht]; exact hP, va_K.moved hW.alike hK, hD⟩, hS.F ht⟩) hS.2.2 dX7_isMade_28
      ·
        obtain ⟨iv, hiv, rfl⟩ := nI_of c10
        have hdv := Nat.div_le_self md (2 ^ lv)
        refine lv_iload_n hx hb dX7_isMade_13 rfl (lv_at hl 3 rfl) ?_
        refine lv_aload_n hx hb dX7_isMade_14 rfl (lv_at hl 0 rfl) ?_
        refine va_get (D := (dC, dI)) (ci := 7) (v := .int (nI md)) (C := RX7) (T := TX7) (N := 2) hx hb hts iX7 hown hK hP 0 rfl rfl 1 (by decide) f20 (fun _ h9 => h9) rfl dX7_isMade_15 ?_
        refine lv_iload_n hx hb dX7_isMade_18 rfl (lv_at hl 2 rfl) ?_
        refine lv_ishr hx hb dX7_isMade_19 ?_
        refine st_i (y := nI (md / 2 ^ lv)) (st_shr (by omega) (by omega)) ?_
        refine lv_icmp_ge (tgt := 27) hx hb dX7_isMade_20 (by decide) (fun c20 => ?_) (fun c20 => ?_)
        ·
          rw [q_le (by omega) (by omega)] at c20
          refine lv_iconst (v := nI 0) hx hb dX7_isMade_27 (by decide) ?_
          exact W.zret (v := nI 0) hx hb hr (by decide) (fun t ht hW => ⟨⟨nI 0, (), rfl, bI_f2 (fun q => isM_no (by omega) (by omega) (by omega) c20 q), by rw [ht]; exact hP, va_K.moved hW.alike hK, hD⟩, hS.F ht⟩) hS.2.2 dX7_isMade_28
        ·
          rw [q_le (by omega) (by omega)] at c20
          refine lv_iconst (v := nI 1) hx hb dX7_isMade_23 (by decide) ?_
          refine lv_goto (tgt := 28) hx hb dX7_isMade_24 (by decide) ?_
          exact W.zret (v := nI 1) hx hb hr (by decide) (fun t ht hW => ⟨⟨nI 1, (), rfl, bI_t2 (isM_yes hlv (by omega) (by omega) c20), by rw [ht]; exact hP, va_K.moved hW.alike hK, hD⟩, hS.F ht⟩) hS.2.2 dX7_isMade_28

set_option maxHeartbeats 4000000 in
set_option maxRecDepth 100000 in
theorem c_LeafSigner_isHalf (l : Launch) (dC : Nat → ClassId) (dI : Nat → Nat → Nat) (cJ cI : ClassId) (xh : Int32) (sz : Nat) : Met l yX8_isHalf wsX8_isHalf ({ frames := 0, cells := 0, slots := 0, locals := 0 }) (va_Pc [.int xh] (st_B (dC, dI) vwCl [(cJ, .long), (cI, .int)] [] sz)) (va_Qi (fun (r : Int32) (_ : Unit) => r = bI (decide (xh = 0 ∨ xh = nI 1))) (st_E (dC, dI) vwCl [(cJ, .long), (cI, .int)] (va_A [] sz) (fun _ => [])) (va_A [] sz)) 0 0 (va_A [] sz) := by
  refine Met.ofW (cc := cX8_isHalf) (maxL := 1) (ret := (some .boolean)) (by decide) rfl ?_
  intro p e s m args below meth c s₁ B hml hv
  obtain ⟨rfl, hsz, hP, hK, hD0⟩ := hv
  have hx := B.exec
  have hb := B.bytes
  have hr := B.returns
  have hts := atoms_spec (ws := wsX8_isHalf) B.pre
  have hown : s.vm.findClass RX8 = some m.cls := findClass_of_methodNamed B.named
  have hlocks := B.notSynchronized
  subst hsz
  have hD := hD0.self (sz := s.heap.size)
  generalize hAe : va_A [] s.heap.size = A at hD ⊢
  have hA : ∀ q : Nat, s.heap.size ≤ q → A q := fun q h => by rw [← hAe]; exact Or.inr h
  have hS : va_S A s.heap s.heap [] := va_S.rf
  have hP : va_P (dC, dI) vwCl [] s.heap := hP
  have hl := lv_entry ([.int xh]) (n := 1) (Nat.le_of_ble_eq_true rfl)
  rw [lg_entry_eq]
  generalize (lg_sl ([.int xh]) ++ List.replicate (1 - (lg_sl ([.int xh])).length) Slot.unset).toArray = ls at hl ⊢
  have hl : lv_has ls 1 [(0, .int xh)] := hl
  refine lv_iload_n hx hb dX8_isHalf_0 rfl (lv_at hl 0 rfl) ?_
  refine lv_if_eq (tgt := 9) hx hb dX8_isHalf_1 (by decide) (fun c1 => ?_) (fun c1 => ?_)
  ·
    refine lv_iconst (v := nI 1) hx hb dX8_isHalf_9 (by decide) ?_
    refine lv_goto (tgt := 14) hx hb dX8_isHalf_10 (by decide) ?_
    exact W.zret (v := nI 1) hx hb hr (by decide) (fun t ht hW => ⟨⟨nI 1, (), rfl, bI_t (Or.inl c1), by rw [ht]; exact hP, va_K.moved hW.alike hK, hD⟩, hS.F ht⟩) hS.2.2 dX8_isHalf_14
  ·
    refine lv_iload_n hx hb dX8_isHalf_4 rfl (lv_at hl 0 rfl) ?_
    refine lv_iconst (v := nI 1) hx hb dX8_isHalf_5 (by decide) ?_
    refine lv_icmp_ne (tgt := 13) hx hb dX8_isHalf_6 (by decide) (fun c6 => ?_) (fun c6 => ?_)
    ·
      refine lv_iconst (v := nI 0) hx hb dX8_isHalf_13 (by decide) ?_
      exact W.zret (v := nI 0) hx hb hr (by decide) (fun t ht hW => ⟨⟨nI 0, (), rfl, bI_f (fun q => q.elim c1 c6), by rw [ht]; exact hP, va_K.moved hW.alike hK, hD⟩, hS.F ht⟩) hS.2.2 dX8_isHalf_14
    ·
      refine lv_iconst (v := nI 1) hx hb dX8_isHalf_9 (by decide) ?_
      refine lv_goto (tgt := 14) hx hb dX8_isHalf_10 (by decide) ?_
      exact W.zret (v := nI 1) hx hb hr (by decide) (fun t ht hW => ⟨⟨nI 1, (), rfl, bI_t (Or.inr c6), by rw [ht]; exact hP, va_K.moved hW.alike hK, hD⟩, hS.F ht⟩) hS.2.2 dX8_isHalf_14

set_option maxHeartbeats 4000000 in
set_option maxRecDepth 100000 in
theorem c_Digits_fourBits (l : Launch) (dC : Nat → ClassId) (dI : Nat → Nat → Nat) (cJ cI : ClassId) (xv : Int64) (k : Nat) (hk : 4 * k < 64) (sz : Nat) : Met l yX1_fourBits wsX1_fourBits ({ frames := 0, cells := 0, slots := 0, locals := 0 }) (va_Pc [.long xv, .int (nI k)] (st_B (dC, dI) vwCl [(cJ, .long), (cI, .int)] [] sz)) (va_Qi (fun (r : Int32) (_ : Unit) => r = nI (dg4 xv (4 * k))) (st_E (dC, dI) vwCl [(cJ, .long), (cI, .int)] (va_A [] sz) (fun _ => [])) (va_A [] sz)) 0 0 (va_A [] sz) := by
  refine Met.ofW (cc := cX1_fourBits) (maxL := 3) (ret := (some .int)) (by decide) rfl ?_
  intro p e s m args below meth c s₁ B hml hv
  obtain ⟨rfl, hsz, hP, hK, hD0⟩ := hv
  have hx := B.exec
  have hb := B.bytes
  have hr := B.returns
  have hts := atoms_spec (ws := wsX1_fourBits) B.pre
  have hown : s.vm.findClass RX1 = some m.cls := findClass_of_methodNamed B.named
  have hlocks := B.notSynchronized
  subst hsz
  have hD := hD0.self (sz := s.heap.size)
  generalize hAe : va_A [] s.heap.size = A at hD ⊢
  have hA : ∀ q : Nat, s.heap.size ≤ q → A q := fun q h => by rw [← hAe]; exact Or.inr h
  have hS : va_S A s.heap s.heap [] := va_S.rf
  have hP : va_P (dC, dI) vwCl [] s.heap := hP
  have hl := lv_entry ([.long xv, .int (nI k)]) (n := 3) (Nat.le_of_ble_eq_true rfl)
  rw [lg_entry_eq]
  generalize (lg_sl ([.long xv, .int (nI k)]) ++ List.replicate (3 - (lg_sl ([.long xv, .int (nI k)])).length) Slot.unset).toArray = ls at hl ⊢
  have hl : lv_has ls 3 [(0, .long xv), (2, .int (nI k))] := hl
  refine lv_lload_n hx hb dX1_fourBits_0 rfl (lv_at hl 0 rfl) ?_
  refine lv_iconst (v := nI 4) hx hb dX1_fourBits_1 (by decide) ?_
  refine lv_iload_n hx hb dX1_fourBits_2 rfl (lv_at hl 1 rfl) ?_
  refine lv_imul hx hb dX1_fourBits_3 ?_
  refine st_i (y := nI (4 * k)) (pk_mul 4 k) ?_
  refine lv_lushr (v := (xv.toUInt64 >>> ((nI (4 * k)).toInt64.toUInt64 &&& Int64.toUInt64 63)).toInt64) hx hb dX1_fourBits_4 rfl ?_
  refine lv_l2i (v := ((xv.toUInt64 >>> ((nI (4 * k)).toInt64.toUInt64 &&& Int64.toUInt64 63)).toInt64).toInt32) hx hb dX1_fourBits_5 rfl ?_
  refine lv_bipush (v := nI 15) hx hb dX1_fourBits_6 (by decide) ?_
  refine lv_iand hx hb dX1_fourBits_8 ?_
  refine st_i (y := nI (dg4 xv (4 * k))) (pk_and _ 4 (by decide)) ?_
  exact W.iret (v := nI (dg4 xv (4 * k))) hx hb hr (fun t ht hW => ⟨⟨nI (dg4 xv (4 * k)), (), rfl, rfl, by rw [ht]; exact hP, va_K.moved hW.alike hK, hD⟩, hS.F ht⟩) hS.2.2 dX1_fourBits_9
