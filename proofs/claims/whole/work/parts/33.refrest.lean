set_option maxHeartbeats 4000000 in
set_option maxRecDepth 100000 in
theorem c_LeafSignerModel_part (l : Launch) (dC : Nat → ClassId) (dI : Nat → Nat → Nat) (cJ cI : ClassId) (y0 f1 f2 ma q1 q2 v1 v2 dd : Nat) (w1 w2 ov ta tb : Int64) (xm xu xl sr : Int32) (pv : Int64 × Int64) (sg : Bool) (hh : Nat) (yk yh : Int32) (PP : Nat → Int64 × Int64) (h4 : hh ≤ 4) (sz : Nat) : Met l yX9_part wsX9_part ({ frames := 1, cells := 0, slots := 0, locals := 22 }) (va_Pc [.ref y0, .int yk, .int yh] (st_B (dC, dI) vwCl [(cJ, .long), (cI, .int)] [(y0, .inr (9, [.long w1, .long w2, .long ov, .int (nI hh), .int xm, .int xu, .ref f1, .ref f2, .ref ma, .int xl, .int (bI sg), .int sr, .ref q1, .ref q2, .long ta, .long tb, .long pv.1, .long pv.2, .ref v1, .ref v2, .ref dd])), (q1, .inl (cJ, 39, .inr (.inl (fun z => (PP z).1)))), (q2, .inl (cJ, 39, .inr (.inl (fun z => (PP z).2))))] sz)) (va_Ql (fun (r : Int64) (_ : Unit) => r = if sg = true then ptA PP (35 + hh) yk yh else lN 0) (st_E (dC, dI) vwCl [(cJ, .long), (cI, .int)] (va_A [(y0, .inr (9, [.long w1, .long w2, .long ov, .int (nI hh), .int xm, .int xu, .ref f1, .ref f2, .ref ma, .int xl, .int (bI sg), .int sr, .ref q1, .ref q2, .long ta, .long tb, .long pv.1, .long pv.2, .ref v1, .ref v2, .ref dd])), (q1, .inl (cJ, 39, .inr (.inl (fun z => (PP z).1)))), (q2, .inl (cJ, 39, .inr (.inl (fun z => (PP z).2))))] sz) (fun _ => [(y0, .inr (9, [.long w1, .long w2, .long ov, .int (nI hh), .int xm, .int xu, .ref f1, .ref f2, .ref ma, .int xl, .int (bI sg), .int sr, .ref q1, .ref q2, .long ta, .long tb, .long pv.1, .long pv.2, .ref v1, .ref v2, .ref dd])), (q1, .inl (cJ, 39, .inr (.inl (fun z => (PP z).1)))), (q2, .inl (cJ, 39, .inr (.inl (fun z => (PP z).2))))])) (va_A [(y0, .inr (9, [.long w1, .long w2, .long ov, .int (nI hh), .int xm, .int xu, .ref f1, .ref f2, .ref ma, .int xl, .int (bI sg), .int sr, .ref q1, .ref q2, .long ta, .long tb, .long pv.1, .long pv.2, .ref v1, .ref v2, .ref dd])), (q1, .inl (cJ, 39, .inr (.inl (fun z => (PP z).1)))), (q2, .inl (cJ, 39, .inr (.inl (fun z => (PP z).2))))] sz)) 0 0 (va_A [(y0, .inr (9, [.long w1, .long w2, .long ov, .int (nI hh), .int xm, .int xu, .ref f1, .ref f2, .ref ma, .int xl, .int (bI sg), .int sr, .ref q1, .ref q2, .long ta, .long tb, .long pv.1, .long pv.2, .ref v1, .ref v2, .ref dd])), (q1, .inl (cJ, 39, .inr (.inl (fun z => (PP z).1)))), (q2, .inl (cJ, 39, .inr (.inl (fun z => (PP z).2))))] sz) := by
  refine Met.ofW (cc := cX9_part) (maxL := 3) (ret := (some .long)) (by decide) rfl ?_
  intro p e s m args below meth c s₁ B hml hv
  obtain ⟨rfl, hsz, hP, hK, hD0⟩ := hv
  have hx := B.exec
  have hb := B.bytes
  have hr := B.returns
  have hts := atoms_spec (ws := wsX9_part) B.pre
  have hown : s.vm.findClass RX9 = some m.cls := findClass_of_methodNamed B.named
  have hlocks := B.notSynchronized
  subst hsz
  have hD := hD0.self (sz := s.heap.size)
  generalize hAe : va_A [(y0, .inr (9, [.long w1, .long w2, .long ov, .int (nI hh), .int xm, .int xu, .ref f1, .ref f2, .ref ma, .int xl, .int (bI sg), .int sr, .ref q1, .ref q2, .long ta, .long tb, .long pv.1, .long pv.2, .ref v1, .ref v2, .ref dd])), (q1, .inl (cJ, 39, .inr (.inl (fun z => (PP z).1)))), (q2, .inl (cJ, 39, .inr (.inl (fun z => (PP z).2))))] s.heap.size = A at hD ⊢
  have hA : ∀ q : Nat, s.heap.size ≤ q → A q := fun q h => by rw [← hAe]; exact Or.inr h
  have hS : va_S A s.heap s.heap [] := va_S.rf
  have hP : va_P (dC, dI) vwCl [(y0, .inr (9, [.long w1, .long w2, .long ov, .int (nI hh), .int xm, .int xu, .ref f1, .ref f2, .ref ma, .int xl, .int (bI sg), .int sr, .ref q1, .ref q2, .long ta, .long tb, .long pv.1, .long pv.2, .ref v1, .ref v2, .ref dd])), (q1, .inl (cJ, 39, .inr (.inl (fun z => (PP z).1)))), (q2, .inl (cJ, 39, .inr (.inl (fun z => (PP z).2))))] s.heap := hP
  have hl := lv_entry ([.ref y0, .int yk, .int yh]) (n := 3) (Nat.le_of_ble_eq_true rfl)
  rw [lg_entry_eq]
  generalize (lg_sl ([.ref y0, .int yk, .int yh]) ++ List.replicate (3 - (lg_sl ([.ref y0, .int yk, .int yh])).length) Slot.unset).toArray = ls at hl ⊢
  have iX9 : ∀ w ∈ wsX90, w ∈ wsX9_part := by decide +kernel
  have f26 := hts (.fieldLink RX9 26 "LeafSignerModel" "partSeconds" "[J") (by decide +kernel)
  have f23 := hts (.fieldLink RX9 23 "LeafSignerModel" "partFirsts" "[J") (by decide +kernel)
  have hl : lv_has ls 3 [(0, .ref y0), (1, .int yk), (2, .int yh)] := hl
  refine lv_aload_n hx hb dX9_part_0 rfl (lv_at hl 0 rfl) ?_
  refine lv_iload_n hx hb dX9_part_1 rfl (lv_at hl 1 rfl) ?_
  refine lv_iload_n hx hb dX9_part_2 rfl (lv_at hl 2 rfl) ?_
  refine st_calli (va_runV (As := [.int yk, .int yh]) (rest := []) ⟨hx, hb, hml, hown, hts⟩ (c_LeafSignerModel_isPart l dC dI cJ cI y0 f1 f2 ma q1 q2 v1 v2 dd w1 w2 ov ta tb xm xu xl sr pv sg hh yk yh (by omega) s.heap.size) (cwV 2 hts gX9_part_X9_isPart rfl rfl rfl (by decide +kernel) ⟨Nat.le_of_ble_eq_true rfl, Nat.le_of_ble_eq_true rfl⟩) (st_preV hK hP hD [0] rfl rfl (ci := 9) (q0 := 0) rfl rfl) rfl rfl hl.1 rfl (lv_room (Nat.le_of_ble_eq_true rfl)) dX9_part_3 ⟨Nat.le_of_ble_eq_true rfl, Nat.le_of_ble_eq_true rfl⟩) hP hD hS hA [0] [1, 2] (wr := [(q1, .inl (cJ, 39, .inr (.inl (fun z => (PP z).1)))), (q2, .inl (cJ, 39, .inr (.inl (fun z => (PP z).2))))]) rfl rfl (by decide) (by decide) [2, 0, 1] (res := fun _ => [(y0, .inr (9, [.long w1, .long w2, .long ov, .int (nI hh), .int xm, .int xu, .ref f1, .ref f2, .ref ma, .int xl, .int (bI sg), .int sr, .ref q1, .ref q2, .long ta, .long tb, .long pv.1, .long pv.2, .ref v1, .ref v2, .ref dd])), (q1, .inl (cJ, 39, .inr (.inl (fun z => (PP z).1)))), (q2, .inl (cJ, 39, .inr (.inl (fun z => (PP z).2))))]) (fun _ => rfl) (by decide) (fun r_1 _ H locs hu hP hD hS => ?_)
  have hP : va_P (dC, dI) vwCl [(y0, .inr (9, [.long w1, .long w2, .long ov, .int (nI hh), .int xm, .int xu, .ref f1, .ref f2, .ref ma, .int xl, .int (bI sg), .int sr, .ref q1, .ref q2, .long ta, .long tb, .long pv.1, .long pv.2, .ref v1, .ref v2, .ref dd])), (q1, .inl (cJ, 39, .inr (.inl (fun z => (PP z).1)))), (q2, .inl (cJ, 39, .inr (.inl (fun z => (PP z).2))))] H := hP
  have hD : va_D A [(y0, .inr (9, [.long w1, .long w2, .long ov, .int (nI hh), .int xm, .int xu, .ref f1, .ref f2, .ref ma, .int xl, .int (bI sg), .int sr, .ref q1, .ref q2, .long ta, .long tb, .long pv.1, .long pv.2, .ref v1, .ref v2, .ref dd])), (q1, .inl (cJ, 39, .inr (.inl (fun z => (PP z).1)))), (q2, .inl (cJ, 39, .inr (.inl (fun z => (PP z).2))))] := hD
  subst hu
  refine lv_if_ne (tgt := 11) hx hb dX9_part_6 (by decide) (fun c6 => ?_) (fun c6 => ?_)
  ·
    rw [q_b0] at c6
    have hq := db_t c6
    obtain ⟨k, hk, rfl⟩ := i_le (show 35 + hh < 2 ^ 31 by omega) hq.2.2.1 hq.2.2.2
    obtain ⟨hf, hf1, rfl⟩ := half_get hq.2.1
    refine lv_iload_n hx hb dX9_part_11 rfl (lv_at hl 2 rfl) ?_
    refine lv_if_ne (tgt := 24) hx hb dX9_part_12 (by decide) (fun c12 => ?_) (fun c12 => ?_)
    ·
      rw [q_eq0 (by omega)] at c12
      refine lv_aload_n hx hb dX9_part_24 rfl (lv_at hl 0 rfl) ?_
      refine va_get (D := (dC, dI)) (ci := 9) (v := .ref q2) (C := RX9) (T := TX9) (N := 21) hx hb hts iX9 hown hK hP 0 rfl rfl 13 (by decide) f26 (fun _ h9 => h9) rfl dX9_part_25 ?_
      refine lv_iload_n hx hb dX9_part_28 rfl (lv_at hl 1 rfl) ?_
      refine st_lald hx hb hK hP 2 0 rfl rfl k rfl (by omega) (by omega) dX9_part_29 ?_
      exact W.lret (v := (fun z => (PP z).2) k) hx hb hr (fun t ht hW => ⟨⟨(fun z => (PP z).2) k, (), rfl, by rw [if_pos hq.1, ← ptA_y (by omega) hf1 hk, show hf = 1 by omega]; rfl, by rw [ht]; exact hP, va_K.moved hW.alike hK, hD⟩, hS.F ht⟩) hS.2.2 dX9_part_30
    ·
      rw [q_eq0 (by omega)] at c12
      refine lv_aload_n hx hb dX9_part_15 rfl (lv_at hl 0 rfl) ?_
      refine va_get (D := (dC, dI)) (ci := 9) (v := .ref q1) (C := RX9) (T := TX9) (N := 21) hx hb hts iX9 hown hK hP 0 rfl rfl 12 (by decide) f23 (fun _ h9 => h9) rfl dX9_part_16 ?_
      refine lv_iload_n hx hb dX9_part_19 rfl (lv_at hl 1 rfl) ?_
      refine st_lald hx hb hK hP 1 0 rfl rfl k rfl (by omega) (by omega) dX9_part_20 ?_
      refine lv_goto (tgt := 30) hx hb dX9_part_21 (by decide) ?_
      exact W.lret (v := (fun z => (PP z).1) k) hx hb hr (fun t ht hW => ⟨⟨(fun z => (PP z).1) k, (), rfl, by rw [if_pos hq.1, ← ptA_y (by omega) hf1 hk, c12]; rfl, by rw [ht]; exact hP, va_K.moved hW.alike hK, hD⟩, hS.F ht⟩) hS.2.2 dX9_part_30
  ·
    rw [q_b0] at c6
    refine lv_lconst (v := lN 0) hx hb dX9_part_9 (by decide) ?_
    exact W.lret (v := lN 0) hx hb hr (fun t ht hW => ⟨⟨lN 0, (), rfl, by by_cases hs : sg = true; (rw [if_pos hs]; exact ptA_n (fun q => db_f c6 ⟨hs, q⟩)); (rw [if_neg hs]), by rw [ht]; exact hP, va_K.moved hW.alike hK, hD⟩, hS.F ht⟩) hS.2.2 dX9_part_10

set_option maxHeartbeats 4000000 in
set_option maxRecDepth 100000 in
theorem cm_setLeaf_no (l : Launch) (dC : Nat → ClassId) (dI : Nat → Nat → Nat) (cJ cI : ClassId) (y0 f1 f2 ma q1 q2 v1 v2 dd : Nat) (w1 w2 ov ta tb : Int64) (xh xm xu xl sr : Int32) (pv : Int64 × Int64) (sg : Bool) (yl : Int32) (hbad : sg = false ∨ yl < 0) (sz : Nat) : Met l yX9_setLeaf wsX9_setLeaf ({ frames := 0, cells := 0, slots := 0, locals := 0 }) (va_Pc [.ref y0, .int yl] (st_B (dC, dI) vwCl [(cJ, .long), (cI, .int)] [(y0, .inr (9, [.long w1, .long w2, .long ov, .int xh, .int xm, .int xu, .ref f1, .ref f2, .ref ma, .int xl, .int (bI sg), .int sr, .ref q1, .ref q2, .long ta, .long tb, .long pv.1, .long pv.2, .ref v1, .ref v2, .ref dd]))] sz)) (va_Qi (fun (r : Int32) (_ : Unit) => r = nI 0) (st_E (dC, dI) vwCl [(cJ, .long), (cI, .int)] (va_A [(y0, .inr (9, [.long w1, .long w2, .long ov, .int xh, .int xm, .int xu, .ref f1, .ref f2, .ref ma, .int xl, .int (bI sg), .int sr, .ref q1, .ref q2, .long ta, .long tb, .long pv.1, .long pv.2, .ref v1, .ref v2, .ref dd]))] sz) (fun _ => [(y0, .inr (9, [.long w1, .long w2, .long ov, .int xh, .int xm, .int xu, .ref f1, .ref f2, .ref ma, .int xl, .int (bI sg), .int sr, .ref q1, .ref q2, .long ta, .long tb, .long pv.1, .long pv.2, .ref v1, .ref v2, .ref dd]))])) (va_A [(y0, .inr (9, [.long w1, .long w2, .long ov, .int xh, .int xm, .int xu, .ref f1, .ref f2, .ref ma, .int xl, .int (bI sg), .int sr, .ref q1, .ref q2, .long ta, .long tb, .long pv.1, .long pv.2, .ref v1, .ref v2, .ref dd]))] sz)) 0 0 (va_A [(y0, .inr (9, [.long w1, .long w2, .long ov, .int xh, .int xm, .int xu, .ref f1, .ref f2, .ref ma, .int xl, .int (bI sg), .int sr, .ref q1, .ref q2, .long ta, .long tb, .long pv.1, .long pv.2, .ref v1, .ref v2, .ref dd]))] sz) := by
  refine Met.ofW (cc := cX9_setLeaf) (maxL := 2) (ret := (some .int)) (by decide) rfl ?_
  intro p e s m args below meth c s₁ B hml hv
  obtain ⟨rfl, hsz, hP, hK, hD0⟩ := hv
  have hx := B.exec
  have hb := B.bytes
  have hr := B.returns
  have hts := atoms_spec (ws := wsX9_setLeaf) B.pre
  have hown : s.vm.findClass RX9 = some m.cls := findClass_of_methodNamed B.named
  have hlocks := B.notSynchronized
  subst hsz
  have hD := hD0.self (sz := s.heap.size)
  generalize hAe : va_A [(y0, .inr (9, [.long w1, .long w2, .long ov, .int xh, .int xm, .int xu, .ref f1, .ref f2, .ref ma, .int xl, .int (bI sg), .int sr, .ref q1, .ref q2, .long ta, .long tb, .long pv.1, .long pv.2, .ref v1, .ref v2, .ref dd]))] s.heap.size = A at hD ⊢
  have hA : ∀ q : Nat, s.heap.size ≤ q → A q := fun q h => by rw [← hAe]; exact Or.inr h
  have hS : va_S A s.heap s.heap [] := va_S.rf
  have hP : va_P (dC, dI) vwCl [(y0, .inr (9, [.long w1, .long w2, .long ov, .int xh, .int xm, .int xu, .ref f1, .ref f2, .ref ma, .int xl, .int (bI sg), .int sr, .ref q1, .ref q2, .long ta, .long tb, .long pv.1, .long pv.2, .ref v1, .ref v2, .ref dd]))] s.heap := hP
  have hl := lv_entry ([.ref y0, .int yl]) (n := 2) (Nat.le_of_ble_eq_true rfl)
  rw [lg_entry_eq]
  generalize (lg_sl ([.ref y0, .int yl]) ++ List.replicate (2 - (lg_sl ([.ref y0, .int yl])).length) Slot.unset).toArray = ls at hl ⊢
  have iX9 : ∀ w ∈ wsX90, w ∈ wsX9_setLeaf := by decide +kernel
  have f91 := hts (.fieldLink RX9 91 "LeafSignerModel" "signed" "Z") (by decide +kernel)
  have hl : lv_has ls 2 [(0, .ref y0), (1, .int yl)] := hl
  refine lv_aload_n hx hb dX9_setLeaf_0 rfl (lv_at hl 0 rfl) ?_
  refine va_get (D := (dC, dI)) (ci := 9) (v := .int (bI sg)) (C := RX9) (T := TX9) (N := 21) hx hb hts iX9 hown hK hP 0 rfl rfl 10 (by decide) f91 (fun _ h9 => h9) rfl dX9_setLeaf_1 ?_
  refine lv_if_eq (tgt := 11) hx hb dX9_setLeaf_4 (by decide) (fun c4 => ?_) (fun c4 => ?_)
  ·
    rw [q_b0] at c4
    refine lv_iconst (v := nI 0) hx hb dX9_setLeaf_11 (by decide) ?_
    exact W.iret (v := nI 0) hx hb hr (fun t ht hW => ⟨⟨nI 0, (), rfl, rfl, by rw [ht]; exact hP, va_K.moved hW.alike hK, hD⟩, hS.F ht⟩) hS.2.2 dX9_setLeaf_12
  ·
    rw [q_b0] at c4
    refine lv_iload_n hx hb dX9_setLeaf_7 rfl (lv_at hl 1 rfl) ?_
    refine lv_if_ge (tgt := 13) hx hb dX9_setLeaf_8 (by decide) (fun c8 => ?_) (fun c8 => ?_)
    ·
      exact absurd c8 (fun q => hbad.elim c4 (fun z => absurd q (Int32.not_le.mpr z)))
    ·
      refine lv_iconst (v := nI 0) hx hb dX9_setLeaf_11 (by decide) ?_
      exact W.iret (v := nI 0) hx hb hr (fun t ht hW => ⟨⟨nI 0, (), rfl, rfl, by rw [ht]; exact hP, va_K.moved hW.alike hK, hD⟩, hS.F ht⟩) hS.2.2 dX9_setLeaf_12

set_option maxHeartbeats 4000000 in
set_option maxRecDepth 100000 in
theorem cm_setLeaf_ok (l : Launch) (dC : Nat → ClassId) (dI : Nat → Nat → Nat) (cJ cI : ClassId) (y0 f1 f2 ma q1 q2 v1 v2 dd : Nat) (w1 w2 ov ta tb : Int64) (xh xm xu xl sr : Int32) (pv : Int64 × Int64) (sg : Bool) (yl : Nat) (hok : sg = true) (hy : yl < 2 ^ 31) (sz : Nat) : Met l yX9_setLeaf wsX9_setLeaf ({ frames := 0, cells := 0, slots := 0, locals := 0 }) (va_Pc [.ref y0, .int (nI yl)] (st_B (dC, dI) vwCl [(cJ, .long), (cI, .int)] [(y0, .inr (9, [.long w1, .long w2, .long ov, .int xh, .int xm, .int xu, .ref f1, .ref f2, .ref ma, .int xl, .int (bI sg), .int sr, .ref q1, .ref q2, .long ta, .long tb, .long pv.1, .long pv.2, .ref v1, .ref v2, .ref dd]))] sz)) (va_Qi (fun (r : Int32) (_ : Unit) => r = nI 1) (st_E (dC, dI) vwCl [(cJ, .long), (cI, .int)] (va_A [(y0, .inr (9, [.long w1, .long w2, .long ov, .int xh, .int xm, .int xu, .ref f1, .ref f2, .ref ma, .int xl, .int (bI sg), .int sr, .ref q1, .ref q2, .long ta, .long tb, .long pv.1, .long pv.2, .ref v1, .ref v2, .ref dd]))] sz) (fun _ => [(y0, .inr (9, [.long w1, .long w2, .long ov, .int xh, .int xm, .int xu, .ref f1, .ref f2, .ref ma, .int xl, .int (bI sg), .int (nI yl), .ref q1, .ref q2, .long ta, .long tb, .long pv.1, .long pv.2, .ref v1, .ref v2, .ref dd]))])) (va_A [(y0, .inr (9, [.long w1, .long w2, .long ov, .int xh, .int xm, .int xu, .ref f1, .ref f2, .ref ma, .int xl, .int (bI sg), .int sr, .ref q1, .ref q2, .long ta, .long tb, .long pv.1, .long pv.2, .ref v1, .ref v2, .ref dd]))] sz)) 0 0 (va_A [(y0, .inr (9, [.long w1, .long w2, .long ov, .int xh, .int xm, .int xu, .ref f1, .ref f2, .ref ma, .int xl, .int (bI sg), .int sr, .ref q1, .ref q2, .long ta, .long tb, .long pv.1, .long pv.2, .ref v1, .ref v2, .ref dd]))] sz) := by
  refine Met.ofW (cc := cX9_setLeaf) (maxL := 2) (ret := (some .int)) (by decide) rfl ?_
  intro p e s m args below meth c s₁ B hml hv
  obtain ⟨rfl, hsz, hP, hK, hD0⟩ := hv
  have hx := B.exec
  have hb := B.bytes
  have hr := B.returns
  have hts := atoms_spec (ws := wsX9_setLeaf) B.pre
  have hown : s.vm.findClass RX9 = some m.cls := findClass_of_methodNamed B.named
  have hlocks := B.notSynchronized
  subst hsz
  have hD := hD0.self (sz := s.heap.size)
  generalize hAe : va_A [(y0, .inr (9, [.long w1, .long w2, .long ov, .int xh, .int xm, .int xu, .ref f1, .ref f2, .ref ma, .int xl, .int (bI sg), .int sr, .ref q1, .ref q2, .long ta, .long tb, .long pv.1, .long pv.2, .ref v1, .ref v2, .ref dd]))] s.heap.size = A at hD ⊢
  have hA : ∀ q : Nat, s.heap.size ≤ q → A q := fun q h => by rw [← hAe]; exact Or.inr h
  have hS : va_S A s.heap s.heap [] := va_S.rf
  have hP : va_P (dC, dI) vwCl [(y0, .inr (9, [.long w1, .long w2, .long ov, .int xh, .int xm, .int xu, .ref f1, .ref f2, .ref ma, .int xl, .int (bI sg), .int sr, .ref q1, .ref q2, .long ta, .long tb, .long pv.1, .long pv.2, .ref v1, .ref v2, .ref dd]))] s.heap := hP
  have hl := lv_entry ([.ref y0, .int (nI yl)]) (n := 2) (Nat.le_of_ble_eq_true rfl)
  rw [lg_entry_eq]
  generalize (lg_sl ([.ref y0, .int (nI yl)]) ++ List.replicate (2 - (lg_sl ([.ref y0, .int (nI yl)])).length) Slot.unset).toArray = ls at hl ⊢
  have iX9 : ∀ w ∈ wsX90, w ∈ wsX9_setLeaf := by decide +kernel
  have f91 := hts (.fieldLink RX9 91 "LeafSignerModel" "signed" "Z") (by decide +kernel)
  have f128 := hts (.fieldLink RX9 128 "LeafSignerModel" "signer" "I") (by decide +kernel)
  have hl : lv_has ls 2 [(0, .ref y0), (1, .int (nI yl))] := hl
  refine lv_aload_n hx hb dX9_setLeaf_0 rfl (lv_at hl 0 rfl) ?_
  refine va_get (D := (dC, dI)) (ci := 9) (v := .int (bI sg)) (C := RX9) (T := TX9) (N := 21) hx hb hts iX9 hown hK hP 0 rfl rfl 10 (by decide) f91 (fun _ h9 => h9) rfl dX9_setLeaf_1 ?_
  refine lv_if_eq (tgt := 11) hx hb dX9_setLeaf_4 (by decide) (fun c4 => ?_) (fun c4 => ?_)
  ·
    rw [q_b0] at c4
    exact absurd hok (by rw [c4]; decide)
  ·
    rw [q_b0] at c4
    refine lv_iload_n hx hb dX9_setLeaf_7 rfl (lv_at hl 1 rfl) ?_
    refine lv_if_ge (tgt := 13) hx hb dX9_setLeaf_8 (by decide) (fun c8 => ?_) (fun c8 => ?_)
    ·
      rw [q_ge0 (by omega)] at c8
      refine lv_aload_n hx hb dX9_setLeaf_13 rfl (lv_at hl 0 rfl) ?_
      refine lv_iload_n hx hb dX9_setLeaf_14 rfl (lv_at hl 1 rfl) ?_
      refine va_put (D := (dC, dI)) (ci := 9) (v := .int (nI yl)) (ty := .int) (C := RX9) (T := TX9) (N := 21) hx hb hts iX9 tyX9 tyX9_ok nmX9 hown hK hP hD hS 0 rfl rfl 11 (by decide) f128 (fun _ h9 => h9) rfl (by decide +kernel) rfl rfl (Nat.le_of_ble_eq_true rfl) dX9_setLeaf_15 (fun H locs hP hD hS => ?_)
      have hP : va_P (dC, dI) vwCl [(y0, .inr (9, [.long w1, .long w2, .long ov, .int xh, .int xm, .int xu, .ref f1, .ref f2, .ref ma, .int xl, .int (bI sg), .int (nI yl), .ref q1, .ref q2, .long ta, .long tb, .long pv.1, .long pv.2, .ref v1, .ref v2, .ref dd]))] H := hP
      have hD : va_D A [(y0, .inr (9, [.long w1, .long w2, .long ov, .int xh, .int xm, .int xu, .ref f1, .ref f2, .ref ma, .int xl, .int (bI sg), .int (nI yl), .ref q1, .ref q2, .long ta, .long tb, .long pv.1, .long pv.2, .ref v1, .ref v2, .ref dd]))] := hD
      refine lv_iconst (v := nI 1) hx hb dX9_setLeaf_18 (by decide) ?_
      exact W.iret (v := nI 1) hx hb hr (fun t ht hW => ⟨⟨nI 1, (), rfl, rfl, by rw [ht]; exact hP, va_K.moved hW.alike hK, hD⟩, hS.F ht⟩) hS.2.2 dX9_setLeaf_19
    ·
      rw [q_ge0 (by omega)] at c8
      exact absurd c8 (by omega)

set_option maxHeartbeats 4000000 in
set_option maxRecDepth 100000 in
theorem cm_setPart_no (l : Launch) (dC : Nat → ClassId) (dI : Nat → Nat → Nat) (cJ cI : ClassId) (y0 f1 f2 ma q1 q2 v1 v2 dd : Nat) (w1 w2 ov ta tb : Int64) (xm xu xl sr : Int32) (pv : Int64 × Int64) (sg : Bool) (hh : Nat) (yk yh : Int32) (xv : Int64) (h4 : hh ≤ 4) (hbad : ¬ (sg = true ∧ (yh = 0 ∨ yh = nI 1) ∧ (¬ yk < 0 ∧ ¬ nI (35 + hh) ≤ yk))) (sz : Nat) : Met l yX9_setPart wsX9_setPart ({ frames := 1, cells := 0, slots := 0, locals := 22 }) (va_Pc [.ref y0, .int yk, .int yh, .long xv] (st_B (dC, dI) vwCl [(cJ, .long), (cI, .int)] [(y0, .inr (9, [.long w1, .long w2, .long ov, .int (nI hh), .int xm, .int xu, .ref f1, .ref f2, .ref ma, .int xl, .int (bI sg), .int sr, .ref q1, .ref q2, .long ta, .long tb, .long pv.1, .long pv.2, .ref v1, .ref v2, .ref dd]))] sz)) (va_Qi (fun (r : Int32) (_ : Unit) => r = nI 0) (st_E (dC, dI) vwCl [(cJ, .long), (cI, .int)] (va_A [(y0, .inr (9, [.long w1, .long w2, .long ov, .int (nI hh), .int xm, .int xu, .ref f1, .ref f2, .ref ma, .int xl, .int (bI sg), .int sr, .ref q1, .ref q2, .long ta, .long tb, .long pv.1, .long pv.2, .ref v1, .ref v2, .ref dd]))] sz) (fun _ => [(y0, .inr (9, [.long w1, .long w2, .long ov, .int (nI hh), .int xm, .int xu, .ref f1, .ref f2, .ref ma, .int xl, .int (bI sg), .int sr, .ref q1, .ref q2, .long ta, .long tb, .long pv.1, .long pv.2, .ref v1, .ref v2, .ref dd]))])) (va_A [(y0, .inr (9, [.long w1, .long w2, .long ov, .int (nI hh), .int xm, .int xu, .ref f1, .ref f2, .ref ma, .int xl, .int (bI sg), .int sr, .ref q1, .ref q2, .long ta, .long tb, .long pv.1, .long pv.2, .ref v1, .ref v2, .ref dd]))] sz)) 0 0 (va_A [(y0, .inr (9, [.long w1, .long w2, .long ov, .int (nI hh), .int xm, .int xu, .ref f1, .ref f2, .ref ma, .int xl, .int (bI sg), .int sr, .ref q1, .ref q2, .long ta, .long tb, .long pv.1, .long pv.2, .ref v1, .ref v2, .ref dd]))] sz) := by
  refine Met.ofW (cc := cX9_setPart) (maxL := 5) (ret := (some .int)) (by decide) rfl ?_
  intro p e s m args below meth c s₁ B hml hv
  obtain ⟨rfl, hsz, hP, hK, hD0⟩ := hv
  have hx := B.exec
  have hb := B.bytes
  have hr := B.returns
  have hts := atoms_spec (ws := wsX9_setPart) B.pre
  have hown : s.vm.findClass RX9 = some m.cls := findClass_of_methodNamed B.named
  have hlocks := B.notSynchronized
  subst hsz
  have hD := hD0.self (sz := s.heap.size)
  generalize hAe : va_A [(y0, .inr (9, [.long w1, .long w2, .long ov, .int (nI hh), .int xm, .int xu, .ref f1, .ref f2, .ref ma, .int xl, .int (bI sg), .int sr, .ref q1, .ref q2, .long ta, .long tb, .long pv.1, .long pv.2, .ref v1, .ref v2, .ref dd]))] s.heap.size = A at hD ⊢
  have hA : ∀ q : Nat, s.heap.size ≤ q → A q := fun q h => by rw [← hAe]; exact Or.inr h
  have hS : va_S A s.heap s.heap [] := va_S.rf
  have hP : va_P (dC, dI) vwCl [(y0, .inr (9, [.long w1, .long w2, .long ov, .int (nI hh), .int xm, .int xu, .ref f1, .ref f2, .ref ma, .int xl, .int (bI sg), .int sr, .ref q1, .ref q2, .long ta, .long tb, .long pv.1, .long pv.2, .ref v1, .ref v2, .ref dd]))] s.heap := hP
  have hl := lv_entry ([.ref y0, .int yk, .int yh, .long xv]) (n := 5) (Nat.le_of_ble_eq_true rfl)
  rw [lg_entry_eq]
  generalize (lg_sl ([.ref y0, .int yk, .int yh, .long xv]) ++ List.replicate (5 - (lg_sl ([.ref y0, .int yk, .int yh, .long xv])).length) Slot.unset).toArray = ls at hl ⊢
  have hl : lv_has ls 5 [(0, .ref y0), (1, .int yk), (2, .int yh), (3, .long xv)] := hl
  refine lv_aload_n hx hb dX9_setPart_0 rfl (lv_at hl 0 rfl) ?_
  refine lv_iload_n hx hb dX9_setPart_1 rfl (lv_at hl 1 rfl) ?_
  refine lv_iload_n hx hb dX9_setPart_2 rfl (lv_at hl 2 rfl) ?_
  refine st_calli (va_runV (As := [.int yk, .int yh]) (rest := []) ⟨hx, hb, hml, hown, hts⟩ (c_LeafSignerModel_isPart l dC dI cJ cI y0 f1 f2 ma q1 q2 v1 v2 dd w1 w2 ov ta tb xm xu xl sr pv sg hh yk yh (by omega) s.heap.size) (cwV 2 hts gX9_setPart_X9_isPart rfl rfl rfl (by decide +kernel) ⟨Nat.le_of_ble_eq_true rfl, Nat.le_of_ble_eq_true rfl⟩) (st_preV hK hP hD [0] rfl rfl (ci := 9) (q0 := 0) rfl rfl) rfl rfl hl.1 rfl (lv_room (Nat.le_of_ble_eq_true rfl)) dX9_setPart_3 ⟨Nat.le_of_ble_eq_true rfl, Nat.le_of_ble_eq_true rfl⟩) hP hD hS hA [0] [] (wr := []) rfl rfl (by decide) (by decide) [0] (res := fun _ => [(y0, .inr (9, [.long w1, .long w2, .long ov, .int (nI hh), .int xm, .int xu, .ref f1, .ref f2, .ref ma, .int xl, .int (bI sg), .int sr, .ref q1, .ref q2, .long ta, .long tb, .long pv.1, .long pv.2, .ref v1, .ref v2, .ref dd]))]) (fun _ => rfl) (by decide) (fun r_1 _ H locs hu hP hD hS => ?_)
  have hP : va_P (dC, dI) vwCl [(y0, .inr (9, [.long w1, .long w2, .long ov, .int (nI hh), .int xm, .int xu, .ref f1, .ref f2, .ref ma, .int xl, .int (bI sg), .int sr, .ref q1, .ref q2, .long ta, .long tb, .long pv.1, .long pv.2, .ref v1, .ref v2, .ref dd]))] H := hP
  have hD : va_D A [(y0, .inr (9, [.long w1, .long w2, .long ov, .int (nI hh), .int xm, .int xu, .ref f1, .ref f2, .ref ma, .int xl, .int (bI sg), .int sr, .ref q1, .ref q2, .long ta, .long tb, .long pv.1, .long pv.2, .ref v1, .ref v2, .ref dd]))] := hD
  subst hu
  refine lv_if_ne (tgt := 11) hx hb dX9_setPart_6 (by decide) (fun c6 => ?_) (fun c6 => ?_)
  ·
    rw [q_b0] at c6
    exact absurd (db_t c6) hbad
  ·
    rw [q_b0] at c6
    refine lv_iconst (v := nI 0) hx hb dX9_setPart_9 (by decide) ?_
    exact W.iret (v := nI 0) hx hb hr (fun t ht hW => ⟨⟨nI 0, (), rfl, rfl, by rw [ht]; exact hP, va_K.moved hW.alike hK, hD⟩, hS.F ht⟩) hS.2.2 dX9_setPart_10

set_option maxHeartbeats 4000000 in
set_option maxRecDepth 100000 in
theorem cm_setPart_ok (l : Launch) (dC : Nat → ClassId) (dI : Nat → Nat → Nat) (cJ cI : ClassId) (y0 f1 f2 ma q1 q2 v1 v2 dd : Nat) (w1 w2 ov ta tb : Int64) (xm xu xl sr : Int32) (pv : Int64 × Int64) (sg : Bool) (hh k hf : Nat) (xv : Int64) (PP : Nat → Int64 × Int64) (h4 : hh ≤ 4) (hok : sg = true) (hf1 : hf ≤ 1) (hk : k < 35 + hh) (sz : Nat) : Met l yX9_setPart wsX9_setPart ({ frames := 1, cells := 0, slots := 0, locals := 22 }) (va_Pc [.ref y0, .int (nI k), .int (nI hf), .long xv] (st_B (dC, dI) vwCl [(cJ, .long), (cI, .int)] [(y0, .inr (9, [.long w1, .long w2, .long ov, .int (nI hh), .int xm, .int xu, .ref f1, .ref f2, .ref ma, .int xl, .int (bI sg), .int sr, .ref q1, .ref q2, .long ta, .long tb, .long pv.1, .long pv.2, .ref v1, .ref v2, .ref dd])), (q1, .inl (cJ, 39, .inr (.inl (fun z => (PP z).1)))), (q2, .inl (cJ, 39, .inr (.inl (fun z => (PP z).2))))] sz)) (va_Qi (fun (r : Int32) (_ : Unit) => r = nI 1) (st_E (dC, dI) vwCl [(cJ, .long), (cI, .int)] (va_A [(y0, .inr (9, [.long w1, .long w2, .long ov, .int (nI hh), .int xm, .int xu, .ref f1, .ref f2, .ref ma, .int xl, .int (bI sg), .int sr, .ref q1, .ref q2, .long ta, .long tb, .long pv.1, .long pv.2, .ref v1, .ref v2, .ref dd])), (q1, .inl (cJ, 39, .inr (.inl (fun z => (PP z).1)))), (q2, .inl (cJ, 39, .inr (.inl (fun z => (PP z).2))))] sz) (fun _ => [(y0, .inr (9, [.long w1, .long w2, .long ov, .int (nI hh), .int xm, .int xu, .ref f1, .ref f2, .ref ma, .int xl, .int (bI sg), .int sr, .ref q1, .ref q2, .long ta, .long tb, .long pv.1, .long pv.2, .ref v1, .ref v2, .ref dd])), (q1, .inl (cJ, 39, .inr (.inl (fun z => ((upP PP k hf xv) z).1)))), (q2, .inl (cJ, 39, .inr (.inl (fun z => ((upP PP k hf xv) z).2))))])) (va_A [(y0, .inr (9, [.long w1, .long w2, .long ov, .int (nI hh), .int xm, .int xu, .ref f1, .ref f2, .ref ma, .int xl, .int (bI sg), .int sr, .ref q1, .ref q2, .long ta, .long tb, .long pv.1, .long pv.2, .ref v1, .ref v2, .ref dd])), (q1, .inl (cJ, 39, .inr (.inl (fun z => (PP z).1)))), (q2, .inl (cJ, 39, .inr (.inl (fun z => (PP z).2))))] sz)) 0 0 (va_A [(y0, .inr (9, [.long w1, .long w2, .long ov, .int (nI hh), .int xm, .int xu, .ref f1, .ref f2, .ref ma, .int xl, .int (bI sg), .int sr, .ref q1, .ref q2, .long ta, .long tb, .long pv.1, .long pv.2, .ref v1, .ref v2, .ref dd])), (q1, .inl (cJ, 39, .inr (.inl (fun z => (PP z).1)))), (q2, .inl (cJ, 39, .inr (.inl (fun z => (PP z).2))))] sz) := by
  refine Met.ofW (cc := cX9_setPart) (maxL := 5) (ret := (some .int)) (by decide) rfl ?_
  intro p e s m args below meth c s₁ B hml hv
  obtain ⟨rfl, hsz, hP, hK, hD0⟩ := hv
  have hx := B.exec
  have hb := B.bytes
  have hr := B.returns
  have hts := atoms_spec (ws := wsX9_setPart) B.pre
  have hown : s.vm.findClass RX9 = some m.cls := findClass_of_methodNamed B.named
  have hlocks := B.notSynchronized
  subst hsz
  have hD := hD0.self (sz := s.heap.size)
  generalize hAe : va_A [(y0, .inr (9, [.long w1, .long w2, .long ov, .int (nI hh), .int xm, .int xu, .ref f1, .ref f2, .ref ma, .int xl, .int (bI sg), .int sr, .ref q1, .ref q2, .long ta, .long tb, .long pv.1, .long pv.2, .ref v1, .ref v2, .ref dd])), (q1, .inl (cJ, 39, .inr (.inl (fun z => (PP z).1)))), (q2, .inl (cJ, 39, .inr (.inl (fun z => (PP z).2))))] s.heap.size = A at hD ⊢
  have hA : ∀ q : Nat, s.heap.size ≤ q → A q := fun q h => by rw [← hAe]; exact Or.inr h
  have hS : va_S A s.heap s.heap [] := va_S.rf
  have hP : va_P (dC, dI) vwCl [(y0, .inr (9, [.long w1, .long w2, .long ov, .int (nI hh), .int xm, .int xu, .ref f1, .ref f2, .ref ma, .int xl, .int (bI sg), .int sr, .ref q1, .ref q2, .long ta, .long tb, .long pv.1, .long pv.2, .ref v1, .ref v2, .ref dd])), (q1, .inl (cJ, 39, .inr (.inl (fun z => (PP z).1)))), (q2, .inl (cJ, 39, .inr (.inl (fun z => (PP z).2))))] s.heap := hP
  have hl := lv_entry ([.ref y0, .int (nI k), .int (nI hf), .long xv]) (n := 5) (Nat.le_of_ble_eq_true rfl)
  rw [lg_entry_eq]
  generalize (lg_sl ([.ref y0, .int (nI k), .int (nI hf), .long xv]) ++ List.replicate (5 - (lg_sl ([.ref y0, .int (nI k), .int (nI hf), .long xv])).length) Slot.unset).toArray = ls at hl ⊢
  have iX9 : ∀ w ∈ wsX90, w ∈ wsX9_setPart := by decide +kernel
  have f26 := hts (.fieldLink RX9 26 "LeafSignerModel" "partSeconds" "[J") (by decide +kernel)
  have f23 := hts (.fieldLink RX9 23 "LeafSignerModel" "partFirsts" "[J") (by decide +kernel)
  have hl : lv_has ls 5 [(0, .ref y0), (1, .int (nI k)), (2, .int (nI hf)), (3, .long xv)] := hl
  refine lv_aload_n hx hb dX9_setPart_0 rfl (lv_at hl 0 rfl) ?_
  refine lv_iload_n hx hb dX9_setPart_1 rfl (lv_at hl 1 rfl) ?_
  refine lv_iload_n hx hb dX9_setPart_2 rfl (lv_at hl 2 rfl) ?_
  refine st_calli (va_runV (As := [.int (nI k), .int (nI hf)]) (rest := []) ⟨hx, hb, hml, hown, hts⟩ (c_LeafSignerModel_isPart l dC dI cJ cI y0 f1 f2 ma q1 q2 v1 v2 dd w1 w2 ov ta tb xm xu xl sr pv sg hh (nI k) (nI hf) (by omega) s.heap.size) (cwV 2 hts gX9_setPart_X9_isPart rfl rfl rfl (by decide +kernel) ⟨Nat.le_of_ble_eq_true rfl, Nat.le_of_ble_eq_true rfl⟩) (st_preV hK hP hD [0] rfl rfl (ci := 9) (q0 := 0) rfl rfl) rfl rfl hl.1 rfl (lv_room (Nat.le_of_ble_eq_true rfl)) dX9_setPart_3 ⟨Nat.le_of_ble_eq_true rfl, Nat.le_of_ble_eq_true rfl⟩) hP hD hS hA [0] [1, 2] (wr := [(q1, .inl (cJ, 39, .inr (.inl (fun z => (PP z).1)))), (q2, .inl (cJ, 39, .inr (.inl (fun z => (PP z).2))))]) rfl rfl (by decide) (by decide) [2, 0, 1] (res := fun _ => [(y0, .inr (9, [.long w1, .long w2, .long ov, .int (nI hh), .int xm, .int xu, .ref f1, .ref f2, .ref ma, .int xl, .int (bI sg), .int sr, .ref q1, .ref q2, .long ta, .long tb, .long pv.1, .long pv.2, .ref v1, .ref v2, .ref dd])), (q1, .inl (cJ, 39, .inr (.inl (fun z => (PP z).1)))), (q2, .inl (cJ, 39, .inr (.inl (fun z => (PP z).2))))]) (fun _ => rfl) (by decide) (fun r_1 _ H locs hu hP hD hS => ?_)
  have hP : va_P (dC, dI) vwCl [(y0, .inr (9, [.long w1, .long w2, .long ov, .int (nI hh), .int xm, .int xu, .ref f1, .ref f2, .ref ma, .int xl, .int (bI sg), .int sr, .ref q1, .ref q2, .long ta, .long tb, .long pv.1, .long pv.2, .ref v1, .ref v2, .ref dd])), (q1, .inl (cJ, 39, .inr (.inl (fun z => (PP z).1)))), (q2, .inl (cJ, 39, .inr (.inl (fun z => (PP z).2))))] H := hP
  have hD : va_D A [(y0, .inr (9, [.long w1, .long w2, .long ov, .int (nI hh), .int xm, .int xu, .ref f1, .ref f2, .ref ma, .int xl, .int (bI sg), .int sr, .ref q1, .ref q2, .long ta, .long tb, .long pv.1, .long pv.2, .ref v1, .ref v2, .ref dd])), (q1, .inl (cJ, 39, .inr (.inl (fun z => (PP z).1)))), (q2, .inl (cJ, 39, .inr (.inl (fun z => (PP z).2))))] := hD
  subst hu
  refine lv_if_ne (tgt := 11) hx hb dX9_setPart_6 (by decide) (fun c6 => ?_) (fun c6 => ?_)
  ·
    rw [q_b0] at c6
    refine lv_iload_n hx hb dX9_setPart_11 rfl (lv_at hl 2 rfl) ?_
    refine lv_if_ne (tgt := 25) hx hb dX9_setPart_12 (by decide) (fun c12 => ?_) (fun c12 => ?_)
    ·
      rw [q_eq0 (by omega)] at c12
      refine lv_aload_n hx hb dX9_setPart_25 rfl (lv_at hl 0 rfl) ?_
      refine va_get (D := (dC, dI)) (ci := 9) (v := .ref q2) (C := RX9) (T := TX9) (N := 21) hx hb hts iX9 hown hK hP 0 rfl rfl 13 (by decide) f26 (fun _ h9 => h9) rfl dX9_setPart_26 ?_
      refine lv_iload_n hx hb dX9_setPart_29 rfl (lv_at hl 1 rfl) ?_
      refine lv_lload_n hx hb dX9_setPart_30 rfl (lv_at hl 3 rfl) ?_
      refine st_last hx hb hK hP hD hS 2 0 rfl rfl k rfl (by omega) (by omega) dX9_setPart_31 (fun H locs hP hD hS => ?_)
      have hP : va_P (dC, dI) vwCl [(y0, .inr (9, [.long w1, .long w2, .long ov, .int (nI hh), .int xm, .int xu, .ref f1, .ref f2, .ref ma, .int xl, .int (bI sg), .int sr, .ref q1, .ref q2, .long ta, .long tb, .long pv.1, .long pv.2, .ref v1, .ref v2, .ref dd])), (q1, .inl (cJ, 39, .inr (.inl (fun z => (PP z).1)))), (q2, .inl (cJ, 39, .inr (.inl (vp_updL (fun z => (PP z).2) k xv))))] H := hP
      have hD : va_D A [(y0, .inr (9, [.long w1, .long w2, .long ov, .int (nI hh), .int xm, .int xu, .ref f1, .ref f2, .ref ma, .int xl, .int (bI sg), .int sr, .ref q1, .ref q2, .long ta, .long tb, .long pv.1, .long pv.2, .ref v1, .ref v2, .ref dd])), (q1, .inl (cJ, 39, .inr (.inl (fun z => (PP z).1)))), (q2, .inl (cJ, 39, .inr (.inl (vp_updL (fun z => (PP z).2) k xv))))] := hD
      refine lv_iconst (v := nI 1) hx hb dX9_setPart_32 (by decide) ?_
      have eW_2 : ([(y0, .inr (9, [.long w1, .long w2, .long ov, .int (nI hh), .int xm, .int xu, .ref f1, .ref f2, .ref ma, .int xl, .int (bI sg), .int sr, .ref q1, .ref q2, .long ta, .long tb, .long pv.1, .long pv.2, .ref v1, .ref v2, .ref dd])), (q1, .inl (cJ, 39, .inr (.inl (fun z => (PP z).1)))), (q2, .inl (cJ, 39, .inr (.inl (vp_updL (fun z => (PP z).2) k xv))))] : va_W) = [(y0, .inr (9, [.long w1, .long w2, .long ov, .int (nI hh), .int xm, .int xu, .ref f1, .ref f2, .ref ma, .int xl, .int (bI sg), .int sr, .ref q1, .ref q2, .long ta, .long tb, .long pv.1, .long pv.2, .ref v1, .ref v2, .ref dd])), (q1, .inl (cJ, 39, .inr (.inl (fun z => ((upP PP k hf xv) z).1)))), (q2, .inl (cJ, 39, .inr (.inl (fun z => ((upP PP k hf xv) z).2))))] := by rw [show hf = 1 by omega, (upP_2 PP k xv).1, ← (upP_2 PP k xv).2]
      have hP : va_P (dC, dI) vwCl [(y0, .inr (9, [.long w1, .long w2, .long ov, .int (nI hh), .int xm, .int xu, .ref f1, .ref f2, .ref ma, .int xl, .int (bI sg), .int sr, .ref q1, .ref q2, .long ta, .long tb, .long pv.1, .long pv.2, .ref v1, .ref v2, .ref dd])), (q1, .inl (cJ, 39, .inr (.inl (fun z => ((upP PP k hf xv) z).1)))), (q2, .inl (cJ, 39, .inr (.inl (fun z => ((upP PP k hf xv) z).2))))] H := by rw [← eW_2]; exact hP
      have hD : va_D A [(y0, .inr (9, [.long w1, .long w2, .long ov, .int (nI hh), .int xm, .int xu, .ref f1, .ref f2, .ref ma, .int xl, .int (bI sg), .int sr, .ref q1, .ref q2, .long ta, .long tb, .long pv.1, .long pv.2, .ref v1, .ref v2, .ref dd])), (q1, .inl (cJ, 39, .inr (.inl (fun z => ((upP PP k hf xv) z).1)))), (q2, .inl (cJ, 39, .inr (.inl (fun z => ((upP PP k hf xv) z).2))))] := by rw [← eW_2]; exact hD
      exact W.iret (v := nI 1) hx hb hr (fun t ht hW => ⟨⟨nI 1, (), rfl, rfl, by rw [ht]; exact hP, va_K.moved hW.alike hK, hD⟩, hS.F ht⟩) hS.2.2 dX9_setPart_33
    ·
      rw [q_eq0 (by omega)] at c12
      refine lv_aload_n hx hb dX9_setPart_15 rfl (lv_at hl 0 rfl) ?_
      refine va_get (D := (dC, dI)) (ci := 9) (v := .ref q1) (C := RX9) (T := TX9) (N := 21) hx hb hts iX9 hown hK hP 0 rfl rfl 12 (by decide) f23 (fun _ h9 => h9) rfl dX9_setPart_16 ?_
      refine lv_iload_n hx hb dX9_setPart_19 rfl (lv_at hl 1 rfl) ?_
      refine lv_lload_n hx hb dX9_setPart_20 rfl (lv_at hl 3 rfl) ?_
      refine st_last hx hb hK hP hD hS 1 0 rfl rfl k rfl (by omega) (by omega) dX9_setPart_21 (fun H locs hP hD hS => ?_)
      have hP : va_P (dC, dI) vwCl [(y0, .inr (9, [.long w1, .long w2, .long ov, .int (nI hh), .int xm, .int xu, .ref f1, .ref f2, .ref ma, .int xl, .int (bI sg), .int sr, .ref q1, .ref q2, .long ta, .long tb, .long pv.1, .long pv.2, .ref v1, .ref v2, .ref dd])), (q1, .inl (cJ, 39, .inr (.inl (vp_updL (fun z => (PP z).1) k xv)))), (q2, .inl (cJ, 39, .inr (.inl (fun z => (PP z).2))))] H := hP
      have hD : va_D A [(y0, .inr (9, [.long w1, .long w2, .long ov, .int (nI hh), .int xm, .int xu, .ref f1, .ref f2, .ref ma, .int xl, .int (bI sg), .int sr, .ref q1, .ref q2, .long ta, .long tb, .long pv.1, .long pv.2, .ref v1, .ref v2, .ref dd])), (q1, .inl (cJ, 39, .inr (.inl (vp_updL (fun z => (PP z).1) k xv)))), (q2, .inl (cJ, 39, .inr (.inl (fun z => (PP z).2))))] := hD
      refine lv_goto (tgt := 32) hx hb dX9_setPart_22 (by decide) ?_
      refine lv_iconst (v := nI 1) hx hb dX9_setPart_32 (by decide) ?_
      have eW_3 : ([(y0, .inr (9, [.long w1, .long w2, .long ov, .int (nI hh), .int xm, .int xu, .ref f1, .ref f2, .ref ma, .int xl, .int (bI sg), .int sr, .ref q1, .ref q2, .long ta, .long tb, .long pv.1, .long pv.2, .ref v1, .ref v2, .ref dd])), (q1, .inl (cJ, 39, .inr (.inl (vp_updL (fun z => (PP z).1) k xv)))), (q2, .inl (cJ, 39, .inr (.inl (fun z => (PP z).2))))] : va_W) = [(y0, .inr (9, [.long w1, .long w2, .long ov, .int (nI hh), .int xm, .int xu, .ref f1, .ref f2, .ref ma, .int xl, .int (bI sg), .int sr, .ref q1, .ref q2, .long ta, .long tb, .long pv.1, .long pv.2, .ref v1, .ref v2, .ref dd])), (q1, .inl (cJ, 39, .inr (.inl (fun z => ((upP PP k hf xv) z).1)))), (q2, .inl (cJ, 39, .inr (.inl (fun z => ((upP PP k hf xv) z).2))))] := by rw [c12, (upP_1 PP k xv).1, ← (upP_1 PP k xv).2]
      have hP : va_P (dC, dI) vwCl [(y0, .inr (9, [.long w1, .long w2, .long ov, .int (nI hh), .int xm, .int xu, .ref f1, .ref f2, .ref ma, .int xl, .int (bI sg), .int sr, .ref q1, .ref q2, .long ta, .long tb, .long pv.1, .long pv.2, .ref v1, .ref v2, .ref dd])), (q1, .inl (cJ, 39, .inr (.inl (fun z => ((upP PP k hf xv) z).1)))), (q2, .inl (cJ, 39, .inr (.inl (fun z => ((upP PP k hf xv) z).2))))] H := by rw [← eW_3]; exact hP
      have hD : va_D A [(y0, .inr (9, [.long w1, .long w2, .long ov, .int (nI hh), .int xm, .int xu, .ref f1, .ref f2, .ref ma, .int xl, .int (bI sg), .int sr, .ref q1, .ref q2, .long ta, .long tb, .long pv.1, .long pv.2, .ref v1, .ref v2, .ref dd])), (q1, .inl (cJ, 39, .inr (.inl (fun z => ((upP PP k hf xv) z).1)))), (q2, .inl (cJ, 39, .inr (.inl (fun z => ((upP PP k hf xv) z).2))))] := by rw [← eW_3]; exact hD
      exact W.iret (v := nI 1) hx hb hr (fun t ht hW => ⟨⟨nI 1, (), rfl, rfl, by rw [ht]; exact hP, va_K.moved hW.alike hK, hD⟩, hS.F ht⟩) hS.2.2 dX9_setPart_33
  ·
    rw [q_b0] at c6
    exact absurd ⟨hok, half_of hf1, by rw [q_lt0 (by omega)]; omega, by rw [q_le (by omega) (by omega)]; omega⟩ (db_f c6)

set_option maxHeartbeats 4000000 in
set_option maxRecDepth 100000 in
theorem cm_tell_no (l : Launch) (dC : Nat → ClassId) (dI : Nat → Nat → Nat) (cJ cI : ClassId) (y0 f1 f2 ma q1 q2 v1 v2 dd : Nat) (w1 w2 ov ta tb : Int64) (xh xm xu xl xs sr : Int32) (pv : Int64 × Int64) (yh : Int32) (xv : Int64) (hbad : ¬ (yh = 0 ∨ yh = nI 1)) (sz : Nat) : Met l yX9_tell wsX9_tell ({ frames := 0, cells := 0, slots := 0, locals := 0 }) (va_Pc [.ref y0, .int yh, .long xv] (st_B (dC, dI) vwCl [(cJ, .long), (cI, .int)] [(y0, .inr (9, [.long w1, .long w2, .long ov, .int xh, .int xm, .int xu, .ref f1, .ref f2, .ref ma, .int xl, .int xs, .int sr, .ref q1, .ref q2, .long ta, .long tb, .long pv.1, .long pv.2, .ref v1, .ref v2, .ref dd]))] sz)) (va_Qi (fun (r : Int32) (_ : Unit) => r = nI 0) (st_E (dC, dI) vwCl [(cJ, .long), (cI, .int)] (va_A [(y0, .inr (9, [.long w1, .long w2, .long ov, .int xh, .int xm, .int xu, .ref f1, .ref f2, .ref ma, .int xl, .int xs, .int sr, .ref q1, .ref q2, .long ta, .long tb, .long pv.1, .long pv.2, .ref v1, .ref v2, .ref dd]))] sz) (fun _ => [(y0, .inr (9, [.long w1, .long w2, .long ov, .int xh, .int xm, .int xu, .ref f1, .ref f2, .ref ma, .int xl, .int xs, .int sr, .ref q1, .ref q2, .long ta, .long tb, .long pv.1, .long pv.2, .ref v1, .ref v2, .ref dd]))])) (va_A [(y0, .inr (9, [.long w1, .long w2, .long ov, .int xh, .int xm, .int xu, .ref f1, .ref f2, .ref ma, .int xl, .int xs, .int sr, .ref q1, .ref q2, .long ta, .long tb, .long pv.1, .long pv.2, .ref v1, .ref v2, .ref dd]))] sz)) 0 0 (va_A [(y0, .inr (9, [.long w1, .long w2, .long ov, .int xh, .int xm, .int xu, .ref f1, .ref f2, .ref ma, .int xl, .int xs, .int sr, .ref q1, .ref q2, .long ta, .long tb, .long pv.1, .long pv.2, .ref v1, .ref v2, .ref dd]))] sz) := by
  refine Met.ofW (cc := cX9_tell) (maxL := 4) (ret := (some .int)) (by decide) rfl ?_
  intro p e s m args below meth c s₁ B hml hv
  obtain ⟨rfl, hsz, hP, hK, hD0⟩ := hv
  have hx := B.exec
  have hb := B.bytes
  have hr := B.returns
  have hts := atoms_spec (ws := wsX9_tell) B.pre
  have hown : s.vm.findClass RX9 = some m.cls := findClass_of_methodNamed B.named
  have hlocks := B.notSynchronized
  subst hsz
  have hD := hD0.self (sz := s.heap.size)
  generalize hAe : va_A [(y0, .inr (9, [.long w1, .long w2, .long ov, .int xh, .int xm, .int xu, .ref f1, .ref f2, .ref ma, .int xl, .int xs, .int sr, .ref q1, .ref q2, .long ta, .long tb, .long pv.1, .long pv.2, .ref v1, .ref v2, .ref dd]))] s.heap.size = A at hD ⊢
  have hA : ∀ q : Nat, s.heap.size ≤ q → A q := fun q h => by rw [← hAe]; exact Or.inr h
  have hS : va_S A s.heap s.heap [] := va_S.rf
  have hP : va_P (dC, dI) vwCl [(y0, .inr (9, [.long w1, .long w2, .long ov, .int xh, .int xm, .int xu, .ref f1, .ref f2, .ref ma, .int xl, .int xs, .int sr, .ref q1, .ref q2, .long ta, .long tb, .long pv.1, .long pv.2, .ref v1, .ref v2, .ref dd]))] s.heap := hP
  have hl := lv_entry ([.ref y0, .int yh, .long xv]) (n := 4) (Nat.le_of_ble_eq_true rfl)
  rw [lg_entry_eq]
  generalize (lg_sl ([.ref y0, .int yh, .long xv]) ++ List.replicate (4 - (lg_sl ([.ref y0, .int yh, .long xv])).length) Slot.unset).toArray = ls at hl ⊢
  have hl : lv_has ls 4 [(0, .ref y0), (1, .int yh), (2, .long xv)] := hl
  refine lv_iload_n hx hb dX9_tell_0 rfl (lv_at hl 1 rfl) ?_
  refine lv_if_ne (tgt := 12) hx hb dX9_tell_1 (by decide) (fun c1 => ?_) (fun c1 => ?_)
  ·
    refine lv_iload_n hx hb dX9_tell_12 rfl (lv_at hl 1 rfl) ?_
    refine lv_iconst (v := nI 1) hx hb dX9_tell_13 (by decide) ?_
    refine lv_icmp_ne (tgt := 22) hx hb dX9_tell_14 (by decide) (fun c14 => ?_) (fun c14 => ?_)
    ·
      refine lv_iload_n hx hb dX9_tell_22 rfl (lv_at hl 1 rfl) ?_
      refine lv_if_eq (tgt := 31) hx hb dX9_tell_23 (by decide) (fun c23 => ?_) (fun c23 => ?_)
      ·
        exact absurd (Or.inl c23) hbad
      ·
        refine lv_iload_n hx hb dX9_tell_26 rfl (lv_at hl 1 rfl) ?_
        refine lv_iconst (v := nI 1) hx hb dX9_tell_27 (by decide) ?_
        refine lv_icmp_ne (tgt := 35) hx hb dX9_tell_28 (by decide) (fun c28 => ?_) (fun c28 => ?_)
        ·
          refine lv_iconst (v := nI 0) hx hb dX9_tell_35 (by decide) ?_
          exact W.iret (v := nI 0) hx hb hr (fun t ht hW => ⟨⟨nI 0, (), rfl, rfl, by rw [ht]; exact hP, va_K.moved hW.alike hK, hD⟩, hS.F ht⟩) hS.2.2 dX9_tell_36
        ·
          exact absurd (Or.inr c28) hbad
    ·
      exact absurd (Or.inr c14) hbad
  ·
    exact absurd (Or.inl c1) hbad

set_option maxHeartbeats 4000000 in
set_option maxRecDepth 100000 in
theorem cm_tell_ok (l : Launch) (dC : Nat → ClassId) (dI : Nat → Nat → Nat) (cJ cI : ClassId) (y0 f1 f2 ma q1 q2 v1 v2 dd : Nat) (w1 w2 ov ta tb : Int64) (xh xm xu xl xs sr : Int32) (pv : Int64 × Int64) (hf : Nat) (xv : Int64) (hf1 : hf ≤ 1) (sz : Nat) : Met l yX9_tell wsX9_tell ({ frames := 0, cells := 0, slots := 0, locals := 0 }) (va_Pc [.ref y0, .int (nI hf), .long xv] (st_B (dC, dI) vwCl [(cJ, .long), (cI, .int)] [(y0, .inr (9, [.long w1, .long w2, .long ov, .int xh, .int xm, .int xu, .ref f1, .ref f2, .ref ma, .int xl, .int xs, .int sr, .ref q1, .ref q2, .long ta, .long tb, .long pv.1, .long pv.2, .ref v1, .ref v2, .ref dd]))] sz)) (va_Qi (fun (r : Int32) (_ : Unit) => r = nI 1) (st_E (dC, dI) vwCl [(cJ, .long), (cI, .int)] (va_A [(y0, .inr (9, [.long w1, .long w2, .long ov, .int xh, .int xm, .int xu, .ref f1, .ref f2, .ref ma, .int xl, .int xs, .int sr, .ref q1, .ref q2, .long ta, .long tb, .long pv.1, .long pv.2, .ref v1, .ref v2, .ref dd]))] sz) (fun _ => [(y0, .inr (9, [.long w1, .long w2, .long ov, .int xh, .int xm, .int xu, .ref f1, .ref f2, .ref ma, .int xl, .int xs, .int sr, .ref q1, .ref q2, .long (if hf = 0 then xv else ta), .long (if hf = 0 then tb else xv), .long pv.1, .long pv.2, .ref v1, .ref v2, .ref dd]))])) (va_A [(y0, .inr (9, [.long w1, .long w2, .long ov, .int xh, .int xm, .int xu, .ref f1, .ref f2, .ref ma, .int xl, .int xs, .int sr, .ref q1, .ref q2, .long ta, .long tb, .long pv.1, .long pv.2, .ref v1, .ref v2, .ref dd]))] sz)) 0 0 (va_A [(y0, .inr (9, [.long w1, .long w2, .long ov, .int xh, .int xm, .int xu, .ref f1, .ref f2, .ref ma, .int xl, .int xs, .int sr, .ref q1, .ref q2, .long ta, .long tb, .long pv.1, .long pv.2, .ref v1, .ref v2, .ref dd]))] sz) := by
  refine Met.ofW (cc := cX9_tell) (maxL := 4) (ret := (some .int)) (by decide) rfl ?_
  intro p e s m args below meth c s₁ B hml hv
  obtain ⟨rfl, hsz, hP, hK, hD0⟩ := hv
  have hx := B.exec
  have hb := B.bytes
  have hr := B.returns
  have hts := atoms_spec (ws := wsX9_tell) B.pre
  have hown : s.vm.findClass RX9 = some m.cls := findClass_of_methodNamed B.named
  have hlocks := B.notSynchronized
  subst hsz
  have hD := hD0.self (sz := s.heap.size)
  generalize hAe : va_A [(y0, .inr (9, [.long w1, .long w2, .long ov, .int xh, .int xm, .int xu, .ref f1, .ref f2, .ref ma, .int xl, .int xs, .int sr, .ref q1, .ref q2, .long ta, .long tb, .long pv.1, .long pv.2, .ref v1, .ref v2, .ref dd]))] s.heap.size = A at hD ⊢
  have hA : ∀ q : Nat, s.heap.size ≤ q → A q := fun q h => by rw [← hAe]; exact Or.inr h
  have hS : va_S A s.heap s.heap [] := va_S.rf
  have hP : va_P (dC, dI) vwCl [(y0, .inr (9, [.long w1, .long w2, .long ov, .int xh, .int xm, .int xu, .ref f1, .ref f2, .ref ma, .int xl, .int xs, .int sr, .ref q1, .ref q2, .long ta, .long tb, .long pv.1, .long pv.2, .ref v1, .ref v2, .ref dd]))] s.heap := hP
  have hl := lv_entry ([.ref y0, .int (nI hf), .long xv]) (n := 4) (Nat.le_of_ble_eq_true rfl)
  rw [lg_entry_eq]
  generalize (lg_sl ([.ref y0, .int (nI hf), .long xv]) ++ List.replicate (4 - (lg_sl ([.ref y0, .int (nI hf), .long xv])).length) Slot.unset).toArray = ls at hl ⊢
  have iX9 : ∀ w ∈ wsX90, w ∈ wsX9_tell := by decide +kernel
  have f137 := hts (.fieldLink RX9 137 "LeafSignerModel" "toldSecond" "J") (by decide +kernel)
  have f134 := hts (.fieldLink RX9 134 "LeafSignerModel" "toldFirst" "J") (by decide +kernel)
  have hl : lv_has ls 4 [(0, .ref y0), (1, .int (nI hf)), (2, .long xv)] := hl
  refine lv_iload_n hx hb dX9_tell_0 rfl (lv_at hl 1 rfl) ?_
  refine lv_if_ne (tgt := 12) hx hb dX9_tell_1 (by decide) (fun c1 => ?_) (fun c1 => ?_)
  ·
    rw [q_eq0 (by omega)] at c1
    refine lv_iload_n hx hb dX9_tell_12 rfl (lv_at hl 1 rfl) ?_
    refine lv_iconst (v := nI 1) hx hb dX9_tell_13 (by decide) ?_
    refine lv_icmp_ne (tgt := 22) hx hb dX9_tell_14 (by decide) (fun c14 => ?_) (fun c14 => ?_)
    ·
      rw [q_eq (by omega) (by omega)] at c14
      exact absurd c14 (by omega)
    ·
      rw [q_eq (by omega) (by omega)] at c14
      refine lv_aload_n hx hb dX9_tell_17 rfl (lv_at hl 0 rfl) ?_
      refine lv_lload_n hx hb dX9_tell_18 rfl (lv_at hl 2 rfl) ?_
      refine va_put (D := (dC, dI)) (ci := 9) (v := .long xv) (ty := .long) (C := RX9) (T := TX9) (N := 21) hx hb hts iX9 tyX9 tyX9_ok nmX9 hown hK hP hD hS 0 rfl rfl 15 (by decide) f137 (fun _ h9 => h9) rfl (by decide +kernel) rfl rfl (Nat.le_of_ble_eq_true rfl) dX9_tell_19 (fun H locs hP hD hS => ?_)
      have hP : va_P (dC, dI) vwCl [(y0, .inr (9, [.long w1, .long w2, .long ov, .int xh, .int xm, .int xu, .ref f1, .ref f2, .ref ma, .int xl, .int xs, .int sr, .ref q1, .ref q2, .long ta, .long xv, .long pv.1, .long pv.2, .ref v1, .ref v2, .ref dd]))] H := hP
      have hD : va_D A [(y0, .inr (9, [.long w1, .long w2, .long ov, .int xh, .int xm, .int xu, .ref f1, .ref f2, .ref ma, .int xl, .int xs, .int sr, .ref q1, .ref q2, .long ta, .long xv, .long pv.1, .long pv.2, .ref v1, .ref v2, .ref dd]))] := hD
      refine lv_iload_n hx hb dX9_tell_22 rfl (lv_at hl 1 rfl) ?_
      refine lv_if_eq (tgt := 31) hx hb dX9_tell_23 (by decide) (fun c23 => ?_) (fun c23 => ?_)
      ·
        rw [q_eq0 (by omega)] at c23
        exact absurd c23 (by omega)
      ·
        rw [q_eq0 (by omega)] at c23
        refine lv_iload_n hx hb dX9_tell_26 rfl (lv_at hl 1 rfl) ?_
        refine lv_iconst (v := nI 1) hx hb dX9_tell_27 (by decide) ?_
        refine lv_icmp_ne (tgt := 35) hx hb dX9_tell_28 (by decide) (fun c28 => ?_) (fun c28 => ?_)
        ·
          rw [q_eq (by omega) (by omega)] at c28
          exact absurd c28 (by omega)
        ·
          rw [q_eq (by omega) (by omega)] at c28
          refine lv_iconst (v := nI 1) hx hb dX9_tell_31 (by decide) ?_
          refine lv_goto (tgt := 36) hx hb dX9_tell_32 (by decide) ?_
          have eW_1 : ([(y0, .inr (9, [.long w1, .long w2, .long ov, .int xh, .int xm, .int xu, .ref f1, .ref f2, .ref ma, .int xl, .int xs, .int sr, .ref q1, .ref q2, .long ta, .long xv, .long pv.1, .long pv.2, .ref v1, .ref v2, .ref dd]))] : va_W) = [(y0, .inr (9, [.long w1, .long w2, .long ov, .int xh, .int xm, .int xu, .ref f1, .ref f2, .ref ma, .int xl, .int xs, .int sr, .ref q1, .ref q2, .long (if hf = 0 then xv else ta), .long (if hf = 0 then tb else xv), .long pv.1, .long pv.2, .ref v1, .ref v2, .ref dd]))] := by rw [if_neg c1, if_neg c1]
          have hP : va_P (dC, dI) vwCl [(y0, .inr (9, [.long w1, .long w2, .long ov, .int xh, .int xm, .int xu, .ref f1, .ref f2, .ref ma, .int xl, .int xs, .int sr, .ref q1, .ref q2, .long (if hf = 0 then xv else ta), .long (if hf = 0 then tb else xv), .long pv.1, .long pv.2, .ref v1, .ref v2, .ref dd]))] H := by rw [← eW_1]; exact hP
          have hD : va_D A [(y0, .inr (9, [.long w1, .long w2, .long ov, .int xh, .int xm, .int xu, .ref f1, .ref f2, .ref ma, .int xl, .int xs, .int sr, .ref q1, .ref q2, .long (if hf = 0 then xv else ta), .long (if hf = 0 then tb else xv), .long pv.1, .long pv.2, .ref v1, .ref v2, .ref dd]))] := by rw [← eW_1]; exact hD
          exact W.iret (v := nI 1) hx hb hr (fun t ht hW => ⟨⟨nI 1, (), rfl, rfl, by rw [ht]; exact hP, va_K.moved hW.alike hK, hD⟩, hS.F ht⟩) hS.2.2 dX9_tell_36
  ·
    rw [q_eq0 (by omega)] at c1
    refine lv_aload_n hx hb dX9_tell_4 rfl (lv_at hl 0 rfl) ?_
    refine lv_lload_n hx hb dX9_tell_5 rfl (lv_at hl 2 rfl) ?_
    refine va_put (D := (dC, dI)) (ci := 9) (v := .long xv) (ty := .long) (C := RX9) (T := TX9) (N := 21) hx hb hts iX9 tyX9 tyX9_ok nmX9 hown hK hP hD hS 0 rfl rfl 14 (by decide) f134 (fun _ h9 => h9) rfl (by decide +kernel) rfl rfl (Nat.le_of_ble_eq_true rfl) dX9_tell_6 (fun H locs hP hD hS => ?_)
    have hP : va_P (dC, dI) vwCl [(y0, .inr (9, [.long w1, .long w2, .long ov, .int xh, .int xm, .int xu, .ref f1, .ref f2, .ref ma, .int xl, .int xs, .int sr, .ref q1, .ref q2, .long xv, .long tb, .long pv.1, .long pv.2, .ref v1, .ref v2, .ref dd]))] H := hP
    have hD : va_D A [(y0, .inr (9, [.long w1, .long w2, .long ov, .int xh, .int xm, .int xu, .ref f1, .ref f2, .ref ma, .int xl, .int xs, .int sr, .ref q1, .ref q2, .long xv, .long tb, .long pv.1, .long pv.2, .ref v1, .ref v2, .ref dd]))] := hD
    refine lv_goto (tgt := 22) hx hb dX9_tell_9 (by decide) ?_
    refine lv_iload_n hx hb dX9_tell_22 rfl (lv_at hl 1 rfl) ?_
    refine lv_if_eq (tgt := 31) hx hb dX9_tell_23 (by decide) (fun c23 => ?_) (fun c23 => ?_)
    ·
      rw [q_eq0 (by omega)] at c23
      refine lv_iconst (v := nI 1) hx hb dX9_tell_31 (by decide) ?_
      refine lv_goto (tgt := 36) hx hb dX9_tell_32 (by decide) ?_
      have eW_2 : ([(y0, .inr (9, [.long w1, .long w2, .long ov, .int xh, .int xm, .int xu, .ref f1, .ref f2, .ref ma, .int xl, .int xs, .int sr, .ref q1, .ref q2, .long xv, .long tb, .long pv.1, .long pv.2, .ref v1, .ref v2, .ref dd]))] : va_W) = [(y0, .inr (9, [.long w1, .long w2, .long ov, .int xh, .int xm, .int xu, .ref f1, .ref f2, .ref ma, .int xl, .int xs, .int sr, .ref q1, .ref q2, .long (if hf = 0 then xv else ta), .long (if hf = 0 then tb else xv), .long pv.1, .long pv.2, .ref v1, .ref v2, .ref dd]))] := by rw [if_pos c1, if_pos c1]
      have hP : va_P (dC, dI) vwCl [(y0, .inr (9, [.long w1, .long w2, .long ov, .int xh, .int xm, .int xu, .ref f1, .ref f2, .ref ma, .int xl, .int xs, .int sr, .ref q1, .ref q2, .long (if hf = 0 then xv else ta), .long (if hf = 0 then tb else xv), .long pv.1, .long pv.2, .ref v1, .ref v2, .ref dd]))] H := by rw [← eW_2]; exact hP
      have hD : va_D A [(y0, .inr (9, [.long w1, .long w2, .long ov, .int xh, .int xm, .int xu, .ref f1, .ref f2, .ref ma, .int xl, .int xs, .int sr, .ref q1, .ref q2, .long (if hf = 0 then xv else ta), .long (if hf = 0 then tb else xv), .long pv.1, .long pv.2, .ref v1, .ref v2, .ref dd]))] := by rw [← eW_2]; exact hD
      exact W.iret (v := nI 1) hx hb hr (fun t ht hW => ⟨⟨nI 1, (), rfl, rfl, by rw [ht]; exact hP, va_K.moved hW.alike hK, hD⟩, hS.F ht⟩) hS.2.2 dX9_tell_36
    ·
      rw [q_eq0 (by omega)] at c23
      exact absurd c1 c23

set_option maxHeartbeats 4000000 in
set_option maxRecDepth 100000 in
theorem c_LeafSignerModel_hash (l : Launch) (dC : Nat → ClassId) (dI : Nat → Nat → Nat) (cJ cI : ClassId) (y0 f1 f2 ma q1 q2 v1 v2 dd : Nat) (w1 w2 ov ta tb : Int64) (xh xm xu xs sr : Int32) (pv : Int64 × Int64) (ln : Nat) (yk yh : Int32) (mv : Nat → Int64) (hln : ln ≤ 20) (sz : Nat) : Met l yX9_hash wsX9_hash ({ frames := 2, cells := 0, slots := 0, locals := 45 }) (va_Pc [.ref y0, .int yk, .int yh] (st_B (dC, dI) vwCl [(cJ, .long), (cI, .int)] [(y0, .inr (9, [.long w1, .long w2, .long ov, .int xh, .int xm, .int xu, .ref f1, .ref f2, .ref ma, .int (nI ln), .int xs, .int sr, .ref q1, .ref q2, .long ta, .long tb, .long pv.1, .long pv.2, .ref v1, .ref v2, .ref dd])), (ma, .inl (cJ, 20, .inr (.inl (mv))))] sz)) (va_Ql (fun (r : Int64) (u : (Int64 × Int64)) => r = hsA yk mv ln yh ∧ (True)) (st_E (dC, dI) vwCl [(cJ, .long), (cI, .int)] (va_A [(y0, .inr (9, [.long w1, .long w2, .long ov, .int xh, .int xm, .int xu, .ref f1, .ref f2, .ref ma, .int (nI ln), .int xs, .int sr, .ref q1, .ref q2, .long ta, .long tb, .long pv.1, .long pv.2, .ref v1, .ref v2, .ref dd])), (ma, .inl (cJ, 20, .inr (.inl (mv))))] sz) (fun u => [(y0, .inr (9, [.long w1, .long w2, .long ov, .int xh, .int xm, .int xu, .ref f1, .ref f2, .ref ma, .int (nI ln), .int xs, .int sr, .ref q1, .ref q2, .long ta, .long tb, .long u.1, .long u.2, .ref v1, .ref v2, .ref dd])), (ma, .inl (cJ, 20, .inr (.inl (mv))))])) (va_A [(y0, .inr (9, [.long w1, .long w2, .long ov, .int xh, .int xm, .int xu, .ref f1, .ref f2, .ref ma, .int (nI ln), .int xs, .int sr, .ref q1, .ref q2, .long ta, .long tb, .long pv.1, .long pv.2, .ref v1, .ref v2, .ref dd])), (ma, .inl (cJ, 20, .inr (.inl (mv))))] sz)) 0 0 (va_A [(y0, .inr (9, [.long w1, .long w2, .long ov, .int xh, .int xm, .int xu, .ref f1, .ref f2, .ref ma, .int (nI ln), .int xs, .int sr, .ref q1, .ref q2, .long ta, .long tb, .long pv.1, .long pv.2, .ref v1, .ref v2, .ref dd])), (ma, .inl (cJ, 20, .inr (.inl (mv))))] sz) := by
  refine Met.ofW (cc := cX9_hash) (maxL := 4) (ret := (some .long)) (by decide) rfl ?_
  intro p e s m args below meth c s₁ B hml hv
  obtain ⟨rfl, hsz, hP, hK, hD0⟩ := hv
  have hx := B.exec
  have hb := B.bytes
  have hr := B.returns
  have hts := atoms_spec (ws := wsX9_hash) B.pre
  have hown : s.vm.findClass RX9 = some m.cls := findClass_of_methodNamed B.named
  have hlocks := B.notSynchronized
  subst hsz
  have hD := hD0.self (sz := s.heap.size)
  generalize hAe : va_A [(y0, .inr (9, [.long w1, .long w2, .long ov, .int xh, .int xm, .int xu, .ref f1, .ref f2, .ref ma, .int (nI ln), .int xs, .int sr, .ref q1, .ref q2, .long ta, .long tb, .long pv.1, .long pv.2, .ref v1, .ref v2, .ref dd])), (ma, .inl (cJ, 20, .inr (.inl (mv))))] s.heap.size = A at hD ⊢
  have hA : ∀ q : Nat, s.heap.size ≤ q → A q := fun q h => by rw [← hAe]; exact Or.inr h
  have hS : va_S A s.heap s.heap [] := va_S.rf
  have hP : va_P (dC, dI) vwCl [(y0, .inr (9, [.long w1, .long w2, .long ov, .int xh, .int xm, .int xu, .ref f1, .ref f2, .ref ma, .int (nI ln), .int xs, .int sr, .ref q1, .ref q2, .long ta, .long tb, .long pv.1, .long pv.2, .ref v1, .ref v2, .ref dd])), (ma, .inl (cJ, 20, .inr (.inl (mv))))] s.heap := hP
  have hl := lv_entry ([.ref y0, .int yk, .int yh]) (n := 4) (Nat.le_of_ble_eq_true rfl)
  rw [lg_entry_eq]
  generalize (lg_sl ([.ref y0, .int yk, .int yh]) ++ List.replicate (4 - (lg_sl ([.ref y0, .int yk, .int yh])).length) Slot.unset).toArray = ls at hl ⊢
  have iX9 : ∀ w ∈ wsX90, w ∈ wsX9_hash := by decide +kernel
  have f115 := hts (.fieldLink RX9 115 "LeafSignerModel" "length" "I") (by decide +kernel)
  have f47 := hts (.fieldLink RX9 47 "LeafSignerModel" "b" "J") (by decide +kernel)
  have f43 := hts (.fieldLink RX9 43 "LeafSignerModel" "a" "J") (by decide +kernel)
  have f20 := hts (.fieldLink RX9 20 "LeafSignerModel" "message" "[J") (by decide +kernel)
  have hl : lv_has ls 4 [(0, .ref y0), (1, .int yk), (2, .int yh)] := hl
  refine lv_aload_n hx hb dX9_hash_0 rfl (lv_at hl 0 rfl) ?_
  refine lv_iload_n hx hb dX9_hash_1 rfl (lv_at hl 1 rfl) ?_
  refine lv_i2l (v := yk.toInt64) hx hb dX9_hash_2 rfl ?_
  refine lv_aload_n hx hb dX9_hash_3 rfl (lv_at hl 0 rfl) ?_
  refine va_get (D := (dC, dI)) (ci := 9) (v := .int (nI ln)) (C := RX9) (T := TX9) (N := 21) hx hb hts iX9 hown hK hP 0 rfl rfl 9 (by decide) f115 (fun _ h9 => h9) rfl dX9_hash_4 ?_
  refine st_callv (va_runV (As := [.long yk.toInt64, .int (nI ln)]) (rest := []) ⟨hx, hb, hml, hown, hts⟩ (c_LeafSignerModel_take l dC dI cJ cI y0 f1 f2 ma q1 q2 v1 v2 dd w1 w2 ov ta tb xh xm xu (nI ln) xs sr pv yk.toInt64 (lN ln) (nI ln) (nI_l (by omega)) s.heap.size) (cwV 2 hts gX9_hash_X9_take rfl rfl rfl (by decide +kernel) ⟨Nat.le_of_ble_eq_true rfl, Nat.le_of_ble_eq_true rfl⟩) (st_preV hK hP hD [0] rfl rfl (ci := 9) (q0 := 0) rfl rfl) rfl rfl hl.1 rfl (lv_room (Nat.le_of_ble_eq_true rfl)) dX9_hash_7 ⟨Nat.le_of_ble_eq_true rfl, Nat.le_of_ble_eq_true rfl⟩) hP hD hS hA [0] [1] (wr := [(ma, .inl (cJ, 20, .inr (.inl (mv))))]) rfl rfl (by decide) (by decide) [1, 0] (res := fun _ => [(y0, .inr (9, [.long w1, .long w2, .long ov, .int xh, .int xm, .int xu, .ref f1, .ref f2, .ref ma, .int (nI ln), .int xs, .int sr, .ref q1, .ref q2, .long ta, .long tb, .long yk.toInt64, .long (lN ln), .ref v1, .ref v2, .ref dd])), (ma, .inl (cJ, 20, .inr (.inl (mv))))]) (fun _ => rfl) (by decide) (fun  _ H locs hu hP hD hS => ?_)
  have hP : va_P (dC, dI) vwCl [(y0, .inr (9, [.long w1, .long w2, .long ov, .int xh, .int xm, .int xu, .ref f1, .ref f2, .ref ma, .int (nI ln), .int xs, .int sr, .ref q1, .ref q2, .long ta, .long tb, .long yk.toInt64, .long (lN ln), .ref v1, .ref v2, .ref dd])), (ma, .inl (cJ, 20, .inr (.inl (mv))))] H := hP
  have hD : va_D A [(y0, .inr (9, [.long w1, .long w2, .long ov, .int xh, .int xm, .int xu, .ref f1, .ref f2, .ref ma, .int (nI ln), .int xs, .int sr, .ref q1, .ref q2, .long ta, .long tb, .long yk.toInt64, .long (lN ln), .ref v1, .ref v2, .ref dd])), (ma, .inl (cJ, 20, .inr (.inl (mv))))] := hD
  refine lv_iconst (v := nI 0) hx hb dX9_hash_10 (by decide) ?_
  refine lv_istore_n (lv' := [(3, .int (nI 0)), (0, .ref y0), (1, .int yk), (2, .int yh)]) hx hb dX9_hash_11 rfl hl (by decide) rfl (fun ls hl => ?_)
  have eW_1 : ([(y0, .inr (9, [.long w1, .long w2, .long ov, .int xh, .int xm, .int xu, .ref f1, .ref f2, .ref ma, .int (nI ln), .int xs, .int sr, .ref q1, .ref q2, .long ta, .long tb, .long yk.toInt64, .long (lN ln), .ref v1, .ref v2, .ref dd])), (ma, .inl (cJ, 20, .inr (.inl (mv))))] : va_W) = [(y0, .inr (9, [.long w1, .long w2, .long ov, .int xh, .int xm, .int xu, .ref f1, .ref f2, .ref ma, .int (nI ln), .int xs, .int sr, .ref q1, .ref q2, .long ta, .long tb, .long ((hm (yk.toInt64, lN ln) mv 0).1), .long ((hm (yk.toInt64, lN ln) mv 0).2), .ref v1, .ref v2, .ref dd])), (ma, .inl (cJ, 20, .inr (.inl (mv))))] := rfl
  have hP : va_P (dC, dI) vwCl [(y0, .inr (9, [.long w1, .long w2, .long ov, .int xh, .int xm, .int xu, .ref f1, .ref f2, .ref ma, .int (nI ln), .int xs, .int sr, .ref q1, .ref q2, .long ta, .long tb, .long ((hm (yk.toInt64, lN ln) mv 0).1), .long ((hm (yk.toInt64, lN ln) mv 0).2), .ref v1, .ref v2, .ref dd])), (ma, .inl (cJ, 20, .inr (.inl (mv))))] H := by rw [← eW_1]; exact hP
  have hD : va_D A [(y0, .inr (9, [.long w1, .long w2, .long ov, .int xh, .int xm, .int xu, .ref f1, .ref f2, .ref ma, .int (nI ln), .int xs, .int sr, .ref q1, .ref q2, .long ta, .long tb, .long ((hm (yk.toInt64, lN ln) mv 0).1), .long ((hm (yk.toInt64, lN ln) mv 0).2), .ref v1, .ref v2, .ref dd])), (ma, .inl (cJ, 20, .inr (.inl (mv))))] := by rw [← eW_1]; exact hD
  refine st_loop (I := fun i H locs ls => va_P (dC, dI) vwCl [(y0, .inr (9, [.long w1, .long w2, .long ov, .int xh, .int xm, .int xu, .ref f1, .ref f2, .ref ma, .int (nI ln), .int xs, .int sr, .ref q1, .ref q2, .long ta, .long tb, .long (hm (yk.toInt64, lN ln) mv i).1, .long (hm (yk.toInt64, lN ln) mv i).2, .ref v1, .ref v2, .ref dd])), (ma, .inl (cJ, 20, .inr (.inl (mv))))] H ∧ va_D A [(y0, .inr (9, [.long w1, .long w2, .long ov, .int xh, .int xm, .int xu, .ref f1, .ref f2, .ref ma, .int (nI ln), .int xs, .int sr, .ref q1, .ref q2, .long ta, .long tb, .long (hm (yk.toInt64, lN ln) mv i).1, .long (hm (yk.toInt64, lN ln) mv i).2, .ref v1, .ref v2, .ref dd])), (ma, .inl (cJ, 20, .inr (.inl (mv))))] ∧ va_S A s.heap H locs ∧ lv_has ls 4 [(0, .ref y0), (2, .int yh), (3, .int (nI i))]) 0 ln (by omega) ⟨hP, hD, hS, lv_sub hl [1, 3, 0] rfl⟩ (fun H locs ls hI => ?_) (fun i H locs ls hi hI ih_12 => ?_)
  ·
    obtain ⟨hP, hD, hS, hl⟩ := hI
    have hP : va_P (dC, dI) vwCl [(y0, .inr (9, [.long w1, .long w2, .long ov, .int xh, .int xm, .int xu, .ref f1, .ref f2, .ref ma, .int (nI ln), .int xs, .int sr, .ref q1, .ref q2, .long ta, .long tb, .long ((hm (yk.toInt64, lN ln) mv ln).1), .long ((hm (yk.toInt64, lN ln) mv ln).2), .ref v1, .ref v2, .ref dd])), (ma, .inl (cJ, 20, .inr (.inl (mv))))] H := hP
    have hD : va_D A [(y0, .inr (9, [.long w1, .long w2, .long ov, .int xh, .int xm, .int xu, .ref f1, .ref f2, .ref ma, .int (nI ln), .int xs, .int sr, .ref q1, .ref q2, .long ta, .long tb, .long ((hm (yk.toInt64, lN ln) mv ln).1), .long ((hm (yk.toInt64, lN ln) mv ln).2), .ref v1, .ref v2, .ref dd])), (ma, .inl (cJ, 20, .inr (.inl (mv))))] := hD
    have hl : lv_has ls 4 [(0, .ref y0), (2, .int yh), (3, .int (nI ln))] := hl
    refine lv_iload_n hx hb dX9_hash_12 rfl (lv_at hl 2 rfl) ?_
    refine lv_aload_n hx hb dX9_hash_13 rfl (lv_at hl 0 rfl) ?_
    refine va_get (D := (dC, dI)) (ci := 9) (v := .int (nI ln)) (C := RX9) (T := TX9) (N := 21) hx hb hts iX9 hown hK hP 0 rfl rfl 9 (by decide) f115 (fun _ h9 => h9) rfl dX9_hash_14 ?_
    refine lv_icmp_ge (tgt := 36) hx hb dX9_hash_17 (by decide) (fun c17 => ?_) (fun c17 => ?_)
    ·
      rw [q_le (by omega) (by omega)] at c17
      refine lv_iload_n hx hb dX9_hash_36 rfl (lv_at hl 1 rfl) ?_
      refine lv_if_ne (tgt := 47) hx hb dX9_hash_37 (by decide) (fun c37 => ?_) (fun c37 => ?_)
      ·
        refine lv_iload_n hx hb dX9_hash_47 rfl (lv_at hl 1 rfl) ?_
        refine lv_iconst (v := nI 1) hx hb dX9_hash_48 (by decide) ?_
        refine lv_icmp_ne (tgt := 59) hx hb dX9_hash_49 (by decide) (fun c49 => ?_) (fun c49 => ?_)
        ·
          refine lv_lconst (v := lN 0) hx hb dX9_hash_59 (by decide) ?_
          exact W.lret (v := lN 0) hx hb hr (fun t ht hW => ⟨⟨lN 0, (hm (yk.toInt64, lN ln) mv ln), rfl, ⟨by unfold hsA; rw [if_neg c37, if_neg c49], trivial⟩, by rw [ht]; exact hP, va_K.moved hW.alike hK, hD⟩, hS.F ht⟩) hS.2.2 dX9_hash_60
        ·
          refine lv_aload_n hx hb dX9_hash_52 rfl (lv_at hl 0 rfl) ?_
          refine va_get (D := (dC, dI)) (ci := 9) (v := .long ((hm (yk.toInt64, lN ln) mv ln).2)) (C := RX9) (T := TX9) (N := 21) hx hb hts iX9 hown hK hP 0 rfl rfl 17 (by decide) f47 (fun _ h9 => h9) rfl dX9_hash_53 ?_
          refine lv_goto (tgt := 60) hx hb dX9_hash_56 (by decide) ?_
          exact W.lret (v := (hm (yk.toInt64, lN ln) mv ln).2) hx hb hr (fun t ht hW => ⟨⟨(hm (yk.toInt64, lN ln) mv ln).2, (hm (yk.toInt64, lN ln) mv ln), rfl, ⟨by unfold hsA; rw [if_neg c37, if_pos c49], trivial⟩, by rw [ht]; exact hP, va_K.moved hW.alike hK, hD⟩, hS.F ht⟩) hS.2.2 dX9_hash_60
      ·
        refine lv_aload_n hx hb dX9_hash_40 rfl (lv_at hl 0 rfl) ?_
        refine va_get (D := (dC, dI)) (ci := 9) (v := .long ((hm (yk.toInt64, lN ln) mv ln).1)) (C := RX9) (T := TX9) (N := 21) hx hb hts iX9 hown hK hP 0 rfl rfl 16 (by decide) f43 (fun _ h9 => h9) rfl dX9_hash_41 ?_
        refine lv_goto (tgt := 60) hx hb dX9_hash_44 (by decide) ?_
        exact W.lret (v := (hm (yk.toInt64, lN ln) mv ln).1) hx hb hr (fun t ht hW => ⟨⟨(hm (yk.toInt64, lN ln) mv ln).1, (hm (yk.toInt64, lN ln) mv ln), rfl, ⟨by unfold hsA; rw [if_pos c37], trivial⟩, by rw [ht]; exact hP, va_K.moved hW.alike hK, hD⟩, hS.F ht⟩) hS.2.2 dX9_hash_60
    ·
      rw [q_le (by omega) (by omega)] at c17
      exact absurd c17 (by omega)
  ·
    obtain ⟨hP, hD, hS, hl⟩ := hI
    have hP : va_P (dC, dI) vwCl [(y0, .inr (9, [.long w1, .long w2, .long ov, .int xh, .int xm, .int xu, .ref f1, .ref f2, .ref ma, .int (nI ln), .int xs, .int sr, .ref q1, .ref q2, .long ta, .long tb, .long ((hm (yk.toInt64, lN ln) mv i).1), .long ((hm (yk.toInt64, lN ln) mv i).2), .ref v1, .ref v2, .ref dd])), (ma, .inl (cJ, 20, .inr (.inl (mv))))] H := hP
    have hD : va_D A [(y0, .inr (9, [.long w1, .long w2, .long ov, .int xh, .int xm, .int xu, .ref f1, .ref f2, .ref ma, .int (nI ln), .int xs, .int sr, .ref q1, .ref q2, .long ta, .long tb, .long ((hm (yk.toInt64, lN ln) mv i).1), .long ((hm (yk.toInt64, lN ln) mv i).2), .ref v1, .ref v2, .ref dd])), (ma, .inl (cJ, 20, .inr (.inl (mv))))] := hD
    have hl : lv_has ls 4 [(0, .ref y0), (2, .int yh), (3, .int (nI i))] := hl
    refine lv_iload_n hx hb dX9_hash_12 rfl (lv_at hl 2 rfl) ?_
    refine lv_aload_n hx hb dX9_hash_13 rfl (lv_at hl 0 rfl) ?_
    refine va_get (D := (dC, dI)) (ci := 9) (v := .int (nI ln)) (C := RX9) (T := TX9) (N := 21) hx hb hts iX9 hown hK hP 0 rfl rfl 9 (by decide) f115 (fun _ h9 => h9) rfl dX9_hash_14 ?_
    refine lv_icmp_ge (tgt := 36) hx hb dX9_hash_17 (by decide) (fun c17 => ?_) (fun c17 => ?_)
    ·
      rw [q_le (by omega) (by omega)] at c17
      exact absurd c17 (by omega)
    ·
      rw [q_le (by omega) (by omega)] at c17
      refine lv_aload_n hx hb dX9_hash_20 rfl (lv_at hl 0 rfl) ?_
      refine lv_aload_n hx hb dX9_hash_21 rfl (lv_at hl 0 rfl) ?_
      refine va_get (D := (dC, dI)) (ci := 9) (v := .ref ma) (C := RX9) (T := TX9) (N := 21) hx hb hts iX9 hown hK hP 0 rfl rfl 8 (by decide) f20 (fun _ h9 => h9) rfl dX9_hash_22 ?_
      refine lv_iload_n hx hb dX9_hash_25 rfl (lv_at hl 2 rfl) ?_
      refine st_lald hx hb hK hP 1 0 rfl rfl i rfl (by omega) (by omega) dX9_hash_26 ?_
      refine st_callv (va_runV (As := [.long (mv i)]) (rest := []) ⟨hx, hb, hml, hown, hts⟩ (c_LeafSignerModel_put l dC dI cJ cI y0 f1 f2 ma q1 q2 v1 v2 dd w1 w2 ov ta tb xh xm xu (nI ln) xs sr (hm (yk.toInt64, lN ln) mv i) (mv i)  H.size) (cwV 1 hts gX9_hash_X9_put rfl rfl rfl (by decide +kernel) ⟨Nat.le_of_ble_eq_true rfl, Nat.le_of_ble_eq_true rfl⟩) (st_preV hK hP hD [0] rfl rfl (ci := 9) (q0 := 0) rfl rfl) rfl rfl hl.1 rfl (lv_room (Nat.le_of_ble_eq_true rfl)) dX9_hash_27 ⟨Nat.le_of_ble_eq_true rfl, Nat.le_of_ble_eq_true rfl⟩) hP hD hS hA [0] [1] (wr := [(ma, .inl (cJ, 20, .inr (.inl (mv))))]) rfl rfl (by decide) (by decide) [1, 0] (res := fun _ => [(y0, .inr (9, [.long w1, .long w2, .long ov, .int xh, .int xm, .int xu, .ref f1, .ref f2, .ref ma, .int (nI ln), .int xs, .int sr, .ref q1, .ref q2, .long ta, .long tb, .long ((ha (hm (yk.toInt64, lN ln) mv i) (mv i)).1), .long ((ha (hm (yk.toInt64, lN ln) mv i) (mv i)).2), .ref v1, .ref v2, .ref dd])), (ma, .inl (cJ, 20, .inr (.inl (mv))))]) (fun _ => rfl) (by decide) (fun  _ H locs hu hP hD hS => ?_)
      have hP : va_P (dC, dI) vwCl [(y0, .inr (9, [.long w1, .long w2, .long ov, .int xh, .int xm, .int xu, .ref f1, .ref f2, .ref ma, .int (nI ln), .int xs, .int sr, .ref q1, .ref q2, .long ta, .long tb, .long ((ha (hm (yk.toInt64, lN ln) mv i) (mv i)).1), .long ((ha (hm (yk.toInt64, lN ln) mv i) (mv i)).2), .ref v1, .ref v2, .ref dd])), (ma, .inl (cJ, 20, .inr (.inl (mv))))] H := hP
      have hD : va_D A [(y0, .inr (9, [.long w1, .long w2, .long ov, .int xh, .int xm, .int xu, .ref f1, .ref f2, .ref ma, .int (nI ln), .int xs, .int sr, .ref q1, .ref q2, .long ta, .long tb, .long ((ha (hm (yk.toInt64, lN ln) mv i) (mv i)).1), .long ((ha (hm (yk.toInt64, lN ln) mv i) (mv i)).2), .ref v1, .ref v2, .ref dd])), (ma, .inl (cJ, 20, .inr (.inl (mv))))] := hD
      refine lv_iinc (v := nI (i + 1)) (lv' := [(3, .int (nI (i + 1))), (0, .ref y0), (2, .int yh)]) hx hb dX9_hash_30 hl (k := 2) rfl (st_inc i 1 (by decide)) (by decide) rfl (fun ls hl => ?_)
      refine lv_goto (tgt := 12) hx hb dX9_hash_33 (by decide) ?_
      have eW_2 : ([(y0, .inr (9, [.long w1, .long w2, .long ov, .int xh, .int xm, .int xu, .ref f1, .ref f2, .ref ma, .int (nI ln), .int xs, .int sr, .ref q1, .ref q2, .long ta, .long tb, .long ((ha (hm (yk.toInt64, lN ln) mv i) (mv i)).1), .long ((ha (hm (yk.toInt64, lN ln) mv i) (mv i)).2), .ref v1, .ref v2, .ref dd])), (ma, .inl (cJ, 20, .inr (.inl (mv))))] : va_W) = [(y0, .inr (9, [.long w1, .long w2, .long ov, .int xh, .int xm, .int xu, .ref f1, .ref f2, .ref ma, .int (nI ln), .int xs, .int sr, .ref q1, .ref q2, .long ta, .long tb, .long ((hm (yk.toInt64, lN ln) mv (i + 1)).1), .long ((hm (yk.toInt64, lN ln) mv (i + 1)).2), .ref v1, .ref v2, .ref dd])), (ma, .inl (cJ, 20, .inr (.inl (mv))))] := rfl
      have hP : va_P (dC, dI) vwCl [(y0, .inr (9, [.long w1, .long w2, .long ov, .int xh, .int xm, .int xu, .ref f1, .ref f2, .ref ma, .int (nI ln), .int xs, .int sr, .ref q1, .ref q2, .long ta, .long tb, .long ((hm (yk.toInt64, lN ln) mv (i + 1)).1), .long ((hm (yk.toInt64, lN ln) mv (i + 1)).2), .ref v1, .ref v2, .ref dd])), (ma, .inl (cJ, 20, .inr (.inl (mv))))] H := by rw [← eW_2]; exact hP
      have hD : va_D A [(y0, .inr (9, [.long w1, .long w2, .long ov, .int xh, .int xm, .int xu, .ref f1, .ref f2, .ref ma, .int (nI ln), .int xs, .int sr, .ref q1, .ref q2, .long ta, .long tb, .long ((hm (yk.toInt64, lN ln) mv (i + 1)).1), .long ((hm (yk.toInt64, lN ln) mv (i + 1)).2), .ref v1, .ref v2, .ref dd])), (ma, .inl (cJ, 20, .inr (.inl (mv))))] := by rw [← eW_2]; exact hD
      exact ih_12 _ _ _ ⟨hP, hD, hS, lv_sub hl [1, 2, 0] rfl⟩

set_option maxHeartbeats 4000000 in
set_option maxRecDepth 100000 in
theorem c_LeafSignerModel_count (l : Launch) (dC : Nat → ClassId) (dI : Nat → Nat → Nat) (cJ cI : ClassId) (y0 f1 f2 ma q1 q2 v1 v2 dd : Nat) (w1 w2 ov ta tb : Int64) (sr : Int32) (pv : Int64 × Int64) (sg : Bool) (hh md us ln : Nat) (yw : Int32) (h4 : hh ≤ 4) (sz : Nat) : Met l yX9_count wsX9_count ({ frames := 1, cells := 0, slots := 0, locals := 20 }) (va_Pc [.ref y0, .int yw] (st_B (dC, dI) vwCl [(cJ, .long), (cI, .int)] [(y0, .inr (9, [.long w1, .long w2, .long ov, .int (nI hh), .int (nI md), .int (nI us), .ref f1, .ref f2, .ref ma, .int (nI ln), .int (bI sg), .int sr, .ref q1, .ref q2, .long ta, .long tb, .long pv.1, .long pv.2, .ref v1, .ref v2, .ref dd]))] sz)) (va_Qi (fun (r : Int32) (_ : Unit) => r = ctA hh md us ln (if sg = true then nI (35 + hh) else nI 0) yw) (st_E (dC, dI) vwCl [(cJ, .long), (cI, .int)] (va_A [(y0, .inr (9, [.long w1, .long w2, .long ov, .int (nI hh), .int (nI md), .int (nI us), .ref f1, .ref f2, .ref ma, .int (nI ln), .int (bI sg), .int sr, .ref q1, .ref q2, .long ta, .long tb, .long pv.1, .long pv.2, .ref v1, .ref v2, .ref dd]))] sz) (fun _ => [(y0, .inr (9, [.long w1, .long w2, .long ov, .int (nI hh), .int (nI md), .int (nI us), .ref f1, .ref f2, .ref ma, .int (nI ln), .int (bI sg), .int sr, .ref q1, .ref q2, .long ta, .long tb, .long pv.1, .long pv.2, .ref v1, .ref v2, .ref dd]))])) (va_A [(y0, .inr (9, [.long w1, .long w2, .long ov, .int (nI hh), .int (nI md), .int (nI us), .ref f1, .ref f2, .ref ma, .int (nI ln), .int (bI sg), .int sr, .ref q1, .ref q2, .long ta, .long tb, .long pv.1, .long pv.2, .ref v1, .ref v2, .ref dd]))] sz)) 0 0 (va_A [(y0, .inr (9, [.long w1, .long w2, .long ov, .int (nI hh), .int (nI md), .int (nI us), .ref f1, .ref f2, .ref ma, .int (nI ln), .int (bI sg), .int sr, .ref q1, .ref q2, .long ta, .long tb, .long pv.1, .long pv.2, .ref v1, .ref v2, .ref dd]))] sz) := by
  refine Met.ofW (cc := cX9_count) (maxL := 2) (ret := (some .int)) (by decide) rfl ?_
  intro p e s m args below meth c s₁ B hml hv
  obtain ⟨rfl, hsz, hP, hK, hD0⟩ := hv
  have hx := B.exec
  have hb := B.bytes
  have hr := B.returns
  have hts := atoms_spec (ws := wsX9_count) B.pre
  have hown : s.vm.findClass RX9 = some m.cls := findClass_of_methodNamed B.named
  have hlocks := B.notSynchronized
  subst hsz
  have hD := hD0.self (sz := s.heap.size)
  generalize hAe : va_A [(y0, .inr (9, [.long w1, .long w2, .long ov, .int (nI hh), .int (nI md), .int (nI us), .ref f1, .ref f2, .ref ma, .int (nI ln), .int (bI sg), .int sr, .ref q1, .ref q2, .long ta, .long tb, .long pv.1, .long pv.2, .ref v1, .ref v2, .ref dd]))] s.heap.size = A at hD ⊢
  have hA : ∀ q : Nat, s.heap.size ≤ q → A q := fun q h => by rw [← hAe]; exact Or.inr h
  have hS : va_S A s.heap s.heap [] := va_S.rf
  have hP : va_P (dC, dI) vwCl [(y0, .inr (9, [.long w1, .long w2, .long ov, .int (nI hh), .int (nI md), .int (nI us), .ref f1, .ref f2, .ref ma, .int (nI ln), .int (bI sg), .int sr, .ref q1, .ref q2, .long ta, .long tb, .long pv.1, .long pv.2, .ref v1, .ref v2, .ref dd]))] s.heap := hP
  have hl := lv_entry ([.ref y0, .int yw]) (n := 2) (Nat.le_of_ble_eq_true rfl)
  rw [lg_entry_eq]
  generalize (lg_sl ([.ref y0, .int yw]) ++ List.replicate (2 - (lg_sl ([.ref y0, .int yw])).length) Slot.unset).toArray = ls at hl ⊢
  have iX9 : ∀ w ∈ wsX90, w ∈ wsX9_count := by decide +kernel
  have f85 := hts (.fieldLink RX9 85 "LeafSignerModel" "made" "I") (by decide +kernel)
  have f88 := hts (.fieldLink RX9 88 "LeafSignerModel" "used" "I") (by decide +kernel)
  have f115 := hts (.fieldLink RX9 115 "LeafSignerModel" "length" "I") (by decide +kernel)
  have f91 := hts (.fieldLink RX9 91 "LeafSignerModel" "signed" "Z") (by decide +kernel)
  have f7 := hts (.fieldLink RX9 7 "LeafSignerModel" "height" "I") (by decide +kernel)
  have hl : lv_has ls 2 [(0, .ref y0), (1, .int yw)] := hl
  refine lv_iload_n hx hb dX9_count_0 rfl (lv_at hl 1 rfl) ?_
  by_cases e0 : yw = nI 0
  ·
    subst e0
    refine lv_tableIn (tgt := 36) hx hb dX9_count_1 (by decide) (by decide) (by first | rfl | decide) (by decide) ?_
    refine lv_aload_n hx hb dX9_count_36 rfl (lv_at hl 0 rfl) ?_
    refine st_calli (va_runV (As := []) (rest := []) ⟨hx, hb, hml, hown, hts⟩ (c_LeafSignerModel_leaves l dC dI cJ cI y0 f1 f2 ma q1 q2 v1 v2 dd w1 w2 ov ta tb (nI md) (nI us) (nI ln) (bI sg) sr pv hh (by omega) s.heap.size) (cwV 0 hts gX9_count_X9_leaves rfl rfl rfl (by decide +kernel) ⟨Nat.le_of_ble_eq_true rfl, Nat.le_of_ble_eq_true rfl⟩) (st_preV hK hP hD [0] rfl rfl (ci := 9) (q0 := 0) rfl rfl) rfl rfl hl.1 rfl (lv_room (Nat.le_of_ble_eq_true rfl)) dX9_count_37 ⟨Nat.le_of_ble_eq_true rfl, Nat.le_of_ble_eq_true rfl⟩) hP hD hS hA [0] [] (wr := []) rfl rfl (by decide) (by decide) [0] (res := fun _ => [(y0, .inr (9, [.long w1, .long w2, .long ov, .int (nI hh), .int (nI md), .int (nI us), .ref f1, .ref f2, .ref ma, .int (nI ln), .int (bI sg), .int sr, .ref q1, .ref q2, .long ta, .long tb, .long pv.1, .long pv.2, .ref v1, .ref v2, .ref dd]))]) (fun _ => rfl) (by decide) (fun r_1 _ H locs hu hP hD hS => ?_)
    have hP : va_P (dC, dI) vwCl [(y0, .inr (9, [.long w1, .long w2, .long ov, .int (nI hh), .int (nI md), .int (nI us), .ref f1, .ref f2, .ref ma, .int (nI ln), .int (bI sg), .int sr, .ref q1, .ref q2, .long ta, .long tb, .long pv.1, .long pv.2, .ref v1, .ref v2, .ref dd]))] H := hP
    have hD : va_D A [(y0, .inr (9, [.long w1, .long w2, .long ov, .int (nI hh), .int (nI md), .int (nI us), .ref f1, .ref f2, .ref ma, .int (nI ln), .int (bI sg), .int sr, .ref q1, .ref q2, .long ta, .long tb, .long pv.1, .long pv.2, .ref v1, .ref v2, .ref dd]))] := hD
    subst hu
    exact W.iret (v := nI (2 ^ hh)) hx hb hr (fun t ht hW => ⟨⟨nI (2 ^ hh), (), rfl, by unfold ctA; rw [if_pos rfl], by rw [ht]; exact hP, va_K.moved hW.alike hK, hD⟩, hS.F ht⟩) hS.2.2 dX9_count_40
  by_cases e1 : yw = nI 1
  ·
    subst e1
    refine lv_tableIn (tgt := 41) hx hb dX9_count_1 (by decide) (by decide) (by first | rfl | decide) (by decide) ?_
    refine lv_aload_n hx hb dX9_count_41 rfl (lv_at hl 0 rfl) ?_
    refine va_get (D := (dC, dI)) (ci := 9) (v := .int (nI md)) (C := RX9) (T := TX9) (N := 21) hx hb hts iX9 hown hK hP 0 rfl rfl 4 (by decide) f85 (fun _ h9 => h9) rfl dX9_count_42 ?_
    exact W.iret (v := nI md) hx hb hr (fun t ht hW => ⟨⟨nI md, (), rfl, by unfold ctA; rw [if_neg (show ¬ nI 1 = nI 0 by decide)]; rw [if_pos rfl], by rw [ht]; exact hP, va_K.moved hW.alike hK, hD⟩, hS.F ht⟩) hS.2.2 dX9_count_45
  by_cases e2 : yw = nI 2
  ·
    subst e2
    refine lv_tableIn (tgt := 46) hx hb dX9_count_1 (by decide) (by decide) (by first | rfl | decide) (by decide) ?_
    refine lv_aload_n hx hb dX9_count_46 rfl (lv_at hl 0 rfl) ?_
    refine va_get (D := (dC, dI)) (ci := 9) (v := .int (nI us)) (C := RX9) (T := TX9) (N := 21) hx hb hts iX9 hown hK hP 0 rfl rfl 5 (by decide) f88 (fun _ h9 => h9) rfl dX9_count_47 ?_
    exact W.iret (v := nI us) hx hb hr (fun t ht hW => ⟨⟨nI us, (), rfl, by unfold ctA; rw [if_neg (show ¬ nI 2 = nI 0 by decide)]; rw [if_neg (show ¬ nI 2 = nI 1 by decide)]; rw [if_pos rfl], by rw [ht]; exact hP, va_K.moved hW.alike hK, hD⟩, hS.F ht⟩) hS.2.2 dX9_count_50
  by_cases e3 : yw = nI 3
  ·
    subst e3
    refine lv_tableIn (tgt := 51) hx hb dX9_count_1 (by decide) (by decide) (by first | rfl | decide) (by decide) ?_
    refine lv_aload_n hx hb dX9_count_51 rfl (lv_at hl 0 rfl) ?_
    refine va_get (D := (dC, dI)) (ci := 9) (v := .int (nI ln)) (C := RX9) (T := TX9) (N := 21) hx hb hts iX9 hown hK hP 0 rfl rfl 9 (by decide) f115 (fun _ h9 => h9) rfl dX9_count_52 ?_
    exact W.iret (v := nI ln) hx hb hr (fun t ht hW => ⟨⟨nI ln, (), rfl, by unfold ctA; rw [if_neg (show ¬ nI 3 = nI 0 by decide)]; rw [if_neg (show ¬ nI 3 = nI 1 by decide)]; rw [if_neg (show ¬ nI 3 = nI 2 by decide)]; rw [if_pos rfl], by rw [ht]; exact hP, va_K.moved hW.alike hK, hD⟩, hS.F ht⟩) hS.2.2 dX9_count_55
  by_cases e4 : yw = nI 4
  ·
    subst e4
    refine lv_tableIn (tgt := 56) hx hb dX9_count_1 (by decide) (by decide) (by first | rfl | decide) (by decide) ?_
    refine lv_aload_n hx hb dX9_count_56 rfl (lv_at hl 0 rfl) ?_
    refine va_get (D := (dC, dI)) (ci := 9) (v := .int (bI sg)) (C := RX9) (T := TX9) (N := 21) hx hb hts iX9 hown hK hP 0 rfl rfl 10 (by decide) f91 (fun _ h9 => h9) rfl dX9_count_57 ?_
    refine lv_if_eq (tgt := 73) hx hb dX9_count_60 (by decide) (fun c60 => ?_) (fun c60 => ?_)
    ·
      rw [q_b0] at c60
      refine lv_iconst (v := nI 0) hx hb dX9_count_73 (by decide) ?_
      exact W.iret (v := nI 0) hx hb hr (fun t ht hW => ⟨⟨nI 0, (), rfl, by unfold ctA; rw [if_neg (show ¬ nI 4 = nI 0 by decide)]; rw [if_neg (show ¬ nI 4 = nI 1 by decide)]; rw [if_neg (show ¬ nI 4 = nI 2 by decide)]; rw [if_neg (show ¬ nI 4 = nI 3 by decide)]; rw [if_pos rfl, c60]; rfl, by rw [ht]; exact hP, va_K.moved hW.alike hK, hD⟩, hS.F ht⟩) hS.2.2 dX9_count_74
    ·
      rw [q_b0] at c60
      refine lv_bipush (v := nI 35) hx hb dX9_count_63 (by decide) ?_
      refine lv_aload_n hx hb dX9_count_65 rfl (lv_at hl 0 rfl) ?_
      refine va_get (D := (dC, dI)) (ci := 9) (v := .int (nI hh)) (C := RX9) (T := TX9) (N := 21) hx hb hts iX9 hown hK hP 0 rfl rfl 3 (by decide) f7 (fun _ h9 => h9) rfl dX9_count_66 ?_
      refine lv_iadd hx hb dX9_count_69 ?_
      refine st_i (y := nI (35 + hh)) (nI_add 35 hh) ?_
      refine lv_goto (tgt := 74) hx hb dX9_count_70 (by decide) ?_
      exact W.iret (v := nI (35 + hh)) hx hb hr (fun t ht hW => ⟨⟨nI (35 + hh), (), rfl, by unfold ctA; rw [if_neg (show ¬ nI 4 = nI 0 by decide)]; rw [if_neg (show ¬ nI 4 = nI 1 by decide)]; rw [if_neg (show ¬ nI 4 = nI 2 by decide)]; rw [if_neg (show ¬ nI 4 = nI 3 by decide)]; rw [if_pos rfl, bf_not c60]; rfl, by rw [ht]; exact hP, va_K.moved hW.alike hK, hD⟩, hS.F ht⟩) hS.2.2 dX9_count_74
  refine lv_tableOut (tgt := 75) hx hb dX9_count_1 (sw_out e0 e1 e2 e3 e4) (by decide) ?_
  refine lv_iconst (v := -1) hx hb dX9_count_75 (by decide) ?_
  exact W.iret (v := -1) hx hb hr (fun t ht hW => ⟨⟨-1, (), rfl, by unfold ctA; rw [if_neg e0, if_neg e1, if_neg e2, if_neg e3, if_neg e4], by rw [ht]; exact hP, va_K.moved hW.alike hK, hD⟩, hS.F ht⟩) hS.2.2 dX9_count_76
