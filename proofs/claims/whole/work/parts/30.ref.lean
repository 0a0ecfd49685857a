set_option maxHeartbeats 4000000 in
set_option maxRecDepth 100000 in
theorem c_LeafSignerModel_mixed (l : Launch) (dC : Nat → ClassId) (dI : Nat → Nat → Nat) (cJ cI : ClassId) (xv : Int64) (sz : Nat) : Met l yX9_mixed wsX9_mixed ({ frames := 0, cells := 0, slots := 0, locals := 0 }) (va_Pc [.long xv] (st_B (dC, dI) vwCl [(cJ, .long), (cI, .int)] [] sz)) (va_Ql (fun (r : Int64) (_ : Unit) => r = mxL xv) (st_E (dC, dI) vwCl [(cJ, .long), (cI, .int)] (va_A [] sz) (fun _ => [])) (va_A [] sz)) 0 0 (va_A [] sz) := by
  refine Met.ofW (cc := cX9_mixed) (maxL := 4) (ret := (some .long)) (by decide) rfl ?_
  intro p e s m args below meth c s₁ B hml hv
  obtain ⟨rfl, hsz, hP, hK, hD0⟩ := hv
  have hx := B.exec
  have hb := B.bytes
  have hr := B.returns
  have hts := atoms_spec (ws := wsX9_mixed) B.pre
  have hown : s.vm.findClass RX9 = some m.cls := findClass_of_methodNamed B.named
  have hlocks := B.notSynchronized
  subst hsz
  have hD := hD0.self (sz := s.heap.size)
  generalize hAe : va_A [] s.heap.size = A at hD ⊢
  have hA : ∀ q : Nat, s.heap.size ≤ q → A q := fun q h => by rw [← hAe]; exact Or.inr h
  have hS : va_S A s.heap s.heap [] := va_S.rf
  have hP : va_P (dC, dI) vwCl [] s.heap := hP
  have hl := lv_entry ([.long xv]) (n := 4) (Nat.le_of_ble_eq_true rfl)
  rw [lg_entry_eq]
  generalize (lg_sl ([.long xv]) ++ List.replicate (4 - (lg_sl ([.long xv])).length) Slot.unset).toArray = ls at hl ⊢
  have hl : lv_has ls 4 [(0, .long xv)] := hl
  refine lv_lload_n hx hb dX9_mixed_0 rfl (lv_at hl 0 rfl) ?_
  refine lv_lload_n hx hb dX9_mixed_1 rfl (lv_at hl 0 rfl) ?_
  refine lv_bipush (v := nI 30) hx hb dX9_mixed_2 (by decide) ?_
  refine lv_lushr (v := (xv.toUInt64 >>> ((nI 30).toInt64.toUInt64 &&& Int64.toUInt64 63)).toInt64) hx hb dX9_mixed_4 rfl ?_
  refine lv_lxor hx hb dX9_mixed_5 ?_
  refine lv_ldc2 hx hb hown (hts (.constantLong RX9 39 (-4658895280553007687)) (by decide +kernel)) dX9_mixed_6 ?_
  refine lv_lmul hx hb dX9_mixed_9 ?_
  refine st_l (y := mx1 xv) (rfl) ?_
  refine lv_lstore_n (lv' := [(2, .long (mx1 xv)), (0, .long xv)]) hx hb dX9_mixed_10 rfl hl (by decide) rfl (fun ls hl => ?_)
  refine lv_lload_n hx hb dX9_mixed_11 rfl (lv_at hl 0 rfl) ?_
  refine lv_lload_n hx hb dX9_mixed_12 rfl (lv_at hl 0 rfl) ?_
  refine lv_bipush (v := nI 27) hx hb dX9_mixed_13 (by decide) ?_
  refine lv_lushr (v := ((mx1 xv).toUInt64 >>> ((nI 27).toInt64.toUInt64 &&& Int64.toUInt64 63)).toInt64) hx hb dX9_mixed_15 rfl ?_
  refine lv_lxor hx hb dX9_mixed_16 ?_
  refine lv_ldc2 hx hb hown (hts (.constantLong RX9 41 (-7723592293110705685)) (by decide +kernel)) dX9_mixed_17 ?_
  refine lv_lmul hx hb dX9_mixed_20 ?_
  refine st_l (y := mx2 (mx1 xv)) (rfl) ?_
  refine lv_lstore_n (lv' := [(2, .long (mx2 (mx1 xv))), (0, .long xv)]) hx hb dX9_mixed_21 rfl hl (by decide) rfl (fun ls hl => ?_)
  refine lv_lload_n hx hb dX9_mixed_22 rfl (lv_at hl 0 rfl) ?_
  refine lv_lload_n hx hb dX9_mixed_23 rfl (lv_at hl 0 rfl) ?_
  refine lv_bipush (v := nI 31) hx hb dX9_mixed_24 (by decide) ?_
  refine lv_lushr (v := ((mx2 (mx1 xv)).toUInt64 >>> ((nI 31).toInt64.toUInt64 &&& Int64.toUInt64 63)).toInt64) hx hb dX9_mixed_26 rfl ?_
  refine lv_lxor hx hb dX9_mixed_27 ?_
  refine st_l (y := mxL xv) (rfl) ?_
  exact W.lret (v := mxL xv) hx hb hr (fun t ht hW => ⟨⟨mxL xv, (), rfl, rfl, by rw [ht]; exact hP, va_K.moved hW.alike hK, hD⟩, hS.F ht⟩) hS.2.2 dX9_mixed_28

set_option maxHeartbeats 4000000 in
set_option maxRecDepth 100000 in
theorem c_LeafSignerModel_take (l : Launch) (dC : Nat → ClassId) (dI : Nat → Nat → Nat) (cJ cI : ClassId) (y0 f1 f2 ma q1 q2 v1 v2 dd : Nat) (w1 w2 ov ta tb : Int64) (xh xm xu xl xs sr : Int32) (pv : Int64 × Int64) (kv na : Int64) (nv_ : Int32) (hna : nv_.toInt64 = na) (sz : Nat) : Met l yX9_take wsX9_take ({ frames := 0, cells := 0, slots := 0, locals := 0 }) (va_Pc [.ref y0, .long kv, .int nv_] (st_B (dC, dI) vwCl [(cJ, .long), (cI, .int)] [(y0, .inr (9, [.long w1, .long w2, .long ov, .int xh, .int xm, .int xu, .ref f1, .ref f2, .ref ma, .int xl, .int xs, .int sr, .ref q1, .ref q2, .long ta, .long tb, .long pv.1, .long pv.2, .ref v1, .ref v2, .ref dd]))] sz)) (va_Qv (fun _ : Unit => True) (st_E (dC, dI) vwCl [(cJ, .long), (cI, .int)] (va_A [(y0, .inr (9, [.long w1, .long w2, .long ov, .int xh, .int xm, .int xu, .ref f1, .ref f2, .ref ma, .int xl, .int xs, .int sr, .ref q1, .ref q2, .long ta, .long tb, .long pv.1, .long pv.2, .ref v1, .ref v2, .ref dd]))] sz) (fun _ => [(y0, .inr (9, [.long w1, .long w2, .long ov, .int xh, .int xm, .int xu, .ref f1, .ref f2, .ref ma, .int xl, .int xs, .int sr, .ref q1, .ref q2, .long ta, .long tb, .long kv, .long na, .ref v1, .ref v2, .ref dd]))])) (va_A [(y0, .inr (9, [.long w1, .long w2, .long ov, .int xh, .int xm, .int xu, .ref f1, .ref f2, .ref ma, .int xl, .int xs, .int sr, .ref q1, .ref q2, .long ta, .long tb, .long pv.1, .long pv.2, .ref v1, .ref v2, .ref dd]))] sz)) 0 0 (va_A [(y0, .inr (9, [.long w1, .long w2, .long ov, .int xh, .int xm, .int xu, .ref f1, .ref f2, .ref ma, .int xl, .int xs, .int sr, .ref q1, .ref q2, .long ta, .long tb, .long pv.1, .long pv.2, .ref v1, .ref v2, .ref dd]))] sz) := by
  refine Met.ofW (cc := cX9_take) (maxL := 4) (ret := none) (by decide) rfl ?_
  intro p e s m args below meth c s₁ B hml hv
  obtain ⟨rfl, hsz, hP, hK, hD0⟩ := hv
  have hx := B.exec
  have hb := B.bytes
  have hr := B.returns
  have hts := atoms_spec (ws := wsX9_take) B.pre
  have hown : s.vm.findClass RX9 = some m.cls := findClass_of_methodNamed B.named
  have hlocks := B.notSynchronized
  subst hsz
  have hD := hD0.self (sz := s.heap.size)
  generalize hAe : va_A [(y0, .inr (9, [.long w1, .long w2, .long ov, .int xh, .int xm, .int xu, .ref f1, .ref f2, .ref ma, .int xl, .int xs, .int sr, .ref q1, .ref q2, .long ta, .long tb, .long pv.1, .long pv.2, .ref v1, .ref v2, .ref dd]))] s.heap.size = A at hD ⊢
  have hA : ∀ q : Nat, s.heap.size ≤ q → A q := fun q h => by rw [← hAe]; exact Or.inr h
  have hS : va_S A s.heap s.heap [] := va_S.rf
  have hP : va_P (dC, dI) vwCl [(y0, .inr (9, [.long w1, .long w2, .long ov, .int xh, .int xm, .int xu, .ref f1, .ref f2, .ref ma, .int xl, .int xs, .int sr, .ref q1, .ref q2, .long ta, .long tb, .long pv.1, .long pv.2, .ref v1, .ref v2, .ref dd]))] s.heap := hP
  have hl := lv_entry ([.ref y0, .long kv, .int nv_]) (n := 4) (Nat.le_of_ble_eq_true rfl)
  rw [lg_entry_eq]
  generalize (lg_sl ([.ref y0, .long kv, .int nv_]) ++ List.replicate (4 - (lg_sl ([.ref y0, .long kv, .int nv_])).length) Slot.unset).toArray = ls at hl ⊢
  have iX9 : ∀ w ∈ wsX90, w ∈ wsX9_take := by decide +kernel
  have f43 := hts (.fieldLink RX9 43 "LeafSignerModel" "a" "J") (by decide +kernel)
  have f47 := hts (.fieldLink RX9 47 "LeafSignerModel" "b" "J") (by decide +kernel)
  have hl : lv_has ls 4 [(0, .ref y0), (1, .long kv), (3, .int nv_)] := hl
  refine lv_aload_n hx hb dX9_take_0 rfl (lv_at hl 0 rfl) ?_
  refine lv_lload_n hx hb dX9_take_1 rfl (lv_at hl 1 rfl) ?_
  refine va_put (D := (dC, dI)) (ci := 9) (v := .long kv) (ty := .long) (C := RX9) (T := TX9) (N := 21) hx hb hts iX9 tyX9 tyX9_ok nmX9 hown hK hP hD hS 0 rfl rfl 16 (by decide) f43 (fun _ h9 => h9) rfl (by decide +kernel) rfl rfl (Nat.le_of_ble_eq_true rfl) dX9_take_2 (fun H locs hP hD hS => ?_)
  have hP : va_P (dC, dI) vwCl [(y0, .inr (9, [.long w1, .long w2, .long ov, .int xh, .int xm, .int xu, .ref f1, .ref f2, .ref ma, .int xl, .int xs, .int sr, .ref q1, .ref q2, .long ta, .long tb, .long kv, .long pv.2, .ref v1, .ref v2, .ref dd]))] H := hP
  have hD : va_D A [(y0, .inr (9, [.long w1, .long w2, .long ov, .int xh, .int xm, .int xu, .ref f1, .ref f2, .ref ma, .int xl, .int xs, .int sr, .ref q1, .ref q2, .long ta, .long tb, .long kv, .long pv.2, .ref v1, .ref v2, .ref dd]))] := hD
  refine lv_aload_n hx hb dX9_take_5 rfl (lv_at hl 0 rfl) ?_
  refine lv_iload_n hx hb dX9_take_6 rfl (lv_at hl 2 rfl) ?_
  refine lv_i2l (v := nv_.toInt64) hx hb dX9_take_7 rfl ?_
  refine st_l (y := na) (hna) ?_
  refine va_put (D := (dC, dI)) (ci := 9) (v := .long na) (ty := .long) (C := RX9) (T := TX9) (N := 21) hx hb hts iX9 tyX9 tyX9_ok nmX9 hown hK hP hD hS 0 rfl rfl 17 (by decide) f47 (fun _ h9 => h9) rfl (by decide +kernel) rfl rfl (Nat.le_of_ble_eq_true rfl) dX9_take_8 (fun H locs hP hD hS => ?_)
  have hP : va_P (dC, dI) vwCl [(y0, .inr (9, [.long w1, .long w2, .long ov, .int xh, .int xm, .int xu, .ref f1, .ref f2, .ref ma, .int xl, .int xs, .int sr, .ref q1, .ref q2, .long ta, .long tb, .long kv, .long na, .ref v1, .ref v2, .ref dd]))] H := hP
  have hD : va_D A [(y0, .inr (9, [.long w1, .long w2, .long ov, .int xh, .int xm, .int xu, .ref f1, .ref f2, .ref ma, .int xl, .int xs, .int sr, .ref q1, .ref q2, .long ta, .long tb, .long kv, .long na, .ref v1, .ref v2, .ref dd]))] := hD
  exact W.vret hx hb hr (fun t ht hW => ⟨⟨(), rfl, trivial, by rw [ht]; exact hP, va_K.moved hW.alike hK, hD⟩, hS.F ht⟩) hS.2.2 dX9_take_11

set_option maxHeartbeats 4000000 in
set_option maxRecDepth 100000 in
theorem c_LeafSignerModel_put (l : Launch) (dC : Nat → ClassId) (dI : Nat → Nat → Nat) (cJ cI : ClassId) (y0 f1 f2 ma q1 q2 v1 v2 dd : Nat) (w1 w2 ov ta tb : Int64) (xh xm xu xl xs sr : Int32) (pv : Int64 × Int64) (xv : Int64) (sz : Nat) : Met l yX9_put wsX9_put ({ frames := 1, cells := 0, slots := 0, locals := 23 }) (va_Pc [.ref y0, .long xv] (st_B (dC, dI) vwCl [(cJ, .long), (cI, .int)] [(y0, .inr (9, [.long w1, .long w2, .long ov, .int xh, .int xm, .int xu, .ref f1, .ref f2, .ref ma, .int xl, .int xs, .int sr, .ref q1, .ref q2, .long ta, .long tb, .long pv.1, .long pv.2, .ref v1, .ref v2, .ref dd]))] sz)) (va_Qv (fun _ : Unit => True) (st_E (dC, dI) vwCl [(cJ, .long), (cI, .int)] (va_A [(y0, .inr (9, [.long w1, .long w2, .long ov, .int xh, .int xm, .int xu, .ref f1, .ref f2, .ref ma, .int xl, .int xs, .int sr, .ref q1, .ref q2, .long ta, .long tb, .long pv.1, .long pv.2, .ref v1, .ref v2, .ref dd]))] sz) (fun _ => [(y0, .inr (9, [.long w1, .long w2, .long ov, .int xh, .int xm, .int xu, .ref f1, .ref f2, .ref ma, .int xl, .int xs, .int sr, .ref q1, .ref q2, .long ta, .long tb, .long ((ha pv xv).1), .long ((ha pv xv).2), .ref v1, .ref v2, .ref dd]))])) (va_A [(y0, .inr (9, [.long w1, .long w2, .long ov, .int xh, .int xm, .int xu, .ref f1, .ref f2, .ref ma, .int xl, .int xs, .int sr, .ref q1, .ref q2, .long ta, .long tb, .long pv.1, .long pv.2, .ref v1, .ref v2, .ref dd]))] sz)) 0 0 (va_A [(y0, .inr (9, [.long w1, .long w2, .long ov, .int xh, .int xm, .int xu, .ref f1, .ref f2, .ref ma, .int xl, .int xs, .int sr, .ref q1, .ref q2, .long ta, .long tb, .long pv.1, .long pv.2, .ref v1, .ref v2, .ref dd]))] sz) := by
  refine Met.ofW (cc := cX9_put) (maxL := 3) (ret := none) (by decide) rfl ?_
  intro p e s m args below meth c s₁ B hml hv
  obtain ⟨rfl, hsz, hP, hK, hD0⟩ := hv
  have hx := B.exec
  have hb := B.bytes
  have hr := B.returns
  have hts := atoms_spec (ws := wsX9_put) B.pre
  have hown : s.vm.findClass RX9 = some m.cls := findClass_of_methodNamed B.named
  have hlocks := B.notSynchronized
  subst hsz
  have hD := hD0.self (sz := s.heap.size)
  generalize hAe : va_A [(y0, .inr (9, [.long w1, .long w2, .long ov, .int xh, .int xm, .int xu, .ref f1, .ref f2, .ref ma, .int xl, .int xs, .int sr, .ref q1, .ref q2, .long ta, .long tb, .long pv.1, .long pv.2, .ref v1, .ref v2, .ref dd]))] s.heap.size = A at hD ⊢
  have hA : ∀ q : Nat, s.heap.size ≤ q → A q := fun q h => by rw [← hAe]; exact Or.inr h
  have hS : va_S A s.heap s.heap [] := va_S.rf
  have hP : va_P (dC, dI) vwCl [(y0, .inr (9, [.long w1, .long w2, .long ov, .int xh, .int xm, .int xu, .ref f1, .ref f2, .ref ma, .int xl, .int xs, .int sr, .ref q1, .ref q2, .long ta, .long tb, .long pv.1, .long pv.2, .ref v1, .ref v2, .ref dd]))] s.heap := hP
  have hl := lv_entry ([.ref y0, .long xv]) (n := 3) (Nat.le_of_ble_eq_true rfl)
  rw [lg_entry_eq]
  generalize (lg_sl ([.ref y0, .long xv]) ++ List.replicate (3 - (lg_sl ([.ref y0, .long xv])).length) Slot.unset).toArray = ls at hl ⊢
  have iX9 : ∀ w ∈ wsX90, w ∈ wsX9_put := by decide +kernel
  have f43 := hts (.fieldLink RX9 43 "LeafSignerModel" "a" "J") (by decide +kernel)
  have f47 := hts (.fieldLink RX9 47 "LeafSignerModel" "b" "J") (by decide +kernel)
  have hl : lv_has ls 3 [(0, .ref y0), (1, .long xv)] := hl
  refine lv_aload_n hx hb dX9_put_0 rfl (lv_at hl 0 rfl) ?_
  refine lv_aload_n hx hb dX9_put_1 rfl (lv_at hl 0 rfl) ?_
  refine va_get (D := (dC, dI)) (ci := 9) (v := .long pv.1) (C := RX9) (T := TX9) (N := 21) hx hb hts iX9 hown hK hP 0 rfl rfl 16 (by decide) f43 (fun _ h9 => h9) rfl dX9_put_2 ?_
  refine lv_lload_n hx hb dX9_put_5 rfl (lv_at hl 1 rfl) ?_
  refine lv_lxor hx hb dX9_put_6 ?_
  refine st_calll (va_runS (As := [.long (pv.1 ^^^ xv)]) (rest := [.ref y0]) ⟨hx, hb, hml, hown, hts⟩ (c_LeafSignerModel_mixed l dC dI cJ cI  (pv.1 ^^^ xv)  s.heap.size) (va_cwS 1 hts gX9_put_X9_mixed rfl rfl rfl (by decide +kernel) ⟨Nat.le_of_ble_eq_true rfl, Nat.le_of_ble_eq_true rfl⟩) (st_preS hK hP hD [] rfl rfl) rfl rfl hl.1 rfl (lv_room (Nat.le_of_ble_eq_true rfl)) dX9_put_7 ⟨Nat.le_of_ble_eq_true rfl, Nat.le_of_ble_eq_true rfl⟩) hP hD hS hA [] [0] (wr := [(y0, .inr (9, [.long w1, .long w2, .long ov, .int xh, .int xm, .int xu, .ref f1, .ref f2, .ref ma, .int xl, .int xs, .int sr, .ref q1, .ref q2, .long ta, .long tb, .long pv.1, .long pv.2, .ref v1, .ref v2, .ref dd]))]) rfl rfl (by decide) (by decide) [0] (res := fun _ => [(y0, .inr (9, [.long w1, .long w2, .long ov, .int xh, .int xm, .int xu, .ref f1, .ref f2, .ref ma, .int xl, .int xs, .int sr, .ref q1, .ref q2, .long ta, .long tb, .long pv.1, .long pv.2, .ref v1, .ref v2, .ref dd]))]) (fun _ => rfl) (by decide) (fun r_1 _ H locs hu hP hD hS => ?_)
  have hP : va_P (dC, dI) vwCl [(y0, .inr (9, [.long w1, .long w2, .long ov, .int xh, .int xm, .int xu, .ref f1, .ref f2, .ref ma, .int xl, .int xs, .int sr, .ref q1, .ref q2, .long ta, .long tb, .long pv.1, .long pv.2, .ref v1, .ref v2, .ref dd]))] H := hP
  have hD : va_D A [(y0, .inr (9, [.long w1, .long w2, .long ov, .int xh, .int xm, .int xu, .ref f1, .ref f2, .ref ma, .int xl, .int xs, .int sr, .ref q1, .ref q2, .long ta, .long tb, .long pv.1, .long pv.2, .ref v1, .ref v2, .ref dd]))] := hD
  subst hu
  refine va_put (D := (dC, dI)) (ci := 9) (v := .long (mxL (pv.1 ^^^ xv))) (ty := .long) (C := RX9) (T := TX9) (N := 21) hx hb hts iX9 tyX9 tyX9_ok nmX9 hown hK hP hD hS 0 rfl rfl 16 (by decide) f43 (fun _ h9 => h9) rfl (by decide +kernel) rfl rfl (Nat.le_of_ble_eq_true rfl) dX9_put_10 (fun H locs hP hD hS => ?_)
  have hP : va_P (dC, dI) vwCl [(y0, .inr (9, [.long w1, .long w2, .long ov, .int xh, .int xm, .int xu, .ref f1, .ref f2, .ref ma, .int xl, .int xs, .int sr, .ref q1, .ref q2, .long ta, .long tb, .long (mxL (pv.1 ^^^ xv)), .long pv.2, .ref v1, .ref v2, .ref dd]))] H := hP
  have hD : va_D A [(y0, .inr (9, [.long w1, .long w2, .long ov, .int xh, .int xm, .int xu, .ref f1, .ref f2, .ref ma, .int xl, .int xs, .int sr, .ref q1, .ref q2, .long ta, .long tb, .long (mxL (pv.1 ^^^ xv)), .long pv.2, .ref v1, .ref v2, .ref dd]))] := hD
  refine lv_aload_n hx hb dX9_put_13 rfl (lv_at hl 0 rfl) ?_
  refine lv_aload_n hx hb dX9_put_14 rfl (lv_at hl 0 rfl) ?_
  refine va_get (D := (dC, dI)) (ci := 9) (v := .long pv.2) (C := RX9) (T := TX9) (N := 21) hx hb hts iX9 hown hK hP 0 rfl rfl 17 (by decide) f47 (fun _ h9 => h9) rfl dX9_put_15 ?_
  refine lv_aload_n hx hb dX9_put_18 rfl (lv_at hl 0 rfl) ?_
  refine va_get (D := (dC, dI)) (ci := 9) (v := .long (mxL (pv.1 ^^^ xv))) (C := RX9) (T := TX9) (N := 21) hx hb hts iX9 hown hK hP 0 rfl rfl 16 (by decide) f43 (fun _ h9 => h9) rfl dX9_put_19 ?_
  refine lv_ladd hx hb dX9_put_22 ?_
  refine st_calll (va_runS (As := [.long (pv.2 + (mxL (pv.1 ^^^ xv)))]) (rest := [.ref y0]) ⟨hx, hb, hml, hown, hts⟩ (c_LeafSignerModel_mixed l dC dI cJ cI  (pv.2 + (mxL (pv.1 ^^^ xv)))  H.size) (va_cwS 1 hts gX9_put_X9_mixed rfl rfl rfl (by decide +kernel) ⟨Nat.le_of_ble_eq_true rfl, Nat.le_of_ble_eq_true rfl⟩) (st_preS hK hP hD [] rfl rfl) rfl rfl hl.1 rfl (lv_room (Nat.le_of_ble_eq_true rfl)) dX9_put_23 ⟨Nat.le_of_ble_eq_true rfl, Nat.le_of_ble_eq_true rfl⟩) hP hD hS hA [] [0] (wr := [(y0, .inr (9, [.long w1, .long w2, .long ov, .int xh, .int xm, .int xu, .ref f1, .ref f2, .ref ma, .int xl, .int xs, .int sr, .ref q1, .ref q2, .long ta, .long tb, .long (mxL (pv.1 ^^^ xv)), .long pv.2, .ref v1, .ref v2, .ref dd]))]) rfl rfl (by decide) (by decide) [0] (res := fun _ => [(y0, .inr (9, [.long w1, .long w2, .long ov, .int xh, .int xm, .int xu, .ref f1, .ref f2, .ref ma, .int xl, .int xs, .int sr, .ref q1, .ref q2, .long ta, .long tb, .long (mxL (pv.1 ^^^ xv)), .long pv.2, .ref v1, .ref v2, .ref dd]))]) (fun _ => rfl) (by decide) (fun r_2 _ H locs hu hP hD hS => ?_)
  have hP : va_P (dC, dI) vwCl [(y0, .inr (9, [.long w1, .long w2, .long ov, .int xh, .int xm, .int xu, .ref f1, .ref f2, .ref ma, .int xl, .int xs, .int sr, .ref q1, .ref q2, .long ta, .long tb, .long (mxL (pv.1 ^^^ xv)), .long pv.2, .ref v1, .ref v2, .ref dd]))] H := hP
  have hD : va_D A [(y0, .inr (9, [.long w1, .long w2, .long ov, .int xh, .int xm, .int xu, .ref f1, .ref f2, .ref ma, .int xl, .int xs, .int sr, .ref q1, .ref q2, .long ta, .long tb, .long (mxL (pv.1 ^^^ xv)), .long pv.2, .ref v1, .ref v2, .ref dd]))] := hD
  subst hu
  refine va_put (D := (dC, dI)) (ci := 9) (v := .long (mxL (pv.2 + (mxL (pv.1 ^^^ xv))))) (ty := .long) (C := RX9) (T := TX9) (N := 21) hx hb hts iX9 tyX9 tyX9_ok nmX9 hown hK hP hD hS 0 rfl rfl 17 (by decide) f47 (fun _ h9 => h9) rfl (by decide +kernel) rfl rfl (Nat.le_of_ble_eq_true rfl) dX9_put_26 (fun H locs hP hD hS => ?_)
  have hP : va_P (dC, dI) vwCl [(y0, .inr (9, [.long w1, .long w2, .long ov, .int xh, .int xm, .int xu, .ref f1, .ref f2, .ref ma, .int xl, .int xs, .int sr, .ref q1, .ref q2, .long ta, .long tb, .long (mxL (pv.1 ^^^ xv)), .long (mxL (pv.2 + (mxL (pv.1 ^^^ xv)))), .ref v1, .ref v2, .ref dd]))] H := hP
  have hD : va_D A [(y0, .inr (9, [.long w1, .long w2, .long ov, .int xh, .int xm, .int xu, .ref f1, .ref f2, .ref ma, .int xl, .int xs, .int sr, .ref q1, .ref q2, .long ta, .long tb, .long (mxL (pv.1 ^^^ xv)), .long (mxL (pv.2 + (mxL (pv.1 ^^^ xv)))), .ref v1, .ref v2, .ref dd]))] := hD
  have eW_3 : ([(y0, .inr (9, [.long w1, .long w2, .long ov, .int xh, .int xm, .int xu, .ref f1, .ref f2, .ref ma, .int xl, .int xs, .int sr, .ref q1, .ref q2, .long ta, .long tb, .long (mxL (pv.1 ^^^ xv)), .long (mxL (pv.2 + (mxL (pv.1 ^^^ xv)))), .ref v1, .ref v2, .ref dd]))] : va_W) = [(y0, .inr (9, [.long w1, .long w2, .long ov, .int xh, .int xm, .int xu, .ref f1, .ref f2, .ref ma, .int xl, .int xs, .int sr, .ref q1, .ref q2, .long ta, .long tb, .long ((ha pv xv).1), .long ((ha pv xv).2), .ref v1, .ref v2, .ref dd]))] := rfl
  have hP : va_P (dC, dI) vwCl [(y0, .inr (9, [.long w1, .long w2, .long ov, .int xh, .int xm, .int xu, .ref f1, .ref f2, .ref ma, .int xl, .int xs, .int sr, .ref q1, .ref q2, .long ta, .long tb, .long ((ha pv xv).1), .long ((ha pv xv).2), .ref v1, .ref v2, .ref dd]))] H := by rw [← eW_3]; exact hP
  have hD : va_D A [(y0, .inr (9, [.long w1, .long w2, .long ov, .int xh, .int xm, .int xu, .ref f1, .ref f2, .ref ma, .int xl, .int xs, .int sr, .ref q1, .ref q2, .long ta, .long tb, .long ((ha pv xv).1), .long ((ha pv xv).2), .ref v1, .ref v2, .ref dd]))] := by rw [← eW_3]; exact hD
  exact W.vret hx hb hr (fun t ht hW => ⟨⟨(), rfl, trivial, by rw [ht]; exact hP, va_K.moved hW.alike hK, hD⟩, hS.F ht⟩) hS.2.2 dX9_put_29

set_option maxHeartbeats 4000000 in
set_option maxRecDepth 100000 in
theorem c_LeafSignerModel_carry (l : Launch) (dC : Nat → ClassId) (dI : Nat → Nat → Nat) (cJ cI : ClassId) (y0 f1 f2 ma q1 q2 v1 v2 dd : Nat) (w1 w2 ov ta tb : Int64) (xh xm xu xl xs sr : Int32) (pv : Int64 × Int64) (lf ch fm tt : Nat) (hlf : lf < 2 ^ 31) (hch : ch < 2 ^ 31) (hft : fm ≤ tt) (htt : tt < 2 ^ 31) (sz : Nat) : Met l yX9_carry wsX9_carry ({ frames := 2, cells := 0, slots := 0, locals := 45 }) (va_Pc [.ref y0, .int (nI lf), .int (nI ch), .int (nI fm), .int (nI tt)] (st_B (dC, dI) vwCl [(cJ, .long), (cI, .int)] [(y0, .inr (9, [.long w1, .long w2, .long ov, .int xh, .int xm, .int xu, .ref f1, .ref f2, .ref ma, .int xl, .int xs, .int sr, .ref q1, .ref q2, .long ta, .long tb, .long pv.1, .long pv.2, .ref v1, .ref v2, .ref dd]))] sz)) (va_Qv (fun _ : Unit => True) (st_E (dC, dI) vwCl [(cJ, .long), (cI, .int)] (va_A [(y0, .inr (9, [.long w1, .long w2, .long ov, .int xh, .int xm, .int xu, .ref f1, .ref f2, .ref ma, .int xl, .int xs, .int sr, .ref q1, .ref q2, .long ta, .long tb, .long pv.1, .long pv.2, .ref v1, .ref v2, .ref dd]))] sz) (fun _ => [(y0, .inr (9, [.long w1, .long w2, .long ov, .int xh, .int xm, .int xu, .ref f1, .ref f2, .ref ma, .int xl, .int xs, .int sr, .ref q1, .ref q2, .long ta, .long tb, .long ((cry ov lf ch pv fm (tt - fm)).1), .long ((cry ov lf ch pv fm (tt - fm)).2), .ref v1, .ref v2, .ref dd]))])) (va_A [(y0, .inr (9, [.long w1, .long w2, .long ov, .int xh, .int xm, .int xu, .ref f1, .ref f2, .ref ma, .int xl, .int xs, .int sr, .ref q1, .ref q2, .long ta, .long tb, .long pv.1, .long pv.2, .ref v1, .ref v2, .ref dd]))] sz)) 0 0 (va_A [(y0, .inr (9, [.long w1, .long w2, .long ov, .int xh, .int xm, .int xu, .ref f1, .ref f2, .ref ma, .int xl, .int xs, .int sr, .ref q1, .ref q2, .long ta, .long tb, .long pv.1, .long pv.2, .ref v1, .ref v2, .ref dd]))] sz) := by
  refine Met.ofW (cc := cX9_carry) (maxL := 10) (ret := none) (by decide) rfl ?_
  intro p e s m args below meth c s₁ B hml hv
  obtain ⟨rfl, hsz, hP, hK, hD0⟩ := hv
  have hx := B.exec
  have hb := B.bytes
  have hr := B.returns
  have hts := atoms_spec (ws := wsX9_carry) B.pre
  have hown : s.vm.findClass RX9 = some m.cls := findClass_of_methodNamed B.named
  have hlocks := B.notSynchronized
  subst hsz
  have hD := hD0.self (sz := s.heap.size)
  generalize hAe : va_A [(y0, .inr (9, [.long w1, .long w2, .long ov, .int xh, .int xm, .int xu, .ref f1, .ref f2, .ref ma, .int xl, .int xs, .int sr, .ref q1, .ref q2, .long ta, .long tb, .long pv.1, .long pv.2, .ref v1, .ref v2, .ref dd]))] s.heap.size = A at hD ⊢
  have hA : ∀ q : Nat, s.heap.size ≤ q → A q := fun q h => by rw [← hAe]; exact Or.inr h
  have hS : va_S A s.heap s.heap [] := va_S.rf
  have hP : va_P (dC, dI) vwCl [(y0, .inr (9, [.long w1, .long w2, .long ov, .int xh, .int xm, .int xu, .ref f1, .ref f2, .ref ma, .int xl, .int xs, .int sr, .ref q1, .ref q2, .long ta, .long tb, .long pv.1, .long pv.2, .ref v1, .ref v2, .ref dd]))] s.heap := hP
  have hl := lv_entry ([.ref y0, .int (nI lf), .int (nI ch), .int (nI fm), .int (nI tt)]) (n := 10) (Nat.le_of_ble_eq_true rfl)
  rw [lg_entry_eq]
  generalize (lg_sl ([.ref y0, .int (nI lf), .int (nI ch), .int (nI fm), .int (nI tt)]) ++ List.replicate (10 - (lg_sl ([.ref y0, .int (nI lf), .int (nI ch), .int (nI fm), .int (nI tt)])).length) Slot.unset).toArray = ls at hl ⊢
  have iX9 : ∀ w ∈ wsX90, w ∈ wsX9_carry := by decide +kernel
  have f43 := hts (.fieldLink RX9 43 "LeafSignerModel" "a" "J") (by decide +kernel)
  have f47 := hts (.fieldLink RX9 47 "LeafSignerModel" "b" "J") (by decide +kernel)
  have f60 := hts (.fieldLink RX9 60 "LeafSignerModel" "open" "J") (by decide +kernel)
  have hl : lv_has ls 10 [(0, .ref y0), (1, .int (nI lf)), (2, .int (nI ch)), (3, .int (nI fm)), (4, .int (nI tt))] := hl
  refine lv_iload_n hx hb dX9_carry_0 rfl (lv_at hl 3 rfl) ?_
  refine lv_istore (lv' := [(5, .int (nI fm)), (0, .ref y0), (1, .int (nI lf)), (2, .int (nI ch)), (3, .int (nI fm)), (4, .int (nI tt))]) hx hb dX9_carry_1 hl (by decide) rfl (fun ls hl => ?_)
  have eW_1 : ([(y0, .inr (9, [.long w1, .long w2, .long ov, .int xh, .int xm, .int xu, .ref f1, .ref f2, .ref ma, .int xl, .int xs, .int sr, .ref q1, .ref q2, .long ta, .long tb, .long pv.1, .long pv.2, .ref v1, .ref v2, .ref dd]))] : va_W) = [(y0, .inr (9, [.long w1, .long w2, .long ov, .int xh, .int xm, .int xu, .ref f1, .ref f2, .ref ma, .int xl, .int xs, .int sr, .ref q1, .ref q2, .long ta, .long tb, .long ((cry ov lf ch pv fm (fm - fm)).1), .long ((cry ov lf ch pv fm (fm - fm)).2), .ref v1, .ref v2, .ref dd]))] := by rw [Nat.sub_self] <;> rfl
  have hP : va_P (dC, dI) vwCl [(y0, .inr (9, [.long w1, .long w2, .long ov, .int xh, .int xm, .int xu, .ref f1, .ref f2, .ref ma, .int xl, .int xs, .int sr, .ref q1, .ref q2, .long ta, .long tb, .long ((cry ov lf ch pv fm (fm - fm)).1), .long ((cry ov lf ch pv fm (fm - fm)).2), .ref v1, .ref v2, .ref dd]))] s.heap := by rw [← eW_1]; exact hP
  have hD : va_D A [(y0, .inr (9, [.long w1, .long w2, .long ov, .int xh, .int xm, .int xu, .ref f1, .ref f2, .ref ma, .int xl, .int xs, .int sr, .ref q1, .ref q2, .long ta, .long tb, .long ((cry ov lf ch pv fm (fm - fm)).1), .long ((cry ov lf ch pv fm (fm - fm)).2), .ref v1, .ref v2, .ref dd]))] := by rw [← eW_1]; exact hD
  refine st_loop (I := fun i H locs ls => (fm ≤ i) ∧ va_P (dC, dI) vwCl [(y0, .inr (9, [.long w1, .long w2, .long ov, .int xh, .int xm, .int xu, .ref f1, .ref f2, .ref ma, .int xl, .int xs, .int sr, .ref q1, .ref q2, .long ta, .long tb, .long (cry ov lf ch pv fm (i - fm)).1, .long (cry ov lf ch pv fm (i - fm)).2, .ref v1, .ref v2, .ref dd]))] H ∧ va_D A [(y0, .inr (9, [.long w1, .long w2, .long ov, .int xh, .int xm, .int xu, .ref f1, .ref f2, .ref ma, .int xl, .int xs, .int sr, .ref q1, .ref q2, .long ta, .long tb, .long (cry ov lf ch pv fm (i - fm)).1, .long (cry ov lf ch pv fm (i - fm)).2, .ref v1, .ref v2, .ref dd]))] ∧ va_S A s.heap H locs ∧ lv_has ls 10 [(0, .ref y0), (1, .int (nI lf)), (2, .int (nI ch)), (4, .int (nI tt)), (5, .int (nI i))]) fm tt hft ⟨(Nat.le_refl _), hP, hD, hS, lv_sub hl [1, 2, 3, 5, 0] rfl⟩ (fun H locs ls hI => ?_) (fun i H locs ls hi hI ih_3 => ?_)
  ·
    obtain ⟨hif, hP, hD, hS, hl⟩ := hI
    have hP : va_P (dC, dI) vwCl [(y0, .inr (9, [.long w1, .long w2, .long ov, .int xh, .int xm, .int xu, .ref f1, .ref f2, .ref ma, .int xl, .int xs, .int sr, .ref q1, .ref q2, .long ta, .long tb, .long ((cry ov lf ch pv fm (tt - fm)).1), .long ((cry ov lf ch pv fm (tt - fm)).2), .ref v1, .ref v2, .ref dd]))] H := hP
    have hD : va_D A [(y0, .inr (9, [.long w1, .long w2, .long ov, .int xh, .int xm, .int xu, .ref f1, .ref f2, .ref ma, .int xl, .int xs, .int sr, .ref q1, .ref q2, .long ta, .long tb, .long ((cry ov lf ch pv fm (tt - fm)).1), .long ((cry ov lf ch pv fm (tt - fm)).2), .ref v1, .ref v2, .ref dd]))] := hD
    have hl : lv_has ls 10 [(0, .ref y0), (1, .int (nI lf)), (2, .int (nI ch)), (4, .int (nI tt)), (5, .int (nI tt))] := hl
    refine lv_iload hx hb dX9_carry_3 (lv_at hl 4 rfl) ?_
    refine lv_iload hx hb dX9_carry_5 (lv_at hl 3 rfl) ?_
    refine lv_icmp_ge (tgt := 76) hx hb dX9_carry_7 (by decide) (fun c7 => ?_) (fun c7 => ?_)
    ·
      rw [q_le (by omega) (by omega)] at c7
      exact W.vret hx hb hr (fun t ht hW => ⟨⟨(), rfl, trivial, by rw [ht]; exact hP, va_K.moved hW.alike hK, hD⟩, hS.F ht⟩) hS.2.2 dX9_carry_76
    ·
      rw [q_le (by omega) (by omega)] at c7
      exact absurd c7 (by omega)
  ·
    obtain ⟨hif, hP, hD, hS, hl⟩ := hI
    have hP : va_P (dC, dI) vwCl [(y0, .inr (9, [.long w1, .long w2, .long ov, .int xh, .int xm, .int xu, .ref f1, .ref f2, .ref ma, .int xl, .int xs, .int sr, .ref q1, .ref q2, .long ta, .long tb, .long ((cry ov lf ch pv fm (i - fm)).1), .long ((cry ov lf ch pv fm (i - fm)).2), .ref v1, .ref v2, .ref dd]))] H := hP
    have hD : va_D A [(y0, .inr (9, [.long w1, .long w2, .long ov, .int xh, .int xm, .int xu, .ref f1, .ref f2, .ref ma, .int xl, .int xs, .int sr, .ref q1, .ref q2, .long ta, .long tb, .long ((cry ov lf ch pv fm (i - fm)).1), .long ((cry ov lf ch pv fm (i - fm)).2), .ref v1, .ref v2, .ref dd]))] := hD
    have hl : lv_has ls 10 [(0, .ref y0), (1, .int (nI lf)), (2, .int (nI ch)), (4, .int (nI tt)), (5, .int (nI i))] := hl
    refine lv_iload hx hb dX9_carry_3 (lv_at hl 4 rfl) ?_
    refine lv_iload hx hb dX9_carry_5 (lv_at hl 3 rfl) ?_
    refine lv_icmp_ge (tgt := 76) hx hb dX9_carry_7 (by decide) (fun c7 => ?_) (fun c7 => ?_)
    ·
      rw [q_le (by omega) (by omega)] at c7
      exact absurd c7 (by omega)
    ·
      rw [q_le (by omega) (by omega)] at c7
      refine lv_aload_n hx hb dX9_carry_10 rfl (lv_at hl 0 rfl) ?_
      refine va_get (D := (dC, dI)) (ci := 9) (v := .long ((cry ov lf ch pv fm (i - fm)).1)) (C := RX9) (T := TX9) (N := 21) hx hb hts iX9 hown hK hP 0 rfl rfl 16 (by decide) f43 (fun _ h9 => h9) rfl dX9_carry_11 ?_
      refine lv_lstore (lv' := [(6, .long ((cry ov lf ch pv fm (i - fm)).1)), (0, .ref y0), (1, .int (nI lf)), (2, .int (nI ch)), (4, .int (nI tt)), (5, .int (nI i))]) hx hb dX9_carry_14 hl (by decide) rfl (fun ls hl => ?_)
      refine lv_aload_n hx hb dX9_carry_16 rfl (lv_at hl 1 rfl) ?_
      refine va_get (D := (dC, dI)) (ci := 9) (v := .long ((cry ov lf ch pv fm (i - fm)).2)) (C := RX9) (T := TX9) (N := 21) hx hb hts iX9 hown hK hP 0 rfl rfl 17 (by decide) f47 (fun _ h9 => h9) rfl dX9_carry_17 ?_
      refine lv_lstore (lv' := [(8, .long ((cry ov lf ch pv fm (i - fm)).2)), (6, .long ((cry ov lf ch pv fm (i - fm)).1)), (0, .ref y0), (1, .int (nI lf)), (2, .int (nI ch)), (4, .int (nI tt)), (5, .int (nI i))]) hx hb dX9_carry_20 hl (by decide) rfl (fun ls hl => ?_)
      refine lv_aload_n hx hb dX9_carry_22 rfl (lv_at hl 2 rfl) ?_
      refine lv_ldc2 hx hb hown (hts (.constantLong RX9 54 (2)) (by decide +kernel)) dX9_carry_23 ?_
      refine st_l (y := lN 2) (by decide) ?_
      refine lv_bipush (v := nI 6) hx hb dX9_carry_26 (by decide) ?_
      refine st_callv (va_runV (As := [.long (lN 2), .int (nI 6)]) (rest := []) ⟨hx, hb, hml, hown, hts⟩ (c_LeafSignerModel_take l dC dI cJ cI y0 f1 f2 ma q1 q2 v1 v2 dd w1 w2 ov ta tb xh xm xu xl xs sr (cry ov lf ch pv fm (i - fm)) (lN 2) (lN 6) (nI 6) (nI_l (by omega)) H.size) (cwV 2 hts gX9_carry_X9_take rfl rfl rfl (by decide +kernel) ⟨Nat.le_of_ble_eq_true rfl, Nat.le_of_ble_eq_true rfl⟩) (st_preV hK hP hD [0] rfl rfl (ci := 9) (q0 := 0) rfl rfl) rfl rfl hl.1 rfl (lv_room (Nat.le_of_ble_eq_true rfl)) dX9_carry_28 ⟨Nat.le_of_ble_eq_true rfl, Nat.le_of_ble_eq_true rfl⟩) hP hD hS hA [0] [] (wr := []) rfl rfl (by decide) (by decide) [0] (res := fun _ => [(y0, .inr (9, [.long w1, .long w2, .long ov, .int xh, .int xm, .int xu, .ref f1, .ref f2, .ref ma, .int xl, .int xs, .int sr, .ref q1, .ref q2, .long ta, .long tb, .long (lN 2), .long (lN 6), .ref v1, .ref v2, .ref dd]))]) (fun _ => rfl) (by decide) (fun  _ H locs hu hP hD hS => ?_)
      have hP : va_P (dC, dI) vwCl [(y0, .inr (9, [.long w1, .long w2, .long ov, .int xh, .int xm, .int xu, .ref f1, .ref f2, .ref ma, .int xl, .int xs, .int sr, .ref q1, .ref q2, .long ta, .long tb, .long (lN 2), .long (lN 6), .ref v1, .ref v2, .ref dd]))] H := hP
      have hD : va_D A [(y0, .inr (9, [.long w1, .long w2, .long ov, .int xh, .int xm, .int xu, .ref f1, .ref f2, .ref ma, .int xl, .int xs, .int sr, .ref q1, .ref q2, .long ta, .long tb, .long (lN 2), .long (lN 6), .ref v1, .ref v2, .ref dd]))] := hD
      refine lv_aload_n hx hb dX9_carry_31 rfl (lv_at hl 2 rfl) ?_
      refine lv_aload_n hx hb dX9_carry_32 rfl (lv_at hl 2 rfl) ?_
      refine va_get (D := (dC, dI)) (ci := 9) (v := .long ov) (C := RX9) (T := TX9) (N := 21) hx hb hts iX9 hown hK hP 0 rfl rfl 2 (by decide) f60 (fun _ h9 => h9) rfl dX9_carry_33 ?_
      refine st_callv (va_runV (As := [.long ov]) (rest := []) ⟨hx, hb, hml, hown, hts⟩ (c_LeafSignerModel_put l dC dI cJ cI y0 f1 f2 ma q1 q2 v1 v2 dd w1 w2 ov ta tb xh xm xu xl xs sr (lN 2, lN 6) ov  H.size) (cwV 1 hts gX9_carry_X9_put rfl rfl rfl (by decide +kernel) ⟨Nat.le_of_ble_eq_true rfl, Nat.le_of_ble_eq_true rfl⟩) (st_preV hK hP hD [0] rfl rfl (ci := 9) (q0 := 0) rfl rfl) rfl rfl hl.1 rfl (lv_room (Nat.le_of_ble_eq_true rfl)) dX9_carry_36 ⟨Nat.le_of_ble_eq_true rfl, Nat.le_of_ble_eq_true rfl⟩) hP hD hS hA [0] [] (wr := []) rfl rfl (by decide) (by decide) [0] (res := fun _ => [(y0, .inr (9, [.long w1, .long w2, .long ov, .int xh, .int xm, .int xu, .ref f1, .ref f2, .ref ma, .int xl, .int xs, .int sr, .ref q1, .ref q2, .long ta, .long tb, .long ((ha (lN 2, lN 6) ov).1), .long ((ha (lN 2, lN 6) ov).2), .ref v1, .ref v2, .ref dd]))]) (fun _ => rfl) (by decide) (fun  _ H locs hu hP hD hS => ?_)
      have hP : va_P (dC, dI) vwCl [(y0, .inr (9, [.long w1, .long w2, .long ov, .int xh, .int xm, .int xu, .ref f1, .ref f2, .ref ma, .int xl, .int xs, .int sr, .ref q1, .ref q2, .long ta, .long tb, .long ((ha (lN 2, lN 6) ov).1), .long ((ha (lN 2, lN 6) ov).2), .ref v1, .ref v2, .ref dd]))] H := hP
      have hD : va_D A [(y0, .inr (9, [.long w1, .long w2, .long ov, .int xh, .int xm, .int xu, .ref f1, .ref f2, .ref ma, .int xl, .int xs, .int sr, .ref q1, .ref q2, .long ta, .long tb, .long ((ha (lN 2, lN 6) ov).1), .long ((ha (lN 2, lN 6) ov).2), .ref v1, .ref v2, .ref dd]))] := hD
      refine lv_aload_n hx hb dX9_carry_39 rfl (lv_at hl 2 rfl) ?_
      refine lv_iload_n hx hb dX9_carry_40 rfl (lv_at hl 3 rfl) ?_
      refine lv_i2l (v := lN lf) hx hb dX9_carry_41 (nI_l (by omega)) ?_
      refine st_callv (va_runV (As := [.long (lN lf)]) (rest := []) ⟨hx, hb, hml, hown, hts⟩ (c_LeafSignerModel_put l dC dI cJ cI y0 f1 f2 ma q1 q2 v1 v2 dd w1 w2 ov ta tb xh xm xu xl xs sr (ha (lN 2, lN 6) ov) (lN lf)  H.size) (cwV 1 hts gX9_carry_X9_put rfl rfl rfl (by decide +kernel) ⟨Nat.le_of_ble_eq_true rfl, Nat.le_of_ble_eq_true rfl⟩) (st_preV hK hP hD [0] rfl rfl (ci := 9) (q0 := 0) rfl rfl) rfl rfl hl.1 rfl (lv_room (Nat.le_of_ble_eq_true rfl)) dX9_carry_42 ⟨Nat.le_of_ble_eq_true rfl, Nat.le_of_ble_eq_true rfl⟩) hP hD hS hA [0] [] (wr := []) rfl rfl (by decide) (by decide) [0] (res := fun _ => [(y0, .inr (9, [.long w1, .long w2, .long ov, .int xh, .int xm, .int xu, .ref f1, .ref f2, .ref ma, .int xl, .int xs, .int sr, .ref q1, .ref q2, .long ta, .long tb, .long ((ha (ha (lN 2, lN 6) ov) (lN lf)).1), .long ((ha (ha (lN 2, lN 6) ov) (lN lf)).2), .ref v1, .ref v2, .ref dd]))]) (fun _ => rfl) (by decide) (fun  _ H locs hu hP hD hS => ?_)
      have hP : va_P (dC, dI) vwCl [(y0, .inr (9, [.long w1, .long w2, .long ov, .int xh, .int xm, .int xu, .ref f1, .ref f2, .ref ma, .int xl, .int xs, .int sr, .ref q1, .ref q2, .long ta, .long tb, .long ((ha (ha (lN 2, lN 6) ov) (lN lf)).1), .long ((ha (ha (lN 2, lN 6) ov) (lN lf)).2), .ref v1, .ref v2, .ref dd]))] H := hP
      have hD : va_D A [(y0, .inr (9, [.long w1, .long w2, .long ov, .int xh, .int xm, .int xu, .ref f1, .ref f2, .ref ma, .int xl, .int xs, .int sr, .ref q1, .ref q2, .long ta, .long tb, .long ((ha (ha (lN 2, lN 6) ov) (lN lf)).1), .long ((ha (ha (lN 2, lN 6) ov) (lN lf)).2), .ref v1, .ref v2, .ref dd]))] := hD
      refine lv_aload_n hx hb dX9_carry_45 rfl (lv_at hl 2 rfl) ?_
      refine lv_iload_n hx hb dX9_carry_46 rfl (lv_at hl 4 rfl) ?_
      refine lv_i2l (v := lN ch) hx hb dX9_carry_47 (nI_l (by omega)) ?_
      refine st_callv (va_runV (As := [.long (lN ch)]) (rest := []) ⟨hx, hb, hml, hown, hts⟩ (c_LeafSignerModel_put l dC dI cJ cI y0 f1 f2 ma q1 q2 v1 v2 dd w1 w2 ov ta tb xh xm xu xl xs sr (ha (ha (lN 2, lN 6) ov) (lN lf)) (lN ch)  H.size) (cwV 1 hts gX9_carry_X9_put rfl rfl rfl (by decide +kernel) ⟨Nat.le_of_ble_eq_true rfl, Nat.le_of_ble_eq_true rfl⟩) (st_preV hK hP hD [0] rfl rfl (ci := 9) (q0 := 0) rfl rfl) rfl rfl hl.1 rfl (lv_room (Nat.le_of_ble_eq_true rfl)) dX9_carry_48 ⟨Nat.le_of_ble_eq_true rfl, Nat.le_of_ble_eq_true rfl⟩) hP hD hS hA [0] [] (wr := []) rfl rfl (by decide) (by decide) [0] (res := fun _ => [(y0, .inr (9, [.long w1, .long w2, .long ov, .int xh, .int xm, .int xu, .ref f1, .ref f2, .ref ma, .int xl, .int xs, .int sr, .ref q1, .ref q2, .long ta, .long tb, .long ((ha (ha (ha (lN 2, lN 6) ov) (lN lf)) (lN ch)).1), .long ((ha (ha (ha (lN 2, lN 6) ov) (lN lf)) (lN ch)).2), .ref v1, .ref v2, .ref dd]))]) (fun _ => rfl) (by decide) (fun  _ H locs hu hP hD hS => ?_)
      have hP : va_P (dC, dI) vwCl [(y0, .inr (9, [.long w1, .long w2, .long ov, .int xh, .int xm, .int xu, .ref f1, .ref f2, .ref ma, .int xl, .int xs, .int sr, .ref q1, .ref q2, .long ta, .long tb, .long ((ha (ha (ha (lN 2, lN 6) ov) (lN lf)) (lN ch)).1), .long ((ha (ha (ha (lN 2, lN 6) ov) (lN lf)) (lN ch)).2), .ref v1, .ref v2, .ref dd]))] H := hP
      have hD : va_D A [(y0, .inr (9, [.long w1, .long w2, .long ov, .int xh, .int xm, .int xu, .ref f1, .ref f2, .ref ma, .int xl, .int xs, .int sr, .ref q1, .ref q2, .long ta, .long tb, .long ((ha (ha (ha (lN 2, lN 6) ov) (lN lf)) (lN ch)).1), .long ((ha (ha (ha (lN 2, lN 6) ov) (lN lf)) (lN ch)).2), .ref v1, .ref v2, .ref dd]))] := hD
      refine lv_aload_n hx hb dX9_carry_51 rfl (lv_at hl 2 rfl) ?_
      refine lv_iload hx hb dX9_carry_52 (lv_at hl 6 rfl) ?_
      refine lv_i2l (v := lN i) hx hb dX9_carry_54 (nI_l (by omega)) ?_
      refine st_callv (va_runV (As := [.long (lN i)]) (rest := []) ⟨hx, hb, hml, hown, hts⟩ (c_LeafSignerModel_put l dC dI cJ cI y0 f1 f2 ma q1 q2 v1 v2 dd w1 w2 ov ta tb xh xm xu xl xs sr (ha (ha (ha (lN 2, lN 6) ov) (lN lf)) (lN ch)) (lN i)  H.size) (cwV 1 hts gX9_carry_X9_put rfl rfl rfl (by decide +kernel) ⟨Nat.le_of_ble_eq_true rfl, Nat.le_of_ble_eq_true rfl⟩) (st_preV hK hP hD [0] rfl rfl (ci := 9) (q0 := 0) rfl rfl) rfl rfl hl.1 rfl (lv_room (Nat.le_of_ble_eq_true rfl)) dX9_carry_55 ⟨Nat.le_of_ble_eq_true rfl, Nat.le_of_ble_eq_true rfl⟩) hP hD hS hA [0] [] (wr := []) rfl rfl (by decide) (by decide) [0] (res := fun _ => [(y0, .inr (9, [.long w1, .long w2, .long ov, .int xh, .int xm, .int xu, .ref f1, .ref f2, .ref ma, .int xl, .int xs, .int sr, .ref q1, .ref q2, .long ta, .long tb, .long ((ha (ha (ha (ha (lN 2, lN 6) ov) (lN lf)) (lN ch)) (lN i)).1), .long ((ha (ha (ha (ha (lN 2, lN 6) ov) (lN lf)) (lN ch)) (lN i)).2), .ref v1, .ref v2, .ref dd]))]) (fun _ => rfl) (by decide) (fun  _ H locs hu hP hD hS => ?_)
      have hP : va_P (dC, dI) vwCl [(y0, .inr (9, [.long w1, .long w2, .long ov, .int xh, .int xm, .int xu, .ref f1, .ref f2, .ref ma, .int xl, .int xs, .int sr, .ref q1, .ref q2, .long ta, .long tb, .long ((ha (ha (ha (ha (lN 2, lN 6) ov) (lN lf)) (lN ch)) (lN i)).1), .long ((ha (ha (ha (ha (lN 2, lN 6) ov) (lN lf)) (lN ch)) (lN i)).2), .ref v1, .ref v2, .ref dd]))] H := hP
      have hD : va_D A [(y0, .inr (9, [.long w1, .long w2, .long ov, .int xh, .int xm, .int xu, .ref f1, .ref f2, .ref ma, .int xl, .int xs, .int sr, .ref q1, .ref q2, .long ta, .long tb, .long ((ha (ha (ha (ha (lN 2, lN 6) ov) (lN lf)) (lN ch)) (lN i)).1), .long ((ha (ha (ha (ha (lN 2, lN 6) ov) (lN lf)) (lN ch)) (lN i)).2), .ref v1, .ref v2, .ref dd]))] := hD
      refine lv_aload_n hx hb dX9_carry_58 rfl (lv_at hl 2 rfl) ?_
      refine lv_lload hx hb dX9_carry_59 (lv_at hl 1 rfl) ?_
      refine st_callv (va_runV (As := [.long ((cry ov lf ch pv fm (i - fm)).1)]) (rest := []) ⟨hx, hb, hml, hown, hts⟩ (c_LeafSignerModel_put l dC dI cJ cI y0 f1 f2 ma q1 q2 v1 v2 dd w1 w2 ov ta tb xh xm xu xl xs sr (ha (ha (ha (ha (lN 2, lN 6) ov) (lN lf)) (lN ch)) (lN i)) ((cry ov lf ch pv fm (i - fm)).1)  H.size) (cwV 1 hts gX9_carry_X9_put rfl rfl rfl (by decide +kernel) ⟨Nat.le_of_ble_eq_true rfl, Nat.le_of_ble_eq_true rfl⟩) (st_preV hK hP hD [0] rfl rfl (ci := 9) (q0 := 0) rfl rfl) rfl rfl hl.1 rfl (lv_room (Nat.le_of_ble_eq_true rfl)) dX9_carry_61 ⟨Nat.le_of_ble_eq_true rfl, Nat.le_of_ble_eq_true rfl⟩) hP hD hS hA [0] [] (wr := []) rfl rfl (by decide) (by decide) [0] (res := fun _ => [(y0, .inr (9, [.long w1, .long w2, .long ov, .int xh, .int xm, .int xu, .ref f1, .ref f2, .ref ma, .int xl, .int xs, .int sr, .ref q1, .ref q2, .long ta, .long tb, .long ((ha (ha (ha (ha (ha (lN 2, lN 6) ov) (lN lf)) (lN ch)) (lN i)) ((cry ov lf ch pv fm (i - fm)).1)).1), .long ((ha (ha (ha (ha (ha (lN 2, lN 6) ov) (lN lf)) (lN ch)) (lN i)) ((cry ov lf ch pv fm (i - fm)).1)).2), .ref v1, .ref v2, .ref dd]))]) (fun _ => rfl) (by decide) (fun  _ H locs hu hP hD hS => ?_)
      have hP : va_P (dC, dI) vwCl [(y0, .inr (9, [.long w1, .long w2, .long ov, .int xh, .int xm, .int xu, .ref f1, .ref f2, .ref ma, .int xl, .int xs, .int sr, .ref q1, .ref q2, .long ta, .long tb, .long ((ha (ha (ha (ha (ha (lN 2, lN 6) ov) (lN lf)) (lN ch)) (lN i)) ((cry ov lf ch pv fm (i - fm)).1)).1), .long ((ha (ha (ha (ha (ha (lN 2, lN 6) ov) (lN lf)) (lN ch)) (lN i)) ((cry ov lf ch pv fm (i - fm)).1)).2), .ref v1, .ref v2, .ref dd]))] H := hP
      have hD : va_D A [(y0, .inr (9, [.long w1, .long w2, .long ov, .int xh, .int xm, .int xu, .ref f1, .ref f2, .ref ma, .int xl, .int xs, .int sr, .ref q1, .ref q2, .long ta, .long tb, .long ((ha (ha (ha (ha (ha (lN 2, lN 6) ov) (lN lf)) (lN ch)) (lN i)) ((cry ov lf ch pv fm (i - fm)).1)).1), .long ((ha (ha (ha (ha (ha (lN 2, lN 6) ov) (lN lf)) (lN ch)) (lN i)) ((cry ov lf ch pv fm (i - fm)).1)).2), .ref v1, .ref v2, .ref dd]))] := hD
      refine lv_aload_n hx hb dX9_carry_64 rfl (lv_at hl 2 rfl) ?_
      refine lv_lload hx hb dX9_carry_65 (lv_at hl 0 rfl) ?_
      refine st_callv (va_runV (As := [.long ((cry ov lf ch pv fm (i - fm)).2)]) (rest := []) ⟨hx, hb, hml, hown, hts⟩ (c_LeafSignerModel_put l dC dI cJ cI y0 f1 f2 ma q1 q2 v1 v2 dd w1 w2 ov ta tb xh xm xu xl xs sr (ha (ha (ha (ha (ha (lN 2, lN 6) ov) (lN lf)) (lN ch)) (lN i)) ((cry ov lf ch pv fm (i - fm)).1)) ((cry ov lf ch pv fm (i - fm)).2)  H.size) (cwV 1 hts gX9_carry_X9_put rfl rfl rfl (by decide +kernel) ⟨Nat.le_of_ble_eq_true rfl, Nat.le_of_ble_eq_true rfl⟩) (st_preV hK hP hD [0] rfl rfl (ci := 9) (q0 := 0) rfl rfl) rfl rfl hl.1 rfl (lv_room (Nat.le_of_ble_eq_true rfl)) dX9_carry_67 ⟨Nat.le_of_ble_eq_true rfl, Nat.le_of_ble_eq_true rfl⟩) hP hD hS hA [0] [] (wr := []) rfl rfl (by decide) (by decide) [0] (res := fun _ => [(y0, .inr (9, [.long w1, .long w2, .long ov, .int xh, .int xm, .int xu, .ref f1, .ref f2, .ref ma, .int xl, .int xs, .int sr, .ref q1, .ref q2, .long ta, .long tb, .long ((ha (ha (ha (ha (ha (ha (lN 2, lN 6) ov) (lN lf)) (lN ch)) (lN i)) ((cry ov lf ch pv fm (i - fm)).1)) ((cry ov lf ch pv fm (i - fm)).2)).1), .long ((ha (ha (ha (ha (ha (ha (lN 2, lN 6) ov) (lN lf)) (lN ch)) (lN i)) ((cry ov lf ch pv fm (i - fm)).1)) ((cry ov lf ch pv fm (i - fm)).2)).2), .ref v1, .ref v2, .ref dd]))]) (fun _ => rfl) (by decide) (fun  _ H locs hu hP hD hS => ?_)
      have hP : va_P (dC, dI) vwCl [(y0, .inr (9, [.long w1, .long w2, .long ov, .int xh, .int xm, .int xu, .ref f1, .ref f2, .ref ma, .int xl, .int xs, .int sr, .ref q1, .ref q2, .long ta, .long tb, .long ((ha (ha (ha (ha (ha (ha (lN 2, lN 6) ov) (lN lf)) (lN ch)) (lN i)) ((cry ov lf ch pv fm (i - fm)).1)) ((cry ov lf ch pv fm (i - fm)).2)).1), .long ((ha (ha (ha (ha (ha (ha (lN 2, lN 6) ov) (lN lf)) (lN ch)) (lN i)) ((cry ov lf ch pv fm (i - fm)).1)) ((cry ov lf ch pv fm (i - fm)).2)).2), .ref v1, .ref v2, .ref dd]))] H := hP
      have hD : va_D A [(y0, .inr (9, [.long w1, .long w2, .long ov, .int xh, .int xm, .int xu, .ref f1, .ref f2, .ref ma, .int xl, .int xs, .int sr, .ref q1, .ref q2, .long ta, .long tb, .long ((ha (ha (ha (ha (ha (ha (lN 2, lN 6) ov) (lN lf)) (lN ch)) (lN i)) ((cry ov lf ch pv fm (i - fm)).1)) ((cry ov lf ch pv fm (i - fm)).2)).1), .long ((ha (ha (ha (ha (ha (ha (lN 2, lN 6) ov) (lN lf)) (lN ch)) (lN i)) ((cry ov lf ch pv fm (i - fm)).1)) ((cry ov lf ch pv fm (i - fm)).2)).2), .ref v1, .ref v2, .ref dd]))] := hD
      refine lv_iinc (v := nI (i + 1)) (lv' := [(5, .int (nI (i + 1))), (8, .long ((cry ov lf ch pv fm (i - fm)).2)), (6, .long ((cry ov lf ch pv fm (i - fm)).1)), (0, .ref y0), (1, .int (nI lf)), (2, .int (nI ch)), (4, .int (nI tt))]) hx hb dX9_carry_70 hl (k := 6) rfl (st_inc i 1 (by decide)) (by decide) rfl (fun ls hl => ?_)
      refine lv_goto (tgt := 3) hx hb dX9_carry_73 (by decide) ?_
      have eW_2 : ([(y0, .inr (9, [.long w1, .long w2, .long ov, .int xh, .int xm, .int xu, .ref f1, .ref f2, .ref ma, .int xl, .int xs, .int sr, .ref q1, .ref q2, .long ta, .long tb, .long ((ha (ha (ha (ha (ha (ha (lN 2, lN 6) ov) (lN lf)) (lN ch)) (lN i)) ((cry ov lf ch pv fm (i - fm)).1)) ((cry ov lf ch pv fm (i - fm)).2)).1), .long ((ha (ha (ha (ha (ha (ha (lN 2, lN 6) ov) (lN lf)) (lN ch)) (lN i)) ((cry ov lf ch pv fm (i - fm)).1)) ((cry ov lf ch pv fm (i - fm)).2)).2), .ref v1, .ref v2, .ref dd]))] : va_W) = [(y0, .inr (9, [.long w1, .long w2, .long ov, .int xh, .int xm, .int xu, .ref f1, .ref f2, .ref ma, .int xl, .int xs, .int sr, .ref q1, .ref q2, .long ta, .long tb, .long ((cry ov lf ch pv fm ((i + 1) - fm)).1), .long ((cry ov lf ch pv fm ((i + 1) - fm)).2), .ref v1, .ref v2, .ref dd]))] := by rw [cry_s hif] <;> rfl
      have hP : va_P (dC, dI) vwCl [(y0, .inr (9, [.long w1, .long w2, .long ov, .int xh, .int xm, .int xu, .ref f1, .ref f2, .ref ma, .int xl, .int xs, .int sr, .ref q1, .ref q2, .long ta, .long tb, .long ((cry ov lf ch pv fm ((i + 1) - fm)).1), .long ((cry ov lf ch pv fm ((i + 1) - fm)).2), .ref v1, .ref v2, .ref dd]))] H := by rw [← eW_2]; exact hP
      have hD : va_D A [(y0, .inr (9, [.long w1, .long w2, .long ov, .int xh, .int xm, .int xu, .ref f1, .ref f2, .ref ma, .int xl, .int xs, .int sr, .ref q1, .ref q2, .long ta, .long tb, .long ((cry ov lf ch pv fm ((i + 1) - fm)).1), .long ((cry ov lf ch pv fm ((i + 1) - fm)).2), .ref v1, .ref v2, .ref dd]))] := by rw [← eW_2]; exact hD
      exact ih_3 _ _ _ ⟨(by omega), hP, hD, hS, lv_sub hl [3, 4, 5, 6, 0] rfl⟩

set_option maxHeartbeats 4000000 in
set_option maxRecDepth 100000 in
theorem c_LeafSignerModel_place (l : Launch) (dC : Nat → ClassId) (dI : Nat → Nat → Nat) (cJ cI : ClassId) (y0 f1 f2 ma q1 q2 v1 v2 dd : Nat) (w1 w2 ov ta tb : Int64) (xh xm xu xl xs sr : Int32) (pv : Int64 × Int64) (lf ch tt : Nat) (hlf : lf < 2 ^ 31) (hch : ch < 2 ^ 31) (htt : tt < 2 ^ 31) (sz : Nat) : Met l yX9_place wsX9_place ({ frames := 3, cells := 0, slots := 0, locals := 74 }) (va_Pc [.ref y0, .int (nI lf), .int (nI ch), .int (nI tt)] (st_B (dC, dI) vwCl [(cJ, .long), (cI, .int)] [(y0, .inr (9, [.long w1, .long w2, .long ov, .int xh, .int xm, .int xu, .ref f1, .ref f2, .ref ma, .int xl, .int xs, .int sr, .ref q1, .ref q2, .long ta, .long tb, .long pv.1, .long pv.2, .ref v1, .ref v2, .ref dd]))] sz)) (va_Qv (fun _ : Unit => True) (st_E (dC, dI) vwCl [(cJ, .long), (cI, .int)] (va_A [(y0, .inr (9, [.long w1, .long w2, .long ov, .int xh, .int xm, .int xu, .ref f1, .ref f2, .ref ma, .int xl, .int xs, .int sr, .ref q1, .ref q2, .long ta, .long tb, .long pv.1, .long pv.2, .ref v1, .ref v2, .ref dd]))] sz) (fun _ => [(y0, .inr (9, [.long w1, .long w2, .long ov, .int xh, .int xm, .int xu, .ref f1, .ref f2, .ref ma, .int xl, .int xs, .int sr, .ref q1, .ref q2, .long ta, .long tb, .long ((plc w1 w2 ov lf ch tt).1), .long ((plc w1 w2 ov lf ch tt).2), .ref v1, .ref v2, .ref dd]))])) (va_A [(y0, .inr (9, [.long w1, .long w2, .long ov, .int xh, .int xm, .int xu, .ref f1, .ref f2, .ref ma, .int xl, .int xs, .int sr, .ref q1, .ref q2, .long ta, .long tb, .long pv.1, .long pv.2, .ref v1, .ref v2, .ref dd]))] sz)) 0 0 (va_A [(y0, .inr (9, [.long w1, .long w2, .long ov, .int xh, .int xm, .int xu, .ref f1, .ref f2, .ref ma, .int xl, .int xs, .int sr, .ref q1, .ref q2, .long ta, .long tb, .long pv.1, .long pv.2, .ref v1, .ref v2, .ref dd]))] sz) := by
  refine Met.ofW (cc := cX9_place) (maxL := 4) (ret := none) (by decide) rfl ?_
  intro p e s m args below meth c s₁ B hml hv
  obtain ⟨rfl, hsz, hP, hK, hD0⟩ := hv
  have hx := B.exec
  have hb := B.bytes
  have hr := B.returns
  have hts := atoms_spec (ws := wsX9_place) B.pre
  have hown : s.vm.findClass RX9 = some m.cls := findClass_of_methodNamed B.named
  have hlocks := B.notSynchronized
  subst hsz
  have hD := hD0.self (sz := s.heap.size)
  generalize hAe : va_A [(y0, .inr (9, [.long w1, .long w2, .long ov, .int xh, .int xm, .int xu, .ref f1, .ref f2, .ref ma, .int xl, .int xs, .int sr, .ref q1, .ref q2, .long ta, .long tb, .long pv.1, .long pv.2, .ref v1, .ref v2, .ref dd]))] s.heap.size = A at hD ⊢
  have hA : ∀ q : Nat, s.heap.size ≤ q → A q := fun q h => by rw [← hAe]; exact Or.inr h
  have hS : va_S A s.heap s.heap [] := va_S.rf
  have hP : va_P (dC, dI) vwCl [(y0, .inr (9, [.long w1, .long w2, .long ov, .int xh, .int xm, .int xu, .ref f1, .ref f2, .ref ma, .int xl, .int xs, .int sr, .ref q1, .ref q2, .long ta, .long tb, .long pv.1, .long pv.2, .ref v1, .ref v2, .ref dd]))] s.heap := hP
  have hl := lv_entry ([.ref y0, .int (nI lf), .int (nI ch), .int (nI tt)]) (n := 4) (Nat.le_of_ble_eq_true rfl)
  rw [lg_entry_eq]
  generalize (lg_sl ([.ref y0, .int (nI lf), .int (nI ch), .int (nI tt)]) ++ List.replicate (4 - (lg_sl ([.ref y0, .int (nI lf), .int (nI ch), .int (nI tt)])).length) Slot.unset).toArray = ls at hl ⊢
  have iX9 : ∀ w ∈ wsX90, w ∈ wsX9_place := by decide +kernel
  have f67 := hts (.fieldLink RX9 67 "LeafSignerModel" "one" "J") (by decide +kernel)
  have f70 := hts (.fieldLink RX9 70 "LeafSignerModel" "two" "J") (by decide +kernel)
  have hl : lv_has ls 4 [(0, .ref y0), (1, .int (nI lf)), (2, .int (nI ch)), (3, .int (nI tt))] := hl
  refine lv_aload_n hx hb dX9_place_0 rfl (lv_at hl 0 rfl) ?_
  refine lv_lconst (v := lN 1) hx hb dX9_place_1 (by decide) ?_
  refine lv_iconst (v := nI 4) hx hb dX9_place_2 (by decide) ?_
  refine st_callv (va_runV (As := [.long (lN 1), .int (nI 4)]) (rest := []) ⟨hx, hb, hml, hown, hts⟩ (c_LeafSignerModel_take l dC dI cJ cI y0 f1 f2 ma q1 q2 v1 v2 dd w1 w2 ov ta tb xh xm xu xl xs sr pv (lN 1) (lN 4) (nI 4) (nI_l (by omega)) s.heap.size) (cwV 2 hts gX9_place_X9_take rfl rfl rfl (by decide +kernel) ⟨Nat.le_of_ble_eq_true rfl, Nat.le_of_ble_eq_true rfl⟩) (st_preV hK hP hD [0] rfl rfl (ci := 9) (q0 := 0) rfl rfl) rfl rfl hl.1 rfl (lv_room (Nat.le_of_ble_eq_true rfl)) dX9_place_3 ⟨Nat.le_of_ble_eq_true rfl, Nat.le_of_ble_eq_true rfl⟩) hP hD hS hA [0] [] (wr := []) rfl rfl (by decide) (by decide) [0] (res := fun _ => [(y0, .inr (9, [.long w1, .long w2, .long ov, .int xh, .int xm, .int xu, .ref f1, .ref f2, .ref ma, .int xl, .int xs, .int sr, .ref q1, .ref q2, .long ta, .long tb, .long (lN 1), .long (lN 4), .ref v1, .ref v2, .ref dd]))]) (fun _ => rfl) (by decide) (fun  _ H locs hu hP hD hS => ?_)
  have hP : va_P (dC, dI) vwCl [(y0, .inr (9, [.long w1, .long w2, .long ov, .int xh, .int xm, .int xu, .ref f1, .ref f2, .ref ma, .int xl, .int xs, .int sr, .ref q1, .ref q2, .long ta, .long tb, .long (lN 1), .long (lN 4), .ref v1, .ref v2, .ref dd]))] H := hP
  have hD : va_D A [(y0, .inr (9, [.long w1, .long w2, .long ov, .int xh, .int xm, .int xu, .ref f1, .ref f2, .ref ma, .int xl, .int xs, .int sr, .ref q1, .ref q2, .long ta, .long tb, .long (lN 1), .long (lN 4), .ref v1, .ref v2, .ref dd]))] := hD
  refine lv_aload_n hx hb dX9_place_6 rfl (lv_at hl 0 rfl) ?_
  refine lv_aload_n hx hb dX9_place_7 rfl (lv_at hl 0 rfl) ?_
  refine va_get (D := (dC, dI)) (ci := 9) (v := .long w1) (C := RX9) (T := TX9) (N := 21) hx hb hts iX9 hown hK hP 0 rfl rfl 0 (by decide) f67 (fun _ h9 => h9) rfl dX9_place_8 ?_
  refine st_callv (va_runV (As := [.long w1]) (rest := []) ⟨hx, hb, hml, hown, hts⟩ (c_LeafSignerModel_put l dC dI cJ cI y0 f1 f2 ma q1 q2 v1 v2 dd w1 w2 ov ta tb xh xm xu xl xs sr (lN 1, lN 4) w1  H.size) (cwV 1 hts gX9_place_X9_put rfl rfl rfl (by decide +kernel) ⟨Nat.le_of_ble_eq_true rfl, Nat.le_of_ble_eq_true rfl⟩) (st_preV hK hP hD [0] rfl rfl (ci := 9) (q0 := 0) rfl rfl) rfl rfl hl.1 rfl (lv_room (Nat.le_of_ble_eq_true rfl)) dX9_place_11 ⟨Nat.le_of_ble_eq_true rfl, Nat.le_of_ble_eq_true rfl⟩) hP hD hS hA [0] [] (wr := []) rfl rfl (by decide) (by decide) [0] (res := fun _ => [(y0, .inr (9, [.long w1, .long w2, .long ov, .int xh, .int xm, .int xu, .ref f1, .ref f2, .ref ma, .int xl, .int xs, .int sr, .ref q1, .ref q2, .long ta, .long tb, .long ((ha (lN 1, lN 4) w1).1), .long ((ha (lN 1, lN 4) w1).2), .ref v1, .ref v2, .ref dd]))]) (fun _ => rfl) (by decide) (fun  _ H locs hu hP hD hS => ?_)
  have hP : va_P (dC, dI) vwCl [(y0, .inr (9, [.long w1, .long w2, .long ov, .int xh, .int xm, .int xu, .ref f1, .ref f2, .ref ma, .int xl, .int xs, .int sr, .ref q1, .ref q2, .long ta, .long tb, .long ((ha (lN 1, lN 4) w1).1), .long ((ha (lN 1, lN 4) w1).2), .ref v1, .ref v2, .ref dd]))] H := hP
  have hD : va_D A [(y0, .inr (9, [.long w1, .long w2, .long ov, .int xh, .int xm, .int xu, .ref f1, .ref f2, .ref ma, .int xl, .int xs, .int sr, .ref q1, .ref q2, .long ta, .long tb, .long ((ha (lN 1, lN 4) w1).1), .long ((ha (lN 1, lN 4) w1).2), .ref v1, .ref v2, .ref dd]))] := hD
  refine lv_aload_n hx hb dX9_place_14 rfl (lv_at hl 0 rfl) ?_
  refine lv_aload_n hx hb dX9_place_15 rfl (lv_at hl 0 rfl) ?_
  refine va_get (D := (dC, dI)) (ci := 9) (v := .long w2) (C := RX9) (T := TX9) (N := 21) hx hb hts iX9 hown hK hP 0 rfl rfl 1 (by decide) f70 (fun _ h9 => h9) rfl dX9_place_16 ?_
  refine st_callv (va_runV (As := [.long w2]) (rest := []) ⟨hx, hb, hml, hown, hts⟩ (c_LeafSignerModel_put l dC dI cJ cI y0 f1 f2 ma q1 q2 v1 v2 dd w1 w2 ov ta tb xh xm xu xl xs sr (ha (lN 1, lN 4) w1) w2  H.size) (cwV 1 hts gX9_place_X9_put rfl rfl rfl (by decide +kernel) ⟨Nat.le_of_ble_eq_true rfl, Nat.le_of_ble_eq_true rfl⟩) (st_preV hK hP hD [0] rfl rfl (ci := 9) (q0 := 0) rfl rfl) rfl rfl hl.1 rfl (lv_room (Nat.le_of_ble_eq_true rfl)) dX9_place_19 ⟨Nat.le_of_ble_eq_true rfl, Nat.le_of_ble_eq_true rfl⟩) hP hD hS hA [0] [] (wr := []) rfl rfl (by decide) (by decide) [0] (res := fun _ => [(y0, .inr (9, [.long w1, .long w2, .long ov, .int xh, .int xm, .int xu, .ref f1, .ref f2, .ref ma, .int xl, .int xs, .int sr, .ref q1, .ref q2, .long ta, .long tb, .long ((ha (ha (lN 1, lN 4) w1) w2).1), .long ((ha (ha (lN 1, lN 4) w1) w2).2), .ref v1, .ref v2, .ref dd]))]) (fun _ => rfl) (by decide) (fun  _ H locs hu hP hD hS => ?_)
  have hP : va_P (dC, dI) vwCl [(y0, .inr (9, [.long w1, .long w2, .long ov, .int xh, .int xm, .int xu, .ref f1, .ref f2, .ref ma, .int xl, .int xs, .int sr, .ref q1, .ref q2, .long ta, .long tb, .long ((ha (ha (lN 1, lN 4) w1) w2).1), .long ((ha (ha (lN 1, lN 4) w1) w2).2), .ref v1, .ref v2, .ref dd]))] H := hP
  have hD : va_D A [(y0, .inr (9, [.long w1, .long w2, .long ov, .int xh, .int xm, .int xu, .ref f1, .ref f2, .ref ma, .int xl, .int xs, .int sr, .ref q1, .ref q2, .long ta, .long tb, .long ((ha (ha (lN 1, lN 4) w1) w2).1), .long ((ha (ha (lN 1, lN 4) w1) w2).2), .ref v1, .ref v2, .ref dd]))] := hD
  refine lv_aload_n hx hb dX9_place_22 rfl (lv_at hl 0 rfl) ?_
  refine lv_iload_n hx hb dX9_place_23 rfl (lv_at hl 1 rfl) ?_
  refine lv_i2l (v := lN lf) hx hb dX9_place_24 (nI_l (by omega)) ?_
  refine st_callv (va_runV (As := [.long (lN lf)]) (rest := []) ⟨hx, hb, hml, hown, hts⟩ (c_LeafSignerModel_put l dC dI cJ cI y0 f1 f2 ma q1 q2 v1 v2 dd w1 w2 ov ta tb xh xm xu xl xs sr (ha (ha (lN 1, lN 4) w1) w2) (lN lf)  H.size) (cwV 1 hts gX9_place_X9_put rfl rfl rfl (by decide +kernel) ⟨Nat.le_of_ble_eq_true rfl, Nat.le_of_ble_eq_true rfl⟩) (st_preV hK hP hD [0] rfl rfl (ci := 9) (q0 := 0) rfl rfl) rfl rfl hl.1 rfl (lv_room (Nat.le_of_ble_eq_true rfl)) dX9_place_25 ⟨Nat.le_of_ble_eq_true rfl, Nat.le_of_ble_eq_true rfl⟩) hP hD hS hA [0] [] (wr := []) rfl rfl (by decide) (by decide) [0] (res := fun _ => [(y0, .inr (9, [.long w1, .long w2, .long ov, .int xh, .int xm, .int xu, .ref f1, .ref f2, .ref ma, .int xl, .int xs, .int sr, .ref q1, .ref q2, .long ta, .long tb, .long ((ha (ha (ha (lN 1, lN 4) w1) w2) (lN lf)).1), .long ((ha (ha (ha (lN 1, lN 4) w1) w2) (lN lf)).2), .ref v1, .ref v2, .ref dd]))]) (fun _ => rfl) (by decide) (fun  _ H locs hu hP hD hS => ?_)
  have hP : va_P (dC, dI) vwCl [(y0, .inr (9, [.long w1, .long w2, .long ov, .int xh, .int xm, .int xu, .ref f1, .ref f2, .ref ma, .int xl, .int xs, .int sr, .ref q1, .ref q2, .long ta, .long tb, .long ((ha (ha (ha (lN 1, lN 4) w1) w2) (lN lf)).1), .long ((ha (ha (ha (lN 1, lN 4) w1) w2) (lN lf)).2), .ref v1, .ref v2, .ref dd]))] H := hP
  have hD : va_D A [(y0, .inr (9, [.long w1, .long w2, .long ov, .int xh, .int xm, .int xu, .ref f1, .ref f2, .ref ma, .int xl, .int xs, .int sr, .ref q1, .ref q2, .long ta, .long tb, .long ((ha (ha (ha (lN 1, lN 4) w1) w2) (lN lf)).1), .long ((ha (ha (ha (lN 1, lN 4) w1) w2) (lN lf)).2), .ref v1, .ref v2, .ref dd]))] := hD
  refine lv_aload_n hx hb dX9_place_28 rfl (lv_at hl 0 rfl) ?_
  refine lv_iload_n hx hb dX9_place_29 rfl (lv_at hl 2 rfl) ?_
  refine lv_i2l (v := lN ch) hx hb dX9_place_30 (nI_l (by omega)) ?_
  refine st_callv (va_runV (As := [.long (lN ch)]) (rest := []) ⟨hx, hb, hml, hown, hts⟩ (c_LeafSignerModel_put l dC dI cJ cI y0 f1 f2 ma q1 q2 v1 v2 dd w1 w2 ov ta tb xh xm xu xl xs sr (ha (ha (ha (lN 1, lN 4) w1) w2) (lN lf)) (lN ch)  H.size) (cwV 1 hts gX9_place_X9_put rfl rfl rfl (by decide +kernel) ⟨Nat.le_of_ble_eq_true rfl, Nat.le_of_ble_eq_true rfl⟩) (st_preV hK hP hD [0] rfl rfl (ci := 9) (q0 := 0) rfl rfl) rfl rfl hl.1 rfl (lv_room (Nat.le_of_ble_eq_true rfl)) dX9_place_31 ⟨Nat.le_of_ble_eq_true rfl, Nat.le_of_ble_eq_true rfl⟩) hP hD hS hA [0] [] (wr := []) rfl rfl (by decide) (by decide) [0] (res := fun _ => [(y0, .inr (9, [.long w1, .long w2, .long ov, .int xh, .int xm, .int xu, .ref f1, .ref f2, .ref ma, .int xl, .int xs, .int sr, .ref q1, .ref q2, .long ta, .long tb, .long ((ha (ha (ha (ha (lN 1, lN 4) w1) w2) (lN lf)) (lN ch)).1), .long ((ha (ha (ha (ha (lN 1, lN 4) w1) w2) (lN lf)) (lN ch)).2), .ref v1, .ref v2, .ref dd]))]) (fun _ => rfl) (by decide) (fun  _ H locs hu hP hD hS => ?_)
  have hP : va_P (dC, dI) vwCl [(y0, .inr (9, [.long w1, .long w2, .long ov, .int xh, .int xm, .int xu, .ref f1, .ref f2, .ref ma, .int xl, .int xs, .int sr, .ref q1, .ref q2, .long ta, .long tb, .long ((ha (ha (ha (ha (lN 1, lN 4) w1) w2) (lN lf)) (lN ch)).1), .long ((ha (ha (ha (ha (lN 1, lN 4) w1) w2) (lN lf)) (lN ch)).2), .ref v1, .ref v2, .ref dd]))] H := hP
  have hD : va_D A [(y0, .inr (9, [.long w1, .long w2, .long ov, .int xh, .int xm, .int xu, .ref f1, .ref f2, .ref ma, .int xl, .int xs, .int sr, .ref q1, .ref q2, .long ta, .long tb, .long ((ha (ha (ha (ha (lN 1, lN 4) w1) w2) (lN lf)) (lN ch)).1), .long ((ha (ha (ha (ha (lN 1, lN 4) w1) w2) (lN lf)) (lN ch)).2), .ref v1, .ref v2, .ref dd]))] := hD
  refine lv_aload_n hx hb dX9_place_34 rfl (lv_at hl 0 rfl) ?_
  refine lv_iload_n hx hb dX9_place_35 rfl (lv_at hl 1 rfl) ?_
  refine lv_iload_n hx hb dX9_place_36 rfl (lv_at hl 2 rfl) ?_
  refine lv_iconst (v := nI 0) hx hb dX9_place_37 (by decide) ?_
  refine lv_iload_n hx hb dX9_place_38 rfl (lv_at hl 3 rfl) ?_
  refine st_callv (va_runV (As := [.int (nI lf), .int (nI ch), .int (nI 0), .int (nI tt)]) (rest := []) ⟨hx, hb, hml, hown, hts⟩ (c_LeafSignerModel_carry l dC dI cJ cI y0 f1 f2 ma q1 q2 v1 v2 dd w1 w2 ov ta tb xh xm xu xl xs sr (ha (ha (ha (ha (lN 1, lN 4) w1) w2) (lN lf)) (lN ch)) lf ch 0 tt (by omega) (by omega) (by omega) (by omega) H.size) (cwV 4 hts gX9_place_X9_carry rfl rfl rfl (by decide +kernel) ⟨Nat.le_of_ble_eq_true rfl, Nat.le_of_ble_eq_true rfl⟩) (st_preV hK hP hD [0] rfl rfl (ci := 9) (q0 := 0) rfl rfl) rfl rfl hl.1 rfl (lv_room (Nat.le_of_ble_eq_true rfl)) dX9_place_39 ⟨Nat.le_of_ble_eq_true rfl, Nat.le_of_ble_eq_true rfl⟩) hP hD hS hA [0] [] (wr := []) rfl rfl (by decide) (by decide) [0] (res := fun _ => [(y0, .inr (9, [.long w1, .long w2, .long ov, .int xh, .int xm, .int xu, .ref f1, .ref f2, .ref ma, .int xl, .int xs, .int sr, .ref q1, .ref q2, .long ta, .long tb, .long ((cry ov lf ch (ha (ha (ha (ha (lN 1, lN 4) w1) w2) (lN lf)) (lN ch)) 0 (tt - 0)).1), .long ((cry ov lf ch (ha (ha (ha (ha (lN 1, lN 4) w1) w2) (lN lf)) (lN ch)) 0 (tt - 0)).2), .ref v1, .ref v2, .ref dd]))]) (fun _ => rfl) (by decide) (fun  _ H locs hu hP hD hS => ?_)
  have hP : va_P (dC, dI) vwCl [(y0, .inr (9, [.long w1, .long w2, .long ov, .int xh, .int xm, .int xu, .ref f1, .ref f2, .ref ma, .int xl, .int xs, .int sr, .ref q1, .ref q2, .long ta, .long tb, .long ((cry ov lf ch (ha (ha (ha (ha (lN 1, lN 4) w1) w2) (lN lf)) (lN ch)) 0 (tt - 0)).1), .long ((cry ov lf ch (ha (ha (ha (ha (lN 1, lN 4) w1) w2) (lN lf)) (lN ch)) 0 (tt - 0)).2), .ref v1, .ref v2, .ref dd]))] H := hP
  have hD : va_D A [(y0, .inr (9, [.long w1, .long w2, .long ov, .int xh, .int xm, .int xu, .ref f1, .ref f2, .ref ma, .int xl, .int xs, .int sr, .ref q1, .ref q2, .long ta, .long tb, .long ((cry ov lf ch (ha (ha (ha (ha (lN 1, lN 4) w1) w2) (lN lf)) (lN ch)) 0 (tt - 0)).1), .long ((cry ov lf ch (ha (ha (ha (ha (lN 1, lN 4) w1) w2) (lN lf)) (lN ch)) 0 (tt - 0)).2), .ref v1, .ref v2, .ref dd]))] := hD
  have eW_1 : ([(y0, .inr (9, [.long w1, .long w2, .long ov, .int xh, .int xm, .int xu, .ref f1, .ref f2, .ref ma, .int xl, .int xs, .int sr, .ref q1, .ref q2, .long ta, .long tb, .long ((cry ov lf ch (ha (ha (ha (ha (lN 1, lN 4) w1) w2) (lN lf)) (lN ch)) 0 (tt - 0)).1), .long ((cry ov lf ch (ha (ha (ha (ha (lN 1, lN 4) w1) w2) (lN lf)) (lN ch)) 0 (tt - 0)).2), .ref v1, .ref v2, .ref dd]))] : va_W) = [(y0, .inr (9, [.long w1, .long w2, .long ov, .int xh, .int xm, .int xu, .ref f1, .ref f2, .ref ma, .int xl, .int xs, .int sr, .ref q1, .ref q2, .long ta, .long tb, .long ((plc w1 w2 ov lf ch tt).1), .long ((plc w1 w2 ov lf ch tt).2), .ref v1, .ref v2, .ref dd]))] := rfl
  have hP : va_P (dC, dI) vwCl [(y0, .inr (9, [.long w1, .long w2, .long ov, .int xh, .int xm, .int xu, .ref f1, .ref f2, .ref ma, .int xl, .int xs, .int sr, .ref q1, .ref q2, .long ta, .long tb, .long ((plc w1 w2 ov lf ch tt).1), .long ((plc w1 w2 ov lf ch tt).2), .ref v1, .ref v2, .ref dd]))] H := by rw [← eW_1]; exact hP
  have hD : va_D A [(y0, .inr (9, [.long w1, .long w2, .long ov, .int xh, .int xm, .int xu, .ref f1, .ref f2, .ref ma, .int xl, .int xs, .int sr, .ref q1, .ref q2, .long ta, .long tb, .long ((plc w1 w2 ov lf ch tt).1), .long ((plc w1 w2 ov lf ch tt).2), .ref v1, .ref v2, .ref dd]))] := by rw [← eW_1]; exact hD
  exact W.vret hx hb hr (fun t ht hW => ⟨⟨(), rfl, trivial, by rw [ht]; exact hP, va_K.moved hW.alike hK, hD⟩, hS.F ht⟩) hS.2.2 dX9_place_42

set_option maxHeartbeats 4000000 in
set_option maxRecDepth 100000 in
theorem c_LeafSignerModel_gather (l : Launch) (dC : Nat → ClassId) (dI : Nat → Nat → Nat) (cJ cI : ClassId) (y0 f1 f2 ma q1 q2 v1 v2 dd : Nat) (w1 w2 ov ta tb : Int64) (xh xm xu xl xs sr : Int32) (pv : Int64 × Int64) (lf : Nat) (eF eS : Nat → Int64) (hlf : lf < 2 ^ 31) (sz : Nat) : Met l yX9_gather wsX9_gather ({ frames := 2, cells := 0, slots := 0, locals := 45 }) (va_Pc [.ref y0, .int (nI lf)] (st_B (dC, dI) vwCl [(cJ, .long), (cI, .int)] [(y0, .inr (9, [.long w1, .long w2, .long ov, .int xh, .int xm, .int xu, .ref f1, .ref f2, .ref ma, .int xl, .int xs, .int sr, .ref q1, .ref q2, .long ta, .long tb, .long pv.1, .long pv.2, .ref v1, .ref v2, .ref dd])), (v1, .inl (cJ, 35, .inr (.inl (eF)))), (v2, .inl (cJ, 35, .inr (.inl (eS))))] sz)) (va_Qv (fun _ : Unit => True) (st_E (dC, dI) vwCl [(cJ, .long), (cI, .int)] (va_A [(y0, .inr (9, [.long w1, .long w2, .long ov, .int xh, .int xm, .int xu, .ref f1, .ref f2, .ref ma, .int xl, .int xs, .int sr, .ref q1, .ref q2, .long ta, .long tb, .long pv.1, .long pv.2, .ref v1, .ref v2, .ref dd])), (v1, .inl (cJ, 35, .inr (.inl (eF)))), (v2, .inl (cJ, 35, .inr (.inl (eS))))] sz) (fun _ => [(y0, .inr (9, [.long w1, .long w2, .long ov, .int xh, .int xm, .int xu, .ref f1, .ref f2, .ref ma, .int xl, .int xs, .int sr, .ref q1, .ref q2, .long ta, .long tb, .long ((lfv ov lf (fun k => (eF k, eS k))).1), .long ((lfv ov lf (fun k => (eF k, eS k))).2), .ref v1, .ref v2, .ref dd])), (v1, .inl (cJ, 35, .inr (.inl (eF)))), (v2, .inl (cJ, 35, .inr (.inl (eS))))])) (va_A [(y0, .inr (9, [.long w1, .long w2, .long ov, .int xh, .int xm, .int xu, .ref f1, .ref f2, .ref ma, .int xl, .int xs, .int sr, .ref q1, .ref q2, .long ta, .long tb, .long pv.1, .long pv.2, .ref v1, .ref v2, .ref dd])), (v1, .inl (cJ, 35, .inr (.inl (eF)))), (v2, .inl (cJ, 35, .inr (.inl (eS))))] sz)) 0 0 (va_A [(y0, .inr (9, [.long w1, .long w2, .long ov, .int xh, .int xm, .int xu, .ref f1, .ref f2, .ref ma, .int xl, .int xs, .int sr, .ref q1, .ref q2, .long ta, .long tb, .long pv.1, .long pv.2, .ref v1, .ref v2, .ref dd])), (v1, .inl (cJ, 35, .inr (.inl (eF)))), (v2, .inl (cJ, 35, .inr (.inl (eS))))] sz) := by
  refine Met.ofW (cc := cX9_gather) (maxL := 3) (ret := none) (by decide) rfl ?_
  intro p e s m args below meth c s₁ B hml hv
  obtain ⟨rfl, hsz, hP, hK, hD0⟩ := hv
  have hx := B.exec
  have hb := B.bytes
  have hr := B.returns
  have hts := atoms_spec (ws := wsX9_gather) B.pre
  have hown : s.vm.findClass RX9 = some m.cls := findClass_of_methodNamed B.named
  have hlocks := B.notSynchronized
  subst hsz
  have hD := hD0.self (sz := s.heap.size)
  generalize hAe : va_A [(y0, .inr (9, [.long w1, .long w2, .long ov, .int xh, .int xm, .int xu, .ref f1, .ref f2, .ref ma, .int xl, .int xs, .int sr, .ref q1, .ref q2, .long ta, .long tb, .long pv.1, .long pv.2, .ref v1, .ref v2, .ref dd])), (v1, .inl (cJ, 35, .inr (.inl (eF)))), (v2, .inl (cJ, 35, .inr (.inl (eS))))] s.heap.size = A at hD ⊢
  have hA : ∀ q : Nat, s.heap.size ≤ q → A q := fun q h => by rw [← hAe]; exact Or.inr h
  have hS : va_S A s.heap s.heap [] := va_S.rf
  have hP : va_P (dC, dI) vwCl [(y0, .inr (9, [.long w1, .long w2, .long ov, .int xh, .int xm, .int xu, .ref f1, .ref f2, .ref ma, .int xl, .int xs, .int sr, .ref q1, .ref q2, .long ta, .long tb, .long pv.1, .long pv.2, .ref v1, .ref v2, .ref dd])), (v1, .inl (cJ, 35, .inr (.inl (eF)))), (v2, .inl (cJ, 35, .inr (.inl (eS))))] s.heap := hP
  have hl := lv_entry ([.ref y0, .int (nI lf)]) (n := 3) (Nat.le_of_ble_eq_true rfl)
  rw [lg_entry_eq]
  generalize (lg_sl ([.ref y0, .int (nI lf)]) ++ List.replicate (3 - (lg_sl ([.ref y0, .int (nI lf)])).length) Slot.unset).toArray = ls at hl ⊢
  have iX9 : ∀ w ∈ wsX90, w ∈ wsX9_gather := by decide +kernel
  have f60 := hts (.fieldLink RX9 60 "LeafSignerModel" "open" "J") (by decide +kernel)
  have f29 := hts (.fieldLink RX9 29 "LeafSignerModel" "endFirsts" "[J") (by decide +kernel)
  have f32 := hts (.fieldLink RX9 32 "LeafSignerModel" "endSeconds" "[J") (by decide +kernel)
  have hl : lv_has ls 3 [(0, .ref y0), (1, .int (nI lf))] := hl
  refine lv_aload_n hx hb dX9_gather_0 rfl (lv_at hl 0 rfl) ?_
  refine lv_ldc2 hx hb hown (hts (.constantLong RX9 77 (3)) (by decide +kernel)) dX9_gather_1 ?_
  refine st_l (y := lN 3) (by decide) ?_
  refine lv_bipush (v := nI 72) hx hb dX9_gather_4 (by decide) ?_
  refine st_callv (va_runV (As := [.long (lN 3), .int (nI 72)]) (rest := []) ⟨hx, hb, hml, hown, hts⟩ (c_LeafSignerModel_take l dC dI cJ cI y0 f1 f2 ma q1 q2 v1 v2 dd w1 w2 ov ta tb xh xm xu xl xs sr pv (lN 3) (lN 72) (nI 72) (nI_l (by omega)) s.heap.size) (cwV 2 hts gX9_gather_X9_take rfl rfl rfl (by decide +kernel) ⟨Nat.le_of_ble_eq_true rfl, Nat.le_of_ble_eq_true rfl⟩) (st_preV hK hP hD [0] rfl rfl (ci := 9) (q0 := 0) rfl rfl) rfl rfl hl.1 rfl (lv_room (Nat.le_of_ble_eq_true rfl)) dX9_gather_6 ⟨Nat.le_of_ble_eq_true rfl, Nat.le_of_ble_eq_true rfl⟩) hP hD hS hA [0] [1, 2] (wr := [(v1, .inl (cJ, 35, .inr (.inl (eF)))), (v2, .inl (cJ, 35, .inr (.inl (eS))))]) rfl rfl (by decide) (by decide) [2, 0, 1] (res := fun _ => [(y0, .inr (9, [.long w1, .long w2, .long ov, .int xh, .int xm, .int xu, .ref f1, .ref f2, .ref ma, .int xl, .int xs, .int sr, .ref q1, .ref q2, .long ta, .long tb, .long (lN 3), .long (lN 72), .ref v1, .ref v2, .ref dd])), (v1, .inl (cJ, 35, .inr (.inl (eF)))), (v2, .inl (cJ, 35, .inr (.inl (eS))))]) (fun _ => rfl) (by decide) (fun  _ H locs hu hP hD hS => ?_)
  have hP : va_P (dC, dI) vwCl [(y0, .inr (9, [.long w1, .long w2, .long ov, .int xh, .int xm, .int xu, .ref f1, .ref f2, .ref ma, .int xl, .int xs, .int sr, .ref q1, .ref q2, .long ta, .long tb, .long (lN 3), .long (lN 72), .ref v1, .ref v2, .ref dd])), (v1, .inl (cJ, 35, .inr (.inl (eF)))), (v2, .inl (cJ, 35, .inr (.inl (eS))))] H := hP
  have hD : va_D A [(y0, .inr (9, [.long w1, .long w2, .long ov, .int xh, .int xm, .int xu, .ref f1, .ref f2, .ref ma, .int xl, .int xs, .int sr, .ref q1, .ref q2, .long ta, .long tb, .long (lN 3), .long (lN 72), .ref v1, .ref v2, .ref dd])), (v1, .inl (cJ, 35, .inr (.inl (eF)))), (v2, .inl (cJ, 35, .inr (.inl (eS))))] := hD
  refine lv_aload_n hx hb dX9_gather_9 rfl (lv_at hl 0 rfl) ?_
  refine lv_aload_n hx hb dX9_gather_10 rfl (lv_at hl 0 rfl) ?_
  refine va_get (D := (dC, dI)) (ci := 9) (v := .long ov) (C := RX9) (T := TX9) (N := 21) hx hb hts iX9 hown hK hP 0 rfl rfl 2 (by decide) f60 (fun _ h9 => h9) rfl dX9_gather_11 ?_
  refine st_callv (va_runV (As := [.long ov]) (rest := []) ⟨hx, hb, hml, hown, hts⟩ (c_LeafSignerModel_put l dC dI cJ cI y0 f1 f2 ma q1 q2 v1 v2 dd w1 w2 ov ta tb xh xm xu xl xs sr (lN 3, lN 72) ov  H.size) (cwV 1 hts gX9_gather_X9_put rfl rfl rfl (by decide +kernel) ⟨Nat.le_of_ble_eq_true rfl, Nat.le_of_ble_eq_true rfl⟩) (st_preV hK hP hD [0] rfl rfl (ci := 9) (q0 := 0) rfl rfl) rfl rfl hl.1 rfl (lv_room (Nat.le_of_ble_eq_true rfl)) dX9_gather_14 ⟨Nat.le_of_ble_eq_true rfl, Nat.le_of_ble_eq_true rfl⟩) hP hD hS hA [0] [1, 2] (wr := [(v1, .inl (cJ, 35, .inr (.inl (eF)))), (v2, .inl (cJ, 35, .inr (.inl (eS))))]) rfl rfl (by decide) (by decide) [2, 0, 1] (res := fun _ => [(y0, .inr (9, [.long w1, .long w2, .long ov, .int xh, .int xm, .int xu, .ref f1, .ref f2, .ref ma, .int xl, .int xs, .int sr, .ref q1, .ref q2, .long ta, .long tb, .long ((ha (lN 3, lN 72) ov).1), .long ((ha (lN 3, lN 72) ov).2), .ref v1, .ref v2, .ref dd])), (v1, .inl (cJ, 35, .inr (.inl (eF)))), (v2, .inl (cJ, 35, .inr (.inl (eS))))]) (fun _ => rfl) (by decide) (fun  _ H locs hu hP hD hS => ?_)
  have hP : va_P (dC, dI) vwCl [(y0, .inr (9, [.long w1, .long w2, .long ov, .int xh, .int xm, .int xu, .ref f1, .ref f2, .ref ma, .int xl, .int xs, .int sr, .ref q1, .ref q2, .long ta, .long tb, .long ((ha (lN 3, lN 72) ov).1), .long ((ha (lN 3, lN 72) ov).2), .ref v1, .ref v2, .ref dd])), (v1, .inl (cJ, 35, .inr (.inl (eF)))), (v2, .inl (cJ, 35, .inr (.inl (eS))))] H := hP
  have hD : va_D A [(y0, .inr (9, [.long w1, .long w2, .long ov, .int xh, .int xm, .int xu, .ref f1, .ref f2, .ref ma, .int xl, .int xs, .int sr, .ref q1, .ref q2, .long ta, .long tb, .long ((ha (lN 3, lN 72) ov).1), .long ((ha (lN 3, lN 72) ov).2), .ref v1, .ref v2, .ref dd])), (v1, .inl (cJ, 35, .inr (.inl (eF)))), (v2, .inl (cJ, 35, .inr (.inl (eS))))] := hD
  refine lv_aload_n hx hb dX9_gather_17 rfl (lv_at hl 0 rfl) ?_
  refine lv_iload_n hx hb dX9_gather_18 rfl (lv_at hl 1 rfl) ?_
  refine lv_i2l (v := lN lf) hx hb dX9_gather_19 (nI_l (by omega)) ?_
  refine st_callv (va_runV (As := [.long (lN lf)]) (rest := []) ⟨hx, hb, hml, hown, hts⟩ (c_LeafSignerModel_put l dC dI cJ cI y0 f1 f2 ma q1 q2 v1 v2 dd w1 w2 ov ta tb xh xm xu xl xs sr (ha (lN 3, lN 72) ov) (lN lf)  H.size) (cwV 1 hts gX9_gather_X9_put rfl rfl rfl (by decide +kernel) ⟨Nat.le_of_ble_eq_true rfl, Nat.le_of_ble_eq_true rfl⟩) (st_preV hK hP hD [0] rfl rfl (ci := 9) (q0 := 0) rfl rfl) rfl rfl hl.1 rfl (lv_room (Nat.le_of_ble_eq_true rfl)) dX9_gather_20 ⟨Nat.le_of_ble_eq_true rfl, Nat.le_of_ble_eq_true rfl⟩) hP hD hS hA [0] [1, 2] (wr := [(v1, .inl (cJ, 35, .inr (.inl (eF)))), (v2, .inl (cJ, 35, .inr (.inl (eS))))]) rfl rfl (by decide) (by decide) [2, 0, 1] (res := fun _ => [(y0, .inr (9, [.long w1, .long w2, .long ov, .int xh, .int xm, .int xu, .ref f1, .ref f2, .ref ma, .int xl, .int xs, .int sr, .ref q1, .ref q2, .long ta, .long tb, .long ((ha (ha (lN 3, lN 72) ov) (lN lf)).1), .long ((ha (ha (lN 3, lN 72) ov) (lN lf)).2), .ref v1, .ref v2, .ref dd])), (v1, .inl (cJ, 35, .inr (.inl (eF)))), (v2, .inl (cJ, 35, .inr (.inl (eS))))]) (fun _ => rfl) (by decide) (fun  _ H locs hu hP hD hS => ?_)
  have hP : va_P (dC, dI) vwCl [(y0, .inr (9, [.long w1, .long w2, .long ov, .int xh, .int xm, .int xu, .ref f1, .ref f2, .ref ma, .int xl, .int xs, .int sr, .ref q1, .ref q2, .long ta, .long tb, .long ((ha (ha (lN 3, lN 72) ov) (lN lf)).1), .long ((ha (ha (lN 3, lN 72) ov) (lN lf)).2), .ref v1, .ref v2, .ref dd])), (v1, .inl (cJ, 35, .inr (.inl (eF)))), (v2, .inl (cJ, 35, .inr (.inl (eS))))] H := hP
  have hD : va_D A [(y0, .inr (9, [.long w1, .long w2, .long ov, .int xh, .int xm, .int xu, .ref f1, .ref f2, .ref ma, .int xl, .int xs, .int sr, .ref q1, .ref q2, .long ta, .long tb, .long ((ha (ha (lN 3, lN 72) ov) (lN lf)).1), .long ((ha (ha (lN 3, lN 72) ov) (lN lf)).2), .ref v1, .ref v2, .ref dd])), (v1, .inl (cJ, 35, .inr (.inl (eF)))), (v2, .inl (cJ, 35, .inr (.inl (eS))))] := hD
  refine lv_iconst (v := nI 0) hx hb dX9_gather_23 (by decide) ?_
  refine lv_istore_n (lv' := [(2, .int (nI 0)), (0, .ref y0), (1, .int (nI lf))]) hx hb dX9_gather_24 rfl hl (by decide) rfl (fun ls hl => ?_)
  have eW_1 : ([(y0, .inr (9, [.long w1, .long w2, .long ov, .int xh, .int xm, .int xu, .ref f1, .ref f2, .ref ma, .int xl, .int xs, .int sr, .ref q1, .ref q2, .long ta, .long tb, .long ((ha (ha (lN 3, lN 72) ov) (lN lf)).1), .long ((ha (ha (lN 3, lN 72) ov) (lN lf)).2), .ref v1, .ref v2, .ref dd])), (v1, .inl (cJ, 35, .inr (.inl (eF)))), (v2, .inl (cJ, 35, .inr (.inl (eS))))] : va_W) = [(y0, .inr (9, [.long w1, .long w2, .long ov, .int xh, .int xm, .int xu, .ref f1, .ref f2, .ref ma, .int xl, .int xs, .int sr, .ref q1, .ref q2, .long ta, .long tb, .long ((hp (ha (ha (lN 3, lN 72) ov) (lN lf)) (fun k => (eF k, eS k)) 0).1), .long ((hp (ha (ha (lN 3, lN 72) ov) (lN lf)) (fun k => (eF k, eS k)) 0).2), .ref v1, .ref v2, .ref dd])), (v1, .inl (cJ, 35, .inr (.inl (eF)))), (v2, .inl (cJ, 35, .inr (.inl (eS))))] := rfl
  have hP : va_P (dC, dI) vwCl [(y0, .inr (9, [.long w1, .long w2, .long ov, .int xh, .int xm, .int xu, .ref f1, .ref f2, .ref ma, .int xl, .int xs, .int sr, .ref q1, .ref q2, .long ta, .long tb, .long ((hp (ha (ha (lN 3, lN 72) ov) (lN lf)) (fun k => (eF k, eS k)) 0).1), .long ((hp (ha (ha (lN 3, lN 72) ov) (lN lf)) (fun k => (eF k, eS k)) 0).2), .ref v1, .ref v2, .ref dd])), (v1, .inl (cJ, 35, .inr (.inl (eF)))), (v2, .inl (cJ, 35, .inr (.inl (eS))))] H := by rw [← eW_1]; exact hP
  have hD : va_D A [(y0, .inr (9, [.long w1, .long w2, .long ov, .int xh, .int xm, .int xu, .ref f1, .ref f2, .ref ma, .int xl, .int xs, .int sr, .ref q1, .ref q2, .long ta, .long tb, .long ((hp (ha (ha (lN 3, lN 72) ov) (lN lf)) (fun k => (eF k, eS k)) 0).1), .long ((hp (ha (ha (lN 3, lN 72) ov) (lN lf)) (fun k => (eF k, eS k)) 0).2), .ref v1, .ref v2, .ref dd])), (v1, .inl (cJ, 35, .inr (.inl (eF)))), (v2, .inl (cJ, 35, .inr (.inl (eS))))] := by rw [← eW_1]; exact hD
  refine st_loop (I := fun i H locs ls => va_P (dC, dI) vwCl [(y0, .inr (9, [.long w1, .long w2, .long ov, .int xh, .int xm, .int xu, .ref f1, .ref f2, .ref ma, .int xl, .int xs, .int sr, .ref q1, .ref q2, .long ta, .long tb, .long (hp (ha (ha (lN 3, lN 72) ov) (lN lf)) (fun k => (eF k, eS k)) i).1, .long (hp (ha (ha (lN 3, lN 72) ov) (lN lf)) (fun k => (eF k, eS k)) i).2, .ref v1, .ref v2, .ref dd])), (v1, .inl (cJ, 35, .inr (.inl (eF)))), (v2, .inl (cJ, 35, .inr (.inl (eS))))] H ∧ va_D A [(y0, .inr (9, [.long w1, .long w2, .long ov, .int xh, .int xm, .int xu, .ref f1, .ref f2, .ref ma, .int xl, .int xs, .int sr, .ref q1, .ref q2, .long ta, .long tb, .long (hp (ha (ha (lN 3, lN 72) ov) (lN lf)) (fun k => (eF k, eS k)) i).1, .long (hp (ha (ha (lN 3, lN 72) ov) (lN lf)) (fun k => (eF k, eS k)) i).2, .ref v1, .ref v2, .ref dd])), (v1, .inl (cJ, 35, .inr (.inl (eF)))), (v2, .inl (cJ, 35, .inr (.inl (eS))))] ∧ va_S A s.heap H locs ∧ lv_has ls 3 [(0, .ref y0), (1, .int (nI lf)), (2, .int (nI i))]) 0 35 (by omega) ⟨hP, hD, hS, lv_sub hl [1, 2, 0] rfl⟩ (fun H locs ls hI => ?_) (fun i H locs ls hi hI ih_25 => ?_)
  ·
    obtain ⟨hP, hD, hS, hl⟩ := hI
    have hP : va_P (dC, dI) vwCl [(y0, .inr (9, [.long w1, .long w2, .long ov, .int xh, .int xm, .int xu, .ref f1, .ref f2, .ref ma, .int xl, .int xs, .int sr, .ref q1, .ref q2, .long ta, .long tb, .long ((hp (ha (ha (lN 3, lN 72) ov) (lN lf)) (fun k => (eF k, eS k)) 35).1), .long ((hp (ha (ha (lN 3, lN 72) ov) (lN lf)) (fun k => (eF k, eS k)) 35).2), .ref v1, .ref v2, .ref dd])), (v1, .inl (cJ, 35, .inr (.inl (eF)))), (v2, .inl (cJ, 35, .inr (.inl (eS))))] H := hP
    have hD : va_D A [(y0, .inr (9, [.long w1, .long w2, .long ov, .int xh, .int xm, .int xu, .ref f1, .ref f2, .ref ma, .int xl, .int xs, .int sr, .ref q1, .ref q2, .long ta, .long tb, .long ((hp (ha (ha (lN 3, lN 72) ov) (lN lf)) (fun k => (eF k, eS k)) 35).1), .long ((hp (ha (ha (lN 3, lN 72) ov) (lN lf)) (fun k => (eF k, eS k)) 35).2), .ref v1, .ref v2, .ref dd])), (v1, .inl (cJ, 35, .inr (.inl (eF)))), (v2, .inl (cJ, 35, .inr (.inl (eS))))] := hD
    have hl : lv_has ls 3 [(0, .ref y0), (1, .int (nI lf)), (2, .int (nI 35))] := hl
    refine lv_iload_n hx hb dX9_gather_25 rfl (lv_at hl 2 rfl) ?_
    refine lv_bipush (v := nI 35) hx hb dX9_gather_26 (by decide) ?_
    refine lv_icmp_ge (tgt := 57) hx hb dX9_gather_28 (by decide) (fun c28 => ?_) (fun c28 => ?_)
    ·
      rw [q_le (by omega) (by omega)] at c28
      have eW_2 : ([(y0, .inr (9, [.long w1, .long w2, .long ov, .int xh, .int xm, .int xu, .ref f1, .ref f2, .ref ma, .int xl, .int xs, .int sr, .ref q1, .ref q2, .long ta, .long tb, .long ((hp (ha (ha (lN 3, lN 72) ov) (lN lf)) (fun k => (eF k, eS k)) 35).1), .long ((hp (ha (ha (lN 3, lN 72) ov) (lN lf)) (fun k => (eF k, eS k)) 35).2), .ref v1, .ref v2, .ref dd])), (v1, .inl (cJ, 35, .inr (.inl (eF)))), (v2, .inl (cJ, 35, .inr (.inl (eS))))] : va_W) = [(y0, .inr (9, [.long w1, .long w2, .long ov, .int xh, .int xm, .int xu, .ref f1, .ref f2, .ref ma, .int xl, .int xs, .int sr, .ref q1, .ref q2, .long ta, .long tb, .long ((lfv ov lf (fun k => (eF k, eS k))).1), .long ((lfv ov lf (fun k => (eF k, eS k))).2), .ref v1, .ref v2, .ref dd])), (v1, .inl (cJ, 35, .inr (.inl (eF)))), (v2, .inl (cJ, 35, .inr (.inl (eS))))] := rfl
      have hP : va_P (dC, dI) vwCl [(y0, .inr (9, [.long w1, .long w2, .long ov, .int xh, .int xm, .int xu, .ref f1, .ref f2, .ref ma, .int xl, .int xs, .int sr, .ref q1, .ref q2, .long ta, .long tb, .long ((lfv ov lf (fun k => (eF k, eS k))).1), .long ((lfv ov lf (fun k => (eF k, eS k))).2), .ref v1, .ref v2, .ref dd])), (v1, .inl (cJ, 35, .inr (.inl (eF)))), (v2, .inl (cJ, 35, .inr (.inl (eS))))] H := by rw [← eW_2]; exact hP
      have hD : va_D A [(y0, .inr (9, [.long w1, .long w2, .long ov, .int xh, .int xm, .int xu, .ref f1, .ref f2, .ref ma, .int xl, .int xs, .int sr, .ref q1, .ref q2, .long ta, .long tb, .long ((lfv ov lf (fun k => (eF k, eS k))).1), .long ((lfv ov lf (fun k => (eF k, eS k))).2), .ref v1, .ref v2, .ref dd])), (v1, .inl (cJ, 35, .inr (.inl (eF)))), (v2, .inl (cJ, 35, .inr (.inl (eS))))] := by rw [← eW_2]; exact hD
      exact W.vret hx hb hr (fun t ht hW => ⟨⟨(), rfl, trivial, by rw [ht]; exact hP, va_K.moved hW.alike hK, hD⟩, hS.F ht⟩) hS.2.2 dX9_gather_57
    ·
      rw [q_le (by omega) (by omega)] at c28
      exact absurd c28 (by omega)
  ·
    obtain ⟨hP, hD, hS, hl⟩ := hI
    have hP : va_P (dC, dI) vwCl [(y0, .inr (9, [.long w1, .long w2, .long ov, .int xh, .int xm, .int xu, .ref f1, .ref f2, .ref ma, .int xl, .int xs, .int sr, .ref q1, .ref q2, .long ta, .long tb, .long ((hp (ha (ha (lN 3, lN 72) ov) (lN lf)) (fun k => (eF k, eS k)) i).1), .long ((hp (ha (ha (lN 3, lN 72) ov) (lN lf)) (fun k => (eF k, eS k)) i).2), .ref v1, .ref v2, .ref dd])), (v1, .inl (cJ, 35, .inr (.inl (eF)))), (v2, .inl (cJ, 35, .inr (.inl (eS))))] H := hP
    have hD : va_D A [(y0, .inr (9, [.long w1, .long w2, .long ov, .int xh, .int xm, .int xu, .ref f1, .ref f2, .ref ma, .int xl, .int xs, .int sr, .ref q1, .ref q2, .long ta, .long tb, .long ((hp (ha (ha (lN 3, lN 72) ov) (lN lf)) (fun k => (eF k, eS k)) i).1), .long ((hp (ha (ha (lN 3, lN 72) ov) (lN lf)) (fun k => (eF k, eS k)) i).2), .ref v1, .ref v2, .ref dd])), (v1, .inl (cJ, 35, .inr (.inl (eF)))), (v2, .inl (cJ, 35, .inr (.inl (eS))))] := hD
    have hl : lv_has ls 3 [(0, .ref y0), (1, .int (nI lf)), (2, .int (nI i))] := hl
    refine lv_iload_n hx hb dX9_gather_25 rfl (lv_at hl 2 rfl) ?_
    refine lv_bipush (v := nI 35) hx hb dX9_gather_26 (by decide) ?_
    refine lv_icmp_ge (tgt := 57) hx hb dX9_gather_28 (by decide) (fun c28 => ?_) (fun c28 => ?_)
    ·
      rw [q_le (by omega) (by omega)] at c28
      exact absurd c28 (by omega)
    ·
      rw [q_le (by omega) (by omega)] at c28
      refine lv_aload_n hx hb dX9_gather_31 rfl (lv_at hl 0 rfl) ?_
      refine lv_aload_n hx hb dX9_gather_32 rfl (lv_at hl 0 rfl) ?_
      refine va_get (D := (dC, dI)) (ci := 9) (v := .ref v1) (C := RX9) (T := TX9) (N := 21) hx hb hts iX9 hown hK hP 0 rfl rfl 18 (by decide) f29 (fun _ h9 => h9) rfl dX9_gather_33 ?_
      refine lv_iload_n hx hb dX9_gather_36 rfl (lv_at hl 2 rfl) ?_
      refine st_lald hx hb hK hP 1 0 rfl rfl i rfl (by omega) (by omega) dX9_gather_37 ?_
      refine st_callv (va_runV (As := [.long (eF i)]) (rest := []) ⟨hx, hb, hml, hown, hts⟩ (c_LeafSignerModel_put l dC dI cJ cI y0 f1 f2 ma q1 q2 v1 v2 dd w1 w2 ov ta tb xh xm xu xl xs sr (hp (ha (ha (lN 3, lN 72) ov) (lN lf)) (fun k => (eF k, eS k)) i) (eF i)  H.size) (cwV 1 hts gX9_gather_X9_put rfl rfl rfl (by decide +kernel) ⟨Nat.le_of_ble_eq_true rfl, Nat.le_of_ble_eq_true rfl⟩) (st_preV hK hP hD [0] rfl rfl (ci := 9) (q0 := 0) rfl rfl) rfl rfl hl.1 rfl (lv_room (Nat.le_of_ble_eq_true rfl)) dX9_gather_38 ⟨Nat.le_of_ble_eq_true rfl, Nat.le_of_ble_eq_true rfl⟩) hP hD hS hA [0] [1, 2] (wr := [(v1, .inl (cJ, 35, .inr (.inl (eF)))), (v2, .inl (cJ, 35, .inr (.inl (eS))))]) rfl rfl (by decide) (by decide) [2, 0, 1] (res := fun _ => [(y0, .inr (9, [.long w1, .long w2, .long ov, .int xh, .int xm, .int xu, .ref f1, .ref f2, .ref ma, .int xl, .int xs, .int sr, .ref q1, .ref q2, .long ta, .long tb, .long ((ha (hp (ha (ha (lN 3, lN 72) ov) (lN lf)) (fun k => (eF k, eS k)) i) (eF i)).1), .long ((ha (hp (ha (ha (lN 3, lN 72) ov) (lN lf)) (fun k => (eF k, eS k)) i) (eF i)).2), .ref v1, .ref v2, .ref dd])), (v1, .inl (cJ, 35, .inr (.inl (eF)))), (v2, .inl (cJ, 35, .inr (.inl (eS))))]) (fun _ => rfl) (by decide) (fun  _ H locs hu hP hD hS => ?_)
      have hP : va_P (dC, dI) vwCl [(y0, .inr (9, [.long w1, .long w2, .long ov, .int xh, .int xm, .int xu, .ref f1, .ref f2, .ref ma, .int xl, .int xs, .int sr, .ref q1, .ref q2, .long ta, .long tb, .long ((ha (hp (ha (ha (lN 3, lN 72) ov) (lN lf)) (fun k => (eF k, eS k)) i) (eF i)).1), .long ((ha (hp (ha (ha (lN 3, lN 72) ov) (lN lf)) (fun k => (eF k, eS k)) i) (eF i)).2), .ref v1, .ref v2, .ref dd])), (v1, .inl (cJ, 35, .inr (.inl (eF)))), (v2, .inl (cJ, 35, .inr (.inl (eS))))] H := hP
      have hD : va_D A [(y0, .inr (9, [.long w1, .long w2, .long ov, .int xh, .int xm, .int xu, .ref f1, .ref f2, .ref ma, .int xl, .int xs, .int sr, .ref q1, .ref q2, .long ta, .long tb, .long ((ha (hp (ha (ha (lN 3, lN 72) ov) (lN lf)) (fun k => (eF k, eS k)) i) (eF i)).1), .long ((ha (hp (ha (ha (lN 3, lN 72) ov) (lN lf)) (fun k => (eF k, eS k)) i) (eF i)).2), .ref v1, .ref v2, .ref dd])), (v1, .inl (cJ, 35, .inr (.inl (eF)))), (v2, .inl (cJ, 35, .inr (.inl (eS))))] := hD
      refine lv_aload_n hx hb dX9_gather_41 rfl (lv_at hl 0 rfl) ?_
      refine lv_aload_n hx hb dX9_gather_42 rfl (lv_at hl 0 rfl) ?_
      refine va_get (D := (dC, dI)) (ci := 9) (v := .ref v2) (C := RX9) (T := TX9) (N := 21) hx hb hts iX9 hown hK hP 0 rfl rfl 19 (by decide) f32 (fun _ h9 => h9) rfl dX9_gather_43 ?_
      refine lv_iload_n hx hb dX9_gather_46 rfl (lv_at hl 2 rfl) ?_
      refine st_lald hx hb hK hP 2 0 rfl rfl i rfl (by omega) (by omega) dX9_gather_47 ?_
      refine st_callv (va_runV (As := [.long (eS i)]) (rest := []) ⟨hx, hb, hml, hown, hts⟩ (c_LeafSignerModel_put l dC dI cJ cI y0 f1 f2 ma q1 q2 v1 v2 dd w1 w2 ov ta tb xh xm xu xl xs sr (ha (hp (ha (ha (lN 3, lN 72) ov) (lN lf)) (fun k => (eF k, eS k)) i) (eF i)) (eS i)  H.size) (cwV 1 hts gX9_gather_X9_put rfl rfl rfl (by decide +kernel) ⟨Nat.le_of_ble_eq_true rfl, Nat.le_of_ble_eq_true rfl⟩) (st_preV hK hP hD [0] rfl rfl (ci := 9) (q0 := 0) rfl rfl) rfl rfl hl.1 rfl (lv_room (Nat.le_of_ble_eq_true rfl)) dX9_gather_48 ⟨Nat.le_of_ble_eq_true rfl, Nat.le_of_ble_eq_true rfl⟩) hP hD hS hA [0] [1, 2] (wr := [(v1, .inl (cJ, 35, .inr (.inl (eF)))), (v2, .inl (cJ, 35, .inr (.inl (eS))))]) rfl rfl (by decide) (by decide) [2, 0, 1] (res := fun _ => [(y0, .inr (9, [.long w1, .long w2, .long ov, .int xh, .int xm, .int xu, .ref f1, .ref f2, .ref ma, .int xl, .int xs, .int sr, .ref q1, .ref q2, .long ta, .long tb, .long ((ha (ha (hp (ha (ha (lN 3, lN 72) ov) (lN lf)) (fun k => (eF k, eS k)) i) (eF i)) (eS i)).1), .long ((ha (ha (hp (ha (ha (lN 3, lN 72) ov) (lN lf)) (fun k => (eF k, eS k)) i) (eF i)) (eS i)).2), .ref v1, .ref v2, .ref dd])), (v1, .inl (cJ, 35, .inr (.inl (eF)))), (v2, .inl (cJ, 35, .inr (.inl (eS))))]) (fun _ => rfl) (by decide) (fun  _ H locs hu hP hD hS => ?_)
      have hP : va_P (dC, dI) vwCl [(y0, .inr (9, [.long w1, .long w2, .long ov, .int xh, .int xm, .int xu, .ref f1, .ref f2, .ref ma, .int xl, .int xs, .int sr, .ref q1, .ref q2, .long ta, .long tb, .long ((ha (ha (hp (ha (ha (lN 3, lN 72) ov) (lN lf)) (fun k => (eF k, eS k)) i) (eF i)) (eS i)).1), .long ((ha (ha (hp (ha (ha (lN 3, lN 72) ov) (lN lf)) (fun k => (eF k, eS k)) i) (eF i)) (eS i)).2), .ref v1, .ref v2, .ref dd])), (v1, .inl (cJ, 35, .inr (.inl (eF)))), (v2, .inl (cJ, 35, .inr (.inl (eS))))] H := hP
      have hD : va_D A [(y0, .inr (9, [.long w1, .long w2, .long ov, .int xh, .int xm, .int xu, .ref f1, .ref f2, .ref ma, .int xl, .int xs, .int sr, .ref q1, .ref q2, .long ta, .long tb, .long ((ha (ha (hp (ha (ha (lN 3, lN 72) ov) (lN lf)) (fun k => (eF k, eS k)) i) (eF i)) (eS i)).1), .long ((ha (ha (hp (ha (ha (lN 3, lN 72) ov) (lN lf)) (fun k => (eF k, eS k)) i) (eF i)) (eS i)).2), .ref v1, .ref v2, .ref dd])), (v1, .inl (cJ, 35, .inr (.inl (eF)))), (v2, .inl (cJ, 35, .inr (.inl (eS))))] := hD
      refine lv_iinc (v := nI (i + 1)) (lv' := [(2, .int (nI (i + 1))), (0, .ref y0), (1, .int (nI lf))]) hx hb dX9_gather_51 hl (k := 2) rfl (st_inc i 1 (by decide)) (by decide) rfl (fun ls hl => ?_)
      refine lv_goto (tgt := 25) hx hb dX9_gather_54 (by decide) ?_
      have eW_3 : ([(y0, .inr (9, [.long w1, .long w2, .long ov, .int xh, .int xm, .int xu, .ref f1, .ref f2, .ref ma, .int xl, .int xs, .int sr, .ref q1, .ref q2, .long ta, .long tb, .long ((ha (ha (hp (ha (ha (lN 3, lN 72) ov) (lN lf)) (fun k => (eF k, eS k)) i) (eF i)) (eS i)).1), .long ((ha (ha (hp (ha (ha (lN 3, lN 72) ov) (lN lf)) (fun k => (eF k, eS k)) i) (eF i)) (eS i)).2), .ref v1, .ref v2, .ref dd])), (v1, .inl (cJ, 35, .inr (.inl (eF)))), (v2, .inl (cJ, 35, .inr (.inl (eS))))] : va_W) = [(y0, .inr (9, [.long w1, .long w2, .long ov, .int xh, .int xm, .int xu, .ref f1, .ref f2, .ref ma, .int xl, .int xs, .int sr, .ref q1, .ref q2, .long ta, .long tb, .long ((hp (ha (ha (lN 3, lN 72) ov) (lN lf)) (fun k => (eF k, eS k)) (i + 1)).1), .long ((hp (ha (ha (lN 3, lN 72) ov) (lN lf)) (fun k => (eF k, eS k)) (i + 1)).2), .ref v1, .ref v2, .ref dd])), (v1, .inl (cJ, 35, .inr (.inl (eF)))), (v2, .inl (cJ, 35, .inr (.inl (eS))))] := rfl
      have hP : va_P (dC, dI) vwCl [(y0, .inr (9, [.long w1, .long w2, .long ov, .int xh, .int xm, .int xu, .ref f1, .ref f2, .ref ma, .int xl, .int xs, .int sr, .ref q1, .ref q2, .long ta, .long tb, .long ((hp (ha (ha (lN 3, lN 72) ov) (lN lf)) (fun k => (eF k, eS k)) (i + 1)).1), .long ((hp (ha (ha (lN 3, lN 72) ov) (lN lf)) (fun k => (eF k, eS k)) (i + 1)).2), .ref v1, .ref v2, .ref dd])), (v1, .inl (cJ, 35, .inr (.inl (eF)))), (v2, .inl (cJ, 35, .inr (.inl (eS))))] H := by rw [← eW_3]; exact hP
      have hD : va_D A [(y0, .inr (9, [.long w1, .long w2, .long ov, .int xh, .int xm, .int xu, .ref f1, .ref f2, .ref ma, .int xl, .int xs, .int sr, .ref q1, .ref q2, .long ta, .long tb, .long ((hp (ha (ha (lN 3, lN 72) ov) (lN lf)) (fun k => (eF k, eS k)) (i + 1)).1), .long ((hp (ha (ha (lN 3, lN 72) ov) (lN lf)) (fun k => (eF k, eS k)) (i + 1)).2), .ref v1, .ref v2, .ref dd])), (v1, .inl (cJ, 35, .inr (.inl (eF)))), (v2, .inl (cJ, 35, .inr (.inl (eS))))] := by rw [← eW_3]; exact hD
      exact ih_25 _ _ _ ⟨hP, hD, hS, lv_sub hl [1, 2, 0] rfl⟩

set_option maxHeartbeats 4000000 in
set_option maxRecDepth 100000 in
theorem c_LeafSignerModel_join (l : Launch) (dC : Nat → ClassId) (dI : Nat → Nat → Nat) (cJ cI : ClassId) (y0 f1 f2 ma q1 q2 v1 v2 dd : Nat) (w1 w2 ov ta tb : Int64) (xh xm xu xl xs sr : Int32) (pv : Int64 × Int64) (lv iv : Nat) (x1 x2 x3 x4 : Int64) (hlv : lv < 2 ^ 31) (hiv : iv < 2 ^ 31) (sz : Nat) : Met l yX9_join wsX9_join ({ frames := 2, cells := 0, slots := 0, locals := 45 }) (va_Pc [.ref y0, .int (nI lv), .int (nI iv), .long x1, .long x2, .long x3, .long x4] (st_B (dC, dI) vwCl [(cJ, .long), (cI, .int)] [(y0, .inr (9, [.long w1, .long w2, .long ov, .int xh, .int xm, .int xu, .ref f1, .ref f2, .ref ma, .int xl, .int xs, .int sr, .ref q1, .ref q2, .long ta, .long tb, .long pv.1, .long pv.2, .ref v1, .ref v2, .ref dd]))] sz)) (va_Qv (fun _ : Unit => True) (st_E (dC, dI) vwCl [(cJ, .long), (cI, .int)] (va_A [(y0, .inr (9, [.long w1, .long w2, .long ov, .int xh, .int xm, .int xu, .ref f1, .ref f2, .ref ma, .int xl, .int xs, .int sr, .ref q1, .ref q2, .long ta, .long tb, .long pv.1, .long pv.2, .ref v1, .ref v2, .ref dd]))] sz) (fun _ => [(y0, .inr (9, [.long w1, .long w2, .long ov, .int xh, .int xm, .int xu, .ref f1, .ref f2, .ref ma, .int xl, .int xs, .int sr, .ref q1, .ref q2, .long ta, .long tb, .long ((nd ov lv iv (x1, x2) (x3, x4)).1), .long ((nd ov lv iv (x1, x2) (x3, x4)).2), .ref v1, .ref v2, .ref dd]))])) (va_A [(y0, .inr (9, [.long w1, .long w2, .long ov, .int xh, .int xm, .int xu, .ref f1, .ref f2, .ref ma, .int xl, .int xs, .int sr, .ref q1, .ref q2, .long ta, .long tb, .long pv.1, .long pv.2, .ref v1, .ref v2, .ref dd]))] sz)) 0 0 (va_A [(y0, .inr (9, [.long w1, .long w2, .long ov, .int xh, .int xm, .int xu, .ref f1, .ref f2, .ref ma, .int xl, .int xs, .int sr, .ref q1, .ref q2, .long ta, .long tb, .long pv.1, .long pv.2, .ref v1, .ref v2, .ref dd]))] sz) := by
  refine Met.ofW (cc := cX9_join) (maxL := 11) (ret := none) (by decide) rfl ?_
  intro p e s m args below meth c s₁ B hml hv
  obtain ⟨rfl, hsz, hP, hK, hD0⟩ := hv
  have hx := B.exec
  have hb := B.bytes
  have hr := B.returns
  have hts := atoms_spec (ws := wsX9_join) B.pre
  have hown : s.vm.findClass RX9 = some m.cls := findClass_of_methodNamed B.named
  have hlocks := B.notSynchronized
  subst hsz
  have hD := hD0.self (sz := s.heap.size)
  generalize hAe : va_A [(y0, .inr (9, [.long w1, .long w2, .long ov, .int xh, .int xm, .int xu, .ref f1, .ref f2, .ref ma, .int xl, .int xs, .int sr, .ref q1, .ref q2, .long ta, .long tb, .long pv.1, .long pv.2, .ref v1, .ref v2, .ref dd]))] s.heap.size = A at hD ⊢
  have hA : ∀ q : Nat, s.heap.size ≤ q → A q := fun q h => by rw [← hAe]; exact Or.inr h
  have hS : va_S A s.heap s.heap [] := va_S.rf
  have hP : va_P (dC, dI) vwCl [(y0, .inr (9, [.long w1, .long w2, .long ov, .int xh, .int xm, .int xu, .ref f1, .ref f2, .ref ma, .int xl, .int xs, .int sr, .ref q1, .ref q2, .long ta, .long tb, .long pv.1, .long pv.2, .ref v1, .ref v2, .ref dd]))] s.heap := hP
  have hl := lv_entry ([.ref y0, .int (nI lv), .int (nI iv), .long x1, .long x2, .long x3, .long x4]) (n := 11) (Nat.le_of_ble_eq_true rfl)
  rw [lg_entry_eq]
  generalize (lg_sl ([.ref y0, .int (nI lv), .int (nI iv), .long x1, .long x2, .long x3, .long x4]) ++ List.replicate (11 - (lg_sl ([.ref y0, .int (nI lv), .int (nI iv), .long x1, .long x2, .long x3, .long x4])).length) Slot.unset).toArray = ls at hl ⊢
  have iX9 : ∀ w ∈ wsX90, w ∈ wsX9_join := by decide +kernel
  have f60 := hts (.fieldLink RX9 60 "LeafSignerModel" "open" "J") (by decide +kernel)
  have hl : lv_has ls 11 [(0, .ref y0), (1, .int (nI lv)), (2, .int (nI iv)), (3, .long x1), (5, .long x2), (7, .long x3), (9, .long x4)] := hl
  refine lv_aload_n hx hb dX9_join_0 rfl (lv_at hl 0 rfl) ?_
  refine lv_ldc2 hx hb hown (hts (.constantLong RX9 79 (4)) (by decide +kernel)) dX9_join_1 ?_
  refine st_l (y := lN 4) (by decide) ?_
  refine lv_bipush (v := nI 7) hx hb dX9_join_4 (by decide) ?_
  refine st_callv (va_runV (As := [.long (lN 4), .int (nI 7)]) (rest := []) ⟨hx, hb, hml, hown, hts⟩ (c_LeafSignerModel_take l dC dI cJ cI y0 f1 f2 ma q1 q2 v1 v2 dd w1 w2 ov ta tb xh xm xu xl xs sr pv (lN 4) (lN 7) (nI 7) (nI_l (by omega)) s.heap.size) (cwV 2 hts gX9_join_X9_take rfl rfl rfl (by decide +kernel) ⟨Nat.le_of_ble_eq_true rfl, Nat.le_of_ble_eq_true rfl⟩) (st_preV hK hP hD [0] rfl rfl (ci := 9) (q0 := 0) rfl rfl) rfl rfl hl.1 rfl (lv_room (Nat.le_of_ble_eq_true rfl)) dX9_join_6 ⟨Nat.le_of_ble_eq_true rfl, Nat.le_of_ble_eq_true rfl⟩) hP hD hS hA [0] [] (wr := []) rfl rfl (by decide) (by decide) [0] (res := fun _ => [(y0, .inr (9, [.long w1, .long w2, .long ov, .int xh, .int xm, .int xu, .ref f1, .ref f2, .ref ma, .int xl, .int xs, .int sr, .ref q1, .ref q2, .long ta, .long tb, .long (lN 4), .long (lN 7), .ref v1, .ref v2, .ref dd]))]) (fun _ => rfl) (by decide) (fun  _ H locs hu hP hD hS => ?_)
  have hP : va_P (dC, dI) vwCl [(y0, .inr (9, [.long w1, .long w2, .long ov, .int xh, .int xm, .int xu, .ref f1, .ref f2, .ref ma, .int xl, .int xs, .int sr, .ref q1, .ref q2, .long ta, .long tb, .long (lN 4), .long (lN 7), .ref v1, .ref v2, .ref dd]))] H := hP
  have hD : va_D A [(y0, .inr (9, [.long w1, .long w2, .long ov, .int xh, .int xm, .int xu, .ref f1, .ref f2, .ref ma, .int xl, .int xs, .int sr, .ref q1, .ref q2, .long ta, .long tb, .long (lN 4), .long (lN 7), .ref v1, .ref v2, .ref dd]))] := hD
  refine lv_aload_n hx hb dX9_join_9 rfl (lv_at hl 0 rfl) ?_
  refine lv_aload_n hx hb dX9_join_10 rfl (lv_at hl 0 rfl) ?_
  refine va_get (D := (dC, dI)) (ci := 9) (v := .long ov) (C := RX9) (T := TX9) (N := 21) hx hb hts iX9 hown hK hP 0 rfl rfl 2 (by decide) f60 (fun _ h9 => h9) rfl dX9_join_11 ?_
  refine st_callv (va_runV (As := [.long ov]) (rest := []) ⟨hx, hb, hml, hown, hts⟩ (c_LeafSignerModel_put l dC dI cJ cI y0 f1 f2 ma q1 q2 v1 v2 dd w1 w2 ov ta tb xh xm xu xl xs sr (lN 4, lN 7) ov  H.size) (cwV 1 hts gX9_join_X9_put rfl rfl rfl (by decide +kernel) ⟨Nat.le_of_ble_eq_true rfl, Nat.le_of_ble_eq_true rfl⟩) (st_preV hK hP hD [0] rfl rfl (ci := 9) (q0 := 0) rfl rfl) rfl rfl hl.1 rfl (lv_room (Nat.le_of_ble_eq_true rfl)) dX9_join_14 ⟨Nat.le_of_ble_eq_true rfl, Nat.le_of_ble_eq_true rfl⟩) hP hD hS hA [0] [] (wr := []) rfl rfl (by decide) (by decide) [0] (res := fun _ => [(y0, .inr (9, [.long w1, .long w2, .long ov, .int xh, .int xm, .int xu, .ref f1, .ref f2, .ref ma, .int xl, .int xs, .int sr, .ref q1, .ref q2, .long ta, .long tb, .long ((ha (lN 4, lN 7) ov).1), .long ((ha (lN 4, lN 7) ov).2), .ref v1, .ref v2, .ref dd]))]) (fun _ => rfl) (by decide) (fun  _ H locs hu hP hD hS => ?_)
  have hP : va_P (dC, dI) vwCl [(y0, .inr (9, [.long w1, .long w2, .long ov, .int xh, .int xm, .int xu, .ref f1, .ref f2, .ref ma, .int xl, .int xs, .int sr, .ref q1, .ref q2, .long ta, .long tb, .long ((ha (lN 4, lN 7) ov).1), .long ((ha (lN 4, lN 7) ov).2), .ref v1, .ref v2, .ref dd]))] H := hP
  have hD : va_D A [(y0, .inr (9, [.long w1, .long w2, .long ov, .int xh, .int xm, .int xu, .ref f1, .ref f2, .ref ma, .int xl, .int xs, .int sr, .ref q1, .ref q2, .long ta, .long tb, .long ((ha (lN 4, lN 7) ov).1), .long ((ha (lN 4, lN 7) ov).2), .ref v1, .ref v2, .ref dd]))] := hD
  refine lv_aload_n hx hb dX9_join_17 rfl (lv_at hl 0 rfl) ?_
  refine lv_iload_n hx hb dX9_join_18 rfl (lv_at hl 1 rfl) ?_
  refine lv_i2l (v := lN lv) hx hb dX9_join_19 (nI_l (by omega)) ?_
  refine st_callv (va_runV (As := [.long (lN lv)]) (rest := []) ⟨hx, hb, hml, hown, hts⟩ (c_LeafSignerModel_put l dC dI cJ cI y0 f1 f2 ma q1 q2 v1 v2 dd w1 w2 ov ta tb xh xm xu xl xs sr (ha (lN 4, lN 7) ov) (lN lv)  H.size) (cwV 1 hts gX9_join_X9_put rfl rfl rfl (by decide +kernel) ⟨Nat.le_of_ble_eq_true rfl, Nat.le_of_ble_eq_true rfl⟩) (st_preV hK hP hD [0] rfl rfl (ci := 9) (q0 := 0) rfl rfl) rfl rfl hl.1 rfl (lv_room (Nat.le_of_ble_eq_true rfl)) dX9_join_20 ⟨Nat.le_of_ble_eq_true rfl, Nat.le_of_ble_eq_true rfl⟩) hP hD hS hA [0] [] (wr := []) rfl rfl (by decide) (by decide) [0] (res := fun _ => [(y0, .inr (9, [.long w1, .long w2, .long ov, .int xh, .int xm, .int xu, .ref f1, .ref f2, .ref ma, .int xl, .int xs, .int sr, .ref q1, .ref q2, .long ta, .long tb, .long ((ha (ha (lN 4, lN 7) ov) (lN lv)).1), .long ((ha (ha (lN 4, lN 7) ov) (lN lv)).2), .ref v1, .ref v2, .ref dd]))]) (fun _ => rfl) (by decide) (fun  _ H locs hu hP hD hS => ?_)
  have hP : va_P (dC, dI) vwCl [(y0, .inr (9, [.long w1, .long w2, .long ov, .int xh, .int xm, .int xu, .ref f1, .ref f2, .ref ma, .int xl, .int xs, .int sr, .ref q1, .ref q2, .long ta, .long tb, .long ((ha (ha (lN 4, lN 7) ov) (lN lv)).1), .long ((ha (ha (lN 4, lN 7) ov) (lN lv)).2), .ref v1, .ref v2, .ref dd]))] H := hP
  have hD : va_D A [(y0, .inr (9, [.long w1, .long w2, .long ov, .int xh, .int xm, .int xu, .ref f1, .ref f2, .ref ma, .int xl, .int xs, .int sr, .ref q1, .ref q2, .long ta, .long tb, .long ((ha (ha (lN 4, lN 7) ov) (lN lv)).1), .long ((ha (ha (lN 4, lN 7) ov) (lN lv)).2), .ref v1, .ref v2, .ref dd]))] := hD
  refine lv_aload_n hx hb dX9_join_23 rfl (lv_at hl 0 rfl) ?_
  refine lv_iload_n hx hb dX9_join_24 rfl (lv_at hl 2 rfl) ?_
  refine lv_i2l (v := lN iv) hx hb dX9_join_25 (nI_l (by omega)) ?_
  refine st_callv (va_runV (As := [.long (lN iv)]) (rest := []) ⟨hx, hb, hml, hown, hts⟩ (c_LeafSignerModel_put l dC dI cJ cI y0 f1 f2 ma q1 q2 v1 v2 dd w1 w2 ov ta tb xh xm xu xl xs sr (ha (ha (lN 4, lN 7) ov) (lN lv)) (lN iv)  H.size) (cwV 1 hts gX9_join_X9_put rfl rfl rfl (by decide +kernel) ⟨Nat.le_of_ble_eq_true rfl, Nat.le_of_ble_eq_true rfl⟩) (st_preV hK hP hD [0] rfl rfl (ci := 9) (q0 := 0) rfl rfl) rfl rfl hl.1 rfl (lv_room (Nat.le_of_ble_eq_true rfl)) dX9_join_26 ⟨Nat.le_of_ble_eq_true rfl, Nat.le_of_ble_eq_true rfl⟩) hP hD hS hA [0] [] (wr := []) rfl rfl (by decide) (by decide) [0] (res := fun _ => [(y0, .inr (9, [.long w1, .long w2, .long ov, .int xh, .int xm, .int xu, .ref f1, .ref f2, .ref ma, .int xl, .int xs, .int sr, .ref q1, .ref q2, .long ta, .long tb, .long ((ha (ha (ha (lN 4, lN 7) ov) (lN lv)) (lN iv)).1), .long ((ha (ha (ha (lN 4, lN 7) ov) (lN lv)) (lN iv)).2), .ref v1, .ref v2, .ref dd]))]) (fun _ => rfl) (by decide) (fun  _ H locs hu hP hD hS => ?_)
  have hP : va_P (dC, dI) vwCl [(y0, .inr (9, [.long w1, .long w2, .long ov, .int xh, .int xm, .int xu, .ref f1, .ref f2, .ref ma, .int xl, .int xs, .int sr, .ref q1, .ref q2, .long ta, .long tb, .long ((ha (ha (ha (lN 4, lN 7) ov) (lN lv)) (lN iv)).1), .long ((ha (ha (ha (lN 4, lN 7) ov) (lN lv)) (lN iv)).2), .ref v1, .ref v2, .ref dd]))] H := hP
  have hD : va_D A [(y0, .inr (9, [.long w1, .long w2, .long ov, .int xh, .int xm, .int xu, .ref f1, .ref f2, .ref ma, .int xl, .int xs, .int sr, .ref q1, .ref q2, .long ta, .long tb, .long ((ha (ha (ha (lN 4, lN 7) ov) (lN lv)) (lN iv)).1), .long ((ha (ha (ha (lN 4, lN 7) ov) (lN lv)) (lN iv)).2), .ref v1, .ref v2, .ref dd]))] := hD
  refine lv_aload_n hx hb dX9_join_29 rfl (lv_at hl 0 rfl) ?_
  refine lv_lload_n hx hb dX9_join_30 rfl (lv_at hl 3 rfl) ?_
  refine st_callv (va_runV (As := [.long x1]) (rest := []) ⟨hx, hb, hml, hown, hts⟩ (c_LeafSignerModel_put l dC dI cJ cI y0 f1 f2 ma q1 q2 v1 v2 dd w1 w2 ov ta tb xh xm xu xl xs sr (ha (ha (ha (lN 4, lN 7) ov) (lN lv)) (lN iv)) x1  H.size) (cwV 1 hts gX9_join_X9_put rfl rfl rfl (by decide +kernel) ⟨Nat.le_of_ble_eq_true rfl, Nat.le_of_ble_eq_true rfl⟩) (st_preV hK hP hD [0] rfl rfl (ci := 9) (q0 := 0) rfl rfl) rfl rfl hl.1 rfl (lv_room (Nat.le_of_ble_eq_true rfl)) dX9_join_31 ⟨Nat.le_of_ble_eq_true rfl, Nat.le_of_ble_eq_true rfl⟩) hP hD hS hA [0] [] (wr := []) rfl rfl (by decide) (by decide) [0] (res := fun _ => [(y0, .inr (9, [.long w1, .long w2, .long ov, .int xh, .int xm, .int xu, .ref f1, .ref f2, .ref ma, .int xl, .int xs, .int sr, .ref q1, .ref q2, .long ta, .long tb, .long ((ha (ha (ha (ha (lN 4, lN 7) ov) (lN lv)) (lN iv)) x1).1), .long ((ha (ha (ha (ha (lN 4, lN 7) ov) (lN lv)) (lN iv)) x1).2), .ref v1, .ref v2, .ref dd]))]) (fun _ => rfl) (by decide) (fun  _ H locs hu hP hD hS => ?_)
  have hP : va_P (dC, dI) vwCl [(y0, .inr (9, [.long w1, .long w2, .long ov, .int xh, .int xm, .int xu, .ref f1, .ref f2, .ref ma, .int xl, .int xs, .int sr, .ref q1, .ref q2, .long ta, .long tb, .long ((ha (ha (ha (ha (lN 4, lN 7) ov) (lN lv)) (lN iv)) x1).1), .long ((ha (ha (ha (ha (lN 4, lN 7) ov) (lN lv)) (lN iv)) x1).2), .ref v1, .ref v2, .ref dd]))] H := hP
  have hD : va_D A [(y0, .inr (9, [.long w1, .long w2, .long ov, .int xh, .int xm, .int xu, .ref f1, .ref f2, .ref ma, .int xl, .int xs, .int sr, .ref q1, .ref q2, .long ta, .long tb, .long ((ha (ha (ha (ha (lN 4, lN 7) ov) (lN lv)) (lN iv)) x1).1), .long ((ha (ha (ha (ha (lN 4, lN 7) ov) (lN lv)) (lN iv)) x1).2), .ref v1, .ref v2, .ref dd]))] := hD
  refine lv_aload_n hx hb dX9_join_34 rfl (lv_at hl 0 rfl) ?_
  refine lv_lload hx hb dX9_join_35 (lv_at hl 4 rfl) ?_
  refine st_callv (va_runV (As := [.long x2]) (rest := []) ⟨hx, hb, hml, hown, hts⟩ (c_LeafSignerModel_put l dC dI cJ cI y0 f1 f2 ma q1 q2 v1 v2 dd w1 w2 ov ta tb xh xm xu xl xs sr (ha (ha (ha (ha (lN 4, lN 7) ov) (lN lv)) (lN iv)) x1) x2  H.size) (cwV 1 hts gX9_join_X9_put rfl rfl rfl (by decide +kernel) ⟨Nat.le_of_ble_eq_true rfl, Nat.le_of_ble_eq_true rfl⟩) (st_preV hK hP hD [0] rfl rfl (ci := 9) (q0 := 0) rfl rfl) rfl rfl hl.1 rfl (lv_room (Nat.le_of_ble_eq_true rfl)) dX9_join_37 ⟨Nat.le_of_ble_eq_true rfl, Nat.le_of_ble_eq_true rfl⟩) hP hD hS hA [0] [] (wr := []) rfl rfl (by decide) (by decide) [0] (res := fun _ => [(y0, .inr (9, [.long w1, .long w2, .long ov, .int xh, .int xm, .int xu, .ref f1, .ref f2, .ref ma, .int xl, .int xs, .int sr, .ref q1, .ref q2, .long ta, .long tb, .long ((ha (ha (ha (ha (ha (lN 4, lN 7) ov) (lN lv)) (lN iv)) x1) x2).1), .long ((ha (ha (ha (ha (ha (lN 4, lN 7) ov) (lN lv)) (lN iv)) x1) x2).2), .ref v1, .ref v2, .ref dd]))]) (fun _ => rfl) (by decide) (fun  _ H locs hu hP hD hS => ?_)
  have hP : va_P (dC, dI) vwCl [(y0, .inr (9, [.long w1, .long w2, .long ov, .int xh, .int xm, .int xu, .ref f1, .ref f2, .ref ma, .int xl, .int xs, .int sr, .ref q1, .ref q2, .long ta, .long tb, .long ((ha (ha (ha (ha (ha (lN 4, lN 7) ov) (lN lv)) (lN iv)) x1) x2).1), .long ((ha (ha (ha (ha (ha (lN 4, lN 7) ov) (lN lv)) (lN iv)) x1) x2).2), .ref v1, .ref v2, .ref dd]))] H := hP
  have hD : va_D A [(y0, .inr (9, [.long w1, .long w2, .long ov, .int xh, .int xm, .int xu, .ref f1, .ref f2, .ref ma, .int xl, .int xs, .int sr, .ref q1, .ref q2, .long ta, .long tb, .long ((ha (ha (ha (ha (ha (lN 4, lN 7) ov) (lN lv)) (lN iv)) x1) x2).1), .long ((ha (ha (ha (ha (ha (lN 4, lN 7) ov) (lN lv)) (lN iv)) x1) x2).2), .ref v1, .ref v2, .ref dd]))] := hD
  refine lv_aload_n hx hb dX9_join_40 rfl (lv_at hl 0 rfl) ?_
  refine lv_lload hx hb dX9_join_41 (lv_at hl 5 rfl) ?_
  refine st_callv (va_runV (As := [.long x3]) (rest := []) ⟨hx, hb, hml, hown, hts⟩ (c_LeafSignerModel_put l dC dI cJ cI y0 f1 f2 ma q1 q2 v1 v2 dd w1 w2 ov ta tb xh xm xu xl xs sr (ha (ha (ha (ha (ha (lN 4, lN 7) ov) (lN lv)) (lN iv)) x1) x2) x3  H.size) (cwV 1 hts gX9_join_X9_put rfl rfl rfl (by decide +kernel) ⟨Nat.le_of_ble_eq_true rfl, Nat.le_of_ble_eq_true rfl⟩) (st_preV hK hP hD [0] rfl rfl (ci := 9) (q0 := 0) rfl rfl) rfl rfl hl.1 rfl (lv_room (Nat.le_of_ble_eq_true rfl)) dX9_join_43 ⟨Nat.le_of_ble_eq_true rfl, Nat.le_of_ble_eq_true rfl⟩) hP hD hS hA [0] [] (wr := []) rfl rfl (by decide) (by decide) [0] (res := fun _ => [(y0, .inr (9, [.long w1, .long w2, .long ov, .int xh, .int xm, .int xu, .ref f1, .ref f2, .ref ma, .int xl, .int xs, .int sr, .ref q1, .ref q2, .long ta, .long tb, .long ((ha (ha (ha (ha (ha (ha (lN 4, lN 7) ov) (lN lv)) (lN iv)) x1) x2) x3).1), .long ((ha (ha (ha (ha (ha (ha (lN 4, lN 7) ov) (lN lv)) (lN iv)) x1) x2) x3).2), .ref v1, .ref v2, .ref dd]))]) (fun _ => rfl) (by decide) (fun  _ H locs hu hP hD hS => ?_)
  have hP : va_P (dC, dI) vwCl [(y0, .inr (9, [.long w1, .long w2, .long ov, .int xh, .int xm, .int xu, .ref f1, .ref f2, .ref ma, .int xl, .int xs, .int sr, .ref q1, .ref q2, .long ta, .long tb, .long ((ha (ha (ha (ha (ha (ha (lN 4, lN 7) ov) (lN lv)) (lN iv)) x1) x2) x3).1), .long ((ha (ha (ha (ha (ha (ha (lN 4, lN 7) ov) (lN lv)) (lN iv)) x1) x2) x3).2), .ref v1, .ref v2, .ref dd]))] H := hP
  have hD : va_D A [(y0, .inr (9, [.long w1, .long w2, .long ov, .int xh, .int xm, .int xu, .ref f1, .ref f2, .ref ma, .int xl, .int xs, .int sr, .ref q1, .ref q2, .long ta, .long tb, .long ((ha (ha (ha (ha (ha (ha (lN 4, lN 7) ov) (lN lv)) (lN iv)) x1) x2) x3).1), .long ((ha (ha (ha (ha (ha (ha (lN 4, lN 7) ov) (lN lv)) (lN iv)) x1) x2) x3).2), .ref v1, .ref v2, .ref dd]))] := hD
  refine lv_aload_n hx hb dX9_join_46 rfl (lv_at hl 0 rfl) ?_
  refine lv_lload hx hb dX9_join_47 (lv_at hl 6 rfl) ?_
  refine st_callv (va_runV (As := [.long x4]) (rest := []) ⟨hx, hb, hml, hown, hts⟩ (c_LeafSignerModel_put l dC dI cJ cI y0 f1 f2 ma q1 q2 v1 v2 dd w1 w2 ov ta tb xh xm xu xl xs sr (ha (ha (ha (ha (ha (ha (lN 4, lN 7) ov) (lN lv)) (lN iv)) x1) x2) x3) x4  H.size) (cwV 1 hts gX9_join_X9_put rfl rfl rfl (by decide +kernel) ⟨Nat.le_of_ble_eq_true rfl, Nat.le_of_ble_eq_true rfl⟩) (st_preV hK hP hD [0] rfl rfl (ci := 9) (q0 := 0) rfl rfl) rfl rfl hl.1 rfl (lv_room (Nat.le_of_ble_eq_true rfl)) dX9_join_49 ⟨Nat.le_of_ble_eq_true rfl, Nat.le_of_ble_eq_true rfl⟩) hP hD hS hA [0] [] (wr := []) rfl rfl (by decide) (by decide) [0] (res := fun _ => [(y0, .inr (9, [.long w1, .long w2, .long ov, .int xh, .int xm, .int xu, .ref f1, .ref f2, .ref ma, .int xl, .int xs, .int sr, .ref q1, .ref q2, .long ta, .long tb, .long ((ha (ha (ha (ha (ha (ha (ha (lN 4, lN 7) ov) (lN lv)) (lN iv)) x1) x2) x3) x4).1), .long ((ha (ha (ha (ha (ha (ha (ha (lN 4, lN 7) ov) (lN lv)) (lN iv)) x1) x2) x3) x4).2), .ref v1, .ref v2, .ref dd]))]) (fun _ => rfl) (by decide) (fun  _ H locs hu hP hD hS => ?_)
  have hP : va_P (dC, dI) vwCl [(y0, .inr (9, [.long w1, .long w2, .long ov, .int xh, .int xm, .int xu, .ref f1, .ref f2, .ref ma, .int xl, .int xs, .int sr, .ref q1, .ref q2, .long ta, .long tb, .long ((ha (ha (ha (ha (ha (ha (ha (lN 4, lN 7) ov) (lN lv)) (lN iv)) x1) x2) x3) x4).1), .long ((ha (ha (ha (ha (ha (ha (ha (lN 4, lN 7) ov) (lN lv)) (lN iv)) x1) x2) x3) x4).2), .ref v1, .ref v2, .ref dd]))] H := hP
  have hD : va_D A [(y0, .inr (9, [.long w1, .long w2, .long ov, .int xh, .int xm, .int xu, .ref f1, .ref f2, .ref ma, .int xl, .int xs, .int sr, .ref q1, .ref q2, .long ta, .long tb, .long ((ha (ha (ha (ha (ha (ha (ha (lN 4, lN 7) ov) (lN lv)) (lN iv)) x1) x2) x3) x4).1), .long ((ha (ha (ha (ha (ha (ha (ha (lN 4, lN 7) ov) (lN lv)) (lN iv)) x1) x2) x3) x4).2), .ref v1, .ref v2, .ref dd]))] := hD
  have eW_1 : ([(y0, .inr (9, [.long w1, .long w2, .long ov, .int xh, .int xm, .int xu, .ref f1, .ref f2, .ref ma, .int xl, .int xs, .int sr, .ref q1, .ref q2, .long ta, .long tb, .long ((ha (ha (ha (ha (ha (ha (ha (lN 4, lN 7) ov) (lN lv)) (lN iv)) x1) x2) x3) x4).1), .long ((ha (ha (ha (ha (ha (ha (ha (lN 4, lN 7) ov) (lN lv)) (lN iv)) x1) x2) x3) x4).2), .ref v1, .ref v2, .ref dd]))] : va_W) = [(y0, .inr (9, [.long w1, .long w2, .long ov, .int xh, .int xm, .int xu, .ref f1, .ref f2, .ref ma, .int xl, .int xs, .int sr, .ref q1, .ref q2, .long ta, .long tb, .long ((nd ov lv iv (x1, x2) (x3, x4)).1), .long ((nd ov lv iv (x1, x2) (x3, x4)).2), .ref v1, .ref v2, .ref dd]))] := rfl
  have hP : va_P (dC, dI) vwCl [(y0, .inr (9, [.long w1, .long w2, .long ov, .int xh, .int xm, .int xu, .ref f1, .ref f2, .ref ma, .int xl, .int xs, .int sr, .ref q1, .ref q2, .long ta, .long tb, .long ((nd ov lv iv (x1, x2) (x3, x4)).1), .long ((nd ov lv iv (x1, x2) (x3, x4)).2), .ref v1, .ref v2, .ref dd]))] H := by rw [← eW_1]; exact hP
  have hD : va_D A [(y0, .inr (9, [.long w1, .long w2, .long ov, .int xh, .int xm, .int xu, .ref f1, .ref f2, .ref ma, .int xl, .int xs, .int sr, .ref q1, .ref q2, .long ta, .long tb, .long ((nd ov lv iv (x1, x2) (x3, x4)).1), .long ((nd ov lv iv (x1, x2) (x3, x4)).2), .ref v1, .ref v2, .ref dd]))] := by rw [← eW_1]; exact hD
  exact W.vret hx hb hr (fun t ht hW => ⟨⟨(), rfl, trivial, by rw [ht]; exact hP, va_K.moved hW.alike hK, hD⟩, hS.F ht⟩) hS.2.2 dX9_join_52

set_option maxHeartbeats 4000000 in
set_option maxRecDepth 100000 in
theorem c_LeafSignerModel_at (l : Launch) (dC : Nat → ClassId) (dI : Nat → Nat → Nat) (cJ cI : ClassId) (lv iv : Nat) (hlv : lv ≤ 4) (sz : Nat) : Met l yX9_at wsX9_at ({ frames := 0, cells := 0, slots := 0, locals := 0 }) (va_Pc [.int (nI lv), .int (nI iv)] (st_B (dC, dI) vwCl [(cJ, .long), (cI, .int)] [] sz)) (va_Qi (fun (r : Int32) (_ : Unit) => r = nI (32 - 32 / 2 ^ lv + iv)) (st_E (dC, dI) vwCl [(cJ, .long), (cI, .int)] (va_A [] sz) (fun _ => [])) (va_A [] sz)) 0 0 (va_A [] sz) := by
  refine Met.ofW (cc := cX9_at) (maxL := 2) (ret := (some .int)) (by decide) rfl ?_
  intro p e s m args below meth c s₁ B hml hv
  obtain ⟨rfl, hsz, hP, hK, hD0⟩ := hv
  have hx := B.exec
  have hb := B.bytes
  have hr := B.returns
  have hts := atoms_spec (ws := wsX9_at) B.pre
  have hown : s.vm.findClass RX9 = some m.cls := findClass_of_methodNamed B.named
  have hlocks := B.notSynchronized
  subst hsz
  have hD := hD0.self (sz := s.heap.size)
  generalize hAe : va_A [] s.heap.size = A at hD ⊢
  have hA : ∀ q : Nat, s.heap.size ≤ q → A q := fun q h => by rw [← hAe]; exact Or.inr h
  have hS : va_S A s.heap s.heap [] := va_S.rf
  have hP : va_P (dC, dI) vwCl [] s.heap := hP
  have hl := lv_entry ([.int (nI lv), .int (nI iv)]) (n := 2) (Nat.le_of_ble_eq_true rfl)
  rw [lg_entry_eq]
  generalize (lg_sl ([.int (nI lv), .int (nI iv)]) ++ List.replicate (2 - (lg_sl ([.int (nI lv), .int (nI iv)])).length) Slot.unset).toArray = ls at hl ⊢
  have hl : lv_has ls 2 [(0, .int (nI lv)), (1, .int (nI iv))] := hl
  have hd := Nat.div_le_self 32 (2 ^ lv)
  refine lv_bipush (v := nI 32) hx hb dX9_at_0 (by decide) ?_
  refine lv_bipush (v := nI 32) hx hb dX9_at_2 (by decide) ?_
  refine lv_iload_n hx hb dX9_at_4 rfl (lv_at hl 0 rfl) ?_
  refine lv_ishr hx hb dX9_at_5 ?_
  refine st_i (y := nI (32 / 2 ^ lv)) (st_shr (by omega) (by omega)) ?_
  refine lv_isub hx hb dX9_at_6 ?_
  refine st_i (y := nI (32 - (32 / 2 ^ lv))) (pk_sub (by omega)) ?_
  refine lv_iload_n hx hb dX9_at_7 rfl (lv_at hl 1 rfl) ?_
  refine lv_iadd hx hb dX9_at_8 ?_
  refine st_i (y := nI (32 - (32 / 2 ^ lv) + iv)) (nI_add (32 - (32 / 2 ^ lv)) iv) ?_
  exact W.iret (v := nI (32 - (32 / 2 ^ lv) + iv)) hx hb hr (fun t ht hW => ⟨⟨nI (32 - (32 / 2 ^ lv) + iv), (), rfl, rfl, by rw [ht]; exact hP, va_K.moved hW.alike hK, hD⟩, hS.F ht⟩) hS.2.2 dX9_at_9

set_option maxHeartbeats 4000000 in
set_option maxRecDepth 100000 in
theorem c_LeafSignerModel_leaves (l : Launch) (dC : Nat → ClassId) (dI : Nat → Nat → Nat) (cJ cI : ClassId) (y0 f1 f2 ma q1 q2 v1 v2 dd : Nat) (w1 w2 ov ta tb : Int64) (xm xu xl xs sr : Int32) (pv : Int64 × Int64) (hh : Nat) (h4 : hh ≤ 4) (sz : Nat) : Met l yX9_leaves wsX9_leaves ({ frames := 0, cells := 0, slots := 0, locals := 0 }) (va_Pc [.ref y0] (st_B (dC, dI) vwCl [(cJ, .long), (cI, .int)] [(y0, .inr (9, [.long w1, .long w2, .long ov, .int (nI hh), .int xm, .int xu, .ref f1, .ref f2, .ref ma, .int xl, .int xs, .int sr, .ref q1, .ref q2, .long ta, .long tb, .long pv.1, .long pv.2, .ref v1, .ref v2, .ref dd]))] sz)) (va_Qi (fun (r : Int32) (_ : Unit) => r = nI (2 ^ hh)) (st_E (dC, dI) vwCl [(cJ, .long), (cI, .int)] (va_A [(y0, .inr (9, [.long w1, .long w2, .long ov, .int (nI hh), .int xm, .int xu, .ref f1, .ref f2, .ref ma, .int xl, .int xs, .int sr, .ref q1, .ref q2, .long ta, .long tb, .long pv.1, .long pv.2, .ref v1, .ref v2, .ref dd]))] sz) (fun _ => [(y0, .inr (9, [.long w1, .long w2, .long ov, .int (nI hh), .int xm, .int xu, .ref f1, .ref f2, .ref ma, .int xl, .int xs, .int sr, .ref q1, .ref q2, .long ta, .long tb, .long pv.1, .long pv.2, .ref v1, .ref v2, .ref dd]))])) (va_A [(y0, .inr (9, [.long w1, .long w2, .long ov, .int (nI hh), .int xm, .int xu, .ref f1, .ref f2, .ref ma, .int xl, .int xs, .int sr, .ref q1, .ref q2, .long ta, .long tb, .long pv.1, .long pv.2, .ref v1, .ref v2, .ref dd]))] sz)) 0 0 (va_A [(y0, .inr (9, [.long w1, .long w2, .long ov, .int (nI hh), .int xm, .int xu, .ref f1, .ref f2, .ref ma, .int xl, .int xs, .int sr, .ref q1, .ref q2, .long ta, .long tb, .long pv.1, .long pv.2, .ref v1, .ref v2, .ref dd]))] sz) := by
  refine Met.ofW (cc := cX9_leaves) (maxL := 1) (ret := (some .int)) (by decide) rfl ?_
  intro p e s m args below meth c s₁ B hml hv
  obtain ⟨rfl, hsz, hP, hK, hD0⟩ := hv
  have hx := B.exec
  have hb := B.bytes
  have hr := B.returns
  have hts := atoms_spec (ws := wsX9_leaves) B.pre
  have hown : s.vm.findClass RX9 = some m.cls := findClass_of_methodNamed B.named
  have hlocks := B.notSynchronized
  subst hsz
  have hD := hD0.self (sz := s.heap.size)
  generalize hAe : va_A [(y0, .inr (9, [.long w1, .long w2, .long ov, .int (nI hh), .int xm, .int xu, .ref f1, .ref f2, .ref ma, .int xl, .int xs, .int sr, .ref q1, .ref q2, .long ta, .long tb, .long pv.1, .long pv.2, .ref v1, .ref v2, .ref dd]))] s.heap.size = A at hD ⊢
  have hA : ∀ q : Nat, s.heap.size ≤ q → A q := fun q h => by rw [← hAe]; exact Or.inr h
  have hS : va_S A s.heap s.heap [] := va_S.rf
  have hP : va_P (dC, dI) vwCl [(y0, .inr (9, [.long w1, .long w2, .long ov, .int (nI hh), .int xm, .int xu, .ref f1, .ref f2, .ref ma, .int xl, .int xs, .int sr, .ref q1, .ref q2, .long ta, .long tb, .long pv.1, .long pv.2, .ref v1, .ref v2, .ref dd]))] s.heap := hP
  have hl := lv_entry ([.ref y0]) (n := 1) (Nat.le_of_ble_eq_true rfl)
  rw [lg_entry_eq]
  generalize (lg_sl ([.ref y0]) ++ List.replicate (1 - (lg_sl ([.ref y0])).length) Slot.unset).toArray = ls at hl ⊢
  have iX9 : ∀ w ∈ wsX90, w ∈ wsX9_leaves := by decide +kernel
  have f7 := hts (.fieldLink RX9 7 "LeafSignerModel" "height" "I") (by decide +kernel)
  have hl : lv_has ls 1 [(0, .ref y0)] := hl
  refine lv_iconst (v := nI 1) hx hb dX9_leaves_0 (by decide) ?_
  refine lv_aload_n hx hb dX9_leaves_1 rfl (lv_at hl 0 rfl) ?_
  refine va_get (D := (dC, dI)) (ci := 9) (v := .int (nI hh)) (C := RX9) (T := TX9) (N := 21) hx hb hts iX9 hown hK hP 0 rfl rfl 3 (by decide) f7 (fun _ h9 => h9) rfl dX9_leaves_2 ?_
  refine lv_ishl hx hb dX9_leaves_5 ?_
  refine st_i (y := nI (2 ^ hh)) (st_shl1 (by omega)) ?_
  exact W.iret (v := nI (2 ^ hh)) hx hb hr (fun t ht hW => ⟨⟨nI (2 ^ hh), (), rfl, rfl, by rw [ht]; exact hP, va_K.moved hW.alike hK, hD⟩, hS.F ht⟩) hS.2.2 dX9_leaves_6

set_option maxHeartbeats 4000000 in
set_option maxRecDepth 100000 in
theorem c_LeafSignerModel_isMade (l : Launch) (dC : Nat → ClassId) (dI : Nat → Nat → Nat) (cJ cI : ClassId) (y0 f1 f2 ma q1 q2 v1 v2 dd : Nat) (w1 w2 ov ta tb : Int64) (xu xl xs sr : Int32) (pv : Int64 × Int64) (hh md : Nat) (yl yi : Int32) (h4 : hh ≤ 4) (hmd : md ≤ 2 ^ hh) (sz : Nat) : Met l yX9_isMade wsX9_isMade ({ frames := 1, cells := 0, slots := 0, locals := 20 }) (va_Pc [.ref y0, .int yl, .int yi] (st_B (dC, dI) vwCl [(cJ, .long), (cI, .int)] [(y0, .inr (9, [.long w1, .long w2, .long ov, .int (nI hh), .int (nI md), .int xu, .ref f1, .ref f2, .ref ma, .int xl, .int xs, .int sr, .ref q1, .ref q2, .long ta, .long tb, .long pv.1, .long pv.2, .ref v1, .ref v2, .ref dd]))] sz)) (va_Qi (fun (r : Int32) (_ : Unit) => r = bI (isMB hh md yl yi)) (st_E (dC, dI) vwCl [(cJ, .long), (cI, .int)] (va_A [(y0, .inr (9, [.long w1, .long w2, .long ov, .int (nI hh), .int (nI md), .int xu, .ref f1, .ref f2, .ref ma, .int xl, .int xs, .int sr, .ref q1, .ref q2, .long ta, .long tb, .long pv.1, .long pv.2, .ref v1, .ref v2, .ref dd]))] sz) (fun _ => [(y0, .inr (9, [.long w1, .long w2, .long ov, .int (nI hh), .int (nI md), .int xu, .ref f1, .ref f2, .ref ma, .int xl, .int xs, .int sr, .ref q1, .ref q2, .long ta, .long tb, .long pv.1, .long pv.2, .ref v1, .ref v2, .ref dd]))])) (va_A [(y0, .inr (9, [.long w1, .long w2, .long ov, .int (nI hh), .int (nI md), .int xu, .ref f1, .ref f2, .ref ma, .int xl, .int xs, .int sr, .ref q1, .ref q2, .long ta, .long tb, .long pv.1, .long pv.2, .ref v1, .ref v2, .ref dd]))] sz)) 0 0 (va_A [(y0, .inr (9, [.long w1, .long w2, .long ov, .int (nI hh), .int (nI md), .int xu, .ref f1, .ref f2, .ref ma, .int xl, .int xs, .int sr, .ref q1, .ref q2, .long ta, .long tb, .long pv.1, .long pv.2, .ref v1, .ref v2, .ref dd]))] sz) := by
  refine Met.ofW (cc := cX9_isMade) (maxL := 3) (ret := (some .boolean)) (by decide) rfl ?_
  intro p e s m args below meth c s₁ B hml hv
  obtain ⟨rfl, hsz, hP, hK, hD0⟩ := hv
  have hx := B.exec
  have hb := B.bytes
  have hr := B.returns
  have hts := atoms_spec (ws := wsX9_isMade) B.pre
  have hown : s.vm.findClass RX9 = some m.cls := findClass_of_methodNamed B.named
  have hlocks := B.notSynchronized
  subst hsz
  have hD := hD0.self (sz := s.heap.size)
  generalize hAe : va_A [(y0, .inr (9, [.long w1, .long w2, .long ov, .int (nI hh), .int (nI md), .int xu, .ref f1, .ref f2, .ref ma, .int xl, .int xs, .int sr, .ref q1, .ref q2, .long ta, .long tb, .long pv.1, .long pv.2, .ref v1, .ref v2, .ref dd]))] s.heap.size = A at hD ⊢
  have hA : ∀ q : Nat, s.heap.size ≤ q → A q := fun q h => by rw [← hAe]; exact Or.inr h
  have hS : va_S A s.heap s.heap [] := va_S.rf
  have hP : va_P (dC, dI) vwCl [(y0, .inr (9, [.long w1, .long w2, .long ov, .int (nI hh), .int (nI md), .int xu, .ref f1, .ref f2, .ref ma, .int xl, .int xs, .int sr, .ref q1, .ref q2, .long ta, .long tb, .long pv.1, .long pv.2, .ref v1, .ref v2, .ref dd]))] s.heap := hP
  have hl := lv_entry ([.ref y0, .int yl, .int yi]) (n := 3) (Nat.le_of_ble_eq_true rfl)
  rw [lg_entry_eq]
  generalize (lg_sl ([.ref y0, .int yl, .int yi]) ++ List.replicate (3 - (lg_sl ([.ref y0, .int yl, .int yi])).length) Slot.unset).toArray = ls at hl ⊢
  have iX9 : ∀ w ∈ wsX90, w ∈ wsX9_isMade := by decide +kernel
  have f7 := hts (.fieldLink RX9 7 "LeafSignerModel" "height" "I") (by decide +kernel)
  have f85 := hts (.fieldLink RX9 85 "LeafSignerModel" "made" "I") (by decide +kernel)
  have hl : lv_has ls 3 [(0, .ref y0), (1, .int yl), (2, .int yi)] := hl
  have hp := p2_le h4
  refine lv_iload_n hx hb dX9_isMade_0 rfl (lv_at hl 1 rfl) ?_
  refine lv_if_lt (tgt := 42) hx hb dX9_isMade_1 (by decide) (fun c1 => ?_) (fun c1 => ?_)
  ·
    refine lv_iconst (v := nI 0) hx hb dX9_isMade_42 (by decide) ?_
    exact W.zret (v := nI 0) hx hb hr (by decide) (fun t ht hW => ⟨⟨nI 0, (), rfl, bI_f2 (fun q => (isMB_iff.mp q).1 c1), by rw [ht]; exact hP, va_K.moved hW.alike hK, hD⟩, hS.F ht⟩) hS.2.2 dX9_isMade_43
  ·
    refine lv_iload_n hx hb dX9_isMade_4 rfl (lv_at hl 1 rfl) ?_
    refine lv_aload_n hx hb dX9_isMade_5 rfl (lv_at hl 0 rfl) ?_
    refine va_get (D := (dC, dI)) (ci := 9) (v := .int (nI hh)) (C := RX9) (T := TX9) (N := 21) hx hb hts iX9 hown hK hP 0 rfl rfl 3 (by decide) f7 (fun _ h9 => h9) rfl dX9_isMade_6 ?_
    refine lv_icmp_gt (tgt := 42) hx hb dX9_isMade_9 (by decide) (fun c9 => ?_) (fun c9 => ?_)
    ·
      refine lv_iconst (v := nI 0) hx hb dX9_isMade_42 (by decide) ?_
      exact W.zret (v := nI 0) hx hb hr (by decide) (fun t ht hW => ⟨⟨nI 0, (), rfl, bI_f2 (fun q => (isMB_iff.mp q).2.1 c9), by rw [ht]; exact hP, va_K.moved hW.alike hK, hD⟩, hS.F ht⟩) hS.2.2 dX9_isMade_43
    ·
      obtain ⟨lv, hlv, rfl⟩ := isM_lv c1 c9 h4
      refine lv_iload_n hx hb dX9_isMade_12 rfl (lv_at hl 2 rfl) ?_
      refine lv_if_lt (tgt := 42) hx hb dX9_isMade_13 (by decide) (fun c13 => ?_) (fun c13 => ?_)
      ·
        refine lv_iconst (v := nI 0) hx hb dX9_isMade_42 (by decide) ?_
        exact W.zret (v := nI 0) hx hb hr (by decide) (fun t ht hW => ⟨⟨nI 0, (), rfl, bI_f2 (fun q => (isMB_iff.mp q).2.2.1 c13), by rw [ht]; exact hP, va_K.moved hW.alike hK, hD⟩, hS.F ht⟩) hS.2.2 dX9_isMade_43
      ·
        obtain ⟨iv, hiv, rfl⟩ := nI_of c13
        have hdv := Nat.div_le_self (2 ^ hh) (2 ^ lv)
        refine lv_iload_n hx hb dX9_isMade_16 rfl (lv_at hl 2 rfl) ?_
        refine lv_aload_n hx hb dX9_isMade_17 rfl (lv_at hl 0 rfl) ?_
        refine st_calli (va_runV (As := []) (rest := [.int (nI iv)]) ⟨hx, hb, hml, hown, hts⟩ (c_LeafSignerModel_leaves l dC dI cJ cI y0 f1 f2 ma q1 q2 v1 v2 dd w1 w2 ov ta tb (nI md) xu xl xs sr pv hh (by omega) s.heap.size) (cwV 0 hts gX9_isMade_X9_leaves rfl rfl rfl (by decide +kernel) ⟨Nat.le_of_ble_eq_true rfl, Nat.le_of_ble_eq_true rfl⟩) (st_preV hK hP hD [0] rfl rfl (ci := 9) (q0 := 0) rfl rfl) rfl rfl hl.1 rfl (lv_room (Nat.le_of_ble_eq_true rfl)) dX9_isMade_18 ⟨Nat.le_of_ble_eq_true rfl, Nat.le_of_ble_eq_true rfl⟩) hP hD hS hA [0] [] (wr := []) rfl rfl (by decide) (by decide) [0] (res := fun _ => [(y0, .inr (9, [.long w1, .long w2, .long ov, .int (nI hh), .int (nI md), .int xu, .ref f1, .ref f2, .ref ma, .int xl, .int xs, .int sr, .ref q1, .ref q2, .long ta, .long tb, .long pv.1, .long pv.2, .ref v1, .ref v2, .ref dd]))]) (fun _ => rfl) (by decide) (fun r_1 _ H locs hu hP hD hS => ?_)
        have hP : va_P (dC, dI) vwCl [(y0, .inr (9, [.long w1, .long w2, .long ov, .int (nI hh), .int (nI md), .int xu, .ref f1, .ref f2, .ref ma, .int xl, .int xs, .int sr, .ref q1, .ref q2, .long ta, .long tb, .long pv.1, .long pv.2, .ref v1, .ref v2, .ref dd]))] H := hP
        have hD : va_D A [(y0, .inr (9, [.long w1, .long w2, .long ov, .int (nI hh), .int (nI md), .int xu, .ref f1, .ref f2, .ref ma, .int xl, .int xs, .int sr, .ref q1, .ref q2, .long ta, .long tb, .long pv.1, .long pv.2, .ref v1, .ref v2, .ref dd]))] := hD
        subst hu
        refine lv_iload_n hx hb dX9_isMade_21 rfl (lv_at hl 1 rfl) ?_
        refine lv_ishr hx hb dX9_isMade_22 ?_
        refine st_i (y := nI ((2 ^ hh) / 2 ^ lv)) (st_shr (by omega) (by omega)) ?_
        refine lv_icmp_ge (tgt := 42) hx hb dX9_isMade_23 (by decide) (fun c23 => ?_) (fun c23 => ?_)
        ·
          rw [q_le (by omega) (by omega)] at c23
          refine lv_iconst (v := nI 0) hx hb dX9_isMade_42 (by decide) ?_
          exact W.zret (v := nI 0) hx hb hr (by decide) (fun t ht hW => ⟨⟨nI 0, (), rfl, bI_f2 (fun q => by have h := ((isMB_nat (by omega) (by omega) hiv).mp q).2; have h2 := le_dv.mp (Nat.le_trans h hmd); omega), by rw [ht]; exact hP, va_K.moved hW.alike hK, hD⟩, hS.F ht⟩) hS.2.2 dX9_isMade_43
        ·
          rw [q_le (by omega) (by omega)] at c23
          have hdw := le_dv.mpr (Nat.not_le.mp c23)
          refine lv_iload_n hx hb dX9_isMade_26 rfl (lv_at hl 2 rfl) ?_
          refine lv_iconst (v := nI 1) hx hb dX9_isMade_27 (by decide) ?_
          refine lv_iadd hx hb dX9_isMade_28 ?_
          refine st_i (y := nI (iv + 1)) (nI_add iv 1) ?_
          refine lv_iload_n hx hb dX9_isMade_29 rfl (lv_at hl 1 rfl) ?_
          refine lv_ishl hx hb dX9_isMade_30 ?_
          refine st_i (y := nI ((iv + 1) * 2 ^ lv)) (st_shl (by omega) (by omega)) ?_
          refine lv_aload_n hx hb dX9_isMade_31 rfl (lv_at hl 0 rfl) ?_
          refine va_get (D := (dC, dI)) (ci := 9) (v := .int (nI md)) (C := RX9) (T := TX9) (N := 21) hx hb hts iX9 hown hK hP 0 rfl rfl 4 (by decide) f85 (fun _ h9 => h9) rfl dX9_isMade_32 ?_
          refine lv_icmp_gt (tgt := 42) hx hb dX9_isMade_35 (by decide) (fun c35 => ?_) (fun c35 => ?_)
          ·
            rw [q_lt (by omega) (by omega)] at c35
            refine lv_iconst (v := nI 0) hx hb dX9_isMade_42 (by decide) ?_
            exact W.zret (v := nI 0) hx hb hr (by decide) (fun t ht hW => ⟨⟨nI 0, (), rfl, bI_f2 (fun q => by have h := ((isMB_nat (by omega) (by omega) hiv).mp q).2; omega), by rw [ht]; exact hP, va_K.moved hW.alike hK, hD⟩, hS.F ht⟩) hS.2.2 dX9_isMade_43
          ·
            rw [q_lt (by omega) (by omega)] at c35
            refine lv_iconst (v := nI 1) hx hb dX9_isMade_38 (by decide) ?_
            refine lv_goto (tgt := 43) hx hb dX9_isMade_39 (by decide) ?_
            exact W.zret (v := nI 1) hx hb hr (by decide) (fun t ht hW => ⟨⟨nI 1, (), rfl, bI_t2 ((isMB_nat (by omega) (by omega) hiv).mpr ⟨hlv, by omega⟩), by rw [ht]; exact hP, va_K.moved hW.alike hK, hD⟩, hS.F ht⟩) hS.2.2 dX9_isMade_43

set_option maxHeartbeats 4000000 in
set_option maxRecDepth 100000 in
theorem c_LeafSignerModel_hasRoot (l : Launch) (dC : Nat → ClassId) (dI : Nat → Nat → Nat) (cJ cI : ClassId) (y0 f1 f2 ma q1 q2 v1 v2 dd : Nat) (w1 w2 ov ta tb : Int64) (xu xl xs sr : Int32) (pv : Int64 × Int64) (hh md : Nat) (h4 : hh ≤ 4) (hmd : md ≤ 2 ^ hh) (sz : Nat) : Met l yX9_hasRoot wsX9_hasRoot ({ frames := 1, cells := 0, slots := 0, locals := 20 }) (va_Pc [.ref y0] (st_B (dC, dI) vwCl [(cJ, .long), (cI, .int)] [(y0, .inr (9, [.long w1, .long w2, .long ov, .int (nI hh), .int (nI md), .int xu, .ref f1, .ref f2, .ref ma, .int xl, .int xs, .int sr, .ref q1, .ref q2, .long ta, .long tb, .long pv.1, .long pv.2, .ref v1, .ref v2, .ref dd]))] sz)) (va_Qi (fun (r : Int32) (_ : Unit) => r = bI (decide (2 ^ hh ≤ md))) (st_E (dC, dI) vwCl [(cJ, .long), (cI, .int)] (va_A [(y0, .inr (9, [.long w1, .long w2, .long ov, .int (nI hh), .int (nI md), .int xu, .ref f1, .ref f2, .ref ma, .int xl, .int xs, .int sr, .ref q1, .ref q2, .long ta, .long tb, .long pv.1, .long pv.2, .ref v1, .ref v2, .ref dd]))] sz) (fun _ => [(y0, .inr (9, [.long w1, .long w2, .long ov, .int (nI hh), .int (nI md), .int xu, .ref f1, .ref f2, .ref ma, .int xl, .int xs, .int sr, .ref q1, .ref q2, .long ta, .long tb, .long pv.1, .long pv.2, .ref v1, .ref v2, .ref dd]))])) (va_A [(y0, .inr (9, [.long w1, .long w2, .long ov, .int (nI hh), .int (nI md), .int xu, .ref f1, .ref f2, .ref ma, .int xl, .int xs, .int sr, .ref q1, .ref q2, .long ta, .long tb, .long pv.1, .long pv.2, .ref v1, .ref v2, .ref dd]))] sz)) 0 0 (va_A [(y0, .inr (9, [.long w1, .long w2, .long ov, .int (nI hh), .int (nI md), .int xu, .ref f1, .ref f2, .ref ma, .int xl, .int xs, .int sr, .ref q1, .ref q2, .long ta, .long tb, .long pv.1, .long pv.2, .ref v1, .ref v2, .ref dd]))] sz) := by
  refine Met.ofW (cc := cX9_hasRoot) (maxL := 1) (ret := (some .boolean)) (by decide) rfl ?_
  intro p e s m args below meth c s₁ B hml hv
  obtain ⟨rfl, hsz, hP, hK, hD0⟩ := hv
  have hx := B.exec
  have hb := B.bytes
  have hr := B.returns
  have hts := atoms_spec (ws := wsX9_hasRoot) B.pre
  have hown : s.vm.findClass RX9 = some m.cls := findClass_of_methodNamed B.named
  have hlocks := B.notSynchronized
  subst hsz
  have hD := hD0.self (sz := s.heap.size)
  generalize hAe : va_A [(y0, .inr (9, [.long w1, .long w2, .long ov, .int (nI hh), .int (nI md), .int xu, .ref f1, .ref f2, .ref ma, .int xl, .int xs, .int sr, .ref q1, .ref q2, .long ta, .long tb, .long pv.1, .long pv.2, .ref v1, .ref v2, .ref dd]))] s.heap.size = A at hD ⊢
  have hA : ∀ q : Nat, s.heap.size ≤ q → A q := fun q h => by rw [← hAe]; exact Or.inr h
  have hS : va_S A s.heap s.heap [] := va_S.rf
  have hP : va_P (dC, dI) vwCl [(y0, .inr (9, [.long w1, .long w2, .long ov, .int (nI hh), .int (nI md), .int xu, .ref f1, .ref f2, .ref ma, .int xl, .int xs, .int sr, .ref q1, .ref q2, .long ta, .long tb, .long pv.1, .long pv.2, .ref v1, .ref v2, .ref dd]))] s.heap := hP
  have hl := lv_entry ([.ref y0]) (n := 1) (Nat.le_of_ble_eq_true rfl)
  rw [lg_entry_eq]
  generalize (lg_sl ([.ref y0]) ++ List.replicate (1 - (lg_sl ([.ref y0])).length) Slot.unset).toArray = ls at hl ⊢
  have iX9 : ∀ w ∈ wsX90, w ∈ wsX9_hasRoot := by decide +kernel
  have f85 := hts (.fieldLink RX9 85 "LeafSignerModel" "made" "I") (by decide +kernel)
  have hl : lv_has ls 1 [(0, .ref y0)] := hl
  have hp := p2_le h4
  refine lv_aload_n hx hb dX9_hasRoot_0 rfl (lv_at hl 0 rfl) ?_
  refine va_get (D := (dC, dI)) (ci := 9) (v := .int (nI md)) (C := RX9) (T := TX9) (N := 21) hx hb hts iX9 hown hK hP 0 rfl rfl 4 (by decide) f85 (fun _ h9 => h9) rfl dX9_hasRoot_1 ?_
  refine lv_aload_n hx hb dX9_hasRoot_4 rfl (lv_at hl 0 rfl) ?_
  refine st_calli (va_runV (As := []) (rest := [.int (nI md)]) ⟨hx, hb, hml, hown, hts⟩ (c_LeafSignerModel_leaves l dC dI cJ cI y0 f1 f2 ma q1 q2 v1 v2 dd w1 w2 ov ta tb (nI md) xu xl xs sr pv hh (by omega) s.heap.size) (cwV 0 hts gX9_hasRoot_X9_leaves rfl rfl rfl (by decide +kernel) ⟨Nat.le_of_ble_eq_true rfl, Nat.le_of_ble_eq_true rfl⟩) (st_preV hK hP hD [0] rfl rfl (ci := 9) (q0 := 0) rfl rfl) rfl rfl hl.1 rfl (lv_room (Nat.le_of_ble_eq_true rfl)) dX9_hasRoot_5 ⟨Nat.le_of_ble_eq_true rfl, Nat.le_of_ble_eq_true rfl⟩) hP hD hS hA [0] [] (wr := []) rfl rfl (by decide) (by decide) [0] (res := fun _ => [(y0, .inr (9, [.long w1, .long w2, .long ov, .int (nI hh), .int (nI md), .int xu, .ref f1, .ref f2, .ref ma, .int xl, .int xs, .int sr, .ref q1, .ref q2, .long ta, .long tb, .long pv.1, .long pv.2, .ref v1, .ref v2, .ref dd]))]) (fun _ => rfl) (by decide) (fun r_1 _ H locs hu hP hD hS => ?_)
  have hP : va_P (dC, dI) vwCl [(y0, .inr (9, [.long w1, .long w2, .long ov, .int (nI hh), .int (nI md), .int xu, .ref f1, .ref f2, .ref ma, .int xl, .int xs, .int sr, .ref q1, .ref q2, .long ta, .long tb, .long pv.1, .long pv.2, .ref v1, .ref v2, .ref dd]))] H := hP
  have hD : va_D A [(y0, .inr (9, [.long w1, .long w2, .long ov, .int (nI hh), .int (nI md), .int xu, .ref f1, .ref f2, .ref ma, .int xl, .int xs, .int sr, .ref q1, .ref q2, .long ta, .long tb, .long pv.1, .long pv.2, .ref v1, .ref v2, .ref dd]))] := hD
  subst hu
  refine lv_icmp_ne (tgt := 15) hx hb dX9_hasRoot_8 (by decide) (fun c8 => ?_) (fun c8 => ?_)
  ·
    rw [q_eq (by omega) (by omega)] at c8
    refine lv_iconst (v := nI 0) hx hb dX9_hasRoot_15 (by decide) ?_
    exact W.zret (v := nI 0) hx hb hr (by decide) (fun t ht hW => ⟨⟨nI 0, (), rfl, bI_f (by omega), by rw [ht]; exact hP, va_K.moved hW.alike hK, hD⟩, hS.F ht⟩) hS.2.2 dX9_hasRoot_16
  ·
    rw [q_eq (by omega) (by omega)] at c8
    refine lv_iconst (v := nI 1) hx hb dX9_hasRoot_11 (by decide) ?_
    refine lv_goto (tgt := 16) hx hb dX9_hasRoot_12 (by decide) ?_
    exact W.zret (v := nI 1) hx hb hr (by decide) (fun t ht hW => ⟨⟨nI 1, (), rfl, bI_t (by omega), by rw [ht]; exact hP, va_K.moved hW.alike hK, hD⟩, hS.F ht⟩) hS.2.2 dX9_hasRoot_16

set_option maxHeartbeats 4000000 in
set_option maxRecDepth 100000 in
theorem cm_begin_no (l : Launch) (dC : Nat → ClassId) (dI : Nat → Nat → Nat) (cJ cI : ClassId) (y0 f1 f2 ma q1 q2 v1 v2 dd : Nat) (w1 w2 ov ta tb : Int64) (xh xm xu xl xs sr : Int32) (pv : Int64 × Int64) (x1 x2 xo : Int64) (yh : Int32) (hbad : yh < nI 1 ∨ nI 4 < yh) (sz : Nat) : Met l yX9_begin wsX9_begin ({ frames := 0, cells := 0, slots := 0, locals := 0 }) (va_Pc [.ref y0, .long x1, .long x2, .long xo, .int yh] (st_B (dC, dI) vwCl [(cJ, .long), (cI, .int)] [(y0, .inr (9, [.long w1, .long w2, .long ov, .int xh, .int xm, .int xu, .ref f1, .ref f2, .ref ma, .int xl, .int xs, .int sr, .ref q1, .ref q2, .long ta, .long tb, .long pv.1, .long pv.2, .ref v1, .ref v2, .ref dd]))] sz)) (va_Qi (fun (r : Int32) (_ : Unit) => r = nI 0) (st_E (dC, dI) vwCl [(cJ, .long), (cI, .int)] (va_A [(y0, .inr (9, [.long w1, .long w2, .long ov, .int xh, .int xm, .int xu, .ref f1, .ref f2, .ref ma, .int xl, .int xs, .int sr, .ref q1, .ref q2, .long ta, .long tb, .long pv.1, .long pv.2, .ref v1, .ref v2, .ref dd]))] sz) (fun _ => [(y0, .inr (9, [.long w1, .long w2, .long ov, .int xh, .int xm, .int xu, .ref f1, .ref f2, .ref ma, .int xl, .int xs, .int sr, .ref q1, .ref q2, .long ta, .long tb, .long pv.1, .long pv.2, .ref v1, .ref v2, .ref dd]))])) (va_A [(y0, .inr (9, [.long w1, .long w2, .long ov, .int xh, .int xm, .int xu, .ref f1, .ref f2, .ref ma, .int xl, .int xs, .int sr, .ref q1, .ref q2, .long ta, .long tb, .long pv.1, .long pv.2, .ref v1, .ref v2, .ref dd]))] sz)) 0 0 (va_A [(y0, .inr (9, [.long w1, .long w2, .long ov, .int xh, .int xm, .int xu, .ref f1, .ref f2, .ref ma, .int xl, .int xs, .int sr, .ref q1, .ref q2, .long ta, .long tb, .long pv.1, .long pv.2, .ref v1, .ref v2, .ref dd]))] sz) := by
  refine Met.ofW (cc := cX9_begin) (maxL := 8) (ret := (some .int)) (by decide) rfl ?_
  intro p e s m args below meth c s₁ B hml hv
  obtain ⟨rfl, hsz, hP, hK, hD0⟩ := hv
  have hx := B.exec
  have hb := B.bytes
  have hr := B.returns
  have hts := atoms_spec (ws := wsX9_begin) B.pre
  have hown : s.vm.findClass RX9 = some m.cls := findClass_of_methodNamed B.named
  have hlocks := B.notSynchronized
  subst hsz
  have hD := hD0.self (sz := s.heap.size)
  generalize hAe : va_A [(y0, .inr (9, [.long w1, .long w2, .long ov, .int xh, .int xm, .int xu, .ref f1, .ref f2, .ref ma, .int xl, .int xs, .int sr, .ref q1, .ref q2, .long ta, .long tb, .long pv.1, .long pv.2, .ref v1, .ref v2, .ref dd]))] s.heap.size = A at hD ⊢
  have hA : ∀ q : Nat, s.heap.size ≤ q → A q := fun q h => by rw [← hAe]; exact Or.inr h
  have hS : va_S A s.heap s.heap [] := va_S.rf
  have hP : va_P (dC, dI) vwCl [(y0, .inr (9, [.long w1, .long w2, .long ov, .int xh, .int xm, .int xu, .ref f1, .ref f2, .ref ma, .int xl, .int xs, .int sr, .ref q1, .ref q2, .long ta, .long tb, .long pv.1, .long pv.2, .ref v1, .ref v2, .ref dd]))] s.heap := hP
  have hl := lv_entry ([.ref y0, .long x1, .long x2, .long xo, .int yh]) (n := 8) (Nat.le_of_ble_eq_true rfl)
  rw [lg_entry_eq]
  generalize (lg_sl ([.ref y0, .long x1, .long x2, .long xo, .int yh]) ++ List.replicate (8 - (lg_sl ([.ref y0, .long x1, .long x2, .long xo, .int yh])).length) Slot.unset).toArray = ls at hl ⊢
  have hl : lv_has ls 8 [(0, .ref y0), (1, .long x1), (3, .long x2), (5, .long xo), (7, .int yh)] := hl
  refine lv_iload hx hb dX9_begin_0 (lv_at hl 4 rfl) ?_
  refine lv_iconst (v := nI 1) hx hb dX9_begin_2 (by decide) ?_
  refine lv_icmp_lt (tgt := 12) hx hb dX9_begin_3 (by decide) (fun c3 => ?_) (fun c3 => ?_)
  ·
    refine lv_iconst (v := nI 0) hx hb dX9_begin_12 (by decide) ?_
    exact W.iret (v := nI 0) hx hb hr (fun t ht hW => ⟨⟨nI 0, (), rfl, rfl, by rw [ht]; exact hP, va_K.moved hW.alike hK, hD⟩, hS.F ht⟩) hS.2.2 dX9_begin_13
  ·
    refine lv_iload hx hb dX9_begin_6 (lv_at hl 4 rfl) ?_
    refine lv_iconst (v := nI 4) hx hb dX9_begin_8 (by decide) ?_
    refine lv_icmp_le (tgt := 14) hx hb dX9_begin_9 (by decide) (fun c9 => ?_) (fun c9 => ?_)
    ·
      exact absurd c9 (fun q => hbad.elim c3 (fun z => absurd q (Int32.not_le.mpr z)))
    ·
      refine lv_iconst (v := nI 0) hx hb dX9_begin_12 (by decide) ?_
      exact W.iret (v := nI 0) hx hb hr (fun t ht hW => ⟨⟨nI 0, (), rfl, rfl, by rw [ht]; exact hP, va_K.moved hW.alike hK, hD⟩, hS.F ht⟩) hS.2.2 dX9_begin_13

set_option maxHeartbeats 4000000 in
set_option maxRecDepth 100000 in
theorem cm_begin_ok (l : Launch) (dC : Nat → ClassId) (dI : Nat → Nat → Nat) (cJ cI : ClassId) (y0 f1 f2 ma q1 q2 v1 v2 dd : Nat) (w1 w2 ov ta tb : Int64) (xh xm xu xl xs sr : Int32) (pv : Int64 × Int64) (x1 x2 xo : Int64) (hv : Nat) (hv1 : 1 ≤ hv) (hv4 : hv ≤ 4) (sz : Nat) : Met l yX9_begin wsX9_begin ({ frames := 0, cells := 0, slots := 0, locals := 0 }) (va_Pc [.ref y0, .long x1, .long x2, .long xo, .int (nI hv)] (st_B (dC, dI) vwCl [(cJ, .long), (cI, .int)] [(y0, .inr (9, [.long w1, .long w2, .long ov, .int xh, .int xm, .int xu, .ref f1, .ref f2, .ref ma, .int xl, .int xs, .int sr, .ref q1, .ref q2, .long ta, .long tb, .long pv.1, .long pv.2, .ref v1, .ref v2, .ref dd]))] sz)) (va_Qi (fun (r : Int32) (_ : Unit) => r = nI 1) (st_E (dC, dI) vwCl [(cJ, .long), (cI, .int)] (va_A [(y0, .inr (9, [.long w1, .long w2, .long ov, .int xh, .int xm, .int xu, .ref f1, .ref f2, .ref ma, .int xl, .int xs, .int sr, .ref q1, .ref q2, .long ta, .long tb, .long pv.1, .long pv.2, .ref v1, .ref v2, .ref dd]))] sz) (fun _ => [(y0, .inr (9, [.long x1, .long x2, .long xo, .int (nI hv), .int (nI 0), .int (nI 0), .ref f1, .ref f2, .ref ma, .int xl, .int (bI false), .int sr, .ref q1, .ref q2, .long ta, .long tb, .long pv.1, .long pv.2, .ref v1, .ref v2, .ref dd]))])) (va_A [(y0, .inr (9, [.long w1, .long w2, .long ov, .int xh, .int xm, .int xu, .ref f1, .ref f2, .ref ma, .int xl, .int xs, .int sr, .ref q1, .ref q2, .long ta, .long tb, .long pv.1, .long pv.2, .ref v1, .ref v2, .ref dd]))] sz)) 0 0 (va_A [(y0, .inr (9, [.long w1, .long w2, .long ov, .int xh, .int xm, .int xu, .ref f1, .ref f2, .ref ma, .int xl, .int xs, .int sr, .ref q1, .ref q2, .long ta, .long tb, .long pv.1, .long pv.2, .ref v1, .ref v2, .ref dd]))] sz) := by
  refine Met.ofW (cc := cX9_begin) (maxL := 8) (ret := (some .int)) (by decide) rfl ?_
  intro p e s m args below meth c s₁ B hml hv
  obtain ⟨rfl, hsz, hP, hK, hD0⟩ := hv
  have hx := B.exec
  have hb := B.bytes
  have hr := B.returns
  have hts := atoms_spec (ws := wsX9_begin) B.pre
  have hown : s.vm.findClass RX9 = some m.cls := findClass_of_methodNamed B.named
  have hlocks := B.notSynchronized
  subst hsz
  have hD := hD0.self (sz := s.heap.size)
  generalize hAe : va_A [(y0, .inr (9, [.long w1, .long w2, .long ov, .int xh, .int xm, .int xu, .ref f1, .ref f2, .ref ma, .int xl, .int xs, .int sr, .ref q1, .ref q2, .long ta, .long tb, .long pv.1, .long pv.2, .ref v1, .ref v2, .ref dd]))] s.heap.size = A at hD ⊢
  have hA : ∀ q : Nat, s.heap.size ≤ q → A q := fun q h => by rw [← hAe]; exact Or.inr h
  have hS : va_S A s.heap s.heap [] := va_S.rf
  have hP : va_P (dC, dI) vwCl [(y0, .inr (9, [.long w1, .long w2, .long ov, .int xh, .int xm, .int xu, .ref f1, .ref f2, .ref ma, .int xl, .int xs, .int sr, .ref q1, .ref q2, .long ta, .long tb, .long pv.1, .long pv.2, .ref v1, .ref v2, .ref dd]))] s.heap := hP
  have hl := lv_entry ([.ref y0, .long x1, .long x2, .long xo, .int (nI hv)]) (n := 8) (Nat.le_of_ble_eq_true rfl)
  rw [lg_entry_eq]
  generalize (lg_sl ([.ref y0, .long x1, .long x2, .long xo, .int (nI hv)]) ++ List.replicate (8 - (lg_sl ([.ref y0, .long x1, .long x2, .long xo, .int (nI hv)])).length) Slot.unset).toArray = ls at hl ⊢
  have iX9 : ∀ w ∈ wsX90, w ∈ wsX9_begin := by decide +kernel
  have f67 := hts (.fieldLink RX9 67 "LeafSignerModel" "one" "J") (by decide +kernel)
  have f70 := hts (.fieldLink RX9 70 "LeafSignerModel" "two" "J") (by decide +kernel)
  have f60 := hts (.fieldLink RX9 60 "LeafSignerModel" "open" "J") (by decide +kernel)
  have f7 := hts (.fieldLink RX9 7 "LeafSignerModel" "height" "I") (by decide +kernel)
  have f85 := hts (.fieldLink RX9 85 "LeafSignerModel" "made" "I") (by decide +kernel)
  have f88 := hts (.fieldLink RX9 88 "LeafSignerModel" "used" "I") (by decide +kernel)
  have f91 := hts (.fieldLink RX9 91 "LeafSignerModel" "signed" "Z") (by decide +kernel)
  have hl : lv_has ls 8 [(0, .ref y0), (1, .long x1), (3, .long x2), (5, .long xo), (7, .int (nI hv))] := hl
  refine lv_iload hx hb dX9_begin_0 (lv_at hl 4 rfl) ?_
  refine lv_iconst (v := nI 1) hx hb dX9_begin_2 (by decide) ?_
  refine lv_icmp_lt (tgt := 12) hx hb dX9_begin_3 (by decide) (fun c3 => ?_) (fun c3 => ?_)
  ·
    rw [q_lt (by omega) (by omega)] at c3
    exact absurd c3 (by omega)
  ·
    rw [q_lt (by omega) (by omega)] at c3
    refine lv_iload hx hb dX9_begin_6 (lv_at hl 4 rfl) ?_
    refine lv_iconst (v := nI 4) hx hb dX9_begin_8 (by decide) ?_
    refine lv_icmp_le (tgt := 14) hx hb dX9_begin_9 (by decide) (fun c9 => ?_) (fun c9 => ?_)
    ·
      rw [q_le (by omega) (by omega)] at c9
      refine lv_aload_n hx hb dX9_begin_14 rfl (lv_at hl 0 rfl) ?_
      refine lv_lload_n hx hb dX9_begin_15 rfl (lv_at hl 1 rfl) ?_
      refine va_put (D := (dC, dI)) (ci := 9) (v := .long x1) (ty := .long) (C := RX9) (T := TX9) (N := 21) hx hb hts iX9 tyX9 tyX9_ok nmX9 hown hK hP hD hS 0 rfl rfl 0 (by decide) f67 (fun _ h9 => h9) rfl (by decide +kernel) rfl rfl (Nat.le_of_ble_eq_true rfl) dX9_begin_16 (fun H locs hP hD hS => ?_)
      have hP : va_P (dC, dI) vwCl [(y0, .inr (9, [.long x1, .long w2, .long ov, .int xh, .int xm, .int xu, .ref f1, .ref f2, .ref ma, .int xl, .int xs, .int sr, .ref q1, .ref q2, .long ta, .long tb, .long pv.1, .long pv.2, .ref v1, .ref v2, .ref dd]))] H := hP
      have hD : va_D A [(y0, .inr (9, [.long x1, .long w2, .long ov, .int xh, .int xm, .int xu, .ref f1, .ref f2, .ref ma, .int xl, .int xs, .int sr, .ref q1, .ref q2, .long ta, .long tb, .long pv.1, .long pv.2, .ref v1, .ref v2, .ref dd]))] := hD
      refine lv_aload_n hx hb dX9_begin_19 rfl (lv_at hl 0 rfl) ?_
      refine lv_lload_n hx hb dX9_begin_20 rfl (lv_at hl 2 rfl) ?_
      refine va_put (D := (dC, dI)) (ci := 9) (v := .long x2) (ty := .long) (C := RX9) (T := TX9) (N := 21) hx hb hts iX9 tyX9 tyX9_ok nmX9 hown hK hP hD hS 0 rfl rfl 1 (by decide) f70 (fun _ h9 => h9) rfl (by decide +kernel) rfl rfl (Nat.le_of_ble_eq_true rfl) dX9_begin_21 (fun H locs hP hD hS => ?_)
      have hP : va_P (dC, dI) vwCl [(y0, .inr (9, [.long x1, .long x2, .long ov, .int xh, .int xm, .int xu, .ref f1, .ref f2, .ref ma, .int xl, .int xs, .int sr, .ref q1, .ref q2, .long ta, .long tb, .long pv.1, .long pv.2, .ref v1, .ref v2, .ref dd]))] H := hP
      have hD : va_D A [(y0, .inr (9, [.long x1, .long x2, .long ov, .int xh, .int xm, .int xu, .ref f1, .ref f2, .ref ma, .int xl, .int xs, .int sr, .ref q1, .ref q2, .long ta, .long tb, .long pv.1, .long pv.2, .ref v1, .ref v2, .ref dd]))] := hD
      refine lv_aload_n hx hb dX9_begin_24 rfl (lv_at hl 0 rfl) ?_
      refine lv_lload hx hb dX9_begin_25 (lv_at hl 3 rfl) ?_
      refine va_put (D := (dC, dI)) (ci := 9) (v := .long xo) (ty := .long) (C := RX9) (T := TX9) (N := 21) hx hb hts iX9 tyX9 tyX9_ok nmX9 hown hK hP hD hS 0 rfl rfl 2 (by decide) f60 (fun _ h9 => h9) rfl (by decide +kernel) rfl rfl (Nat.le_of_ble_eq_true rfl) dX9_begin_27 (fun H locs hP hD hS => ?_)
      have hP : va_P (dC, dI) vwCl [(y0, .inr (9, [.long x1, .long x2, .long xo, .int xh, .int xm, .int xu, .ref f1, .ref f2, .ref ma, .int xl, .int xs, .int sr, .ref q1, .ref q2, .long ta, .long tb, .long pv.1, .long pv.2, .ref v1, .ref v2, .ref dd]))] H := hP
      have hD : va_D A [(y0, .inr (9, [.long x1, .long x2, .long xo, .int xh, .int xm, .int xu, .ref f1, .ref f2, .ref ma, .int xl, .int xs, .int sr, .ref q1, .ref q2, .long ta, .long tb, .long pv.1, .long pv.2, .ref v1, .ref v2, .ref dd]))] := hD
      refine lv_aload_n hx hb dX9_begin_30 rfl (lv_at hl 0 rfl) ?_
      refine lv_iload hx hb dX9_begin_31 (lv_at hl 4 rfl) ?_
      refine va_put (D := (dC, dI)) (ci := 9) (v := .int (nI hv)) (ty := .int) (C := RX9) (T := TX9) (N := 21) hx hb hts iX9 tyX9 tyX9_ok nmX9 hown hK hP hD hS 0 rfl rfl 3 (by decide) f7 (fun _ h9 => h9) rfl (by decide +kernel) rfl rfl (Nat.le_of_ble_eq_true rfl) dX9_begin_33 (fun H locs hP hD hS => ?_)
      have hP : va_P (dC, dI) vwCl [(y0, .inr (9, [.long x1, .long x2, .long xo, .int (nI hv), .int xm, .int xu, .ref f1, .ref f2, .ref ma, .int xl, .int xs, .int sr, .ref q1, .ref q2, .long ta, .long tb, .long pv.1, .long pv.2, .ref v1, .ref v2, .ref dd]))] H := hP
      have hD : va_D A [(y0, .inr (9, [.long x1, .long x2, .long xo, .int (nI hv), .int xm, .int xu, .ref f1, .ref f2, .ref ma, .int xl, .int xs, .int sr, .ref q1, .ref q2, .long ta, .long tb, .long pv.1, .long pv.2, .ref v1, .ref v2, .ref dd]))] := hD
      refine lv_aload_n hx hb dX9_begin_36 rfl (lv_at hl 0 rfl) ?_
      refine lv_iconst (v := nI 0) hx hb dX9_begin_37 (by decide) ?_
      refine va_put (D := (dC, dI)) (ci := 9) (v := .int (nI 0)) (ty := .int) (C := RX9) (T := TX9) (N := 21) hx hb hts iX9 tyX9 tyX9_ok nmX9 hown hK hP hD hS 0 rfl rfl 4 (by decide) f85 (fun _ h9 => h9) rfl (by decide +kernel) rfl rfl (Nat.le_of_ble_eq_true rfl) dX9_begin_38 (fun H locs hP hD hS => ?_)
      have hP : va_P (dC, dI) vwCl [(y0, .inr (9, [.long x1, .long x2, .long xo, .int (nI hv), .int (nI 0), .int xu, .ref f1, .ref f2, .ref ma, .int xl, .int xs, .int sr, .ref q1, .ref q2, .long ta, .long tb, .long pv.1, .long pv.2, .ref v1, .ref v2, .ref dd]))] H := hP
      have hD : va_D A [(y0, .inr (9, [.long x1, .long x2, .long xo, .int (nI hv), .int (nI 0), .int xu, .ref f1, .ref f2, .ref ma, .int xl, .int xs, .int sr, .ref q1, .ref q2, .long ta, .long tb, .long pv.1, .long pv.2, .ref v1, .ref v2, .ref dd]))] := hD
      refine lv_aload_n hx hb dX9_begin_41 rfl (lv_at hl 0 rfl) ?_
      refine lv_iconst (v := nI 0) hx hb dX9_begin_42 (by decide) ?_
      refine va_put (D := (dC, dI)) (ci := 9) (v := .int (nI 0)) (ty := .int) (C := RX9) (T := TX9) (N := 21) hx hb hts iX9 tyX9 tyX9_ok nmX9 hown hK hP hD hS 0 rfl rfl 5 (by decide) f88 (fun _ h9 => h9) rfl (by decide +kernel) rfl rfl (Nat.le_of_ble_eq_true rfl) dX9_begin_43 (fun H locs hP hD hS => ?_)
      have hP : va_P (dC, dI) vwCl [(y0, .inr (9, [.long x1, .long x2, .long xo, .int (nI hv), .int (nI 0), .int (nI 0), .ref f1, .ref f2, .ref ma, .int xl, .int xs, .int sr, .ref q1, .ref q2, .long ta, .long tb, .long pv.1, .long pv.2, .ref v1, .ref v2, .ref dd]))] H := hP
      have hD : va_D A [(y0, .inr (9, [.long x1, .long x2, .long xo, .int (nI hv), .int (nI 0), .int (nI 0), .ref f1, .ref f2, .ref ma, .int xl, .int xs, .int sr, .ref q1, .ref q2, .long ta, .long tb, .long pv.1, .long pv.2, .ref v1, .ref v2, .ref dd]))] := hD
      refine lv_aload_n hx hb dX9_begin_46 rfl (lv_at hl 0 rfl) ?_
      refine lv_iconst (v := nI 0) hx hb dX9_begin_47 (by decide) ?_
      refine va_put (D := (dC, dI)) (ci := 9) (v := .int (nI 0)) (ty := .boolean) (C := RX9) (T := TX9) (N := 21) hx hb hts iX9 tyX9 tyX9_ok nmX9 hown hK hP hD hS 0 rfl rfl 10 (by decide) f91 (fun _ h9 => h9) rfl (by decide +kernel) rfl rfl (Nat.le_of_ble_eq_true rfl) dX9_begin_48 (fun H locs hP hD hS => ?_)
      have hP : va_P (dC, dI) vwCl [(y0, .inr (9, [.long x1, .long x2, .long xo, .int (nI hv), .int (nI 0), .int (nI 0), .ref f1, .ref f2, .ref ma, .int xl, .int (nI 0), .int sr, .ref q1, .ref q2, .long ta, .long tb, .long pv.1, .long pv.2, .ref v1, .ref v2, .ref dd]))] H := hP
      have hD : va_D A [(y0, .inr (9, [.long x1, .long x2, .long xo, .int (nI hv), .int (nI 0), .int (nI 0), .ref f1, .ref f2, .ref ma, .int xl, .int (nI 0), .int sr, .ref q1, .ref q2, .long ta, .long tb, .long pv.1, .long pv.2, .ref v1, .ref v2, .ref dd]))] := hD
      refine lv_iconst (v := nI 1) hx hb dX9_begin_51 (by decide) ?_
      have eW_1 : ([(y0, .inr (9, [.long x1, .long x2, .long xo, .int (nI hv), .int (nI 0), .int (nI 0), .ref f1, .ref f2, .ref ma, .int xl, .int (nI 0), .int sr, .ref q1, .ref q2, .long ta, .long tb, .long pv.1, .long pv.2, .ref v1, .ref v2, .ref dd]))] : va_W) = [(y0, .inr (9, [.long x1, .long x2, .long xo, .int (nI hv), .int (nI 0), .int (nI 0), .ref f1, .ref f2, .ref ma, .int xl, .int (bI false), .int sr, .ref q1, .ref q2, .long ta, .long tb, .long pv.1, .long pv.2, .ref v1, .ref v2, .ref dd]))] := rfl
      have hP : va_P (dC, dI) vwCl [(y0, .inr (9, [.long x1, .long x2, .long xo, .int (nI hv), .int (nI 0), .int (nI 0), .ref f1, .ref f2, .ref ma, .int xl, .int (bI false), .int sr, .ref q1, .ref q2, .long ta, .long tb, .long pv.1, .long pv.2, .ref v1, .ref v2, .ref dd]))] H := by rw [← eW_1]; exact hP
      have hD : va_D A [(y0, .inr (9, [.long x1, .long x2, .long xo, .int (nI hv), .int (nI 0), .int (nI 0), .ref f1, .ref f2, .ref ma, .int xl, .int (bI false), .int sr, .ref q1, .ref q2, .long ta, .long tb, .long pv.1, .long pv.2, .ref v1, .ref v2, .ref dd]))] := by rw [← eW_1]; exact hD
      exact W.iret (v := nI 1) hx hb hr (fun t ht hW => ⟨⟨nI 1, (), rfl, rfl, by rw [ht]; exact hP, va_K.moved hW.alike hK, hD⟩, hS.F ht⟩) hS.2.2 dX9_begin_52
    ·
      rw [q_le (by omega) (by omega)] at c9
      exact absurd c9 (by omega)

set_option maxHeartbeats 4000000 in
set_option maxRecDepth 100000 in
theorem cm_grow_no (l : Launch) (dC : Nat → ClassId) (dI : Nat → Nat → Nat) (cJ cI : ClassId) (y0 f1 f2 ma q1 q2 v1 v2 dd : Nat) (w1 w2 ov ta tb : Int64) (xh xm xu xl xs sr : Int32) (pv : Int64 × Int64) (xv : Int32) (hbad : ¬ nI 1 ≤ xv) (sz : Nat) : Met l yX9_grow wsX9_grow ({ frames := 0, cells := 0, slots := 0, locals := 0 }) (va_Pc [.ref y0, .int xv] (st_B (dC, dI) vwCl [(cJ, .long), (cI, .int)] [(y0, .inr (9, [.long w1, .long w2, .long ov, .int xh, .int xm, .int xu, .ref f1, .ref f2, .ref ma, .int xl, .int xs, .int sr, .ref q1, .ref q2, .long ta, .long tb, .long pv.1, .long pv.2, .ref v1, .ref v2, .ref dd]))] sz)) (va_Qi (fun (r : Int32) (_ : Unit) => r = -1) (st_E (dC, dI) vwCl [(cJ, .long), (cI, .int)] (va_A [(y0, .inr (9, [.long w1, .long w2, .long ov, .int xh, .int xm, .int xu, .ref f1, .ref f2, .ref ma, .int xl, .int xs, .int sr, .ref q1, .ref q2, .long ta, .long tb, .long pv.1, .long pv.2, .ref v1, .ref v2, .ref dd]))] sz) (fun _ => [(y0, .inr (9, [.long w1, .long w2, .long ov, .int xh, .int xm, .int xu, .ref f1, .ref f2, .ref ma, .int xl, .int xs, .int sr, .ref q1, .ref q2, .long ta, .long tb, .long pv.1, .long pv.2, .ref v1, .ref v2, .ref dd]))])) (va_A [(y0, .inr (9, [.long w1, .long w2, .long ov, .int xh, .int xm, .int xu, .ref f1, .ref f2, .ref ma, .int xl, .int xs, .int sr, .ref q1, .ref q2, .long ta, .long tb, .long pv.1, .long pv.2, .ref v1, .ref v2, .ref dd]))] sz)) 0 0 (va_A [(y0, .inr (9, [.long w1, .long w2, .long ov, .int xh, .int xm, .int xu, .ref f1, .ref f2, .ref ma, .int xl, .int xs, .int sr, .ref q1, .ref q2, .long ta, .long tb, .long pv.1, .long pv.2, .ref v1, .ref v2, .ref dd]))] sz) := by
  refine Met.ofW (cc := cX9_grow) (maxL := 7) (ret := (some .int)) (by decide) rfl ?_
  intro p e s m args below meth c s₁ B hml hv
  obtain ⟨rfl, hsz, hP, hK, hD0⟩ := hv
  have hx := B.exec
  have hb := B.bytes
  have hr := B.returns
  have hts := atoms_spec (ws := wsX9_grow) B.pre
  have hown : s.vm.findClass RX9 = some m.cls := findClass_of_methodNamed B.named
  have hlocks := B.notSynchronized
  subst hsz
  have hD := hD0.self (sz := s.heap.size)
  generalize hAe : va_A [(y0, .inr (9, [.long w1, .long w2, .long ov, .int xh, .int xm, .int xu, .ref f1, .ref f2, .ref ma, .int xl, .int xs, .int sr, .ref q1, .ref q2, .long ta, .long tb, .long pv.1, .long pv.2, .ref v1, .ref v2, .ref dd]))] s.heap.size = A at hD ⊢
  have hA : ∀ q : Nat, s.heap.size ≤ q → A q := fun q h => by rw [← hAe]; exact Or.inr h
  have hS : va_S A s.heap s.heap [] := va_S.rf
  have hP : va_P (dC, dI) vwCl [(y0, .inr (9, [.long w1, .long w2, .long ov, .int xh, .int xm, .int xu, .ref f1, .ref f2, .ref ma, .int xl, .int xs, .int sr, .ref q1, .ref q2, .long ta, .long tb, .long pv.1, .long pv.2, .ref v1, .ref v2, .ref dd]))] s.heap := hP
  have hl := lv_entry ([.ref y0, .int xv]) (n := 7) (Nat.le_of_ble_eq_true rfl)
  rw [lg_entry_eq]
  generalize (lg_sl ([.ref y0, .int xv]) ++ List.replicate (7 - (lg_sl ([.ref y0, .int xv])).length) Slot.unset).toArray = ls at hl ⊢
  have hl : lv_has ls 7 [(0, .ref y0), (1, .int xv)] := hl
  refine lv_iload_n hx hb dX9_grow_0 rfl (lv_at hl 1 rfl) ?_
  refine lv_iconst (v := nI 1) hx hb dX9_grow_1 (by decide) ?_
  refine lv_icmp_ge (tgt := 7) hx hb dX9_grow_2 (by decide) (fun c2 => ?_) (fun c2 => ?_)
  ·
    exact absurd c2 hbad
  ·
    refine lv_iconst (v := -1) hx hb dX9_grow_5 (by decide) ?_
    exact W.iret (v := -1) hx hb hr (fun t ht hW => ⟨⟨-1, (), rfl, rfl, by rw [ht]; exact hP, va_K.moved hW.alike hK, hD⟩, hS.F ht⟩) hS.2.2 dX9_grow_6

set_option maxHeartbeats 4000000 in
set_option maxRecDepth 100000 in
theorem c_LeafSignerModel_node (l : Launch) (dC : Nat → ClassId) (dI : Nat → Nat → Nat) (cJ cI : ClassId) (y0 f1 f2 ma q1 q2 v1 v2 dd : Nat) (w1 w2 ov ta tb : Int64) (xu xl xs sr : Int32) (pv : Int64 × Int64) (hh md : Nat) (yl yi yh : Int32) (fF fS : Nat → Int64) (h4 : hh ≤ 4) (hmd : md ≤ 2 ^ hh) (hN : ROK w1 w2 ov hh md fF fS) (sz : Nat) : Met l yX9_node wsX9_node ({ frames := 2, cells := 0, slots := 0, locals := 42 }) (va_Pc [.ref y0, .int yl, .int yi, .int yh] (st_B (dC, dI) vwCl [(cJ, .long), (cI, .int)] [(y0, .inr (9, [.long w1, .long w2, .long ov, .int (nI hh), .int (nI md), .int xu, .ref f1, .ref f2, .ref ma, .int xl, .int xs, .int sr, .ref q1, .ref q2, .long ta, .long tb, .long pv.1, .long pv.2, .ref v1, .ref v2, .ref dd])), (f1, .inl (cJ, 31, .inr (.inl (fF)))), (f2, .inl (cJ, 31, .inr (.inl (fS))))] sz)) (va_Ql (fun (r : Int64) (_ : Unit) => r = ndA w1 w2 ov hh md yl yi yh) (st_E (dC, dI) vwCl [(cJ, .long), (cI, .int)] (va_A [(y0, .inr (9, [.long w1, .long w2, .long ov, .int (nI hh), .int (nI md), .int xu, .ref f1, .ref f2, .ref ma, .int xl, .int xs, .int sr, .ref q1, .ref q2, .long ta, .long tb, .long pv.1, .long pv.2, .ref v1, .ref v2, .ref dd])), (f1, .inl (cJ, 31, .inr (.inl (fF)))), (f2, .inl (cJ, 31, .inr (.inl (fS))))] sz) (fun _ => [(y0, .inr (9, [.long w1, .long w2, .long ov, .int (nI hh), .int (nI md), .int xu, .ref f1, .ref f2, .ref ma, .int xl, .int xs, .int sr, .ref q1, .ref q2, .long ta, .long tb, .long pv.1, .long pv.2, .ref v1, .ref v2, .ref dd])), (f1, .inl (cJ, 31, .inr (.inl (fF)))), (f2, .inl (cJ, 31, .inr (.inl (fS))))])) (va_A [(y0, .inr (9, [.long w1, .long w2, .long ov, .int (nI hh), .int (nI md), .int xu, .ref f1, .ref f2, .ref ma, .int xl, .int xs, .int sr, .ref q1, .ref q2, .long ta, .long tb, .long pv.1, .long pv.2, .ref v1, .ref v2, .ref dd])), (f1, .inl (cJ, 31, .inr (.inl (fF)))), (f2, .inl (cJ, 31, .inr (.inl (fS))))] sz)) 0 0 (va_A [(y0, .inr (9, [.long w1, .long w2, .long ov, .int (nI hh), .int (nI md), .int xu, .ref f1, .ref f2, .ref ma, .int xl, .int xs, .int sr, .ref q1, .ref q2, .long ta, .long tb, .long pv.1, .long pv.2, .ref v1, .ref v2, .ref dd])), (f1, .inl (cJ, 31, .inr (.inl (fF)))), (f2, .inl (cJ, 31, .inr (.inl (fS))))] sz) := by
  refine Met.ofW (cc := cX9_node) (maxL := 4) (ret := (some .long)) (by decide) rfl ?_
  intro p e s m args below meth c s₁ B hml hv
  obtain ⟨rfl, hsz, hP, hK, hD0⟩ := hv
  have hx := B.exec
  have hb := B.bytes
  have hr := B.returns
  have hts := atoms_spec (ws := wsX9_node) B.pre
  have hown : s.vm.findClass RX9 = some m.cls := findClass_of_methodNamed B.named
  have hlocks := B.notSynchronized
  subst hsz
  have hD := hD0.self (sz := s.heap.size)
  generalize hAe : va_A [(y0, .inr (9, [.long w1, .long w2, .long ov, .int (nI hh), .int (nI md), .int xu, .ref f1, .ref f2, .ref ma, .int xl, .int xs, .int sr, .ref q1, .ref q2, .long ta, .long tb, .long pv.1, .long pv.2, .ref v1, .ref v2, .ref dd])), (f1, .inl (cJ, 31, .inr (.inl (fF)))), (f2, .inl (cJ, 31, .inr (.inl (fS))))] s.heap.size = A at hD ⊢
  have hA : ∀ q : Nat, s.heap.size ≤ q → A q := fun q h => by rw [← hAe]; exact Or.inr h
  have hS : va_S A s.heap s.heap [] := va_S.rf
  have hP : va_P (dC, dI) vwCl [(y0, .inr (9, [.long w1, .long w2, .long ov, .int (nI hh), .int (nI md), .int xu, .ref f1, .ref f2, .ref ma, .int xl, .int xs, .int sr, .ref q1, .ref q2, .long ta, .long tb, .long pv.1, .long pv.2, .ref v1, .ref v2, .ref dd])), (f1, .inl (cJ, 31, .inr (.inl (fF)))), (f2, .inl (cJ, 31, .inr (.inl (fS))))] s.heap := hP
  have hl := lv_entry ([.ref y0, .int yl, .int yi, .int yh]) (n := 4) (Nat.le_of_ble_eq_true rfl)
  rw [lg_entry_eq]
  generalize (lg_sl ([.ref y0, .int yl, .int yi, .int yh]) ++ List.replicate (4 - (lg_sl ([.ref y0, .int yl, .int yi, .int yh])).length) Slot.unset).toArray = ls at hl ⊢
  have iX9 : ∀ w ∈ wsX90, w ∈ wsX9_node := by decide +kernel
  have f17 := hts (.fieldLink RX9 17 "LeafSignerModel" "seconds" "[J") (by decide +kernel)
  have f13 := hts (.fieldLink RX9 13 "LeafSignerModel" "firsts" "[J") (by decide +kernel)
  have hl : lv_has ls 4 [(0, .ref y0), (1, .int yl), (2, .int yi), (3, .int yh)] := hl
  refine lv_iload_n hx hb dX9_node_0 rfl (lv_at hl 3 rfl) ?_
  refine lv_if_lt (tgt := 18) hx hb dX9_node_1 (by decide) (fun c1 => ?_) (fun c1 => ?_)
  ·
    refine lv_lconst (v := lN 0) hx hb dX9_node_18 (by decide) ?_
    exact W.lret (v := lN 0) hx hb hr (fun t ht hW => ⟨⟨lN 0, (), rfl, ndA_n (fun q => half_no1 c1 q.1), by rw [ht]; exact hP, va_K.moved hW.alike hK, hD⟩, hS.F ht⟩) hS.2.2 dX9_node_19
  ·
    refine lv_iload_n hx hb dX9_node_4 rfl (lv_at hl 3 rfl) ?_
    refine lv_iconst (v := nI 1) hx hb dX9_node_5 (by decide) ?_
    refine lv_icmp_gt (tgt := 18) hx hb dX9_node_6 (by decide) (fun c6 => ?_) (fun c6 => ?_)
    ·
      refine lv_lconst (v := lN 0) hx hb dX9_node_18 (by decide) ?_
      exact W.lret (v := lN 0) hx hb hr (fun t ht hW => ⟨⟨lN 0, (), rfl, ndA_n (fun q => half_no2 c6 q.1), by rw [ht]; exact hP, va_K.moved hW.alike hK, hD⟩, hS.F ht⟩) hS.2.2 dX9_node_19
    ·
      refine lv_aload_n hx hb dX9_node_9 rfl (lv_at hl 0 rfl) ?_
      refine lv_iload_n hx hb dX9_node_10 rfl (lv_at hl 1 rfl) ?_
      refine lv_iload_n hx hb dX9_node_11 rfl (lv_at hl 2 rfl) ?_
      refine st_calli (va_runV (As := [.int yl, .int yi]) (rest := []) ⟨hx, hb, hml, hown, hts⟩ (c_LeafSignerModel_isMade l dC dI cJ cI y0 f1 f2 ma q1 q2 v1 v2 dd w1 w2 ov ta tb xu xl xs sr pv hh md yl yi (by omega) (by omega) s.heap.size) (cwV 2 hts gX9_node_X9_isMade rfl rfl rfl (by decide +kernel) ⟨Nat.le_of_ble_eq_true rfl, Nat.le_of_ble_eq_true rfl⟩) (st_preV hK hP hD [0] rfl rfl (ci := 9) (q0 := 0) rfl rfl) rfl rfl hl.1 rfl (lv_room (Nat.le_of_ble_eq_true rfl)) dX9_node_12 ⟨Nat.le_of_ble_eq_true rfl, Nat.le_of_ble_eq_true rfl⟩) hP hD hS hA [0] [1, 2] (wr := [(f1, .inl (cJ, 31, .inr (.inl (fF)))), (f2, .inl (cJ, 31, .inr (.inl (fS))))]) rfl rfl (by decide) (by decide) [2, 0, 1] (res := fun _ => [(y0, .inr (9, [.long w1, .long w2, .long ov, .int (nI hh), .int (nI md), .int xu, .ref f1, .ref f2, .ref ma, .int xl, .int xs, .int sr, .ref q1, .ref q2, .long ta, .long tb, .long pv.1, .long pv.2, .ref v1, .ref v2, .ref dd])), (f1, .inl (cJ, 31, .inr (.inl (fF)))), (f2, .inl (cJ, 31, .inr (.inl (fS))))]) (fun _ => rfl) (by decide) (fun r_1 _ H locs hu hP hD hS => ?_)
      have hP : va_P (dC, dI) vwCl [(y0, .inr (9, [.long w1, .long w2, .long ov, .int (nI hh), .int (nI md), .int xu, .ref f1, .ref f2, .ref ma, .int xl, .int xs, .int sr, .ref q1, .ref q2, .long ta, .long tb, .long pv.1, .long pv.2, .ref v1, .ref v2, .ref dd])), (f1, .inl (cJ, 31, .inr (.inl (fF)))), (f2, .inl (cJ, 31, .inr (.inl (fS))))] H := hP
      have hD : va_D A [(y0, .inr (9, [.long w1, .long w2, .long ov, .int (nI hh), .int (nI md), .int xu, .ref f1, .ref f2, .ref ma, .int xl, .int xs, .int sr, .ref q1, .ref q2, .long ta, .long tb, .long pv.1, .long pv.2, .ref v1, .ref v2, .ref dd])), (f1, .inl (cJ, 31, .inr (.inl (fF)))), (f2, .inl (cJ, 31, .inr (.inl (fS))))] := hD
      subst hu
      refine lv_if_ne (tgt := 20) hx hb dX9_node_15 (by decide) (fun c15 => ?_) (fun c15 => ?_)
      ·
        rw [q_b0] at c15
        obtain ⟨lv, iv, hlv, hiv, hM, rfl, rfl⟩ := isM_get h4 (bf_not c15)
        obtain ⟨hf, hf1, rfl⟩ := half_in c1 c6
        have hsl := at_in h4 hlv hmd hM
        refine lv_iload_n hx hb dX9_node_20 rfl (lv_at hl 3 rfl) ?_
        refine lv_if_ne (tgt := 37) hx hb dX9_node_21 (by decide) (fun c21 => ?_) (fun c21 => ?_)
        ·
          rw [q_eq0 (by omega)] at c21
          refine lv_aload_n hx hb dX9_node_37 rfl (lv_at hl 0 rfl) ?_
          refine va_get (D := (dC, dI)) (ci := 9) (v := .ref f2) (C := RX9) (T := TX9) (N := 21) hx hb hts iX9 hown hK hP 0 rfl rfl 7 (by decide) f17 (fun _ h9 => h9) rfl dX9_node_38 ?_
          refine lv_iload_n hx hb dX9_node_41 rfl (lv_at hl 1 rfl) ?_
          refine lv_iload_n hx hb dX9_node_42 rfl (lv_at hl 2 rfl) ?_
          refine st_calli (va_runS (As := [.int (nI lv), .int (nI iv)]) (rest := [.ref f2]) ⟨hx, hb, hml, hown, hts⟩ (c_LeafSignerModel_at l dC dI cJ cI  lv iv (by omega) H.size) (va_cwS 2 hts gX9_node_X9_at rfl rfl rfl (by decide +kernel) ⟨Nat.le_of_ble_eq_true rfl, Nat.le_of_ble_eq_true rfl⟩) (st_preS hK hP hD [] rfl rfl) rfl rfl hl.1 rfl (lv_room (Nat.le_of_ble_eq_true rfl)) dX9_node_43 ⟨Nat.le_of_ble_eq_true rfl, Nat.le_of_ble_eq_true rfl⟩) hP hD hS hA [] [0, 1, 2] (wr := [(y0, .inr (9, [.long w1, .long w2, .long ov, .int (nI hh), .int (nI md), .int xu, .ref f1, .ref f2, .ref ma, .int xl, .int xs, .int sr, .ref q1, .ref q2, .long ta, .long tb, .long pv.1, .long pv.2, .ref v1, .ref v2, .ref dd])), (f1, .inl (cJ, 31, .inr (.inl (fF)))), (f2, .inl (cJ, 31, .inr (.inl (fS))))]) rfl rfl (by decide) (by decide) [0, 1, 2] (res := fun _ => [(y0, .inr (9, [.long w1, .long w2, .long ov, .int (nI hh), .int (nI md), .int xu, .ref f1, .ref f2, .ref ma, .int xl, .int xs, .int sr, .ref q1, .ref q2, .long ta, .long tb, .long pv.1, .long pv.2, .ref v1, .ref v2, .ref dd])), (f1, .inl (cJ, 31, .inr (.inl (fF)))), (f2, .inl (cJ, 31, .inr (.inl (fS))))]) (fun _ => rfl) (by decide) (fun r_2 _ H locs hu hP hD hS => ?_)
          have hP : va_P (dC, dI) vwCl [(y0, .inr (9, [.long w1, .long w2, .long ov, .int (nI hh), .int (nI md), .int xu, .ref f1, .ref f2, .ref ma, .int xl, .int xs, .int sr, .ref q1, .ref q2, .long ta, .long tb, .long pv.1, .long pv.2, .ref v1, .ref v2, .ref dd])), (f1, .inl (cJ, 31, .inr (.inl (fF)))), (f2, .inl (cJ, 31, .inr (.inl (fS))))] H := hP
          have hD : va_D A [(y0, .inr (9, [.long w1, .long w2, .long ov, .int (nI hh), .int (nI md), .int xu, .ref f1, .ref f2, .ref ma, .int xl, .int xs, .int sr, .ref q1, .ref q2, .long ta, .long tb, .long pv.1, .long pv.2, .ref v1, .ref v2, .ref dd])), (f1, .inl (cJ, 31, .inr (.inl (fF)))), (f2, .inl (cJ, 31, .inr (.inl (fS))))] := hD
          subst hu
          refine st_lald hx hb hK hP 2 0 rfl rfl (32 - 32 / 2 ^ lv + iv) rfl (by omega) (by omega) dX9_node_46 ?_
          exact W.lret (v := fS (32 - 32 / 2 ^ lv + iv)) hx hb hr (fun t ht hW => ⟨⟨fS (32 - 32 / 2 ^ lv + iv), (), rfl, by rw [ndA_y h4 hf1 hlv hiv hM, ← hN lv iv hlv hM, show hf = 1 by omega]; rfl, by rw [ht]; exact hP, va_K.moved hW.alike hK, hD⟩, hS.F ht⟩) hS.2.2 dX9_node_47
        ·
          rw [q_eq0 (by omega)] at c21
          refine lv_aload_n hx hb dX9_node_24 rfl (lv_at hl 0 rfl) ?_
          refine va_get (D := (dC, dI)) (ci := 9) (v := .ref f1) (C := RX9) (T := TX9) (N := 21) hx hb hts iX9 hown hK hP 0 rfl rfl 6 (by decide) f13 (fun _ h9 => h9) rfl dX9_node_25 ?_
          refine lv_iload_n hx hb dX9_node_28 rfl (lv_at hl 1 rfl) ?_
          refine lv_iload_n hx hb dX9_node_29 rfl (lv_at hl 2 rfl) ?_
          refine st_calli (va_runS (As := [.int (nI lv), .int (nI iv)]) (rest := [.ref f1]) ⟨hx, hb, hml, hown, hts⟩ (c_LeafSignerModel_at l dC dI cJ cI  lv iv (by omega) H.size) (va_cwS 2 hts gX9_node_X9_at rfl rfl rfl (by decide +kernel) ⟨Nat.le_of_ble_eq_true rfl, Nat.le_of_ble_eq_true rfl⟩) (st_preS hK hP hD [] rfl rfl) rfl rfl hl.1 rfl (lv_room (Nat.le_of_ble_eq_true rfl)) dX9_node_30 ⟨Nat.le_of_ble_eq_true rfl, Nat.le_of_ble_eq_true rfl⟩) hP hD hS hA [] [0, 1, 2] (wr := [(y0, .inr (9, [.long w1, .long w2, .long ov, .int (nI hh), .int (nI md), .int xu, .ref f1, .ref f2, .ref ma, .int xl, .int xs, .int sr, .ref q1, .ref q2, .long ta, .long tb, .long pv.1, .long pv.2, .ref v1, .ref v2, .ref dd])), (f1, .inl (cJ, 31, .inr (.inl (fF)))), (f2, .inl (cJ, 31, .inr (.inl (fS))))]) rfl rfl (by decide) (by decide) [0, 1, 2] (res := fun _ => [(y0, .inr (9, [.long w1, .long w2, .long ov, .int (nI hh), .int (nI md), .int xu, .ref f1, .ref f2, .ref ma, .int xl, .int xs, .int sr, .ref q1, .ref q2, .long ta, .long tb, .long pv.1, .long pv.2, .ref v1, .ref v2, .ref dd])), (f1, .inl (cJ, 31, .inr (.inl (fF)))), (f2, .inl (cJ, 31, .inr (.inl (fS))))]) (fun _ => rfl) (by decide) (fun r_3 _ H locs hu hP hD hS => ?_)
          have hP : va_P (dC, dI) vwCl [(y0, .inr (9, [.long w1, .long w2, .long ov, .int (nI hh), .int (nI md), .int xu, .ref f1, .ref f2, .ref ma, .int xl, .int xs, .int sr, .ref q1, .ref q2, .long ta, .long tb, .long pv.1, .long pv.2, .ref v1, .ref v2, .ref dd])), (f1, .inl (cJ, 31, .inr (.inl (fF)))), (f2, .inl (cJ, 31, .inr (.inl (fS))))] H := hP
          have hD : va_D A [(y0, .inr (9, [.long w1, .long w2, .long ov, .int (nI hh), .int (nI md), .int xu, .ref f1, .ref f2, .ref ma, .int xl, .int xs, .int sr, .ref q1, .ref q2, .long ta, .long tb, .long pv.1, .long pv.2, .ref v1, .ref v2, .ref dd])), (f1, .inl (cJ, 31, .inr (.inl (fF)))), (f2, .inl (cJ, 31, .inr (.inl (fS))))] := hD
          subst hu
          refine st_lald hx hb hK hP 1 0 rfl rfl (32 - 32 / 2 ^ lv + iv) rfl (by omega) (by omega) dX9_node_33 ?_
          refine lv_goto (tgt := 47) hx hb dX9_node_34 (by decide) ?_
          exact W.lret (v := fF (32 - 32 / 2 ^ lv + iv)) hx hb hr (fun t ht hW => ⟨⟨fF (32 - 32 / 2 ^ lv + iv), (), rfl, by rw [ndA_y h4 hf1 hlv hiv hM, ← hN lv iv hlv hM, c21]; rfl, by rw [ht]; exact hP, va_K.moved hW.alike hK, hD⟩, hS.F ht⟩) hS.2.2 dX9_node_47
      ·
        rw [q_b0] at c15
        refine lv_lconst (v := lN 0) hx hb dX9_node_18 (by decide) ?_
        exact W.lret (v := lN 0) hx hb hr (fun t ht hW => ⟨⟨lN 0, (), rfl, ndA_n (fun q => by rw [q.2] at c15; exact absurd c15 (by decide)), by rw [ht]; exact hP, va_K.moved hW.alike hK, hD⟩, hS.F ht⟩) hS.2.2 dX9_node_19

set_option maxHeartbeats 4000000 in
set_option maxRecDepth 100000 in
theorem cm_feed_no (l : Launch) (dC : Nat → ClassId) (dI : Nat → Nat → Nat) (cJ cI : ClassId) (y0 f1 f2 ma q1 q2 v1 v2 dd : Nat) (w1 w2 ov ta tb : Int64) (xh xm xu xs sr : Int32) (pv : Int64 × Int64) (ln : Nat) (xv : Int64) (hln : ln = 20) (sz : Nat) : Met l yX9_feed wsX9_feed ({ frames := 0, cells := 0, slots := 0, locals := 0 }) (va_Pc [.ref y0, .long xv] (st_B (dC, dI) vwCl [(cJ, .long), (cI, .int)] [(y0, .inr (9, [.long w1, .long w2, .long ov, .int xh, .int xm, .int xu, .ref f1, .ref f2, .ref ma, .int (nI ln), .int xs, .int sr, .ref q1, .ref q2, .long ta, .long tb, .long pv.1, .long pv.2, .ref v1, .ref v2, .ref dd]))] sz)) (va_Qi (fun (r : Int32) (_ : Unit) => r = -1) (st_E (dC, dI) vwCl [(cJ, .long), (cI, .int)] (va_A [(y0, .inr (9, [.long w1, .long w2, .long ov, .int xh, .int xm, .int xu, .ref f1, .ref f2, .ref ma, .int (nI ln), .int xs, .int sr, .ref q1, .ref q2, .long ta, .long tb, .long pv.1, .long pv.2, .ref v1, .ref v2, .ref dd]))] sz) (fun _ => [(y0, .inr (9, [.long w1, .long w2, .long ov, .int xh, .int xm, .int xu, .ref f1, .ref f2, .ref ma, .int (nI ln), .int xs, .int sr, .ref q1, .ref q2, .long ta, .long tb, .long pv.1, .long pv.2, .ref v1, .ref v2, .ref dd]))])) (va_A [(y0, .inr (9, [.long w1, .long w2, .long ov, .int xh, .int xm, .int xu, .ref f1, .ref f2, .ref ma, .int (nI ln), .int xs, .int sr, .ref q1, .ref q2, .long ta, .long tb, .long pv.1, .long pv.2, .ref v1, .ref v2, .ref dd]))] sz)) 0 0 (va_A [(y0, .inr (9, [.long w1, .long w2, .long ov, .int xh, .int xm, .int xu, .ref f1, .ref f2, .ref ma, .int (nI ln), .int xs, .int sr, .ref q1, .ref q2, .long ta, .long tb, .long pv.1, .long pv.2, .ref v1, .ref v2, .ref dd]))] sz) := by
  refine Met.ofW (cc := cX9_feed) (maxL := 3) (ret := (some .int)) (by decide) rfl ?_
  intro p e s m args below meth c s₁ B hml hv
  obtain ⟨rfl, hsz, hP, hK, hD0⟩ := hv
  have hx := B.exec
  have hb := B.bytes
  have hr := B.returns
  have hts := atoms_spec (ws := wsX9_feed) B.pre
  have hown : s.vm.findClass RX9 = some m.cls := findClass_of_methodNamed B.named
  have hlocks := B.notSynchronized
  subst hsz
  have hD := hD0.self (sz := s.heap.size)
  generalize hAe : va_A [(y0, .inr (9, [.long w1, .long w2, .long ov, .int xh, .int xm, .int xu, .ref f1, .ref f2, .ref ma, .int (nI ln), .int xs, .int sr, .ref q1, .ref q2, .long ta, .long tb, .long pv.1, .long pv.2, .ref v1, .ref v2, .ref dd]))] s.heap.size = A at hD ⊢
  have hA : ∀ q : Nat, s.heap.size ≤ q → A q := fun q h => by rw [← hAe]; exact Or.inr h
  have hS : va_S A s.heap s.heap [] := va_S.rf
  have hP : va_P (dC, dI) vwCl [(y0, .inr (9, [.long w1, .long w2, .long ov, .int xh, .int xm, .int xu, .ref f1, .ref f2, .ref ma, .int (nI ln), .int xs, .int sr, .ref q1, .ref q2, .long ta, .long tb, .long pv.1, .long pv.2, .ref v1, .ref v2, .ref dd]))] s.heap := hP
  have hl := lv_entry ([.ref y0, .long xv]) (n := 3) (Nat.le_of_ble_eq_true rfl)
  rw [lg_entry_eq]
  generalize (lg_sl ([.ref y0, .long xv]) ++ List.replicate (3 - (lg_sl ([.ref y0, .long xv])).length) Slot.unset).toArray = ls at hl ⊢
  have iX9 : ∀ w ∈ wsX90, w ∈ wsX9_feed := by decide +kernel
  have f115 := hts (.fieldLink RX9 115 "LeafSignerModel" "length" "I") (by decide +kernel)
  have hl : lv_has ls 3 [(0, .ref y0), (1, .long xv)] := hl
  refine lv_aload_n hx hb dX9_feed_0 rfl (lv_at hl 0 rfl) ?_
  refine va_get (D := (dC, dI)) (ci := 9) (v := .int (nI ln)) (C := RX9) (T := TX9) (N := 21) hx hb hts iX9 hown hK hP 0 rfl rfl 9 (by decide) f115 (fun _ h9 => h9) rfl dX9_feed_1 ?_
  refine lv_bipush (v := nI 20) hx hb dX9_feed_4 (by decide) ?_
  refine lv_icmp_ne (tgt := 11) hx hb dX9_feed_6 (by decide) (fun c6 => ?_) (fun c6 => ?_)
  ·
    rw [q_eq (by omega) (by omega)] at c6
    exact absurd c6 (by omega)
  ·
    rw [q_eq (by omega) (by omega)] at c6
    refine lv_iconst (v := -1) hx hb dX9_feed_9 (by decide) ?_
    exact W.iret (v := -1) hx hb hr (fun t ht hW => ⟨⟨-1, (), rfl, rfl, by rw [ht]; exact hP, va_K.moved hW.alike hK, hD⟩, hS.F ht⟩) hS.2.2 dX9_feed_10

set_option maxHeartbeats 4000000 in
set_option maxRecDepth 100000 in
theorem cm_feed_ok (l : Launch) (dC : Nat → ClassId) (dI : Nat → Nat → Nat) (cJ cI : ClassId) (y0 f1 f2 ma q1 q2 v1 v2 dd : Nat) (w1 w2 ov ta tb : Int64) (xh xm xu xs sr : Int32) (pv : Int64 × Int64) (ln : Nat) (xv : Int64) (mv : Nat → Int64) (hln : ln < 20) (sz : Nat) : Met l yX9_feed wsX9_feed ({ frames := 0, cells := 0, slots := 0, locals := 0 }) (va_Pc [.ref y0, .long xv] (st_B (dC, dI) vwCl [(cJ, .long), (cI, .int)] [(y0, .inr (9, [.long w1, .long w2, .long ov, .int xh, .int xm, .int xu, .ref f1, .ref f2, .ref ma, .int (nI ln), .int xs, .int sr, .ref q1, .ref q2, .long ta, .long tb, .long pv.1, .long pv.2, .ref v1, .ref v2, .ref dd])), (ma, .inl (cJ, 20, .inr (.inl (mv))))] sz)) (va_Qi (fun (r : Int32) (_ : Unit) => r = nI (ln + 1)) (st_E (dC, dI) vwCl [(cJ, .long), (cI, .int)] (va_A [(y0, .inr (9, [.long w1, .long w2, .long ov, .int xh, .int xm, .int xu, .ref f1, .ref f2, .ref ma, .int (nI ln), .int xs, .int sr, .ref q1, .ref q2, .long ta, .long tb, .long pv.1, .long pv.2, .ref v1, .ref v2, .ref dd])), (ma, .inl (cJ, 20, .inr (.inl (mv))))] sz) (fun _ => [(y0, .inr (9, [.long w1, .long w2, .long ov, .int xh, .int xm, .int xu, .ref f1, .ref f2, .ref ma, .int (nI (ln + 1)), .int xs, .int sr, .ref q1, .ref q2, .long ta, .long tb, .long pv.1, .long pv.2, .ref v1, .ref v2, .ref dd])), (ma, .inl (cJ, 20, .inr (.inl (vp_updL mv ln xv))))])) (va_A [(y0, .inr (9, [.long w1, .long w2, .long ov, .int xh, .int xm, .int xu, .ref f1, .ref f2, .ref ma, .int (nI ln), .int xs, .int sr, .ref q1, .ref q2, .long ta, .long tb, .long pv.1, .long pv.2, .ref v1, .ref v2, .ref dd])), (ma, .inl (cJ, 20, .inr (.inl (mv))))] sz)) 0 0 (va_A [(y0, .inr (9, [.long w1, .long w2, .long ov, .int xh, .int xm, .int xu, .ref f1, .ref f2, .ref ma, .int (nI ln), .int xs, .int sr, .ref q1, .ref q2, .long ta, .long tb, .long pv.1, .long pv.2, .ref v1, .ref v2, .ref dd])), (ma, .inl (cJ, 20, .inr (.inl (mv))))] sz) := by
  refine Met.ofW (cc := cX9_feed) (maxL := 3) (ret := (some .int)) (by decide) rfl ?_
  intro p e s m args below meth c s₁ B hml hv
  obtain ⟨rfl, hsz, hP, hK, hD0⟩ := hv
  have hx := B.exec
  have hb := B.bytes
  have hr := B.returns
  have hts := atoms_spec (ws := wsX9_feed) B.pre
  have hown : s.vm.findClass RX9 = some m.cls := findClass_of_methodNamed B.named
  have hlocks := B.notSynchronized
  subst hsz
  have hD := hD0.self (sz := s.heap.size)
  generalize hAe : va_A [(y0, .inr (9, [.long w1, .long w2, .long ov, .int xh, .int xm, .int xu, .ref f1, .ref f2, .ref ma, .int (nI ln), .int xs, .int sr, .ref q1, .ref q2, .long ta, .long tb, .long pv.1, .long pv.2, .ref v1, .ref v2, .ref dd])), (ma, .inl (cJ, 20, .inr (.inl (mv))))] s.heap.size = A at hD ⊢
  have hA : ∀ q : Nat, s.heap.size ≤ q → A q := fun q h => by rw [← hAe]; exact Or.inr h
  have hS : va_S A s.heap s.heap [] := va_S.rf
  have hP : va_P (dC, dI) vwCl [(y0, .inr (9, [.long w1, .long w2, .long ov, .int xh, .int xm, .int xu, .ref f1, .ref f2, .ref ma, .int (nI ln), .int xs, .int sr, .ref q1, .ref q2, .long ta, .long tb, .long pv.1, .long pv.2, .ref v1, .ref v2, .ref dd])), (ma, .inl (cJ, 20, .inr (.inl (mv))))] s.heap := hP
  have hl := lv_entry ([.ref y0, .long xv]) (n := 3) (Nat.le_of_ble_eq_true rfl)
  rw [lg_entry_eq]
  generalize (lg_sl ([.ref y0, .long xv]) ++ List.replicate (3 - (lg_sl ([.ref y0, .long xv])).length) Slot.unset).toArray = ls at hl ⊢
  have iX9 : ∀ w ∈ wsX90, w ∈ wsX9_feed := by decide +kernel
  have f115 := hts (.fieldLink RX9 115 "LeafSignerModel" "length" "I") (by decide +kernel)
  have f20 := hts (.fieldLink RX9 20 "LeafSignerModel" "message" "[J") (by decide +kernel)
  have hl : lv_has ls 3 [(0, .ref y0), (1, .long xv)] := hl
  refine lv_aload_n hx hb dX9_feed_0 rfl (lv_at hl 0 rfl) ?_
  refine va_get (D := (dC, dI)) (ci := 9) (v := .int (nI ln)) (C := RX9) (T := TX9) (N := 21) hx hb hts iX9 hown hK hP 0 rfl rfl 9 (by decide) f115 (fun _ h9 => h9) rfl dX9_feed_1 ?_
  refine lv_bipush (v := nI 20) hx hb dX9_feed_4 (by decide) ?_
  refine lv_icmp_ne (tgt := 11) hx hb dX9_feed_6 (by decide) (fun c6 => ?_) (fun c6 => ?_)
  ·
    rw [q_eq (by omega) (by omega)] at c6
    refine lv_aload_n hx hb dX9_feed_11 rfl (lv_at hl 0 rfl) ?_
    refine va_get (D := (dC, dI)) (ci := 9) (v := .ref ma) (C := RX9) (T := TX9) (N := 21) hx hb hts iX9 hown hK hP 0 rfl rfl 8 (by decide) f20 (fun _ h9 => h9) rfl dX9_feed_12 ?_
    refine lv_aload_n hx hb dX9_feed_15 rfl (lv_at hl 0 rfl) ?_
    refine va_get (D := (dC, dI)) (ci := 9) (v := .int (nI ln)) (C := RX9) (T := TX9) (N := 21) hx hb hts iX9 hown hK hP 0 rfl rfl 9 (by decide) f115 (fun _ h9 => h9) rfl dX9_feed_16 ?_
    refine lv_lload_n hx hb dX9_feed_19 rfl (lv_at hl 1 rfl) ?_
    refine st_last hx hb hK hP hD hS 1 0 rfl rfl ln rfl (by omega) (by omega) dX9_feed_20 (fun H locs hP hD hS => ?_)
    have hP : va_P (dC, dI) vwCl [(y0, .inr (9, [.long w1, .long w2, .long ov, .int xh, .int xm, .int xu, .ref f1, .ref f2, .ref ma, .int (nI ln), .int xs, .int sr, .ref q1, .ref q2, .long ta, .long tb, .long pv.1, .long pv.2, .ref v1, .ref v2, .ref dd])), (ma, .inl (cJ, 20, .inr (.inl (vp_updL mv ln xv))))] H := hP
    have hD : va_D A [(y0, .inr (9, [.long w1, .long w2, .long ov, .int xh, .int xm, .int xu, .ref f1, .ref f2, .ref ma, .int (nI ln), .int xs, .int sr, .ref q1, .ref q2, .long ta, .long tb, .long pv.1, .long pv.2, .ref v1, .ref v2, .ref dd])), (ma, .inl (cJ, 20, .inr (.inl (vp_updL mv ln xv))))] := hD
    refine lv_aload_n hx hb dX9_feed_21 rfl (lv_at hl 0 rfl) ?_
    refine lv_dup hx hb dX9_feed_22 rfl ?_
    refine va_get (D := (dC, dI)) (ci := 9) (v := .int (nI ln)) (C := RX9) (T := TX9) (N := 21) hx hb hts iX9 hown hK hP 0 rfl rfl 9 (by decide) f115 (fun _ h9 => h9) rfl dX9_feed_23 ?_
    refine lv_iconst (v := nI 1) hx hb dX9_feed_26 (by decide) ?_
    refine lv_iadd hx hb dX9_feed_27 ?_
    refine st_i (y := nI (ln + 1)) (nI_add ln 1) ?_
    refine va_put (D := (dC, dI)) (ci := 9) (v := .int (nI (ln + 1))) (ty := .int) (C := RX9) (T := TX9) (N := 21) hx hb hts iX9 tyX9 tyX9_ok nmX9 hown hK hP hD hS 0 rfl rfl 9 (by decide) f115 (fun _ h9 => h9) rfl (by decide +kernel) rfl rfl (Nat.le_of_ble_eq_true rfl) dX9_feed_28 (fun H locs hP hD hS => ?_)
    have hP : va_P (dC, dI) vwCl [(y0, .inr (9, [.long w1, .long w2, .long ov, .int xh, .int xm, .int xu, .ref f1, .ref f2, .ref ma, .int (nI (ln + 1)), .int xs, .int sr, .ref q1, .ref q2, .long ta, .long tb, .long pv.1, .long pv.2, .ref v1, .ref v2, .ref dd])), (ma, .inl (cJ, 20, .inr (.inl (vp_updL mv ln xv))))] H := hP
    have hD : va_D A [(y0, .inr (9, [.long w1, .long w2, .long ov, .int xh, .int xm, .int xu, .ref f1, .ref f2, .ref ma, .int (nI (ln + 1)), .int xs, .int sr, .ref q1, .ref q2, .long ta, .long tb, .long pv.1, .long pv.2, .ref v1, .ref v2, .ref dd])), (ma, .inl (cJ, 20, .inr (.inl (vp_updL mv ln xv))))] := hD
    refine lv_aload_n hx hb dX9_feed_31 rfl (lv_at hl 0 rfl) ?_
    refine va_get (D := (dC, dI)) (ci := 9) (v := .int (nI (ln + 1))) (C := RX9) (T := TX9) (N := 21) hx hb hts iX9 hown hK hP 0 rfl rfl 9 (by decide) f115 (fun _ h9 => h9) rfl dX9_feed_32 ?_
    exact W.iret (v := nI (ln + 1)) hx hb hr (fun t ht hW => ⟨⟨nI (ln + 1), (), rfl, rfl, by rw [ht]; exact hP, va_K.moved hW.alike hK, hD⟩, hS.F ht⟩) hS.2.2 dX9_feed_35
  ·
    rw [q_eq (by omega) (by omega)] at c6
    exact absurd c6 (by omega)

set_option maxHeartbeats 4000000 in
set_option maxRecDepth 100000 in
theorem c_LeafSignerModel_reset (l : Launch) (dC : Nat → ClassId) (dI : Nat → Nat → Nat) (cJ cI : ClassId) (y0 f1 f2 ma q1 q2 v1 v2 dd : Nat) (w1 w2 ov ta tb : Int64) (xh xm xu xs sr : Int32) (pv : Int64 × Int64) (ln : Nat) (sz : Nat) : Met l yX9_reset wsX9_reset ({ frames := 0, cells := 0, slots := 0, locals := 0 }) (va_Pc [.ref y0] (st_B (dC, dI) vwCl [(cJ, .long), (cI, .int)] [(y0, .inr (9, [.long w1, .long w2, .long ov, .int xh, .int xm, .int xu, .ref f1, .ref f2, .ref ma, .int (nI ln), .int xs, .int sr, .ref q1, .ref q2, .long ta, .long tb, .long pv.1, .long pv.2, .ref v1, .ref v2, .ref dd]))] sz)) (va_Qi (fun (r : Int32) (_ : Unit) => r = nI ln) (st_E (dC, dI) vwCl [(cJ, .long), (cI, .int)] (va_A [(y0, .inr (9, [.long w1, .long w2, .long ov, .int xh, .int xm, .int xu, .ref f1, .ref f2, .ref ma, .int (nI ln), .int xs, .int sr, .ref q1, .ref q2, .long ta, .long tb, .long pv.1, .long pv.2, .ref v1, .ref v2, .ref dd]))] sz) (fun _ => [(y0, .inr (9, [.long w1, .long w2, .long ov, .int xh, .int xm, .int xu, .ref f1, .ref f2, .ref ma, .int (nI 0), .int xs, .int sr, .ref q1, .ref q2, .long ta, .long tb, .long pv.1, .long pv.2, .ref v1, .ref v2, .ref dd]))])) (va_A [(y0, .inr (9, [.long w1, .long w2, .long ov, .int xh, .int xm, .int xu, .ref f1, .ref f2, .ref ma, .int (nI ln), .int xs, .int sr, .ref q1, .ref q2, .long ta, .long tb, .long pv.1, .long pv.2, .ref v1, .ref v2, .ref dd]))] sz)) 0 0 (va_A [(y0, .inr (9, [.long w1, .long w2, .long ov, .int xh, .int xm, .int xu, .ref f1, .ref f2, .ref ma, .int (nI ln), .int xs, .int sr, .ref q1, .ref q2, .long ta, .long tb, .long pv.1, .long pv.2, .ref v1, .ref v2, .ref dd]))] sz) := by
  refine Met.ofW (cc := cX9_reset) (maxL := 2) (ret := (some .int)) (by decide) rfl ?_
  intro p e s m args below meth c s₁ B hml hv
  obtain ⟨rfl, hsz, hP, hK, hD0⟩ := hv
  have hx := B.exec
  have hb := B.bytes
  have hr := B.returns
  have hts := atoms_spec (ws := wsX9_reset) B.pre
  have hown : s.vm.findClass RX9 = some m.cls := findClass_of_methodNamed B.named
  have hlocks := B.notSynchronized
  subst hsz
  have hD := hD0.self (sz := s.heap.size)
  generalize hAe : va_A [(y0, .inr (9, [.long w1, .long w2, .long ov, .int xh, .int xm, .int xu, .ref f1, .ref f2, .ref ma, .int (nI ln), .int xs, .int sr, .ref q1, .ref q2, .long ta, .long tb, .long pv.1, .long pv.2, .ref v1, .ref v2, .ref dd]))] s.heap.size = A at hD ⊢
  have hA : ∀ q : Nat, s.heap.size ≤ q → A q := fun q h => by rw [← hAe]; exact Or.inr h
  have hS : va_S A s.heap s.heap [] := va_S.rf
  have hP : va_P (dC, dI) vwCl [(y0, .inr (9, [.long w1, .long w2, .long ov, .int xh, .int xm, .int xu, .ref f1, .ref f2, .ref ma, .int (nI ln), .int xs, .int sr, .ref q1, .ref q2, .long ta, .long tb, .long pv.1, .long pv.2, .ref v1, .ref v2, .ref dd]))] s.heap := hP
  have hl := lv_entry ([.ref y0]) (n := 2) (Nat.le_of_ble_eq_true rfl)
  rw [lg_entry_eq]
  generalize (lg_sl ([.ref y0]) ++ List.replicate (2 - (lg_sl ([.ref y0])).length) Slot.unset).toArray = ls at hl ⊢
  have iX9 : ∀ w ∈ wsX90, w ∈ wsX9_reset := by decide +kernel
  have f115 := hts (.fieldLink RX9 115 "LeafSignerModel" "length" "I") (by decide +kernel)
  have hl : lv_has ls 2 [(0, .ref y0)] := hl
  refine lv_aload_n hx hb dX9_reset_0 rfl (lv_at hl 0 rfl) ?_
  refine va_get (D := (dC, dI)) (ci := 9) (v := .int (nI ln)) (C := RX9) (T := TX9) (N := 21) hx hb hts iX9 hown hK hP 0 rfl rfl 9 (by decide) f115 (fun _ h9 => h9) rfl dX9_reset_1 ?_
  refine lv_istore_n (lv' := [(1, .int (nI ln)), (0, .ref y0)]) hx hb dX9_reset_4 rfl hl (by decide) rfl (fun ls hl => ?_)
  refine lv_aload_n hx hb dX9_reset_5 rfl (lv_at hl 1 rfl) ?_
  refine lv_iconst (v := nI 0) hx hb dX9_reset_6 (by decide) ?_
  refine va_put (D := (dC, dI)) (ci := 9) (v := .int (nI 0)) (ty := .int) (C := RX9) (T := TX9) (N := 21) hx hb hts iX9 tyX9 tyX9_ok nmX9 hown hK hP hD hS 0 rfl rfl 9 (by decide) f115 (fun _ h9 => h9) rfl (by decide +kernel) rfl rfl (Nat.le_of_ble_eq_true rfl) dX9_reset_7 (fun H locs hP hD hS => ?_)
  have hP : va_P (dC, dI) vwCl [(y0, .inr (9, [.long w1, .long w2, .long ov, .int xh, .int xm, .int xu, .ref f1, .ref f2, .ref ma, .int (nI 0), .int xs, .int sr, .ref q1, .ref q2, .long ta, .long tb, .long pv.1, .long pv.2, .ref v1, .ref v2, .ref dd]))] H := hP
  have hD : va_D A [(y0, .inr (9, [.long w1, .long w2, .long ov, .int xh, .int xm, .int xu, .ref f1, .ref f2, .ref ma, .int (nI 0), .int xs, .int sr, .ref q1, .ref q2, .long ta, .long tb, .long pv.1, .long pv.2, .ref v1, .ref v2, .ref dd]))] := hD
  refine lv_iload_n hx hb dX9_reset_10 rfl (lv_at hl 0 rfl) ?_
  exact W.iret (v := nI ln) hx hb hr (fun t ht hW => ⟨⟨nI ln, (), rfl, rfl, by rw [ht]; exact hP, va_K.moved hW.alike hK, hD⟩, hS.F ht⟩) hS.2.2 dX9_reset_11

set_option maxHeartbeats 4000000 in
set_option maxRecDepth 100000 in
theorem c_LeafSignerModel_leaf (l : Launch) (dC : Nat → ClassId) (dI : Nat → Nat → Nat) (cJ cI : ClassId) (y0 f1 f2 ma q1 q2 v1 v2 dd : Nat) (w1 w2 ov ta tb : Int64) (xh xm xu xl sr : Int32) (pv : Int64 × Int64) (sg : Bool) (sz : Nat) : Met l yX9_leaf wsX9_leaf ({ frames := 0, cells := 0, slots := 0, locals := 0 }) (va_Pc [.ref y0] (st_B (dC, dI) vwCl [(cJ, .long), (cI, .int)] [(y0, .inr (9, [.long w1, .long w2, .long ov, .int xh, .int xm, .int xu, .ref f1, .ref f2, .ref ma, .int xl, .int (bI sg), .int sr, .ref q1, .ref q2, .long ta, .long tb, .long pv.1, .long pv.2, .ref v1, .ref v2, .ref dd]))] sz)) (va_Qi (fun (r : Int32) (_ : Unit) => r = if sg = true then sr else -1) (st_E (dC, dI) vwCl [(cJ, .long), (cI, .int)] (va_A [(y0, .inr (9, [.long w1, .long w2, .long ov, .int xh, .int xm, .int xu, .ref f1, .ref f2, .ref ma, .int xl, .int (bI sg), .int sr, .ref q1, .ref q2, .long ta, .long tb, .long pv.1, .long pv.2, .ref v1, .ref v2, .ref dd]))] sz) (fun _ => [(y0, .inr (9, [.long w1, .long w2, .long ov, .int xh, .int xm, .int xu, .ref f1, .ref f2, .ref ma, .int xl, .int (bI sg), .int sr, .ref q1, .ref q2, .long ta, .long tb, .long pv.1, .long pv.2, .ref v1, .ref v2, .ref dd]))])) (va_A [(y0, .inr (9, [.long w1, .long w2, .long ov, .int xh, .int xm, .int xu, .ref f1, .ref f2, .ref ma, .int xl, .int (bI sg), .int sr, .ref q1, .ref q2, .long ta, .long tb, .long pv.1, .long pv.2, .ref v1, .ref v2, .ref dd]))] sz)) 0 0 (va_A [(y0, .inr (9, [.long w1, .long w2, .long ov, .int xh, .int xm, .int xu, .ref f1, .ref f2, .ref ma, .int xl, .int (bI sg), .int sr, .ref q1, .ref q2, .long ta, .long tb, .long pv.1, .long pv.2, .ref v1, .ref v2, .ref dd]))] sz) := by
  refine Met.ofW (cc := cX9_leaf) (maxL := 1) (ret := (some .int)) (by decide) rfl ?_
  intro p e s m args below meth c s₁ B hml hv
  obtain ⟨rfl, hsz, hP, hK, hD0⟩ := hv
  have hx := B.exec
  have hb := B.bytes
  have hr := B.returns
  have hts := atoms_spec (ws := wsX9_leaf) B.pre
  have hown : s.vm.findClass RX9 = some m.cls := findClass_of_methodNamed B.named
  have hlocks := B.notSynchronized
  subst hsz
  have hD := hD0.self (sz := s.heap.size)
  generalize hAe : va_A [(y0, .inr (9, [.long w1, .long w2, .long ov, .int xh, .int xm, .int xu, .ref f1, .ref f2, .ref ma, .int xl, .int (bI sg), .int sr, .ref q1, .ref q2, .long ta, .long tb, .long pv.1, .long pv.2, .ref v1, .ref v2, .ref dd]))] s.heap.size = A at hD ⊢
  have hA : ∀ q : Nat, s.heap.size ≤ q → A q := fun q h => by rw [← hAe]; exact Or.inr h
  have hS : va_S A s.heap s.heap [] := va_S.rf
  have hP : va_P (dC, dI) vwCl [(y0, .inr (9, [.long w1, .long w2, .long ov, .int xh, .int xm, .int xu, .ref f1, .ref f2, .ref ma, .int xl, .int (bI sg), .int sr, .ref q1, .ref q2, .long ta, .long tb, .long pv.1, .long pv.2, .ref v1, .ref v2, .ref dd]))] s.heap := hP
  have hl := lv_entry ([.ref y0]) (n := 1) (Nat.le_of_ble_eq_true rfl)
  rw [lg_entry_eq]
  generalize (lg_sl ([.ref y0]) ++ List.replicate (1 - (lg_sl ([.ref y0])).length) Slot.unset).toArray = ls at hl ⊢
  have iX9 : ∀ w ∈ wsX90, w ∈ wsX9_leaf := by decide +kernel
  have f91 := hts (.fieldLink RX9 91 "LeafSignerModel" "signed" "Z") (by decide +kernel)
  have f128 := hts (.fieldLink RX9 128 "LeafSignerModel" "signer" "I") (by decide +kernel)
  have hl : lv_has ls 1 [(0, .ref y0)] := hl
  refine lv_aload_n hx hb dX9_leaf_0 rfl (lv_at hl 0 rfl) ?_
  refine va_get (D := (dC, dI)) (ci := 9) (v := .int (bI sg)) (C := RX9) (T := TX9) (N := 21) hx hb hts iX9 hown hK hP 0 rfl rfl 10 (by decide) f91 (fun _ h9 => h9) rfl dX9_leaf_1 ?_
  refine lv_if_eq (tgt := 14) hx hb dX9_leaf_4 (by decide) (fun c4 => ?_) (fun c4 => ?_)
  ·
    rw [q_b0] at c4
    refine lv_iconst (v := -1) hx hb dX9_leaf_14 (by decide) ?_
    exact W.iret (v := -1) hx hb hr (fun t ht hW => ⟨⟨-1, (), rfl, by rw [c4]; rfl, by rw [ht]; exact hP, va_K.moved hW.alike hK, hD⟩, hS.F ht⟩) hS.2.2 dX9_leaf_15
  ·
    rw [q_b0] at c4
    refine lv_aload_n hx hb dX9_leaf_7 rfl (lv_at hl 0 rfl) ?_
    refine va_get (D := (dC, dI)) (ci := 9) (v := .int sr) (C := RX9) (T := TX9) (N := 21) hx hb hts iX9 hown hK hP 0 rfl rfl 11 (by decide) f128 (fun _ h9 => h9) rfl dX9_leaf_8 ?_
    refine lv_goto (tgt := 15) hx hb dX9_leaf_11 (by decide) ?_
    exact W.iret (v := sr) hx hb hr (fun t ht hW => ⟨⟨sr, (), rfl, by rw [bf_not c4]; rfl, by rw [ht]; exact hP, va_K.moved hW.alike hK, hD⟩, hS.F ht⟩) hS.2.2 dX9_leaf_15

set_option maxHeartbeats 4000000 in
set_option maxRecDepth 100000 in
theorem c_LeafSignerModel_isPart (l : Launch) (dC : Nat → ClassId) (dI : Nat → Nat → Nat) (cJ cI : ClassId) (y0 f1 f2 ma q1 q2 v1 v2 dd : Nat) (w1 w2 ov ta tb : Int64) (xm xu xl sr : Int32) (pv : Int64 × Int64) (sg : Bool) (hh : Nat) (yk yh : Int32) (h4 : hh ≤ 4) (sz : Nat) : Met l yX9_isPart wsX9_isPart ({ frames := 0, cells := 0, slots := 0, locals := 0 }) (va_Pc [.ref y0, .int yk, .int yh] (st_B (dC, dI) vwCl [(cJ, .long), (cI, .int)] [(y0, .inr (9, [.long w1, .long w2, .long ov, .int (nI hh), .int xm, .int xu, .ref f1, .ref f2, .ref ma, .int xl, .int (bI sg), .int sr, .ref q1, .ref q2, .long ta, .long tb, .long pv.1, .long pv.2, .ref v1, .ref v2, .ref dd]))] sz)) (va_Qi (fun (r : Int32) (_ : Unit) => r = bI (decide (sg = true ∧ (yh = 0 ∨ yh = nI 1) ∧ (¬ yk < 0 ∧ ¬ nI (35 + hh) ≤ yk)))) (st_E (dC, dI) vwCl [(cJ, .long), (cI, .int)] (va_A [(y0, .inr (9, [.long w1, .long w2, .long ov, .int (nI hh), .int xm, .int xu, .ref f1, .ref f2, .ref ma, .int xl, .int (bI sg), .int sr, .ref q1, .ref q2, .long ta, .long tb, .long pv.1, .long pv.2, .ref v1, .ref v2, .ref dd]))] sz) (fun _ => [(y0, .inr (9, [.long w1, .long w2, .long ov, .int (nI hh), .int xm, .int xu, .ref f1, .ref f2, .ref ma, .int xl, .int (bI sg), .int sr, .ref q1, .ref q2, .long ta, .long tb, .long pv.1, .long pv.2, .ref v1, .ref v2, .ref dd]))])) (va_A [(y0, .inr (9, [.long w1, .long w2, .long ov, .int (nI hh), .int xm, .int xu, .ref f1, .ref f2, .ref ma, .int xl, .int (bI sg), .int sr, .ref q1, .ref q2, .long ta, .long tb, .long pv.1, .long pv.2, .ref v1, .ref v2, .ref dd]))] sz)) 0 0 (va_A [(y0, .inr (9, [.long w1, .long w2, .long ov, .int (nI hh), .int xm, .int xu, .ref f1, .ref f2, .ref ma, .int xl, .int (bI sg), .int sr, .ref q1, .ref q2, .long ta, .long tb, .long pv.1, .long pv.2, .ref v1, .ref v2, .ref dd]))] sz) := by
  refine Met.ofW (cc := cX9_isPart) (maxL := 3) (ret := (some .boolean)) (by decide) rfl ?_
  intro p e s m args below meth c s₁ B hml hv
  obtain ⟨rfl, hsz, hP, hK, hD0⟩ := hv
  have hx := B.exec
  have hb := B.bytes
  have hr := B.returns
  have hts := atoms_spec (ws := wsX9_isPart) B.pre
  have hown : s.vm.findClass RX9 = some m.cls := findClass_of_methodNamed B.named
  have hlocks := B.notSynchronized
  subst hsz
  have hD := hD0.self (sz := s.heap.size)
  generalize hAe : va_A [(y0, .inr (9, [.long w1, .long w2, .long ov, .int (nI hh), .int xm, .int xu, .ref f1, .ref f2, .ref ma, .int xl, .int (bI sg), .int sr, .ref q1, .ref q2, .long ta, .long tb, .long pv.1, .long pv.2, .ref v1, .ref v2, .ref dd]))] s.heap.size = A at hD ⊢
  have hA : ∀ q : Nat, s.heap.size ≤ q → A q := fun q h => by rw [← hAe]; exact Or.inr h
  have hS : va_S A s.heap s.heap [] := va_S.rf
  have hP : va_P (dC, dI) vwCl [(y0, .inr (9, [.long w1, .long w2, .long ov, .int (nI hh), .int xm, .int xu, .ref f1, .ref f2, .ref ma, .int xl, .int (bI sg), .int sr, .ref q1, .ref q2, .long ta, .long tb, .long pv.1, .long pv.2, .ref v1, .ref v2, .ref dd]))] s.heap := hP
  have hl := lv_entry ([.ref y0, .int yk, .int yh]) (n := 3) (Nat.le_of_ble_eq_true rfl)
  rw [lg_entry_eq]
  generalize (lg_sl ([.ref y0, .int yk, .int yh]) ++ List.replicate (3 - (lg_sl ([.ref y0, .int yk, .int yh])).length) Slot.unset).toArray = ls at hl ⊢
  have iX9 : ∀ w ∈ wsX90, w ∈ wsX9_isPart := by decide +kernel
  have f91 := hts (.fieldLink RX9 91 "LeafSignerModel" "signed" "Z") (by decide +kernel)
  have f7 := hts (.fieldLink RX9 7 "LeafSignerModel" "height" "I") (by decide +kernel)
  have hl : lv_has ls 3 [(0, .ref y0), (1, .int yk), (2, .int yh)] := hl
  refine lv_aload_n hx hb dX9_isPart_0 rfl (lv_at hl 0 rfl) ?_
  refine va_get (D := (dC, dI)) (ci := 9) (v := .int (bI sg)) (C := RX9) (T := TX9) (N := 21) hx hb hts iX9 hown hK hP 0 rfl rfl 10 (by decide) f91 (fun _ h9 => h9) rfl dX9_isPart_1 ?_
  refine lv_if_eq (tgt := 35) hx hb dX9_isPart_4 (by decide) (fun c4 => ?_) (fun c4 => ?_)
  ·
    rw [q_b0] at c4
    refine lv_iconst (v := nI 0) hx hb dX9_isPart_35 (by decide) ?_
    exact W.zret (v := nI 0) hx hb hr (by decide) (fun t ht hW => ⟨⟨nI 0, (), rfl, bI_f (fun q => by rw [q.1] at c4; exact absurd c4 (by decide)), by rw [ht]; exact hP, va_K.moved hW.alike hK, hD⟩, hS.F ht⟩) hS.2.2 dX9_isPart_36
  ·
    rw [q_b0] at c4
    refine lv_iload_n hx hb dX9_isPart_7 rfl (lv_at hl 1 rfl) ?_
    refine lv_if_lt (tgt := 35) hx hb dX9_isPart_8 (by decide) (fun c8 => ?_) (fun c8 => ?_)
    ·
      refine lv_iconst (v := nI 0) hx hb dX9_isPart_35 (by decide) ?_
      exact W.zret (v := nI 0) hx hb hr (by decide) (fun t ht hW => ⟨⟨nI 0, (), rfl, bI_f (fun q => q.2.2.1 c8), by rw [ht]; exact hP, va_K.moved hW.alike hK, hD⟩, hS.F ht⟩) hS.2.2 dX9_isPart_36
    ·
      refine lv_iload_n hx hb dX9_isPart_11 rfl (lv_at hl 1 rfl) ?_
      refine lv_bipush (v := nI 35) hx hb dX9_isPart_12 (by decide) ?_
      refine lv_aload_n hx hb dX9_isPart_14 rfl (lv_at hl 0 rfl) ?_
      refine va_get (D := (dC, dI)) (ci := 9) (v := .int (nI hh)) (C := RX9) (T := TX9) (N := 21) hx hb hts iX9 hown hK hP 0 rfl rfl 3 (by decide) f7 (fun _ h9 => h9) rfl dX9_isPart_15 ?_
      refine lv_iadd hx hb dX9_isPart_18 ?_
      refine st_i (y := nI (35 + hh)) (nI_add 35 hh) ?_
      refine lv_icmp_ge (tgt := 35) hx hb dX9_isPart_19 (by decide) (fun c19 => ?_) (fun c19 => ?_)
      ·
        refine lv_iconst (v := nI 0) hx hb dX9_isPart_35 (by decide) ?_
        exact W.zret (v := nI 0) hx hb hr (by decide) (fun t ht hW => ⟨⟨nI 0, (), rfl, bI_f (fun q => q.2.2.2 c19), by rw [ht]; exact hP, va_K.moved hW.alike hK, hD⟩, hS.F ht⟩) hS.2.2 dX9_isPart_36
      ·
        refine lv_iload_n hx hb dX9_isPart_22 rfl (lv_at hl 2 rfl) ?_
        refine lv_if_eq (tgt := 31) hx hb dX9_isPart_23 (by decide) (fun c23 => ?_) (fun c23 => ?_)
        ·
          refine lv_iconst (v := nI 1) hx hb dX9_isPart_31 (by decide) ?_
          refine lv_goto (tgt := 36) hx hb dX9_isPart_32 (by decide) ?_
          exact W.zret (v := nI 1) hx hb hr (by decide) (fun t ht hW => ⟨⟨nI 1, (), rfl, bI_t ⟨bf_not c4, Or.inl c23, c8, c19⟩, by rw [ht]; exact hP, va_K.moved hW.alike hK, hD⟩, hS.F ht⟩) hS.2.2 dX9_isPart_36
        ·
          refine lv_iload_n hx hb dX9_isPart_26 rfl (lv_at hl 2 rfl) ?_
          refine lv_iconst (v := nI 1) hx hb dX9_isPart_27 (by decide) ?_
          refine lv_icmp_ne (tgt := 35) hx hb dX9_isPart_28 (by decide) (fun c28 => ?_) (fun c28 => ?_)
          ·
            refine lv_iconst (v := nI 0) hx hb dX9_isPart_35 (by decide) ?_
            exact W.zret (v := nI 0) hx hb hr (by decide) (fun t ht hW => ⟨⟨nI 0, (), rfl, bI_f (fun q => q.2.1.elim c23 c28), by rw [ht]; exact hP, va_K.moved hW.alike hK, hD⟩, hS.F ht⟩) hS.2.2 dX9_isPart_36
          ·
            refine lv_iconst (v := nI 1) hx hb dX9_isPart_31 (by decide) ?_
            refine lv_goto (tgt := 36) hx hb dX9_isPart_32 (by decide) ?_
            exact W.zret (v := nI 1) hx hb hr (by decide) (fun t ht hW => ⟨⟨nI 1, (), rfl, bI_t ⟨bf_not c4, Or.inr c28, c8, c19⟩, by rw [ht]; exact hP, va_K.moved hW.alike hK, hD⟩, hS.F ht⟩) hS.2.2 dX9_isPart_36
