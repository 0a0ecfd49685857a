set_option maxHeartbeats 4000000 in
set_option maxRecDepth 100000 in
/-- the mixed long -/
theorem c_Hasher_mixed (l : Launch) (dC : Nat → ClassId) (dI : Nat → Nat → Nat) (cJ cI : ClassId) (xv : Int64) (sz : Nat) : Met l yX2_mixed wsX2_mixed ({ frames := 0, cells := 0, slots := 0, locals := 0 }) (va_Pc [.long xv] (st_B (dC, dI) vwCl [(cJ, .long), (cI, .int)] [] sz)) (va_Ql (fun (r : Int64) (_ : Unit) => r = mxL xv) (st_E (dC, dI) vwCl [(cJ, .long), (cI, .int)] (va_A [] sz) (fun _ => [])) (va_A [] sz)) 0 0 (va_A [] sz) := by
  refine Met.ofW (cc := cX2_mixed) (maxL := 6) (ret := (some .long)) (by decide) rfl ?_
  intro p e s m args below meth c s₁ B hml hv
  obtain ⟨rfl, hsz, hP, hK, hD0⟩ := hv
  have hx := B.exec
  have hb := B.bytes
  have hr := B.returns
  have hts := atoms_spec (ws := wsX2_mixed) B.pre
  have hown : s.vm.findClass RX2 = some m.cls := findClass_of_methodNamed B.named
  have hlocks := B.notSynchronized
  subst hsz
  have hD := hD0.self (sz := s.heap.size)
  generalize hAe : va_A [] s.heap.size = A at hD ⊢
  have hA : ∀ q : Nat, s.heap.size ≤ q → A q := fun q h => by rw [← hAe]; exact Or.inr h
  have hS : va_S A s.heap s.heap [] := va_S.rf
  have hP : va_P (dC, dI) vwCl [] s.heap := hP
  have hl := lv_entry ([.long xv]) (n := 6) (Nat.le_of_ble_eq_true rfl)
  rw [lg_entry_eq]
  generalize (lg_sl ([.long xv]) ++ List.replicate (6 - (lg_sl ([.long xv])).length) Slot.unset).toArray = ls at hl ⊢
  have hl : lv_has ls 6 [(0, .long xv)] := hl
  refine lv_lload_n hx hb dX2_mixed_0 rfl (lv_at hl 0 rfl) ?_
  refine lv_lload_n hx hb dX2_mixed_1 rfl (lv_at hl 0 rfl) ?_
  refine lv_bipush (v := nI 30) hx hb dX2_mixed_2 (by decide) ?_
  refine lv_lushr (v := (xv.toUInt64 >>> ((nI 30).toInt64.toUInt64 &&& Int64.toUInt64 63)).toInt64) hx hb dX2_mixed_4 rfl ?_
  refine lv_lxor hx hb dX2_mixed_5 ?_
  refine lv_ldc2 hx hb hown (hts (.constantLong RX2 54 (-4658895280553007687)) (by decide +kernel)) dX2_mixed_6 ?_
  refine lv_lmul hx hb dX2_mixed_9 ?_
  refine st_l (y := mx1 xv) (rfl) ?_
  refine lv_lstore_n (lv' := [(2, .long (mx1 xv)), (0, .long xv)]) hx hb dX2_mixed_10 rfl hl (by decide) rfl (fun ls hl => ?_)
  refine lv_lload_n hx hb dX2_mixed_11 rfl (lv_at hl 0 rfl) ?_
  refine lv_lload_n hx hb dX2_mixed_12 rfl (lv_at hl 0 rfl) ?_
  refine lv_bipush (v := nI 27) hx hb dX2_mixed_13 (by decide) ?_
  refine lv_lushr (v := ((mx1 xv).toUInt64 >>> ((nI 27).toInt64.toUInt64 &&& Int64.toUInt64 63)).toInt64) hx hb dX2_mixed_15 rfl ?_
  refine lv_lxor hx hb dX2_mixed_16 ?_
  refine lv_ldc2 hx hb hown (hts (.constantLong RX2 56 (-7723592293110705685)) (by decide +kernel)) dX2_mixed_17 ?_
  refine lv_lmul hx hb dX2_mixed_20 ?_
  refine st_l (y := mx2 (mx1 xv)) (rfl) ?_
  refine lv_lstore (lv' := [(4, .long (mx2 (mx1 xv))), (2, .long (mx1 xv)), (0, .long xv)]) hx hb dX2_mixed_21 hl (by decide) rfl (fun ls hl => ?_)
  refine lv_lload hx hb dX2_mixed_23 (lv_at hl 0 rfl) ?_
  refine lv_lload hx hb dX2_mixed_25 (lv_at hl 0 rfl) ?_
  refine lv_bipush (v := nI 31) hx hb dX2_mixed_27 (by decide) ?_
  refine lv_lushr (v := ((mx2 (mx1 xv)).toUInt64 >>> ((nI 31).toInt64.toUInt64 &&& Int64.toUInt64 63)).toInt64) hx hb dX2_mixed_29 rfl ?_
  refine lv_lxor hx hb dX2_mixed_30 ?_
  refine st_l (y := mxL xv) (rfl) ?_
  exact W.lret (v := mxL xv) hx hb hr (fun t ht hW => ⟨⟨mxL xv, (), rfl, rfl, by rw [ht]; exact hP, va_K.moved hW.alike hK, hD⟩, hS.F ht⟩) hS.2.2 dX2_mixed_31

set_option maxHeartbeats 4000000 in
set_option maxRecDepth 100000 in
/-- the hash of a kind of n longs, at first -/
theorem c_Hasher_start (l : Launch) (dC : Nat → ClassId) (dI : Nat → Nat → Nat) (cJ cI : ClassId) (h0 : Nat) (pv : Int64 × Int64) (kv nv : Int32) (ka na : Int64) (hka : kv.toInt64 = ka) (hna : nv.toInt64 = na) (sz : Nat) : Met l yX2_start wsX2_start ({ frames := 0, cells := 0, slots := 0, locals := 0 }) (va_Pc [.ref h0, .int kv, .int nv] (st_B (dC, dI) vwCl [(cJ, .long), (cI, .int)] [(h0, .inr (2, [.long pv.1, .long pv.2]))] sz)) (va_Qv (fun _ : Unit => True) (st_E (dC, dI) vwCl [(cJ, .long), (cI, .int)] (va_A [(h0, .inr (2, [.long pv.1, .long pv.2]))] sz) (fun _ => [(h0, .inr (2, [.long ka, .long na]))])) (va_A [(h0, .inr (2, [.long pv.1, .long pv.2]))] sz)) 0 0 (va_A [(h0, .inr (2, [.long pv.1, .long pv.2]))] sz) := by
  refine Met.ofW (cc := cX2_start) (maxL := 3) (ret := none) (by decide) rfl ?_
  intro p e s m args below meth c s₁ B hml hv
  obtain ⟨rfl, hsz, hP, hK, hD0⟩ := hv
  have hx := B.exec
  have hb := B.bytes
  have hr := B.returns
  have hts := atoms_spec (ws := wsX2_start) B.pre
  have hown : s.vm.findClass RX2 = some m.cls := findClass_of_methodNamed B.named
  have hlocks := B.notSynchronized
  subst hsz
  have hD := hD0.self (sz := s.heap.size)
  generalize hAe : va_A [(h0, .inr (2, [.long pv.1, .long pv.2]))] s.heap.size = A at hD ⊢
  have hA : ∀ q : Nat, s.heap.size ≤ q → A q := fun q h => by rw [← hAe]; exact Or.inr h
  have hS : va_S A s.heap s.heap [] := va_S.rf
  have hP : va_P (dC, dI) vwCl [(h0, .inr (2, [.long pv.1, .long pv.2]))] s.heap := hP
  have hl := lv_entry ([.ref h0, .int kv, .int nv]) (n := 3) (Nat.le_of_ble_eq_true rfl)
  rw [lg_entry_eq]
  generalize (lg_sl ([.ref h0, .int kv, .int nv]) ++ List.replicate (3 - (lg_sl ([.ref h0, .int kv, .int nv])).length) Slot.unset).toArray = ls at hl ⊢
  have iX2 : ∀ w ∈ wsX20, w ∈ wsX2_start := by decide +kernel
  have f9 := hts (.fieldLink RX2 9 "LeafSigner$Hasher" "a" "J") (by decide +kernel)
  have f15 := hts (.fieldLink RX2 15 "LeafSigner$Hasher" "b" "J") (by decide +kernel)
  have hl : lv_has ls 3 [(0, .ref h0), (1, .int kv), (2, .int nv)] := hl
  refine lv_aload_n hx hb dX2_start_0 rfl (lv_at hl 0 rfl) ?_
  refine lv_iload_n hx hb dX2_start_1 rfl (lv_at hl 1 rfl) ?_
  refine lv_i2l (v := kv.toInt64) hx hb dX2_start_2 rfl ?_
  refine st_l (y := ka) (hka) ?_
  refine va_put (D := (dC, dI)) (ci := 2) (v := .long ka) (ty := .long) (C := RX2) (T := TX2) (N := 2) hx hb hts iX2 tyX2 tyX2_ok nmX2 hown hK hP hD hS 0 rfl rfl 0 (by decide) f9 (fun _ h9 => h9) rfl (by decide +kernel) rfl rfl (Nat.le_of_ble_eq_true rfl) dX2_start_3 (fun H locs hP hD hS => ?_)
  have hP : va_P (dC, dI) vwCl [(h0, .inr (2, [.long ka, .long pv.2]))] H := hP
  have hD : va_D A [(h0, .inr (2, [.long ka, .long pv.2]))] := hD
  refine lv_aload_n hx hb dX2_start_6 rfl (lv_at hl 0 rfl) ?_
  refine lv_iload_n hx hb dX2_start_7 rfl (lv_at hl 2 rfl) ?_
  refine lv_i2l (v := nv.toInt64) hx hb dX2_start_8 rfl ?_
  refine st_l (y := na) (hna) ?_
  refine va_put (D := (dC, dI)) (ci := 2) (v := .long na) (ty := .long) (C := RX2) (T := TX2) (N := 2) hx hb hts iX2 tyX2 tyX2_ok nmX2 hown hK hP hD hS 0 rfl rfl 1 (by decide) f15 (fun _ h9 => h9) rfl (by decide +kernel) rfl rfl (Nat.le_of_ble_eq_true rfl) dX2_start_9 (fun H locs hP hD hS => ?_)
  have hP : va_P (dC, dI) vwCl [(h0, .inr (2, [.long ka, .long na]))] H := hP
  have hD : va_D A [(h0, .inr (2, [.long ka, .long na]))] := hD
  exact W.vret hx hb hr (fun t ht hW => ⟨⟨(), rfl, trivial, by rw [ht]; exact hP, va_K.moved hW.alike hK, hD⟩, hS.F ht⟩) hS.2.2 dX2_start_12

set_option maxHeartbeats 4000000 in
set_option maxRecDepth 100000 in
/-- one long more -/
theorem c_Hasher_add (l : Launch) (dC : Nat → ClassId) (dI : Nat → Nat → Nat) (cJ cI : ClassId) (h0 : Nat) (pv : Int64 × Int64) (xv : Int64) (sz : Nat) : Met l yX2_add wsX2_add ({ frames := 1, cells := 0, slots := 0, locals := 25 }) (va_Pc [.ref h0, .long xv] (st_B (dC, dI) vwCl [(cJ, .long), (cI, .int)] [(h0, .inr (2, [.long pv.1, .long pv.2]))] sz)) (va_Qv (fun _ : Unit => True) (st_E (dC, dI) vwCl [(cJ, .long), (cI, .int)] (va_A [(h0, .inr (2, [.long pv.1, .long pv.2]))] sz) (fun _ => [(h0, .inr (2, [.long ((ha pv xv).1), .long ((ha pv xv).2)]))])) (va_A [(h0, .inr (2, [.long pv.1, .long pv.2]))] sz)) 0 0 (va_A [(h0, .inr (2, [.long pv.1, .long pv.2]))] sz) := by
  refine Met.ofW (cc := cX2_add) (maxL := 3) (ret := none) (by decide) rfl ?_
  intro p e s m args below meth c s₁ B hml hv
  obtain ⟨rfl, hsz, hP, hK, hD0⟩ := hv
  have hx := B.exec
  have hb := B.bytes
  have hr := B.returns
  have hts := atoms_spec (ws := wsX2_add) B.pre
  have hown : s.vm.findClass RX2 = some m.cls := findClass_of_methodNamed B.named
  have hlocks := B.notSynchronized
  subst hsz
  have hD := hD0.self (sz := s.heap.size)
  generalize hAe : va_A [(h0, .inr (2, [.long pv.1, .long pv.2]))] s.heap.size = A at hD ⊢
  have hA : ∀ q : Nat, s.heap.size ≤ q → A q := fun q h => by rw [← hAe]; exact Or.inr h
  have hS : va_S A s.heap s.heap [] := va_S.rf
  have hP : va_P (dC, dI) vwCl [(h0, .inr (2, [.long pv.1, .long pv.2]))] s.heap := hP
  have hl := lv_entry ([.ref h0, .long xv]) (n := 3) (Nat.le_of_ble_eq_true rfl)
  rw [lg_entry_eq]
  generalize (lg_sl ([.ref h0, .long xv]) ++ List.replicate (3 - (lg_sl ([.ref h0, .long xv])).length) Slot.unset).toArray = ls at hl ⊢
  have iX2 : ∀ w ∈ wsX20, w ∈ wsX2_add := by decide +kernel
  have f9 := hts (.fieldLink RX2 9 "LeafSigner$Hasher" "a" "J") (by decide +kernel)
  have f15 := hts (.fieldLink RX2 15 "LeafSigner$Hasher" "b" "J") (by decide +kernel)
  have hl : lv_has ls 3 [(0, .ref h0), (1, .long xv)] := hl
  refine lv_aload_n hx hb dX2_add_0 rfl (lv_at hl 0 rfl) ?_
  refine lv_aload_n hx hb dX2_add_1 rfl (lv_at hl 0 rfl) ?_
  refine va_get (D := (dC, dI)) (ci := 2) (v := .long pv.1) (C := RX2) (T := TX2) (N := 2) hx hb hts iX2 hown hK hP 0 rfl rfl 0 (by decide) f9 (fun _ h9 => h9) rfl dX2_add_2 ?_
  refine lv_lload_n hx hb dX2_add_5 rfl (lv_at hl 1 rfl) ?_
  refine lv_lxor hx hb dX2_add_6 ?_
  refine st_calll (va_runS (As := [.long (pv.1 ^^^ xv)]) (rest := [.ref h0]) ⟨hx, hb, hml, hown, hts⟩ (c_Hasher_mixed l dC dI cJ cI  (pv.1 ^^^ xv)  s.heap.size) (va_cwS 1 hts gX2_add_X2_mixed rfl rfl rfl (by decide +kernel) ⟨Nat.le_of_ble_eq_true rfl, Nat.le_of_ble_eq_true rfl⟩) (st_preS hK hP hD [] rfl rfl) rfl rfl hl.1 rfl (lv_room (Nat.le_of_ble_eq_true rfl)) dX2_add_7 ⟨Nat.le_of_ble_eq_true rfl, Nat.le_of_ble_eq_true rfl⟩) hP hD hS hA [] [0] (wr := [(h0, .inr (2, [.long pv.1, .long pv.2]))]) rfl rfl (by decide) (by decide) [0] (res := fun _ => [(h0, .inr (2, [.long pv.1, .long pv.2]))]) (fun _ => rfl) (by decide) (fun r_1 _ H locs hu hP hD hS => ?_)
  have hP : va_P (dC, dI) vwCl [(h0, .inr (2, [.long pv.1, .long pv.2]))] H := hP
  have hD : va_D A [(h0, .inr (2, [.long pv.1, .long pv.2]))] := hD
  subst hu
  refine va_put (D := (dC, dI)) (ci := 2) (v := .long (mxL (pv.1 ^^^ xv))) (ty := .long) (C := RX2) (T := TX2) (N := 2) hx hb hts iX2 tyX2 tyX2_ok nmX2 hown hK hP hD hS 0 rfl rfl 0 (by decide) f9 (fun _ h9 => h9) rfl (by decide +kernel) rfl rfl (Nat.le_of_ble_eq_true rfl) dX2_add_10 (fun H locs hP hD hS => ?_)
  have hP : va_P (dC, dI) vwCl [(h0, .inr (2, [.long (mxL (pv.1 ^^^ xv)), .long pv.2]))] H := hP
  have hD : va_D A [(h0, .inr (2, [.long (mxL (pv.1 ^^^ xv)), .long pv.2]))] := hD
  refine lv_aload_n hx hb dX2_add_13 rfl (lv_at hl 0 rfl) ?_
  refine lv_aload_n hx hb dX2_add_14 rfl (lv_at hl 0 rfl) ?_
  refine va_get (D := (dC, dI)) (ci := 2) (v := .long pv.2) (C := RX2) (T := TX2) (N := 2) hx hb hts iX2 hown hK hP 0 rfl rfl 1 (by decide) f15 (fun _ h9 => h9) rfl dX2_add_15 ?_
  refine lv_aload_n hx hb dX2_add_18 rfl (lv_at hl 0 rfl) ?_
  refine va_get (D := (dC, dI)) (ci := 2) (v := .long (mxL (pv.1 ^^^ xv))) (C := RX2) (T := TX2) (N := 2) hx hb hts iX2 hown hK hP 0 rfl rfl 0 (by decide) f9 (fun _ h9 => h9) rfl dX2_add_19 ?_
  refine lv_ladd hx hb dX2_add_22 ?_
  refine st_calll (va_runS (As := [.long (pv.2 + (mxL (pv.1 ^^^ xv)))]) (rest := [.ref h0]) ⟨hx, hb, hml, hown, hts⟩ (c_Hasher_mixed l dC dI cJ cI  (pv.2 + (mxL (pv.1 ^^^ xv)))  H.size) (va_cwS 1 hts gX2_add_X2_mixed rfl rfl rfl (by decide +kernel) ⟨Nat.le_of_ble_eq_true rfl, Nat.le_of_ble_eq_true rfl⟩) (st_preS hK hP hD [] rfl rfl) rfl rfl hl.1 rfl (lv_room (Nat.le_of_ble_eq_true rfl)) dX2_add_23 ⟨Nat.le_of_ble_eq_true rfl, Nat.le_of_ble_eq_true rfl⟩) hP hD hS hA [] [0] (wr := [(h0, .inr (2, [.long (mxL (pv.1 ^^^ xv)), .long pv.2]))]) rfl rfl (by decide) (by decide) [0] (res := fun _ => [(h0, .inr (2, [.long (mxL (pv.1 ^^^ xv)), .long pv.2]))]) (fun _ => rfl) (by decide) (fun r_2 _ H locs hu hP hD hS => ?_)
  have hP : va_P (dC, dI) vwCl [(h0, .inr (2, [.long (mxL (pv.1 ^^^ xv)), .long pv.2]))] H := hP
  have hD : va_D A [(h0, .inr (2, [.long (mxL (pv.1 ^^^ xv)), .long pv.2]))] := hD
  subst hu
  refine va_put (D := (dC, dI)) (ci := 2) (v := .long (mxL (pv.2 + (mxL (pv.1 ^^^ xv))))) (ty := .long) (C := RX2) (T := TX2) (N := 2) hx hb hts iX2 tyX2 tyX2_ok nmX2 hown hK hP hD hS 0 rfl rfl 1 (by decide) f15 (fun _ h9 => h9) rfl (by decide +kernel) rfl rfl (Nat.le_of_ble_eq_true rfl) dX2_add_26 (fun H locs hP hD hS => ?_)
  have hP : va_P (dC, dI) vwCl [(h0, .inr (2, [.long (mxL (pv.1 ^^^ xv)), .long (mxL (pv.2 + (mxL (pv.1 ^^^ xv))))]))] H := hP
  have hD : va_D A [(h0, .inr (2, [.long (mxL (pv.1 ^^^ xv)), .long (mxL (pv.2 + (mxL (pv.1 ^^^ xv))))]))] := hD
  have eW_3 : ([(h0, .inr (2, [.long (mxL (pv.1 ^^^ xv)), .long (mxL (pv.2 + (mxL (pv.1 ^^^ xv))))]))] : va_W) = [(h0, .inr (2, [.long ((ha pv xv).1), .long ((ha pv xv).2)]))] := rfl
  have hP : va_P (dC, dI) vwCl [(h0, .inr (2, [.long ((ha pv xv).1), .long ((ha pv xv).2)]))] H := by rw [← eW_3]; exact hP
  have hD : va_D A [(h0, .inr (2, [.long ((ha pv xv).1), .long ((ha pv xv).2)]))] := by rw [← eW_3]; exact hD
  exact W.vret hx hb hr (fun t ht hW => ⟨⟨(), rfl, trivial, by rw [ht]; exact hP, va_K.moved hW.alike hK, hD⟩, hS.F ht⟩) hS.2.2 dX2_add_29

set_option maxHeartbeats 4000000 in
set_option maxRecDepth 100000 in
theorem c_Pairs_at (l : Launch) (dC : Nat → ClassId) (dI : Nat → Nat → Nat) (cJ cI : ClassId) (h0 h1 : Nat) (nn : Nat) (fv : Nat → Int64) (j hf : Nat) (hj : 2 * j + hf < nn) (hn : nn < 2 ^ 31) (sz : Nat) : Met l yX5_at wsX5_at ({ frames := 0, cells := 0, slots := 0, locals := 0 }) (va_Pc [.ref h0, .int (nI j), .int (nI hf)] (st_B (dC, dI) vwCl [(cJ, .long), (cI, .int)] [(h0, .inr (5, [.ref h1])), (h1, .inl (cJ, nn, .inr (.inl (fv))))] sz)) (va_Ql (fun (r : Int64) (_ : Unit) => r = fv (2 * j + hf)) (st_E (dC, dI) vwCl [(cJ, .long), (cI, .int)] (va_A [(h0, .inr (5, [.ref h1])), (h1, .inl (cJ, nn, .inr (.inl (fv))))] sz) (fun _ => [(h0, .inr (5, [.ref h1])), (h1, .inl (cJ, nn, .inr (.inl (fv))))])) (va_A [(h0, .inr (5, [.ref h1])), (h1, .inl (cJ, nn, .inr (.inl (fv))))] sz)) 0 0 (va_A [(h0, .inr (5, [.ref h1])), (h1, .inl (cJ, nn, .inr (.inl (fv))))] sz) := by
  refine Met.ofW (cc := cX5_at) (maxL := 3) (ret := (some .long)) (by decide) rfl ?_
  intro p e s m args below meth c s₁ B hml hv
  obtain ⟨rfl, hsz, hP, hK, hD0⟩ := hv
  have hx := B.exec
  have hb := B.bytes
  have hr := B.returns
  have hts := atoms_spec (ws := wsX5_at) B.pre
  have hown : s.vm.findClass RX5 = some m.cls := findClass_of_methodNamed B.named
  have hlocks := B.notSynchronized
  subst hsz
  have hD := hD0.self (sz := s.heap.size)
  generalize hAe : va_A [(h0, .inr (5, [.ref h1])), (h1, .inl (cJ, nn, .inr (.inl (fv))))] s.heap.size = A at hD ⊢
  have hA : ∀ q : Nat, s.heap.size ≤ q → A q := fun q h => by rw [← hAe]; exact Or.inr h
  have hS : va_S A s.heap s.heap [] := va_S.rf
  have hP : va_P (dC, dI) vwCl [(h0, .inr (5, [.ref h1])), (h1, .inl (cJ, nn, .inr (.inl (fv))))] s.heap := hP
  have hl := lv_entry ([.ref h0, .int (nI j), .int (nI hf)]) (n := 3) (Nat.le_of_ble_eq_true rfl)
  rw [lg_entry_eq]
  generalize (lg_sl ([.ref h0, .int (nI j), .int (nI hf)]) ++ List.replicate (3 - (lg_sl ([.ref h0, .int (nI j), .int (nI hf)])).length) Slot.unset).toArray = ls at hl ⊢
  have iX5 : ∀ w ∈ wsX50, w ∈ wsX5_at := by decide +kernel
  have f7 := hts (.fieldLink RX5 7 "LeafSigner$Pairs" "longs" "[J") (by decide +kernel)
  have hl : lv_has ls 3 [(0, .ref h0), (1, .int (nI j)), (2, .int (nI hf))] := hl
  refine lv_aload_n hx hb dX5_at_0 rfl (lv_at hl 0 rfl) ?_
  refine va_get (D := (dC, dI)) (ci := 5) (v := .ref h1) (C := RX5) (T := TX5) (N := 1) hx hb hts iX5 hown hK hP 0 rfl rfl 0 (by decide) f7 (fun _ h9 => h9) rfl dX5_at_1 ?_
  refine lv_iconst (v := nI 2) hx hb dX5_at_4 (by decide) ?_
  refine lv_iload_n hx hb dX5_at_5 rfl (lv_at hl 1 rfl) ?_
  refine lv_imul hx hb dX5_at_6 ?_
  refine st_i (y := nI (2 * j)) (pk_mul 2 j) ?_
  refine lv_iload_n hx hb dX5_at_7 rfl (lv_at hl 2 rfl) ?_
  refine lv_iadd hx hb dX5_at_8 ?_
  refine st_i (y := nI (2 * j + hf)) (nI_add (2 * j) hf) ?_
  refine st_lald hx hb hK hP 1 0 rfl rfl (2 * j + hf) rfl (by omega) (by omega) dX5_at_9 ?_
  exact W.lret (v := fv (2 * j + hf)) hx hb hr (fun t ht hW => ⟨⟨fv (2 * j + hf), (), rfl, rfl, by rw [ht]; exact hP, va_K.moved hW.alike hK, hD⟩, hS.F ht⟩) hS.2.2 dX5_at_10

set_option maxHeartbeats 4000000 in
set_option maxRecDepth 100000 in
theorem c_Pairs_put (l : Launch) (dC : Nat → ClassId) (dI : Nat → Nat → Nat) (cJ cI : ClassId) (h0 h1 : Nat) (nn : Nat) (fv : Nat → Int64) (j hf : Nat) (xv : Int64) (hj : 2 * j + hf < nn) (hn : nn < 2 ^ 31) (sz : Nat) : Met l yX5_put wsX5_put ({ frames := 0, cells := 0, slots := 0, locals := 0 }) (va_Pc [.ref h0, .int (nI j), .int (nI hf), .long xv] (st_B (dC, dI) vwCl [(cJ, .long), (cI, .int)] [(h0, .inr (5, [.ref h1])), (h1, .inl (cJ, nn, .inr (.inl (fv))))] sz)) (va_Qv (fun _ : Unit => True) (st_E (dC, dI) vwCl [(cJ, .long), (cI, .int)] (va_A [(h0, .inr (5, [.ref h1])), (h1, .inl (cJ, nn, .inr (.inl (fv))))] sz) (fun _ => [(h0, .inr (5, [.ref h1])), (h1, .inl (cJ, nn, .inr (.inl (vp_updL fv (2 * j + hf) xv))))])) (va_A [(h0, .inr (5, [.ref h1])), (h1, .inl (cJ, nn, .inr (.inl (fv))))] sz)) 0 0 (va_A [(h0, .inr (5, [.ref h1])), (h1, .inl (cJ, nn, .inr (.inl (fv))))] sz) := by
  refine Met.ofW (cc := cX5_put) (maxL := 5) (ret := none) (by decide) rfl ?_
  intro p e s m args below meth c s₁ B hml hv
  obtain ⟨rfl, hsz, hP, hK, hD0⟩ := hv
  have hx := B.exec
  have hb := B.bytes
  have hr := B.returns
  have hts := atoms_spec (ws := wsX5_put) B.pre
  have hown : s.vm.findClass RX5 = some m.cls := findClass_of_methodNamed B.named
  have hlocks := B.notSynchronized
  subst hsz
  have hD := hD0.self (sz := s.heap.size)
  generalize hAe : va_A [(h0, .inr (5, [.ref h1])), (h1, .inl (cJ, nn, .inr (.inl (fv))))] s.heap.size = A at hD ⊢
  have hA : ∀ q : Nat, s.heap.size ≤ q → A q := fun q h => by rw [← hAe]; exact Or.inr h
  have hS : va_S A s.heap s.heap [] := va_S.rf
  have hP : va_P (dC, dI) vwCl [(h0, .inr (5, [.ref h1])), (h1, .inl (cJ, nn, .inr (.inl (fv))))] s.heap := hP
  have hl := lv_entry ([.ref h0, .int (nI j), .int (nI hf), .long xv]) (n := 5) (Nat.le_of_ble_eq_true rfl)
  rw [lg_entry_eq]
  generalize (lg_sl ([.ref h0, .int (nI j), .int (nI hf), .long xv]) ++ List.replicate (5 - (lg_sl ([.ref h0, .int (nI j), .int (nI hf), .long xv])).length) Slot.unset).toArray = ls at hl ⊢
  have iX5 : ∀ w ∈ wsX50, w ∈ wsX5_put := by decide +kernel
  have f7 := hts (.fieldLink RX5 7 "LeafSigner$Pairs" "longs" "[J") (by decide +kernel)
  have hl : lv_has ls 5 [(0, .ref h0), (1, .int (nI j)), (2, .int (nI hf)), (3, .long xv)] := hl
  refine lv_aload_n hx hb dX5_put_0 rfl (lv_at hl 0 rfl) ?_
  refine va_get (D := (dC, dI)) (ci := 5) (v := .ref h1) (C := RX5) (T := TX5) (N := 1) hx hb hts iX5 hown hK hP 0 rfl rfl 0 (by decide) f7 (fun _ h9 => h9) rfl dX5_put_1 ?_
  refine lv_iconst (v := nI 2) hx hb dX5_put_4 (by decide) ?_
  refine lv_iload_n hx hb dX5_put_5 rfl (lv_at hl 1 rfl) ?_
  refine lv_imul hx hb dX5_put_6 ?_
  refine st_i (y := nI (2 * j)) (pk_mul 2 j) ?_
  refine lv_iload_n hx hb dX5_put_7 rfl (lv_at hl 2 rfl) ?_
  refine lv_iadd hx hb dX5_put_8 ?_
  refine st_i (y := nI (2 * j + hf)) (nI_add (2 * j) hf) ?_
  refine lv_lload_n hx hb dX5_put_9 rfl (lv_at hl 3 rfl) ?_
  refine st_last hx hb hK hP hD hS 1 0 rfl rfl (2 * j + hf) rfl (by omega) (by omega) dX5_put_10 (fun H locs hP hD hS => ?_)
  have hP : va_P (dC, dI) vwCl [(h0, .inr (5, [.ref h1])), (h1, .inl (cJ, nn, .inr (.inl (vp_updL fv (2 * j + hf) xv))))] H := hP
  have hD : va_D A [(h0, .inr (5, [.ref h1])), (h1, .inl (cJ, nn, .inr (.inl (vp_updL fv (2 * j + hf) xv))))] := hD
  exact W.vret hx hb hr (fun t ht hW => ⟨⟨(), rfl, trivial, by rw [ht]; exact hP, va_K.moved hW.alike hK, hD⟩, hS.F ht⟩) hS.2.2 dX5_put_11

set_option maxHeartbeats 4000000 in
set_option maxRecDepth 100000 in
theorem c_Pairs_copy (l : Launch) (dC : Nat → ClassId) (dI : Nat → Nat → Nat) (cJ cI : ClassId) (h0 h1 r0 r1 : Nat) (nn n2 : Nat) (fv gv : Nat → Int64) (j k : Nat) (hj : 2 * j + 1 < nn) (hk : 2 * k + 1 < n2) (hn : nn < 2 ^ 31) (hn2 : n2 < 2 ^ 31) (sz : Nat) : Met l yX5_copy wsX5_copy ({ frames := 1, cells := 0, slots := 0, locals := 24 }) (va_Pc [.ref h0, .int (nI j), .ref r0, .int (nI k)] (st_B (dC, dI) vwCl [(cJ, .long), (cI, .int)] [(h0, .inr (5, [.ref h1])), (h1, .inl (cJ, nn, .inr (.inl (fv)))), (r0, .inr (5, [.ref r1])), (r1, .inl (cJ, n2, .inr (.inl (gv))))] sz)) (va_Qv (fun _ : Unit => True) (st_E (dC, dI) vwCl [(cJ, .long), (cI, .int)] (va_A [(h0, .inr (5, [.ref h1])), (h1, .inl (cJ, nn, .inr (.inl (fv)))), (r0, .inr (5, [.ref r1])), (r1, .inl (cJ, n2, .inr (.inl (gv))))] sz) (fun _ => [(h0, .inr (5, [.ref h1])), (h1, .inl (cJ, nn, .inr (.inl (setP fv j (gv (2 * k), gv (2 * k + 1)))))), (r0, .inr (5, [.ref r1])), (r1, .inl (cJ, n2, .inr (.inl (gv))))])) (va_A [(h0, .inr (5, [.ref h1])), (h1, .inl (cJ, nn, .inr (.inl (fv)))), (r0, .inr (5, [.ref r1])), (r1, .inl (cJ, n2, .inr (.inl (gv))))] sz)) 0 0 (va_A [(h0, .inr (5, [.ref h1])), (h1, .inl (cJ, nn, .inr (.inl (fv)))), (r0, .inr (5, [.ref r1])), (r1, .inl (cJ, n2, .inr (.inl (gv))))] sz) := by
  refine Met.ofW (cc := cX5_copy) (maxL := 4) (ret := none) (by decide) rfl ?_
  intro p e s m args below meth c s₁ B hml hv
  obtain ⟨rfl, hsz, hP, hK, hD0⟩ := hv
  have hx := B.exec
  have hb := B.bytes
  have hr := B.returns
  have hts := atoms_spec (ws := wsX5_copy) B.pre
  have hown : s.vm.findClass RX5 = some m.cls := findClass_of_methodNamed B.named
  have hlocks := B.notSynchronized
  subst hsz
  have hD := hD0.self (sz := s.heap.size)
  generalize hAe : va_A [(h0, .inr (5, [.ref h1])), (h1, .inl (cJ, nn, .inr (.inl (fv)))), (r0, .inr (5, [.ref r1])), (r1, .inl (cJ, n2, .inr (.inl (gv))))] s.heap.size = A at hD ⊢
  have hA : ∀ q : Nat, s.heap.size ≤ q → A q := fun q h => by rw [← hAe]; exact Or.inr h
  have hS : va_S A s.heap s.heap [] := va_S.rf
  have hP : va_P (dC, dI) vwCl [(h0, .inr (5, [.ref h1])), (h1, .inl (cJ, nn, .inr (.inl (fv)))), (r0, .inr (5, [.ref r1])), (r1, .inl (cJ, n2, .inr (.inl (gv))))] s.heap := hP
  have hl := lv_entry ([.ref h0, .int (nI j), .ref r0, .int (nI k)]) (n := 4) (Nat.le_of_ble_eq_true rfl)
  rw [lg_entry_eq]
  generalize (lg_sl ([.ref h0, .int (nI j), .ref r0, .int (nI k)]) ++ List.replicate (4 - (lg_sl ([.ref h0, .int (nI j), .ref r0, .int (nI k)])).length) Slot.unset).toArray = ls at hl ⊢
  have hl : lv_has ls 4 [(0, .ref h0), (1, .int (nI j)), (2, .ref r0), (3, .int (nI k))] := hl
  refine lv_aload_n hx hb dX5_copy_0 rfl (lv_at hl 0 rfl) ?_
  refine lv_iload_n hx hb dX5_copy_1 rfl (lv_at hl 1 rfl) ?_
  refine lv_iconst (v := nI 0) hx hb dX5_copy_2 (by decide) ?_
  refine lv_aload_n hx hb dX5_copy_3 rfl (lv_at hl 2 rfl) ?_
  refine lv_iload_n hx hb dX5_copy_4 rfl (lv_at hl 3 rfl) ?_
  refine lv_iconst (v := nI 0) hx hb dX5_copy_5 (by decide) ?_
  refine st_calll (va_runV (As := [.int (nI k), .int (nI 0)]) (rest := [.int (nI 0), .int (nI j), .ref h0]) ⟨hx, hb, hml, hown, hts⟩ (c_Pairs_at l dC dI cJ cI r0 r1 n2 gv k 0 (by omega) (by omega) s.heap.size) (cwV 2 hts gX5_copy_X5_at rfl rfl rfl (by decide +kernel) ⟨Nat.le_of_ble_eq_true rfl, Nat.le_of_ble_eq_true rfl⟩) (st_preV hK hP hD [2, 3] rfl rfl (ci := 5) (q0 := 0) rfl rfl) rfl rfl hl.1 rfl (lv_room (Nat.le_of_ble_eq_true rfl)) dX5_copy_6 ⟨Nat.le_of_ble_eq_true rfl, Nat.le_of_ble_eq_true rfl⟩) hP hD hS hA [2, 3] [0, 1] (wr := [(h0, .inr (5, [.ref h1])), (h1, .inl (cJ, nn, .inr (.inl (fv))))]) rfl rfl (by decide) (by decide) [0, 1, 2, 3] (res := fun _ => [(h0, .inr (5, [.ref h1])), (h1, .inl (cJ, nn, .inr (.inl (fv)))), (r0, .inr (5, [.ref r1])), (r1, .inl (cJ, n2, .inr (.inl (gv))))]) (fun _ => rfl) (by decide) (fun r_1 _ H locs hu hP hD hS => ?_)
  have hP : va_P (dC, dI) vwCl [(h0, .inr (5, [.ref h1])), (h1, .inl (cJ, nn, .inr (.inl (fv)))), (r0, .inr (5, [.ref r1])), (r1, .inl (cJ, n2, .inr (.inl (gv))))] H := hP
  have hD : va_D A [(h0, .inr (5, [.ref h1])), (h1, .inl (cJ, nn, .inr (.inl (fv)))), (r0, .inr (5, [.ref r1])), (r1, .inl (cJ, n2, .inr (.inl (gv))))] := hD
  subst hu
  refine st_callv (va_runV (As := [.int (nI j), .int (nI 0), .long (gv (2 * k))]) (rest := []) ⟨hx, hb, hml, hown, hts⟩ (c_Pairs_put l dC dI cJ cI h0 h1 nn fv j 0 (gv (2 * k)) (by omega) (by omega) H.size) (cwV 3 hts gX5_copy_X5_put rfl rfl rfl (by decide +kernel) ⟨Nat.le_of_ble_eq_true rfl, Nat.le_of_ble_eq_true rfl⟩) (st_preV hK hP hD [0, 1] rfl rfl (ci := 5) (q0 := 0) rfl rfl) rfl rfl hl.1 rfl (lv_room (Nat.le_of_ble_eq_true rfl)) dX5_copy_9 ⟨Nat.le_of_ble_eq_true rfl, Nat.le_of_ble_eq_true rfl⟩) hP hD hS hA [0, 1] [2, 3] (wr := [(r0, .inr (5, [.ref r1])), (r1, .inl (cJ, n2, .inr (.inl (gv))))]) rfl rfl (by decide) (by decide) [2, 3, 0, 1] (res := fun _ => [(h0, .inr (5, [.ref h1])), (h1, .inl (cJ, nn, .inr (.inl (vp_updL fv (2 * j) (gv (2 * k)))))), (r0, .inr (5, [.ref r1])), (r1, .inl (cJ, n2, .inr (.inl (gv))))]) (fun _ => rfl) (by decide) (fun  _ H locs hu hP hD hS => ?_)
  have hP : va_P (dC, dI) vwCl [(h0, .inr (5, [.ref h1])), (h1, .inl (cJ, nn, .inr (.inl (vp_updL fv (2 * j) (gv (2 * k)))))), (r0, .inr (5, [.ref r1])), (r1, .inl (cJ, n2, .inr (.inl (gv))))] H := hP
  have hD : va_D A [(h0, .inr (5, [.ref h1])), (h1, .inl (cJ, nn, .inr (.inl (vp_updL fv (2 * j) (gv (2 * k)))))), (r0, .inr (5, [.ref r1])), (r1, .inl (cJ, n2, .inr (.inl (gv))))] := hD
  refine lv_aload_n hx hb dX5_copy_12 rfl (lv_at hl 0 rfl) ?_
  refine lv_iload_n hx hb dX5_copy_13 rfl (lv_at hl 1 rfl) ?_
  refine lv_iconst (v := nI 1) hx hb dX5_copy_14 (by decide) ?_
  refine lv_aload_n hx hb dX5_copy_15 rfl (lv_at hl 2 rfl) ?_
  refine lv_iload_n hx hb dX5_copy_16 rfl (lv_at hl 3 rfl) ?_
  refine lv_iconst (v := nI 1) hx hb dX5_copy_17 (by decide) ?_
  refine st_calll (va_runV (As := [.int (nI k), .int (nI 1)]) (rest := [.int (nI 1), .int (nI j), .ref h0]) ⟨hx, hb, hml, hown, hts⟩ (c_Pairs_at l dC dI cJ cI r0 r1 n2 gv k 1 (by omega) (by omega) H.size) (cwV 2 hts gX5_copy_X5_at rfl rfl rfl (by decide +kernel) ⟨Nat.le_of_ble_eq_true rfl, Nat.le_of_ble_eq_true rfl⟩) (st_preV hK hP hD [2, 3] rfl rfl (ci := 5) (q0 := 0) rfl rfl) rfl rfl hl.1 rfl (lv_room (Nat.le_of_ble_eq_true rfl)) dX5_copy_18 ⟨Nat.le_of_ble_eq_true rfl, Nat.le_of_ble_eq_true rfl⟩) hP hD hS hA [2, 3] [0, 1] (wr := [(h0, .inr (5, [.ref h1])), (h1, .inl (cJ, nn, .inr (.inl (vp_updL fv (2 * j) (gv (2 * k))))))]) rfl rfl (by decide) (by decide) [0, 1, 2, 3] (res := fun _ => [(h0, .inr (5, [.ref h1])), (h1, .inl (cJ, nn, .inr (.inl (vp_updL fv (2 * j) (gv (2 * k)))))), (r0, .inr (5, [.ref r1])), (r1, .inl (cJ, n2, .inr (.inl (gv))))]) (fun _ => rfl) (by decide) (fun r_2 _ H locs hu hP hD hS => ?_)
  have hP : va_P (dC, dI) vwCl [(h0, .inr (5, [.ref h1])), (h1, .inl (cJ, nn, .inr (.inl (vp_updL fv (2 * j) (gv (2 * k)))))), (r0, .inr (5, [.ref r1])), (r1, .inl (cJ, n2, .inr (.inl (gv))))] H := hP
  have hD : va_D A [(h0, .inr (5, [.ref h1])), (h1, .inl (cJ, nn, .inr (.inl (vp_updL fv (2 * j) (gv (2 * k)))))), (r0, .inr (5, [.ref r1])), (r1, .inl (cJ, n2, .inr (.inl (gv))))] := hD
  subst hu
  refine st_callv (va_runV (As := [.int (nI j), .int (nI 1), .long (gv (2 * k + 1))]) (rest := []) ⟨hx, hb, hml, hown, hts⟩ (c_Pairs_put l dC dI cJ cI h0 h1 nn (vp_updL fv (2 * j) (gv (2 * k))) j 1 (gv (2 * k + 1)) (by omega) (by omega) H.size) (cwV 3 hts gX5_copy_X5_put rfl rfl rfl (by decide +kernel) ⟨Nat.le_of_ble_eq_true rfl, Nat.le_of_ble_eq_true rfl⟩) (st_preV hK hP hD [0, 1] rfl rfl (ci := 5) (q0 := 0) rfl rfl) rfl rfl hl.1 rfl (lv_room (Nat.le_of_ble_eq_true rfl)) dX5_copy_21 ⟨Nat.le_of_ble_eq_true rfl, Nat.le_of_ble_eq_true rfl⟩) hP hD hS hA [0, 1] [2, 3] (wr := [(r0, .inr (5, [.ref r1])), (r1, .inl (cJ, n2, .inr (.inl (gv))))]) rfl rfl (by decide) (by decide) [2, 3, 0, 1] (res := fun _ => [(h0, .inr (5, [.ref h1])), (h1, .inl (cJ, nn, .inr (.inl (vp_updL (vp_updL fv (2 * j) (gv (2 * k))) (2 * j + 1) (gv (2 * k + 1)))))), (r0, .inr (5, [.ref r1])), (r1, .inl (cJ, n2, .inr (.inl (gv))))]) (fun _ => rfl) (by decide) (fun  _ H locs hu hP hD hS => ?_)
  have hP : va_P (dC, dI) vwCl [(h0, .inr (5, [.ref h1])), (h1, .inl (cJ, nn, .inr (.inl (vp_updL (vp_updL fv (2 * j) (gv (2 * k))) (2 * j + 1) (gv (2 * k + 1)))))), (r0, .inr (5, [.ref r1])), (r1, .inl (cJ, n2, .inr (.inl (gv))))] H := hP
  have hD : va_D A [(h0, .inr (5, [.ref h1])), (h1, .inl (cJ, nn, .inr (.inl (vp_updL (vp_updL fv (2 * j) (gv (2 * k))) (2 * j + 1) (gv (2 * k + 1)))))), (r0, .inr (5, [.ref r1])), (r1, .inl (cJ, n2, .inr (.inl (gv))))] := hD
  have eW_3 : ([(h0, .inr (5, [.ref h1])), (h1, .inl (cJ, nn, .inr (.inl (vp_updL (vp_updL fv (2 * j) (gv (2 * k))) (2 * j + 1) (gv (2 * k + 1)))))), (r0, .inr (5, [.ref r1])), (r1, .inl (cJ, n2, .inr (.inl (gv))))] : va_W) = [(h0, .inr (5, [.ref h1])), (h1, .inl (cJ, nn, .inr (.inl (setP fv j (gv (2 * k), gv (2 * k + 1)))))), (r0, .inr (5, [.ref r1])), (r1, .inl (cJ, n2, .inr (.inl (gv))))] := rfl
  have hP : va_P (dC, dI) vwCl [(h0, .inr (5, [.ref h1])), (h1, .inl (cJ, nn, .inr (.inl (setP fv j (gv (2 * k), gv (2 * k + 1)))))), (r0, .inr (5, [.ref r1])), (r1, .inl (cJ, n2, .inr (.inl (gv))))] H := by rw [← eW_3]; exact hP
  have hD : va_D A [(h0, .inr (5, [.ref h1])), (h1, .inl (cJ, nn, .inr (.inl (setP fv j (gv (2 * k), gv (2 * k + 1)))))), (r0, .inr (5, [.ref r1])), (r1, .inl (cJ, n2, .inr (.inl (gv))))] := by rw [← eW_3]; exact hD
  exact W.vret hx hb hr (fun t ht hW => ⟨⟨(), rfl, trivial, by rw [ht]; exact hP, va_K.moved hW.alike hK, hD⟩, hS.F ht⟩) hS.2.2 dX5_copy_24

set_option maxHeartbeats 4000000 in
set_option maxRecDepth 100000 in
theorem c_Hasher_addPair (l : Launch) (dC : Nat → ClassId) (dI : Nat → Nat → Nat) (cJ cI : ClassId) (h0 r0 r1 : Nat) (pv : Int64 × Int64) (nn : Nat) (fv : Nat → Int64) (k : Nat) (hk : 2 * k + 1 < nn) (hn : nn < 2 ^ 31) (sz : Nat) : Met l yX2_addPair wsX2_addPair ({ frames := 2, cells := 0, slots := 0, locals := 47 }) (va_Pc [.ref h0, .ref r0, .int (nI k)] (st_B (dC, dI) vwCl [(cJ, .long), (cI, .int)] [(h0, .inr (2, [.long pv.1, .long pv.2])), (r0, .inr (5, [.ref r1])), (r1, .inl (cJ, nn, .inr (.inl (fv))))] sz)) (va_Qv (fun _ : Unit => True) (st_E (dC, dI) vwCl [(cJ, .long), (cI, .int)] (va_A [(h0, .inr (2, [.long pv.1, .long pv.2])), (r0, .inr (5, [.ref r1])), (r1, .inl (cJ, nn, .inr (.inl (fv))))] sz) (fun _ => [(h0, .inr (2, [.long ((ha (ha pv (fv (2 * k))) (fv (2 * k + 1))).1), .long ((ha (ha pv (fv (2 * k))) (fv (2 * k + 1))).2)])), (r0, .inr (5, [.ref r1])), (r1, .inl (cJ, nn, .inr (.inl (fv))))])) (va_A [(h0, .inr (2, [.long pv.1, .long pv.2])), (r0, .inr (5, [.ref r1])), (r1, .inl (cJ, nn, .inr (.inl (fv))))] sz)) 0 0 (va_A [(h0, .inr (2, [.long pv.1, .long pv.2])), (r0, .inr (5, [.ref r1])), (r1, .inl (cJ, nn, .inr (.inl (fv))))] sz) := by
  refine Met.ofW (cc := cX2_addPair) (maxL := 3) (ret := none) (by decide) rfl ?_
  intro p e s m args below meth c s₁ B hml hv
  obtain ⟨rfl, hsz, hP, hK, hD0⟩ := hv
  have hx := B.exec
  have hb := B.bytes
  have hr := B.returns
  have hts := atoms_spec (ws := wsX2_addPair) B.pre
  have hown : s.vm.findClass RX2 = some m.cls := findClass_of_methodNamed B.named
  have hlocks := B.notSynchronized
  subst hsz
  have hD := hD0.self (sz := s.heap.size)
  generalize hAe : va_A [(h0, .inr (2, [.long pv.1, .long pv.2])), (r0, .inr (5, [.ref r1])), (r1, .inl (cJ, nn, .inr (.inl (fv))))] s.heap.size = A at hD ⊢
  have hA : ∀ q : Nat, s.heap.size ≤ q → A q := fun q h => by rw [← hAe]; exact Or.inr h
  have hS : va_S A s.heap s.heap [] := va_S.rf
  have hP : va_P (dC, dI) vwCl [(h0, .inr (2, [.long pv.1, .long pv.2])), (r0, .inr (5, [.ref r1])), (r1, .inl (cJ, nn, .inr (.inl (fv))))] s.heap := hP
  have hl := lv_entry ([.ref h0, .ref r0, .int (nI k)]) (n := 3) (Nat.le_of_ble_eq_true rfl)
  rw [lg_entry_eq]
  generalize (lg_sl ([.ref h0, .ref r0, .int (nI k)]) ++ List.replicate (3 - (lg_sl ([.ref h0, .ref r0, .int (nI k)])).length) Slot.unset).toArray = ls at hl ⊢
  have hl : lv_has ls 3 [(0, .ref h0), (1, .ref r0), (2, .int (nI k))] := hl
  refine lv_aload_n hx hb dX2_addPair_0 rfl (lv_at hl 0 rfl) ?_
  refine lv_aload_n hx hb dX2_addPair_1 rfl (lv_at hl 1 rfl) ?_
  refine lv_iload_n hx hb dX2_addPair_2 rfl (lv_at hl 2 rfl) ?_
  refine lv_iconst (v := nI 0) hx hb dX2_addPair_3 (by decide) ?_
  refine st_calll (va_runV (As := [.int (nI k), .int (nI 0)]) (rest := [.ref h0]) ⟨hx, hb, hml, hown, hts⟩ (c_Pairs_at l dC dI cJ cI r0 r1 nn fv k 0 (by omega) (by omega) s.heap.size) (cwV 2 hts gX2_addPair_X5_at rfl rfl rfl (by decide +kernel) ⟨Nat.le_of_ble_eq_true rfl, Nat.le_of_ble_eq_true rfl⟩) (st_preV hK hP hD [1, 2] rfl rfl (ci := 5) (q0 := 0) rfl rfl) rfl rfl hl.1 rfl (lv_room (Nat.le_of_ble_eq_true rfl)) dX2_addPair_4 ⟨Nat.le_of_ble_eq_true rfl, Nat.le_of_ble_eq_true rfl⟩) hP hD hS hA [1, 2] [0] (wr := [(h0, .inr (2, [.long pv.1, .long pv.2]))]) rfl rfl (by decide) (by decide) [0, 1, 2] (res := fun _ => [(h0, .inr (2, [.long pv.1, .long pv.2])), (r0, .inr (5, [.ref r1])), (r1, .inl (cJ, nn, .inr (.inl (fv))))]) (fun _ => rfl) (by decide) (fun r_1 _ H locs hu hP hD hS => ?_)
  have hP : va_P (dC, dI) vwCl [(h0, .inr (2, [.long pv.1, .long pv.2])), (r0, .inr (5, [.ref r1])), (r1, .inl (cJ, nn, .inr (.inl (fv))))] H := hP
  have hD : va_D A [(h0, .inr (2, [.long pv.1, .long pv.2])), (r0, .inr (5, [.ref r1])), (r1, .inl (cJ, nn, .inr (.inl (fv))))] := hD
  subst hu
  refine st_callv (va_runV (As := [.long (fv (2 * k))]) (rest := []) ⟨hx, hb, hml, hown, hts⟩ (c_Hasher_add l dC dI cJ cI h0 pv (fv (2 * k))  H.size) (cwV 1 hts gX2_addPair_X2_add rfl rfl rfl (by decide +kernel) ⟨Nat.le_of_ble_eq_true rfl, Nat.le_of_ble_eq_true rfl⟩) (st_preV hK hP hD [0] rfl rfl (ci := 2) (q0 := 0) rfl rfl) rfl rfl hl.1 rfl (lv_room (Nat.le_of_ble_eq_true rfl)) dX2_addPair_7 ⟨Nat.le_of_ble_eq_true rfl, Nat.le_of_ble_eq_true rfl⟩) hP hD hS hA [0] [1, 2] (wr := [(r0, .inr (5, [.ref r1])), (r1, .inl (cJ, nn, .inr (.inl (fv))))]) rfl rfl (by decide) (by decide) [2, 0, 1] (res := fun _ => [(h0, .inr (2, [.long ((ha pv (fv (2 * k))).1), .long ((ha pv (fv (2 * k))).2)])), (r0, .inr (5, [.ref r1])), (r1, .inl (cJ, nn, .inr (.inl (fv))))]) (fun _ => rfl) (by decide) (fun  _ H locs hu hP hD hS => ?_)
  have hP : va_P (dC, dI) vwCl [(h0, .inr (2, [.long ((ha pv (fv (2 * k))).1), .long ((ha pv (fv (2 * k))).2)])), (r0, .inr (5, [.ref r1])), (r1, .inl (cJ, nn, .inr (.inl (fv))))] H := hP
  have hD : va_D A [(h0, .inr (2, [.long ((ha pv (fv (2 * k))).1), .long ((ha pv (fv (2 * k))).2)])), (r0, .inr (5, [.ref r1])), (r1, .inl (cJ, nn, .inr (.inl (fv))))] := hD
  refine lv_aload_n hx hb dX2_addPair_10 rfl (lv_at hl 0 rfl) ?_
  refine lv_aload_n hx hb dX2_addPair_11 rfl (lv_at hl 1 rfl) ?_
  refine lv_iload_n hx hb dX2_addPair_12 rfl (lv_at hl 2 rfl) ?_
  refine lv_iconst (v := nI 1) hx hb dX2_addPair_13 (by decide) ?_
  refine st_calll (va_runV (As := [.int (nI k), .int (nI 1)]) (rest := [.ref h0]) ⟨hx, hb, hml, hown, hts⟩ (c_Pairs_at l dC dI cJ cI r0 r1 nn fv k 1 (by omega) (by omega) H.size) (cwV 2 hts gX2_addPair_X5_at rfl rfl rfl (by decide +kernel) ⟨Nat.le_of_ble_eq_true rfl, Nat.le_of_ble_eq_true rfl⟩) (st_preV hK hP hD [1, 2] rfl rfl (ci := 5) (q0 := 0) rfl rfl) rfl rfl hl.1 rfl (lv_room (Nat.le_of_ble_eq_true rfl)) dX2_addPair_14 ⟨Nat.le_of_ble_eq_true rfl, Nat.le_of_ble_eq_true rfl⟩) hP hD hS hA [1, 2] [0] (wr := [(h0, .inr (2, [.long ((ha pv (fv (2 * k))).1), .long ((ha pv (fv (2 * k))).2)]))]) rfl rfl (by decide) (by decide) [0, 1, 2] (res := fun _ => [(h0, .inr (2, [.long ((ha pv (fv (2 * k))).1), .long ((ha pv (fv (2 * k))).2)])), (r0, .inr (5, [.ref r1])), (r1, .inl (cJ, nn, .inr (.inl (fv))))]) (fun _ => rfl) (by decide) (fun r_2 _ H locs hu hP hD hS => ?_)
  have hP : va_P (dC, dI) vwCl [(h0, .inr (2, [.long ((ha pv (fv (2 * k))).1), .long ((ha pv (fv (2 * k))).2)])), (r0, .inr (5, [.ref r1])), (r1, .inl (cJ, nn, .inr (.inl (fv))))] H := hP
  have hD : va_D A [(h0, .inr (2, [.long ((ha pv (fv (2 * k))).1), .long ((ha pv (fv (2 * k))).2)])), (r0, .inr (5, [.ref r1])), (r1, .inl (cJ, nn, .inr (.inl (fv))))] := hD
  subst hu
  refine st_callv (va_runV (As := [.long (fv (2 * k + 1))]) (rest := []) ⟨hx, hb, hml, hown, hts⟩ (c_Hasher_add l dC dI cJ cI h0 (ha pv (fv (2 * k))) (fv (2 * k + 1))  H.size) (cwV 1 hts gX2_addPair_X2_add rfl rfl rfl (by decide +kernel) ⟨Nat.le_of_ble_eq_true rfl, Nat.le_of_ble_eq_true rfl⟩) (st_preV hK hP hD [0] rfl rfl (ci := 2) (q0 := 0) rfl rfl) rfl rfl hl.1 rfl (lv_room (Nat.le_of_ble_eq_true rfl)) dX2_addPair_17 ⟨Nat.le_of_ble_eq_true rfl, Nat.le_of_ble_eq_true rfl⟩) hP hD hS hA [0] [1, 2] (wr := [(r0, .inr (5, [.ref r1])), (r1, .inl (cJ, nn, .inr (.inl (fv))))]) rfl rfl (by decide) (by decide) [2, 0, 1] (res := fun _ => [(h0, .inr (2, [.long ((ha (ha pv (fv (2 * k))) (fv (2 * k + 1))).1), .long ((ha (ha pv (fv (2 * k))) (fv (2 * k + 1))).2)])), (r0, .inr (5, [.ref r1])), (r1, .inl (cJ, nn, .inr (.inl (fv))))]) (fun _ => rfl) (by decide) (fun  _ H locs hu hP hD hS => ?_)
  have hP : va_P (dC, dI) vwCl [(h0, .inr (2, [.long ((ha (ha pv (fv (2 * k))) (fv (2 * k + 1))).1), .long ((ha (ha pv (fv (2 * k))) (fv (2 * k + 1))).2)])), (r0, .inr (5, [.ref r1])), (r1, .inl (cJ, nn, .inr (.inl (fv))))] H := hP
  have hD : va_D A [(h0, .inr (2, [.long ((ha (ha pv (fv (2 * k))) (fv (2 * k + 1))).1), .long ((ha (ha pv (fv (2 * k))) (fv (2 * k + 1))).2)])), (r0, .inr (5, [.ref r1])), (r1, .inl (cJ, nn, .inr (.inl (fv))))] := hD
  exact W.vret hx hb hr (fun t ht hW => ⟨⟨(), rfl, trivial, by rw [ht]; exact hP, va_K.moved hW.alike hK, hD⟩, hS.F ht⟩) hS.2.2 dX2_addPair_20

set_option maxHeartbeats 4000000 in
set_option maxRecDepth 100000 in
theorem c_Hasher_addMessage (l : Launch) (dC : Nat → ClassId) (dI : Nat → Nat → Nat) (cJ cI : ClassId) (h0 m0 m1 : Nat) (pv : Int64 × Int64) (ln : Nat) (mv : Nat → Int64) (hln : ln ≤ 20) (sz : Nat) : Met l yX2_addMessage wsX2_addMessage ({ frames := 2, cells := 0, slots := 0, locals := 47 }) (va_Pc [.ref h0, .ref m0] (st_B (dC, dI) vwCl [(cJ, .long), (cI, .int)] [(h0, .inr (2, [.long pv.1, .long pv.2])), (m0, .inr (4, [.ref m1, .int (nI ln)])), (m1, .inl (cJ, 20, .inr (.inl (mv))))] sz)) (va_Qv (fun _ : Unit => True) (st_E (dC, dI) vwCl [(cJ, .long), (cI, .int)] (va_A [(h0, .inr (2, [.long pv.1, .long pv.2])), (m0, .inr (4, [.ref m1, .int (nI ln)])), (m1, .inl (cJ, 20, .inr (.inl (mv))))] sz) (fun _ => [(h0, .inr (2, [.long ((hm pv mv ln).1), .long ((hm pv mv ln).2)])), (m0, .inr (4, [.ref m1, .int (nI ln)])), (m1, .inl (cJ, 20, .inr (.inl (mv))))])) (va_A [(h0, .inr (2, [.long pv.1, .long pv.2])), (m0, .inr (4, [.ref m1, .int (nI ln)])), (m1, .inl (cJ, 20, .inr (.inl (mv))))] sz)) 0 0 (va_A [(h0, .inr (2, [.long pv.1, .long pv.2])), (m0, .inr (4, [.ref m1, .int (nI ln)])), (m1, .inl (cJ, 20, .inr (.inl (mv))))] sz) := by
  refine Met.ofW (cc := cX2_addMessage) (maxL := 3) (ret := none) (by decide) rfl ?_
  intro p e s m args below meth c s₁ B hml hv
  obtain ⟨rfl, hsz, hP, hK, hD0⟩ := hv
  have hx := B.exec
  have hb := B.bytes
  have hr := B.returns
  have hts := atoms_spec (ws := wsX2_addMessage) B.pre
  have hown : s.vm.findClass RX2 = some m.cls := findClass_of_methodNamed B.named
  have hlocks := B.notSynchronized
  subst hsz
  have hD := hD0.self (sz := s.heap.size)
  generalize hAe : va_A [(h0, .inr (2, [.long pv.1, .long pv.2])), (m0, .inr (4, [.ref m1, .int (nI ln)])), (m1, .inl (cJ, 20, .inr (.inl (mv))))] s.heap.size = A at hD ⊢
  have hA : ∀ q : Nat, s.heap.size ≤ q → A q := fun q h => by rw [← hAe]; exact Or.inr h
  have hS : va_S A s.heap s.heap [] := va_S.rf
  have hP : va_P (dC, dI) vwCl [(h0, .inr (2, [.long pv.1, .long pv.2])), (m0, .inr (4, [.ref m1, .int (nI ln)])), (m1, .inl (cJ, 20, .inr (.inl (mv))))] s.heap := hP
  have hl := lv_entry ([.ref h0, .ref m0]) (n := 3) (Nat.le_of_ble_eq_true rfl)
  rw [lg_entry_eq]
  generalize (lg_sl ([.ref h0, .ref m0]) ++ List.replicate (3 - (lg_sl ([.ref h0, .ref m0])).length) Slot.unset).toArray = ls at hl ⊢
  have iX4 : ∀ w ∈ wsX40, w ∈ wsX2_addMessage := by decide +kernel
  have f32 := hts (.fieldLink RX2 32 "LeafSigner$Message" "size" "I") (by decide +kernel)
  have f38 := hts (.fieldLink RX2 38 "LeafSigner$Message" "longs" "[J") (by decide +kernel)
  have hl : lv_has ls 3 [(0, .ref h0), (1, .ref m0)] := hl
  refine lv_iconst (v := nI 0) hx hb dX2_addMessage_0 (by decide) ?_
  refine lv_istore_n (lv' := [(2, .int (nI 0)), (0, .ref h0), (1, .ref m0)]) hx hb dX2_addMessage_1 rfl hl (by decide) rfl (fun ls hl => ?_)
  have eW_1 : ([(h0, .inr (2, [.long pv.1, .long pv.2])), (m0, .inr (4, [.ref m1, .int (nI ln)])), (m1, .inl (cJ, 20, .inr (.inl (mv))))] : va_W) = [(h0, .inr (2, [.long ((hm pv mv 0).1), .long ((hm pv mv 0).2)])), (m0, .inr (4, [.ref m1, .int (nI ln)])), (m1, .inl (cJ, 20, .inr (.inl (mv))))] := rfl
  have hP : va_P (dC, dI) vwCl [(h0, .inr (2, [.long ((hm pv mv 0).1), .long ((hm pv mv 0).2)])), (m0, .inr (4, [.ref m1, .int (nI ln)])), (m1, .inl (cJ, 20, .inr (.inl (mv))))] s.heap := by rw [← eW_1]; exact hP
  have hD : va_D A [(h0, .inr (2, [.long ((hm pv mv 0).1), .long ((hm pv mv 0).2)])), (m0, .inr (4, [.ref m1, .int (nI ln)])), (m1, .inl (cJ, 20, .inr (.inl (mv))))] := by rw [← eW_1]; exact hD
  refine st_loop (I := fun i H locs ls => va_P (dC, dI) vwCl [(h0, .inr (2, [.long (hm pv mv i).1, .long (hm pv mv i).2])), (m0, .inr (4, [.ref m1, .int (nI ln)])), (m1, .inl (cJ, 20, .inr (.inl (mv))))] H ∧ va_D A [(h0, .inr (2, [.long (hm pv mv i).1, .long (hm pv mv i).2])), (m0, .inr (4, [.ref m1, .int (nI ln)])), (m1, .inl (cJ, 20, .inr (.inl (mv))))] ∧ va_S A s.heap H locs ∧ lv_has ls 3 [(0, .ref h0), (1, .ref m0), (2, .int (nI i))]) 0 ln (by omega) ⟨hP, hD, hS, lv_sub hl [1, 2, 0] rfl⟩ (fun H locs ls hI => ?_) (fun i H locs ls hi hI ih => ?_)
  ·
    obtain ⟨hP, hD, hS, hl⟩ := hI
    have hP : va_P (dC, dI) vwCl [(h0, .inr (2, [.long ((hm pv mv ln).1), .long ((hm pv mv ln).2)])), (m0, .inr (4, [.ref m1, .int (nI ln)])), (m1, .inl (cJ, 20, .inr (.inl (mv))))] H := hP
    have hD : va_D A [(h0, .inr (2, [.long ((hm pv mv ln).1), .long ((hm pv mv ln).2)])), (m0, .inr (4, [.ref m1, .int (nI ln)])), (m1, .inl (cJ, 20, .inr (.inl (mv))))] := hD
    have hl : lv_has ls 3 [(0, .ref h0), (1, .ref m0), (2, .int (nI ln))] := hl
    refine lv_iload_n hx hb dX2_addMessage_2 rfl (lv_at hl 2 rfl) ?_
    refine lv_aload_n hx hb dX2_addMessage_3 rfl (lv_at hl 1 rfl) ?_
    refine va_get (D := (dC, dI)) (ci := 4) (v := .int (nI ln)) (C := RX4) (T := TX4) (N := 2) hx hb hts iX4 hown hK hP 1 rfl rfl 1 (by decide) f32 (fun _ h9 => h9) rfl dX2_addMessage_4 ?_
    refine lv_icmp_ge (tgt := 26) hx hb dX2_addMessage_7 (by decide) (fun c7 => ?_) (fun c7 => ?_)
    ·
      rw [q_le (by omega) (by omega)] at c7
      exact W.vret hx hb hr (fun t ht hW => ⟨⟨(), rfl, trivial, by rw [ht]; exact hP, va_K.moved hW.alike hK, hD⟩, hS.F ht⟩) hS.2.2 dX2_addMessage_26
    ·
      rw [q_le (by omega) (by omega)] at c7
      exact absurd c7 (by omega)
  ·
    obtain ⟨hP, hD, hS, hl⟩ := hI
    have hP : va_P (dC, dI) vwCl [(h0, .inr (2, [.long ((hm pv mv i).1), .long ((hm pv mv i).2)])), (m0, .inr (4, [.ref m1, .int (nI ln)])), (m1, .inl (cJ, 20, .inr (.inl (mv))))] H := hP
    have hD : va_D A [(h0, .inr (2, [.long ((hm pv mv i).1), .long ((hm pv mv i).2)])), (m0, .inr (4, [.ref m1, .int (nI ln)])), (m1, .inl (cJ, 20, .inr (.inl (mv))))] := hD
    have hl : lv_has ls 3 [(0, .ref h0), (1, .ref m0), (2, .int (nI i))] := hl
    refine lv_iload_n hx hb dX2_addMessage_2 rfl (lv_at hl 2 rfl) ?_
    refine lv_aload_n hx hb dX2_addMessage_3 rfl (lv_at hl 1 rfl) ?_
    refine va_get (D := (dC, dI)) (ci := 4) (v := .int (nI ln)) (C := RX4) (T := TX4) (N := 2) hx hb hts iX4 hown hK hP 1 rfl rfl 1 (by decide) f32 (fun _ h9 => h9) rfl dX2_addMessage_4 ?_
    refine lv_icmp_ge (tgt := 26) hx hb dX2_addMessage_7 (by decide) (fun c7 => ?_) (fun c7 => ?_)
    ·
      rw [q_le (by omega) (by omega)] at c7
      exact absurd c7 (by omega)
    ·
      rw [q_le (by omega) (by omega)] at c7
      refine lv_aload_n hx hb dX2_addMessage_10 rfl (lv_at hl 0 rfl) ?_
      refine lv_aload_n hx hb dX2_addMessage_11 rfl (lv_at hl 1 rfl) ?_
      refine va_get (D := (dC, dI)) (ci := 4) (v := .ref m1) (C := RX4) (T := TX4) (N := 2) hx hb hts iX4 hown hK hP 1 rfl rfl 0 (by decide) f38 (fun _ h9 => h9) rfl dX2_addMessage_12 ?_
      refine lv_iload_n hx hb dX2_addMessage_15 rfl (lv_at hl 2 rfl) ?_
      refine st_lald hx hb hK hP 2 0 rfl rfl i rfl (by omega) (by omega) dX2_addMessage_16 ?_
      refine st_callv (va_runV (As := [.long (mv i)]) (rest := []) ⟨hx, hb, hml, hown, hts⟩ (c_Hasher_add l dC dI cJ cI h0 (hm pv mv i) (mv i)  H.size) (cwV 1 hts gX2_addMessage_X2_add rfl rfl rfl (by decide +kernel) ⟨Nat.le_of_ble_eq_true rfl, Nat.le_of_ble_eq_true rfl⟩) (st_preV hK hP hD [0] rfl rfl (ci := 2) (q0 := 0) rfl rfl) rfl rfl hl.1 rfl (lv_room (Nat.le_of_ble_eq_true rfl)) dX2_addMessage_17 ⟨Nat.le_of_ble_eq_true rfl, Nat.le_of_ble_eq_true rfl⟩) hP hD hS hA [0] [1, 2] (wr := [(m0, .inr (4, [.ref m1, .int (nI ln)])), (m1, .inl (cJ, 20, .inr (.inl (mv))))]) rfl rfl (by decide) (by decide) [2, 0, 1] (res := fun _ => [(h0, .inr (2, [.long ((ha (hm pv mv i) (mv i)).1), .long ((ha (hm pv mv i) (mv i)).2)])), (m0, .inr (4, [.ref m1, .int (nI ln)])), (m1, .inl (cJ, 20, .inr (.inl (mv))))]) (fun _ => rfl) (by decide) (fun  _ H locs hu hP hD hS => ?_)
      have hP : va_P (dC, dI) vwCl [(h0, .inr (2, [.long ((ha (hm pv mv i) (mv i)).1), .long ((ha (hm pv mv i) (mv i)).2)])), (m0, .inr (4, [.ref m1, .int (nI ln)])), (m1, .inl (cJ, 20, .inr (.inl (mv))))] H := hP
      have hD : va_D A [(h0, .inr (2, [.long ((ha (hm pv mv i) (mv i)).1), .long ((ha (hm pv mv i) (mv i)).2)])), (m0, .inr (4, [.ref m1, .int (nI ln)])), (m1, .inl (cJ, 20, .inr (.inl (mv))))] := hD
      refine lv_iinc (v := nI (i + 1)) (lv' := [(2, .int (nI (i + 1))), (0, .ref h0), (1, .ref m0)]) hx hb dX2_addMessage_20 hl (k := 2) rfl (st_inc i 1 (by decide)) (by decide) rfl (fun ls hl => ?_)
      refine lv_goto (tgt := 2) hx hb dX2_addMessage_23 (by decide) ?_
      have eW_2 : ([(h0, .inr (2, [.long ((ha (hm pv mv i) (mv i)).1), .long ((ha (hm pv mv i) (mv i)).2)])), (m0, .inr (4, [.ref m1, .int (nI ln)])), (m1, .inl (cJ, 20, .inr (.inl (mv))))] : va_W) = [(h0, .inr (2, [.long ((hm pv mv (i + 1)).1), .long ((hm pv mv (i + 1)).2)])), (m0, .inr (4, [.ref m1, .int (nI ln)])), (m1, .inl (cJ, 20, .inr (.inl (mv))))] := rfl
      have hP : va_P (dC, dI) vwCl [(h0, .inr (2, [.long ((hm pv mv (i + 1)).1), .long ((hm pv mv (i + 1)).2)])), (m0, .inr (4, [.ref m1, .int (nI ln)])), (m1, .inl (cJ, 20, .inr (.inl (mv))))] H := by rw [← eW_2]; exact hP
      have hD : va_D A [(h0, .inr (2, [.long ((hm pv mv (i + 1)).1), .long ((hm pv mv (i + 1)).2)])), (m0, .inr (4, [.ref m1, .int (nI ln)])), (m1, .inl (cJ, 20, .inr (.inl (mv))))] := by rw [← eW_2]; exact hD
      exact ih _ _ _ ⟨hP, hD, hS, lv_sub hl [1, 2, 0] rfl⟩

set_option maxHeartbeats 4000000 in
set_option maxRecDepth 100000 in
theorem c_Hasher_hashLeaf (l : Launch) (dC : Nat → ClassId) (dI : Nat → Nat → Nat) (cJ cI : ClassId) (h0 e0 e1 : Nat) (pv : Int64 × Int64) (ov : Int64) (lf : Nat) (ev : Nat → Int64) (hlf : lf < 2 ^ 31) (sz : Nat) : Met l yX2_hashLeaf wsX2_hashLeaf ({ frames := 3, cells := 0, slots := 0, locals := 69 }) (va_Pc [.ref h0, .long ov, .int (nI lf), .ref e0] (st_B (dC, dI) vwCl [(cJ, .long), (cI, .int)] [(h0, .inr (2, [.long pv.1, .long pv.2])), (e0, .inr (5, [.ref e1])), (e1, .inl (cJ, 70, .inr (.inl (ev))))] sz)) (va_Qv (fun _ : Unit => True) (st_E (dC, dI) vwCl [(cJ, .long), (cI, .int)] (va_A [(h0, .inr (2, [.long pv.1, .long pv.2])), (e0, .inr (5, [.ref e1])), (e1, .inl (cJ, 70, .inr (.inl (ev))))] sz) (fun _ => [(h0, .inr (2, [.long ((hm (ha (ha (lN 3, lN 72) ov) (lN lf)) ev 70).1), .long ((hm (ha (ha (lN 3, lN 72) ov) (lN lf)) ev 70).2)])), (e0, .inr (5, [.ref e1])), (e1, .inl (cJ, 70, .inr (.inl (ev))))])) (va_A [(h0, .inr (2, [.long pv.1, .long pv.2])), (e0, .inr (5, [.ref e1])), (e1, .inl (cJ, 70, .inr (.inl (ev))))] sz)) 0 0 (va_A [(h0, .inr (2, [.long pv.1, .long pv.2])), (e0, .inr (5, [.ref e1])), (e1, .inl (cJ, 70, .inr (.inl (ev))))] sz) := by
  refine Met.ofW (cc := cX2_hashLeaf) (maxL := 6) (ret := none) (by decide) rfl ?_
  intro p e s m args below meth c s₁ B hml hv
  obtain ⟨rfl, hsz, hP, hK, hD0⟩ := hv
  have hx := B.exec
  have hb := B.bytes
  have hr := B.returns
  have hts := atoms_spec (ws := wsX2_hashLeaf) B.pre
  have hown : s.vm.findClass RX2 = some m.cls := findClass_of_methodNamed B.named
  have hlocks := B.notSynchronized
  subst hsz
  have hD := hD0.self (sz := s.heap.size)
  generalize hAe : va_A [(h0, .inr (2, [.long pv.1, .long pv.2])), (e0, .inr (5, [.ref e1])), (e1, .inl (cJ, 70, .inr (.inl (ev))))] s.heap.size = A at hD ⊢
  have hA : ∀ q : Nat, s.heap.size ≤ q → A q := fun q h => by rw [← hAe]; exact Or.inr h
  have hS : va_S A s.heap s.heap [] := va_S.rf
  have hP : va_P (dC, dI) vwCl [(h0, .inr (2, [.long pv.1, .long pv.2])), (e0, .inr (5, [.ref e1])), (e1, .inl (cJ, 70, .inr (.inl (ev))))] s.heap := hP
  have hl := lv_entry ([.ref h0, .long ov, .int (nI lf), .ref e0]) (n := 6) (Nat.le_of_ble_eq_true rfl)
  rw [lg_entry_eq]
  generalize (lg_sl ([.ref h0, .long ov, .int (nI lf), .ref e0]) ++ List.replicate (6 - (lg_sl ([.ref h0, .long ov, .int (nI lf), .ref e0])).length) Slot.unset).toArray = ls at hl ⊢
  have hl : lv_has ls 6 [(0, .ref h0), (1, .long ov), (3, .int (nI lf)), (4, .ref e0)] := hl
  refine lv_aload_n hx hb dX2_hashLeaf_0 rfl (lv_at hl 0 rfl) ?_
  refine lv_iconst (v := nI 3) hx hb dX2_hashLeaf_1 (by decide) ?_
  refine lv_bipush (v := nI 72) hx hb dX2_hashLeaf_2 (by decide) ?_
  refine st_callv (va_runV (As := [.int (nI 3), .int (nI 72)]) (rest := []) ⟨hx, hb, hml, hown, hts⟩ (c_Hasher_start l dC dI cJ cI h0 pv (nI 3) (nI 72) (lN 3) (lN 72) (nI_l (by omega)) (nI_l (by omega)) s.heap.size) (cwV 2 hts gX2_hashLeaf_X2_start rfl rfl rfl (by decide +kernel) ⟨Nat.le_of_ble_eq_true rfl, Nat.le_of_ble_eq_true rfl⟩) (st_preV hK hP hD [0] rfl rfl (ci := 2) (q0 := 0) rfl rfl) rfl rfl hl.1 rfl (lv_room (Nat.le_of_ble_eq_true rfl)) dX2_hashLeaf_4 ⟨Nat.le_of_ble_eq_true rfl, Nat.le_of_ble_eq_true rfl⟩) hP hD hS hA [0] [1, 2] (wr := [(e0, .inr (5, [.ref e1])), (e1, .inl (cJ, 70, .inr (.inl (ev))))]) rfl rfl (by decide) (by decide) [2, 0, 1] (res := fun _ => [(h0, .inr (2, [.long (lN 3), .long (lN 72)])), (e0, .inr (5, [.ref e1])), (e1, .inl (cJ, 70, .inr (.inl (ev))))]) (fun _ => rfl) (by decide) (fun  _ H locs hu hP hD hS => ?_)
  have hP : va_P (dC, dI) vwCl [(h0, .inr (2, [.long (lN 3), .long (lN 72)])), (e0, .inr (5, [.ref e1])), (e1, .inl (cJ, 70, .inr (.inl (ev))))] H := hP
  have hD : va_D A [(h0, .inr (2, [.long (lN 3), .long (lN 72)])), (e0, .inr (5, [.ref e1])), (e1, .inl (cJ, 70, .inr (.inl (ev))))] := hD
  refine lv_aload_n hx hb dX2_hashLeaf_7 rfl (lv_at hl 0 rfl) ?_
  refine lv_lload_n hx hb dX2_hashLeaf_8 rfl (lv_at hl 1 rfl) ?_
  refine st_callv (va_runV (As := [.long ov]) (rest := []) ⟨hx, hb, hml, hown, hts⟩ (c_Hasher_add l dC dI cJ cI h0 (lN 3, lN 72) ov  H.size) (cwV 1 hts gX2_hashLeaf_X2_add rfl rfl rfl (by decide +kernel) ⟨Nat.le_of_ble_eq_true rfl, Nat.le_of_ble_eq_true rfl⟩) (st_preV hK hP hD [0] rfl rfl (ci := 2) (q0 := 0) rfl rfl) rfl rfl hl.1 rfl (lv_room (Nat.le_of_ble_eq_true rfl)) dX2_hashLeaf_9 ⟨Nat.le_of_ble_eq_true rfl, Nat.le_of_ble_eq_true rfl⟩) hP hD hS hA [0] [1, 2] (wr := [(e0, .inr (5, [.ref e1])), (e1, .inl (cJ, 70, .inr (.inl (ev))))]) rfl rfl (by decide) (by decide) [2, 0, 1] (res := fun _ => [(h0, .inr (2, [.long ((ha (lN 3, lN 72) ov).1), .long ((ha (lN 3, lN 72) ov).2)])), (e0, .inr (5, [.ref e1])), (e1, .inl (cJ, 70, .inr (.inl (ev))))]) (fun _ => rfl) (by decide) (fun  _ H locs hu hP hD hS => ?_)
  have hP : va_P (dC, dI) vwCl [(h0, .inr (2, [.long ((ha (lN 3, lN 72) ov).1), .long ((ha (lN 3, lN 72) ov).2)])), (e0, .inr (5, [.ref e1])), (e1, .inl (cJ, 70, .inr (.inl (ev))))] H := hP
  have hD : va_D A [(h0, .inr (2, [.long ((ha (lN 3, lN 72) ov).1), .long ((ha (lN 3, lN 72) ov).2)])), (e0, .inr (5, [.ref e1])), (e1, .inl (cJ, 70, .inr (.inl (ev))))] := hD
  refine lv_aload_n hx hb dX2_hashLeaf_12 rfl (lv_at hl 0 rfl) ?_
  refine lv_iload_n hx hb dX2_hashLeaf_13 rfl (lv_at hl 2 rfl) ?_
  refine lv_i2l (v := lN lf) hx hb dX2_hashLeaf_14 (nI_l (by omega)) ?_
  refine st_callv (va_runV (As := [.long (lN lf)]) (rest := []) ⟨hx, hb, hml, hown, hts⟩ (c_Hasher_add l dC dI cJ cI h0 (ha (lN 3, lN 72) ov) (lN lf)  H.size) (cwV 1 hts gX2_hashLeaf_X2_add rfl rfl rfl (by decide +kernel) ⟨Nat.le_of_ble_eq_true rfl, Nat.le_of_ble_eq_true rfl⟩) (st_preV hK hP hD [0] rfl rfl (ci := 2) (q0 := 0) rfl rfl) rfl rfl hl.1 rfl (lv_room (Nat.le_of_ble_eq_true rfl)) dX2_hashLeaf_15 ⟨Nat.le_of_ble_eq_true rfl, Nat.le_of_ble_eq_true rfl⟩) hP hD hS hA [0] [1, 2] (wr := [(e0, .inr (5, [.ref e1])), (e1, .inl (cJ, 70, .inr (.inl (ev))))]) rfl rfl (by decide) (by decide) [2, 0, 1] (res := fun _ => [(h0, .inr (2, [.long ((ha (ha (lN 3, lN 72) ov) (lN lf)).1), .long ((ha (ha (lN 3, lN 72) ov) (lN lf)).2)])), (e0, .inr (5, [.ref e1])), (e1, .inl (cJ, 70, .inr (.inl (ev))))]) (fun _ => rfl) (by decide) (fun  _ H locs hu hP hD hS => ?_)
  have hP : va_P (dC, dI) vwCl [(h0, .inr (2, [.long ((ha (ha (lN 3, lN 72) ov) (lN lf)).1), .long ((ha (ha (lN 3, lN 72) ov) (lN lf)).2)])), (e0, .inr (5, [.ref e1])), (e1, .inl (cJ, 70, .inr (.inl (ev))))] H := hP
  have hD : va_D A [(h0, .inr (2, [.long ((ha (ha (lN 3, lN 72) ov) (lN lf)).1), .long ((ha (ha (lN 3, lN 72) ov) (lN lf)).2)])), (e0, .inr (5, [.ref e1])), (e1, .inl (cJ, 70, .inr (.inl (ev))))] := hD
  refine lv_iconst (v := nI 0) hx hb dX2_hashLeaf_18 (by decide) ?_
  refine lv_istore (lv' := [(5, .int (nI 0)), (0, .ref h0), (1, .long ov), (3, .int (nI lf)), (4, .ref e0)]) hx hb dX2_hashLeaf_19 hl (by decide) rfl (fun ls hl => ?_)
  have eW_1 : ([(h0, .inr (2, [.long ((ha (ha (lN 3, lN 72) ov) (lN lf)).1), .long ((ha (ha (lN 3, lN 72) ov) (lN lf)).2)])), (e0, .inr (5, [.ref e1])), (e1, .inl (cJ, 70, .inr (.inl (ev))))] : va_W) = [(h0, .inr (2, [.long ((hm (ha (ha (lN 3, lN 72) ov) (lN lf)) ev (2 * 0)).1), .long ((hm (ha (ha (lN 3, lN 72) ov) (lN lf)) ev (2 * 0)).2)])), (e0, .inr (5, [.ref e1])), (e1, .inl (cJ, 70, .inr (.inl (ev))))] := rfl
  have hP : va_P (dC, dI) vwCl [(h0, .inr (2, [.long ((hm (ha (ha (lN 3, lN 72) ov) (lN lf)) ev (2 * 0)).1), .long ((hm (ha (ha (lN 3, lN 72) ov) (lN lf)) ev (2 * 0)).2)])), (e0, .inr (5, [.ref e1])), (e1, .inl (cJ, 70, .inr (.inl (ev))))] H := by rw [← eW_1]; exact hP
  have hD : va_D A [(h0, .inr (2, [.long ((hm (ha (ha (lN 3, lN 72) ov) (lN lf)) ev (2 * 0)).1), .long ((hm (ha (ha (lN 3, lN 72) ov) (lN lf)) ev (2 * 0)).2)])), (e0, .inr (5, [.ref e1])), (e1, .inl (cJ, 70, .inr (.inl (ev))))] := by rw [← eW_1]; exact hD
  refine st_loop (I := fun i H locs ls => va_P (dC, dI) vwCl [(h0, .inr (2, [.long (hm (ha (ha (lN 3, lN 72) ov) (lN lf)) ev (2 * i)).1, .long (hm (ha (ha (lN 3, lN 72) ov) (lN lf)) ev (2 * i)).2])), (e0, .inr (5, [.ref e1])), (e1, .inl (cJ, 70, .inr (.inl (ev))))] H ∧ va_D A [(h0, .inr (2, [.long (hm (ha (ha (lN 3, lN 72) ov) (lN lf)) ev (2 * i)).1, .long (hm (ha (ha (lN 3, lN 72) ov) (lN lf)) ev (2 * i)).2])), (e0, .inr (5, [.ref e1])), (e1, .inl (cJ, 70, .inr (.inl (ev))))] ∧ va_S A s.heap H locs ∧ lv_has ls 6 [(0, .ref h0), (1, .long ov), (3, .int (nI lf)), (4, .ref e0), (5, .int (nI i))]) 0 35 (by omega) ⟨hP, hD, hS, lv_sub hl [1, 2, 3, 4, 0] rfl⟩ (fun H locs ls hI => ?_) (fun i H locs ls hi hI ih => ?_)
  ·
    obtain ⟨hP, hD, hS, hl⟩ := hI
    have hP : va_P (dC, dI) vwCl [(h0, .inr (2, [.long ((hm (ha (ha (lN 3, lN 72) ov) (lN lf)) ev (2 * 35)).1), .long ((hm (ha (ha (lN 3, lN 72) ov) (lN lf)) ev (2 * 35)).2)])), (e0, .inr (5, [.ref e1])), (e1, .inl (cJ, 70, .inr (.inl (ev))))] H := hP
    have hD : va_D A [(h0, .inr (2, [.long ((hm (ha (ha (lN 3, lN 72) ov) (lN lf)) ev (2 * 35)).1), .long ((hm (ha (ha (lN 3, lN 72) ov) (lN lf)) ev (2 * 35)).2)])), (e0, .inr (5, [.ref e1])), (e1, .inl (cJ, 70, .inr (.inl (ev))))] := hD
    have hl : lv_has ls 6 [(0, .ref h0), (1, .long ov), (3, .int (nI lf)), (4, .ref e0), (5, .int (nI 35))] := hl
    refine lv_iload hx hb dX2_hashLeaf_21 (lv_at hl 4 rfl) ?_
    refine lv_bipush (v := nI 35) hx hb dX2_hashLeaf_23 (by decide) ?_
    refine lv_icmp_ge (tgt := 42) hx hb dX2_hashLeaf_25 (by decide) (fun c25 => ?_) (fun c25 => ?_)
    ·
      rw [q_le (by omega) (by omega)] at c25
      have eW_2 : ([(h0, .inr (2, [.long ((hm (ha (ha (lN 3, lN 72) ov) (lN lf)) ev (2 * 35)).1), .long ((hm (ha (ha (lN 3, lN 72) ov) (lN lf)) ev (2 * 35)).2)])), (e0, .inr (5, [.ref e1])), (e1, .inl (cJ, 70, .inr (.inl (ev))))] : va_W) = [(h0, .inr (2, [.long ((hm (ha (ha (lN 3, lN 72) ov) (lN lf)) ev 70).1), .long ((hm (ha (ha (lN 3, lN 72) ov) (lN lf)) ev 70).2)])), (e0, .inr (5, [.ref e1])), (e1, .inl (cJ, 70, .inr (.inl (ev))))] := rfl
      have hP : va_P (dC, dI) vwCl [(h0, .inr (2, [.long ((hm (ha (ha (lN 3, lN 72) ov) (lN lf)) ev 70).1), .long ((hm (ha (ha (lN 3, lN 72) ov) (lN lf)) ev 70).2)])), (e0, .inr (5, [.ref e1])), (e1, .inl (cJ, 70, .inr (.inl (ev))))] H := by rw [← eW_2]; exact hP
      have hD : va_D A [(h0, .inr (2, [.long ((hm (ha (ha (lN 3, lN 72) ov) (lN lf)) ev 70).1), .long ((hm (ha (ha (lN 3, lN 72) ov) (lN lf)) ev 70).2)])), (e0, .inr (5, [.ref e1])), (e1, .inl (cJ, 70, .inr (.inl (ev))))] := by rw [← eW_2]; exact hD
      exact W.vret hx hb hr (fun t ht hW => ⟨⟨(), rfl, trivial, by rw [ht]; exact hP, va_K.moved hW.alike hK, hD⟩, hS.F ht⟩) hS.2.2 dX2_hashLeaf_42
    ·
      rw [q_le (by omega) (by omega)] at c25
      exact absurd c25 (by omega)
  ·
    obtain ⟨hP, hD, hS, hl⟩ := hI
    have hP : va_P (dC, dI) vwCl [(h0, .inr (2, [.long ((hm (ha (ha (lN 3, lN 72) ov) (lN lf)) ev (2 * i)).1), .long ((hm (ha (ha (lN 3, lN 72) ov) (lN lf)) ev (2 * i)).2)])), (e0, .inr (5, [.ref e1])), (e1, .inl (cJ, 70, .inr (.inl (ev))))] H := hP
    have hD : va_D A [(h0, .inr (2, [.long ((hm (ha (ha (lN 3, lN 72) ov) (lN lf)) ev (2 * i)).1), .long ((hm (ha (ha (lN 3, lN 72) ov) (lN lf)) ev (2 * i)).2)])), (e0, .inr (5, [.ref e1])), (e1, .inl (cJ, 70, .inr (.inl (ev))))] := hD
    have hl : lv_has ls 6 [(0, .ref h0), (1, .long ov), (3, .int (nI lf)), (4, .ref e0), (5, .int (nI i))] := hl
    refine lv_iload hx hb dX2_hashLeaf_21 (lv_at hl 4 rfl) ?_
    refine lv_bipush (v := nI 35) hx hb dX2_hashLeaf_23 (by decide) ?_
    refine lv_icmp_ge (tgt := 42) hx hb dX2_hashLeaf_25 (by decide) (fun c25 => ?_) (fun c25 => ?_)
    ·
      rw [q_le (by omega) (by omega)] at c25
      exact absurd c25 (by omega)
    ·
      rw [q_le (by omega) (by omega)] at c25
      refine lv_aload_n hx hb dX2_hashLeaf_28 rfl (lv_at hl 0 rfl) ?_
      refine lv_aload hx hb dX2_hashLeaf_29 (lv_at hl 3 rfl) ?_
      refine lv_iload hx hb dX2_hashLeaf_31 (lv_at hl 4 rfl) ?_
      refine st_callv (va_runV (As := [.ref e0, .int (nI i)]) (rest := []) ⟨hx, hb, hml, hown, hts⟩ (c_Hasher_addPair l dC dI cJ cI h0 e0 e1 (hm (ha (ha (lN 3, lN 72) ov) (lN lf)) ev (2 * i)) 70 ev i (by omega) (by omega) H.size) (cwV 2 hts gX2_hashLeaf_X2_addPair rfl rfl rfl (by decide +kernel) ⟨Nat.le_of_ble_eq_true rfl, Nat.le_of_ble_eq_true rfl⟩) (st_preV hK hP hD [0, 1, 2] rfl rfl (ci := 2) (q0 := 0) rfl rfl) rfl rfl hl.1 rfl (lv_room (Nat.le_of_ble_eq_true rfl)) dX2_hashLeaf_33 ⟨Nat.le_of_ble_eq_true rfl, Nat.le_of_ble_eq_true rfl⟩) hP hD hS hA [0, 1, 2] [] (wr := []) rfl rfl (by decide) (by decide) [0, 1, 2] (res := fun _ => [(h0, .inr (2, [.long ((ha (ha (hm (ha (ha (lN 3, lN 72) ov) (lN lf)) ev (2 * i)) (ev (2 * i))) (ev (2 * i + 1))).1), .long ((ha (ha (hm (ha (ha (lN 3, lN 72) ov) (lN lf)) ev (2 * i)) (ev (2 * i))) (ev (2 * i + 1))).2)])), (e0, .inr (5, [.ref e1])), (e1, .inl (cJ, 70, .inr (.inl (ev))))]) (fun _ => rfl) (by decide) (fun  _ H locs hu hP hD hS => ?_)
      have hP : va_P (dC, dI) vwCl [(h0, .inr (2, [.long ((ha (ha (hm (ha (ha (lN 3, lN 72) ov) (lN lf)) ev (2 * i)) (ev (2 * i))) (ev (2 * i + 1))).1), .long ((ha (ha (hm (ha (ha (lN 3, lN 72) ov) (lN lf)) ev (2 * i)) (ev (2 * i))) (ev (2 * i + 1))).2)])), (e0, .inr (5, [.ref e1])), (e1, .inl (cJ, 70, .inr (.inl (ev))))] H := hP
      have hD : va_D A [(h0, .inr (2, [.long ((ha (ha (hm (ha (ha (lN 3, lN 72) ov) (lN lf)) ev (2 * i)) (ev (2 * i))) (ev (2 * i + 1))).1), .long ((ha (ha (hm (ha (ha (lN 3, lN 72) ov) (lN lf)) ev (2 * i)) (ev (2 * i))) (ev (2 * i + 1))).2)])), (e0, .inr (5, [.ref e1])), (e1, .inl (cJ, 70, .inr (.inl (ev))))] := hD
      refine lv_iinc (v := nI (i + 1)) (lv' := [(5, .int (nI (i + 1))), (0, .ref h0), (1, .long ov), (3, .int (nI lf)), (4, .ref e0)]) hx hb dX2_hashLeaf_36 hl (k := 4) rfl (st_inc i 1 (by decide)) (by decide) rfl (fun ls hl => ?_)
      refine lv_goto (tgt := 21) hx hb dX2_hashLeaf_39 (by decide) ?_
      have eW_3 : ([(h0, .inr (2, [.long ((ha (ha (hm (ha (ha (lN 3, lN 72) ov) (lN lf)) ev (2 * i)) (ev (2 * i))) (ev (2 * i + 1))).1), .long ((ha (ha (hm (ha (ha (lN 3, lN 72) ov) (lN lf)) ev (2 * i)) (ev (2 * i))) (ev (2 * i + 1))).2)])), (e0, .inr (5, [.ref e1])), (e1, .inl (cJ, 70, .inr (.inl (ev))))] : va_W) = [(h0, .inr (2, [.long ((hm (ha (ha (lN 3, lN 72) ov) (lN lf)) ev (2 * (i + 1))).1), .long ((hm (ha (ha (lN 3, lN 72) ov) (lN lf)) ev (2 * (i + 1))).2)])), (e0, .inr (5, [.ref e1])), (e1, .inl (cJ, 70, .inr (.inl (ev))))] := by rw [hm_2]
      have hP : va_P (dC, dI) vwCl [(h0, .inr (2, [.long ((hm (ha (ha (lN 3, lN 72) ov) (lN lf)) ev (2 * (i + 1))).1), .long ((hm (ha (ha (lN 3, lN 72) ov) (lN lf)) ev (2 * (i + 1))).2)])), (e0, .inr (5, [.ref e1])), (e1, .inl (cJ, 70, .inr (.inl (ev))))] H := by rw [← eW_3]; exact hP
      have hD : va_D A [(h0, .inr (2, [.long ((hm (ha (ha (lN 3, lN 72) ov) (lN lf)) ev (2 * (i + 1))).1), .long ((hm (ha (ha (lN 3, lN 72) ov) (lN lf)) ev (2 * (i + 1))).2)])), (e0, .inr (5, [.ref e1])), (e1, .inl (cJ, 70, .inr (.inl (ev))))] := by rw [← eW_3]; exact hD
      exact ih _ _ _ ⟨hP, hD, hS, lv_sub hl [1, 2, 3, 4, 0] rfl⟩

set_option maxHeartbeats 4000000 in
set_option maxRecDepth 100000 in
theorem c_Hasher_startNode (l : Launch) (dC : Nat → ClassId) (dI : Nat → Nat → Nat) (cJ cI : ClassId) (h0 : Nat) (pv : Int64 × Int64) (ov : Int64) (lv iv : Nat) (hlv : lv < 2 ^ 31) (hiv : iv < 2 ^ 31) (sz : Nat) : Met l yX2_startNode wsX2_startNode ({ frames := 2, cells := 0, slots := 0, locals := 47 }) (va_Pc [.ref h0, .long ov, .int (nI lv), .int (nI iv)] (st_B (dC, dI) vwCl [(cJ, .long), (cI, .int)] [(h0, .inr (2, [.long pv.1, .long pv.2]))] sz)) (va_Qv (fun _ : Unit => True) (st_E (dC, dI) vwCl [(cJ, .long), (cI, .int)] (va_A [(h0, .inr (2, [.long pv.1, .long pv.2]))] sz) (fun _ => [(h0, .inr (2, [.long ((ha (ha (ha (lN 4, lN 7) ov) (lN lv)) (lN iv)).1), .long ((ha (ha (ha (lN 4, lN 7) ov) (lN lv)) (lN iv)).2)]))])) (va_A [(h0, .inr (2, [.long pv.1, .long pv.2]))] sz)) 0 0 (va_A [(h0, .inr (2, [.long pv.1, .long pv.2]))] sz) := by
  refine Met.ofW (cc := cX2_startNode) (maxL := 5) (ret := none) (by decide) rfl ?_
  intro p e s m args below meth c s₁ B hml hv
  obtain ⟨rfl, hsz, hP, hK, hD0⟩ := hv
  have hx := B.exec
  have hb := B.bytes
  have hr := B.returns
  have hts := atoms_spec (ws := wsX2_startNode) B.pre
  have hown : s.vm.findClass RX2 = some m.cls := findClass_of_methodNamed B.named
  have hlocks := B.notSynchronized
  subst hsz
  have hD := hD0.self (sz := s.heap.size)
  generalize hAe : va_A [(h0, .inr (2, [.long pv.1, .long pv.2]))] s.heap.size = A at hD ⊢
  have hA : ∀ q : Nat, s.heap.size ≤ q → A q := fun q h => by rw [← hAe]; exact Or.inr h
  have hS : va_S A s.heap s.heap [] := va_S.rf
  have hP : va_P (dC, dI) vwCl [(h0, .inr (2, [.long pv.1, .long pv.2]))] s.heap := hP
  have hl := lv_entry ([.ref h0, .long ov, .int (nI lv), .int (nI iv)]) (n := 5) (Nat.le_of_ble_eq_true rfl)
  rw [lg_entry_eq]
  generalize (lg_sl ([.ref h0, .long ov, .int (nI lv), .int (nI iv)]) ++ List.replicate (5 - (lg_sl ([.ref h0, .long ov, .int (nI lv), .int (nI iv)])).length) Slot.unset).toArray = ls at hl ⊢
  have hl : lv_has ls 5 [(0, .ref h0), (1, .long ov), (3, .int (nI lv)), (4, .int (nI iv))] := hl
  refine lv_aload_n hx hb dX2_startNode_0 rfl (lv_at hl 0 rfl) ?_
  refine lv_iconst (v := nI 4) hx hb dX2_startNode_1 (by decide) ?_
  refine lv_bipush (v := nI 7) hx hb dX2_startNode_2 (by decide) ?_
  refine st_callv (va_runV (As := [.int (nI 4), .int (nI 7)]) (rest := []) ⟨hx, hb, hml, hown, hts⟩ (c_Hasher_start l dC dI cJ cI h0 pv (nI 4) (nI 7) (lN 4) (lN 7) (nI_l (by omega)) (nI_l (by omega)) s.heap.size) (cwV 2 hts gX2_startNode_X2_start rfl rfl rfl (by decide +kernel) ⟨Nat.le_of_ble_eq_true rfl, Nat.le_of_ble_eq_true rfl⟩) (st_preV hK hP hD [0] rfl rfl (ci := 2) (q0 := 0) rfl rfl) rfl rfl hl.1 rfl (lv_room (Nat.le_of_ble_eq_true rfl)) dX2_startNode_4 ⟨Nat.le_of_ble_eq_true rfl, Nat.le_of_ble_eq_true rfl⟩) hP hD hS hA [0] [] (wr := []) rfl rfl (by decide) (by decide) [0] (res := fun _ => [(h0, .inr (2, [.long (lN 4), .long (lN 7)]))]) (fun _ => rfl) (by decide) (fun  _ H locs hu hP hD hS => ?_)
  have hP : va_P (dC, dI) vwCl [(h0, .inr (2, [.long (lN 4), .long (lN 7)]))] H := hP
  have hD : va_D A [(h0, .inr (2, [.long (lN 4), .long (lN 7)]))] := hD
  refine lv_aload_n hx hb dX2_startNode_7 rfl (lv_at hl 0 rfl) ?_
  refine lv_lload_n hx hb dX2_startNode_8 rfl (lv_at hl 1 rfl) ?_
  refine st_callv (va_runV (As := [.long ov]) (rest := []) ⟨hx, hb, hml, hown, hts⟩ (c_Hasher_add l dC dI cJ cI h0 (lN 4, lN 7) ov  H.size) (cwV 1 hts gX2_startNode_X2_add rfl rfl rfl (by decide +kernel) ⟨Nat.le_of_ble_eq_true rfl, Nat.le_of_ble_eq_true rfl⟩) (st_preV hK hP hD [0] rfl rfl (ci := 2) (q0 := 0) rfl rfl) rfl rfl hl.1 rfl (lv_room (Nat.le_of_ble_eq_true rfl)) dX2_startNode_9 ⟨Nat.le_of_ble_eq_true rfl, Nat.le_of_ble_eq_true rfl⟩) hP hD hS hA [0] [] (wr := []) rfl rfl (by decide) (by decide) [0] (res := fun _ => [(h0, .inr (2, [.long ((ha (lN 4, lN 7) ov).1), .long ((ha (lN 4, lN 7) ov).2)]))]) (fun _ => rfl) (by decide) (fun  _ H locs hu hP hD hS => ?_)
  have hP : va_P (dC, dI) vwCl [(h0, .inr (2, [.long ((ha (lN 4, lN 7) ov).1), .long ((ha (lN 4, lN 7) ov).2)]))] H := hP
  have hD : va_D A [(h0, .inr (2, [.long ((ha (lN 4, lN 7) ov).1), .long ((ha (lN 4, lN 7) ov).2)]))] := hD
  refine lv_aload_n hx hb dX2_startNode_12 rfl (lv_at hl 0 rfl) ?_
  refine lv_iload_n hx hb dX2_startNode_13 rfl (lv_at hl 2 rfl) ?_
  refine lv_i2l (v := lN lv) hx hb dX2_startNode_14 (nI_l (by omega)) ?_
  refine st_callv (va_runV (As := [.long (lN lv)]) (rest := []) ⟨hx, hb, hml, hown, hts⟩ (c_Hasher_add l dC dI cJ cI h0 (ha (lN 4, lN 7) ov) (lN lv)  H.size) (cwV 1 hts gX2_startNode_X2_add rfl rfl rfl (by decide +kernel) ⟨Nat.le_of_ble_eq_true rfl, Nat.le_of_ble_eq_true rfl⟩) (st_preV hK hP hD [0] rfl rfl (ci := 2) (q0 := 0) rfl rfl) rfl rfl hl.1 rfl (lv_room (Nat.le_of_ble_eq_true rfl)) dX2_startNode_15 ⟨Nat.le_of_ble_eq_true rfl, Nat.le_of_ble_eq_true rfl⟩) hP hD hS hA [0] [] (wr := []) rfl rfl (by decide) (by decide) [0] (res := fun _ => [(h0, .inr (2, [.long ((ha (ha (lN 4, lN 7) ov) (lN lv)).1), .long ((ha (ha (lN 4, lN 7) ov) (lN lv)).2)]))]) (fun _ => rfl) (by decide) (fun  _ H locs hu hP hD hS => ?_)
  have hP : va_P (dC, dI) vwCl [(h0, .inr (2, [.long ((ha (ha (lN 4, lN 7) ov) (lN lv)).1), .long ((ha (ha (lN 4, lN 7) ov) (lN lv)).2)]))] H := hP
  have hD : va_D A [(h0, .inr (2, [.long ((ha (ha (lN 4, lN 7) ov) (lN lv)).1), .long ((ha (ha (lN 4, lN 7) ov) (lN lv)).2)]))] := hD
  refine lv_aload_n hx hb dX2_startNode_18 rfl (lv_at hl 0 rfl) ?_
  refine lv_iload hx hb dX2_startNode_19 (lv_at hl 3 rfl) ?_
  refine lv_i2l (v := lN iv) hx hb dX2_startNode_21 (nI_l (by omega)) ?_
  refine st_callv (va_runV (As := [.long (lN iv)]) (rest := []) ⟨hx, hb, hml, hown, hts⟩ (c_Hasher_add l dC dI cJ cI h0 (ha (ha (lN 4, lN 7) ov) (lN lv)) (lN iv)  H.size) (cwV 1 hts gX2_startNode_X2_add rfl rfl rfl (by decide +kernel) ⟨Nat.le_of_ble_eq_true rfl, Nat.le_of_ble_eq_true rfl⟩) (st_preV hK hP hD [0] rfl rfl (ci := 2) (q0 := 0) rfl rfl) rfl rfl hl.1 rfl (lv_room (Nat.le_of_ble_eq_true rfl)) dX2_startNode_22 ⟨Nat.le_of_ble_eq_true rfl, Nat.le_of_ble_eq_true rfl⟩) hP hD hS hA [0] [] (wr := []) rfl rfl (by decide) (by decide) [0] (res := fun _ => [(h0, .inr (2, [.long ((ha (ha (ha (lN 4, lN 7) ov) (lN lv)) (lN iv)).1), .long ((ha (ha (ha (lN 4, lN 7) ov) (lN lv)) (lN iv)).2)]))]) (fun _ => rfl) (by decide) (fun  _ H locs hu hP hD hS => ?_)
  have hP : va_P (dC, dI) vwCl [(h0, .inr (2, [.long ((ha (ha (ha (lN 4, lN 7) ov) (lN lv)) (lN iv)).1), .long ((ha (ha (ha (lN 4, lN 7) ov) (lN lv)) (lN iv)).2)]))] H := hP
  have hD : va_D A [(h0, .inr (2, [.long ((ha (ha (ha (lN 4, lN 7) ov) (lN lv)) (lN iv)).1), .long ((ha (ha (ha (lN 4, lN 7) ov) (lN lv)) (lN iv)).2)]))] := hD
  exact W.vret hx hb hr (fun t ht hW => ⟨⟨(), rfl, trivial, by rw [ht]; exact hP, va_K.moved hW.alike hK, hD⟩, hS.F ht⟩) hS.2.2 dX2_startNode_25

set_option maxHeartbeats 4000000 in
set_option maxRecDepth 100000 in
theorem c_Hasher_giveTo (l : Launch) (dC : Nat → ClassId) (dI : Nat → Nat → Nat) (cJ cI : ClassId) (h0 r0 r1 : Nat) (pv : Int64 × Int64) (nn : Nat) (fv : Nat → Int64) (k : Nat) (hk : 2 * k + 1 < nn) (hn : nn < 2 ^ 31) (sz : Nat) : Met l yX2_giveTo wsX2_giveTo ({ frames := 1, cells := 0, slots := 0, locals := 24 }) (va_Pc [.ref h0, .ref r0, .int (nI k)] (st_B (dC, dI) vwCl [(cJ, .long), (cI, .int)] [(h0, .inr (2, [.long pv.1, .long pv.2])), (r0, .inr (5, [.ref r1])), (r1, .inl (cJ, nn, .inr (.inl (fv))))] sz)) (va_Qv (fun _ : Unit => True) (st_E (dC, dI) vwCl [(cJ, .long), (cI, .int)] (va_A [(h0, .inr (2, [.long pv.1, .long pv.2])), (r0, .inr (5, [.ref r1])), (r1, .inl (cJ, nn, .inr (.inl (fv))))] sz) (fun _ => [(h0, .inr (2, [.long pv.1, .long pv.2])), (r0, .inr (5, [.ref r1])), (r1, .inl (cJ, nn, .inr (.inl (setP fv k pv))))])) (va_A [(h0, .inr (2, [.long pv.1, .long pv.2])), (r0, .inr (5, [.ref r1])), (r1, .inl (cJ, nn, .inr (.inl (fv))))] sz)) 0 0 (va_A [(h0, .inr (2, [.long pv.1, .long pv.2])), (r0, .inr (5, [.ref r1])), (r1, .inl (cJ, nn, .inr (.inl (fv))))] sz) := by
  refine Met.ofW (cc := cX2_giveTo) (maxL := 3) (ret := none) (by decide) rfl ?_
  intro p e s m args below meth c s₁ B hml hv
  obtain ⟨rfl, hsz, hP, hK, hD0⟩ := hv
  have hx := B.exec
  have hb := B.bytes
  have hr := B.returns
  have hts := atoms_spec (ws := wsX2_giveTo) B.pre
  have hown : s.vm.findClass RX2 = some m.cls := findClass_of_methodNamed B.named
  have hlocks := B.notSynchronized
  subst hsz
  have hD := hD0.self (sz := s.heap.size)
  generalize hAe : va_A [(h0, .inr (2, [.long pv.1, .long pv.2])), (r0, .inr (5, [.ref r1])), (r1, .inl (cJ, nn, .inr (.inl (fv))))] s.heap.size = A at hD ⊢
  have hA : ∀ q : Nat, s.heap.size ≤ q → A q := fun q h => by rw [← hAe]; exact Or.inr h
  have hS : va_S A s.heap s.heap [] := va_S.rf
  have hP : va_P (dC, dI) vwCl [(h0, .inr (2, [.long pv.1, .long pv.2])), (r0, .inr (5, [.ref r1])), (r1, .inl (cJ, nn, .inr (.inl (fv))))] s.heap := hP
  have hl := lv_entry ([.ref h0, .ref r0, .int (nI k)]) (n := 3) (Nat.le_of_ble_eq_true rfl)
  rw [lg_entry_eq]
  generalize (lg_sl ([.ref h0, .ref r0, .int (nI k)]) ++ List.replicate (3 - (lg_sl ([.ref h0, .ref r0, .int (nI k)])).length) Slot.unset).toArray = ls at hl ⊢
  have iX2 : ∀ w ∈ wsX20, w ∈ wsX2_giveTo := by decide +kernel
  have f9 := hts (.fieldLink RX2 9 "LeafSigner$Hasher" "a" "J") (by decide +kernel)
  have f15 := hts (.fieldLink RX2 15 "LeafSigner$Hasher" "b" "J") (by decide +kernel)
  have hl : lv_has ls 3 [(0, .ref h0), (1, .ref r0), (2, .int (nI k))] := hl
  refine lv_aload_n hx hb dX2_giveTo_0 rfl (lv_at hl 1 rfl) ?_
  refine lv_iload_n hx hb dX2_giveTo_1 rfl (lv_at hl 2 rfl) ?_
  refine lv_iconst (v := nI 0) hx hb dX2_giveTo_2 (by decide) ?_
  refine lv_aload_n hx hb dX2_giveTo_3 rfl (lv_at hl 0 rfl) ?_
  refine va_get (D := (dC, dI)) (ci := 2) (v := .long pv.1) (C := RX2) (T := TX2) (N := 2) hx hb hts iX2 hown hK hP 0 rfl rfl 0 (by decide) f9 (fun _ h9 => h9) rfl dX2_giveTo_4 ?_
  refine st_callv (va_runV (As := [.int (nI k), .int (nI 0), .long pv.1]) (rest := []) ⟨hx, hb, hml, hown, hts⟩ (c_Pairs_put l dC dI cJ cI r0 r1 nn fv k 0 pv.1 (by omega) (by omega) s.heap.size) (cwV 3 hts gX2_giveTo_X5_put rfl rfl rfl (by decide +kernel) ⟨Nat.le_of_ble_eq_true rfl, Nat.le_of_ble_eq_true rfl⟩) (st_preV hK hP hD [1, 2] rfl rfl (ci := 5) (q0 := 0) rfl rfl) rfl rfl hl.1 rfl (lv_room (Nat.le_of_ble_eq_true rfl)) dX2_giveTo_7 ⟨Nat.le_of_ble_eq_true rfl, Nat.le_of_ble_eq_true rfl⟩) hP hD hS hA [1, 2] [0] (wr := [(h0, .inr (2, [.long pv.1, .long pv.2]))]) rfl rfl (by decide) (by decide) [0, 1, 2] (res := fun _ => [(h0, .inr (2, [.long pv.1, .long pv.2])), (r0, .inr (5, [.ref r1])), (r1, .inl (cJ, nn, .inr (.inl (vp_updL fv (2 * k) pv.1))))]) (fun _ => rfl) (by decide) (fun  _ H locs hu hP hD hS => ?_)
  have hP : va_P (dC, dI) vwCl [(h0, .inr (2, [.long pv.1, .long pv.2])), (r0, .inr (5, [.ref r1])), (r1, .inl (cJ, nn, .inr (.inl (vp_updL fv (2 * k) pv.1))))] H := hP
  have hD : va_D A [(h0, .inr (2, [.long pv.1, .long pv.2])), (r0, .inr (5, [.ref r1])), (r1, .inl (cJ, nn, .inr (.inl (vp_updL fv (2 * k) pv.1))))] := hD
  refine lv_aload_n hx hb dX2_giveTo_10 rfl (lv_at hl 1 rfl) ?_
  refine lv_iload_n hx hb dX2_giveTo_11 rfl (lv_at hl 2 rfl) ?_
  refine lv_iconst (v := nI 1) hx hb dX2_giveTo_12 (by decide) ?_
  refine lv_aload_n hx hb dX2_giveTo_13 rfl (lv_at hl 0 rfl) ?_
  refine va_get (D := (dC, dI)) (ci := 2) (v := .long pv.2) (C := RX2) (T := TX2) (N := 2) hx hb hts iX2 hown hK hP 0 rfl rfl 1 (by decide) f15 (fun _ h9 => h9) rfl dX2_giveTo_14 ?_
  refine st_callv (va_runV (As := [.int (nI k), .int (nI 1), .long pv.2]) (rest := []) ⟨hx, hb, hml, hown, hts⟩ (c_Pairs_put l dC dI cJ cI r0 r1 nn (vp_updL fv (2 * k) pv.1) k 1 pv.2 (by omega) (by omega) H.size) (cwV 3 hts gX2_giveTo_X5_put rfl rfl rfl (by decide +kernel) ⟨Nat.le_of_ble_eq_true rfl, Nat.le_of_ble_eq_true rfl⟩) (st_preV hK hP hD [1, 2] rfl rfl (ci := 5) (q0 := 0) rfl rfl) rfl rfl hl.1 rfl (lv_room (Nat.le_of_ble_eq_true rfl)) dX2_giveTo_17 ⟨Nat.le_of_ble_eq_true rfl, Nat.le_of_ble_eq_true rfl⟩) hP hD hS hA [1, 2] [0] (wr := [(h0, .inr (2, [.long pv.1, .long pv.2]))]) rfl rfl (by decide) (by decide) [0, 1, 2] (res := fun _ => [(h0, .inr (2, [.long pv.1, .long pv.2])), (r0, .inr (5, [.ref r1])), (r1, .inl (cJ, nn, .inr (.inl (vp_updL (vp_updL fv (2 * k) pv.1) (2 * k + 1) pv.2))))]) (fun _ => rfl) (by decide) (fun  _ H locs hu hP hD hS => ?_)
  have hP : va_P (dC, dI) vwCl [(h0, .inr (2, [.long pv.1, .long pv.2])), (r0, .inr (5, [.ref r1])), (r1, .inl (cJ, nn, .inr (.inl (vp_updL (vp_updL fv (2 * k) pv.1) (2 * k + 1) pv.2))))] H := hP
  have hD : va_D A [(h0, .inr (2, [.long pv.1, .long pv.2])), (r0, .inr (5, [.ref r1])), (r1, .inl (cJ, nn, .inr (.inl (vp_updL (vp_updL fv (2 * k) pv.1) (2 * k + 1) pv.2))))] := hD
  have eW_1 : ([(h0, .inr (2, [.long pv.1, .long pv.2])), (r0, .inr (5, [.ref r1])), (r1, .inl (cJ, nn, .inr (.inl (vp_updL (vp_updL fv (2 * k) pv.1) (2 * k + 1) pv.2))))] : va_W) = [(h0, .inr (2, [.long pv.1, .long pv.2])), (r0, .inr (5, [.ref r1])), (r1, .inl (cJ, nn, .inr (.inl (setP fv k pv))))] := rfl
  have hP : va_P (dC, dI) vwCl [(h0, .inr (2, [.long pv.1, .long pv.2])), (r0, .inr (5, [.ref r1])), (r1, .inl (cJ, nn, .inr (.inl (setP fv k pv))))] H := by rw [← eW_1]; exact hP
  have hD : va_D A [(h0, .inr (2, [.long pv.1, .long pv.2])), (r0, .inr (5, [.ref r1])), (r1, .inl (cJ, nn, .inr (.inl (setP fv k pv))))] := by rw [← eW_1]; exact hD
  exact W.vret hx hb hr (fun t ht hW => ⟨⟨(), rfl, trivial, by rw [ht]; exact hP, va_K.moved hW.alike hK, hD⟩, hS.F ht⟩) hS.2.2 dX2_giveTo_20

set_option maxHeartbeats 4000000 in
set_option maxRecDepth 100000 in
theorem c_Hasher_gave (l : Launch) (dC : Nat → ClassId) (dI : Nat → Nat → Nat) (cJ cI : ClassId) (h0 r0 r1 : Nat) (pv : Int64 × Int64) (nn : Nat) (fv : Nat → Int64) (k : Nat) (hk : 2 * k + 1 < nn) (hn : nn < 2 ^ 31) (sz : Nat) : Met l yX2_gave wsX2_gave ({ frames := 1, cells := 0, slots := 0, locals := 22 }) (va_Pc [.ref h0, .ref r0, .int (nI k)] (st_B (dC, dI) vwCl [(cJ, .long), (cI, .int)] [(h0, .inr (2, [.long pv.1, .long pv.2])), (r0, .inr (5, [.ref r1])), (r1, .inl (cJ, nn, .inr (.inl (fv))))] sz)) (va_Qi (fun (r : Int32) (_ : Unit) => r = bI (decide (fv (2 * k) = pv.1 ∧ fv (2 * k + 1) = pv.2))) (st_E (dC, dI) vwCl [(cJ, .long), (cI, .int)] (va_A [(h0, .inr (2, [.long pv.1, .long pv.2])), (r0, .inr (5, [.ref r1])), (r1, .inl (cJ, nn, .inr (.inl (fv))))] sz) (fun _ => [(h0, .inr (2, [.long pv.1, .long pv.2])), (r0, .inr (5, [.ref r1])), (r1, .inl (cJ, nn, .inr (.inl (fv))))])) (va_A [(h0, .inr (2, [.long pv.1, .long pv.2])), (r0, .inr (5, [.ref r1])), (r1, .inl (cJ, nn, .inr (.inl (fv))))] sz)) 0 0 (va_A [(h0, .inr (2, [.long pv.1, .long pv.2])), (r0, .inr (5, [.ref r1])), (r1, .inl (cJ, nn, .inr (.inl (fv))))] sz) := by
  refine Met.ofW (cc := cX2_gave) (maxL := 3) (ret := (some .boolean)) (by decide) rfl ?_
  intro p e s m args below meth c s₁ B hml hv
  obtain ⟨rfl, hsz, hP, hK, hD0⟩ := hv
  have hx := B.exec
  have hb := B.bytes
  have hr := B.returns
  have hts := atoms_spec (ws := wsX2_gave) B.pre
  have hown : s.vm.findClass RX2 = some m.cls := findClass_of_methodNamed B.named
  have hlocks := B.notSynchronized
  subst hsz
  have hD := hD0.self (sz := s.heap.size)
  generalize hAe : va_A [(h0, .inr (2, [.long pv.1, .long pv.2])), (r0, .inr (5, [.ref r1])), (r1, .inl (cJ, nn, .inr (.inl (fv))))] s.heap.size = A at hD ⊢
  have hA : ∀ q : Nat, s.heap.size ≤ q → A q := fun q h => by rw [← hAe]; exact Or.inr h
  have hS : va_S A s.heap s.heap [] := va_S.rf
  have hP : va_P (dC, dI) vwCl [(h0, .inr (2, [.long pv.1, .long pv.2])), (r0, .inr (5, [.ref r1])), (r1, .inl (cJ, nn, .inr (.inl (fv))))] s.heap := hP
  have hl := lv_entry ([.ref h0, .ref r0, .int (nI k)]) (n := 3) (Nat.le_of_ble_eq_true rfl)
  rw [lg_entry_eq]
  generalize (lg_sl ([.ref h0, .ref r0, .int (nI k)]) ++ List.replicate (3 - (lg_sl ([.ref h0, .ref r0, .int (nI k)])).length) Slot.unset).toArray = ls at hl ⊢
  have iX2 : ∀ w ∈ wsX20, w ∈ wsX2_gave := by decide +kernel
  have f9 := hts (.fieldLink RX2 9 "LeafSigner$Hasher" "a" "J") (by decide +kernel)
  have f15 := hts (.fieldLink RX2 15 "LeafSigner$Hasher" "b" "J") (by decide +kernel)
  have hl : lv_has ls 3 [(0, .ref h0), (1, .ref r0), (2, .int (nI k))] := hl
  refine lv_aload_n hx hb dX2_gave_0 rfl (lv_at hl 1 rfl) ?_
  refine lv_iload_n hx hb dX2_gave_1 rfl (lv_at hl 2 rfl) ?_
  refine lv_iconst (v := nI 0) hx hb dX2_gave_2 (by decide) ?_
  refine st_calll (va_runV (As := [.int (nI k), .int (nI 0)]) (rest := []) ⟨hx, hb, hml, hown, hts⟩ (c_Pairs_at l dC dI cJ cI r0 r1 nn fv k 0 (by omega) (by omega) s.heap.size) (cwV 2 hts gX2_gave_X5_at rfl rfl rfl (by decide +kernel) ⟨Nat.le_of_ble_eq_true rfl, Nat.le_of_ble_eq_true rfl⟩) (st_preV hK hP hD [1, 2] rfl rfl (ci := 5) (q0 := 0) rfl rfl) rfl rfl hl.1 rfl (lv_room (Nat.le_of_ble_eq_true rfl)) dX2_gave_3 ⟨Nat.le_of_ble_eq_true rfl, Nat.le_of_ble_eq_true rfl⟩) hP hD hS hA [1, 2] [0] (wr := [(h0, .inr (2, [.long pv.1, .long pv.2]))]) rfl rfl (by decide) (by decide) [0, 1, 2] (res := fun _ => [(h0, .inr (2, [.long pv.1, .long pv.2])), (r0, .inr (5, [.ref r1])), (r1, .inl (cJ, nn, .inr (.inl (fv))))]) (fun _ => rfl) (by decide) (fun r_1 _ H locs hu hP hD hS => ?_)
  have hP : va_P (dC, dI) vwCl [(h0, .inr (2, [.long pv.1, .long pv.2])), (r0, .inr (5, [.ref r1])), (r1, .inl (cJ, nn, .inr (.inl (fv))))] H := hP
  have hD : va_D A [(h0, .inr (2, [.long pv.1, .long pv.2])), (r0, .inr (5, [.ref r1])), (r1, .inl (cJ, nn, .inr (.inl (fv))))] := hD
  subst hu
  refine lv_aload_n hx hb dX2_gave_6 rfl (lv_at hl 0 rfl) ?_
  refine va_get (D := (dC, dI)) (ci := 2) (v := .long pv.1) (C := RX2) (T := TX2) (N := 2) hx hb hts iX2 hown hK hP 0 rfl rfl 0 (by decide) f9 (fun _ h9 => h9) rfl dX2_gave_7 ?_
  refine W.lcmp hx hb dX2_gave_10 ?_
  refine lv_if_ne (tgt := 32) hx hb dX2_gave_11 (by decide) (fun c11 => ?_) (fun c11 => ?_)
  ·
    rw [q_lceq] at c11
    refine lv_iconst (v := nI 0) hx hb dX2_gave_32 (by decide) ?_
    exact W.zret (v := nI 0) hx hb hr (by decide) (fun t ht hW => ⟨⟨nI 0, (), rfl, bI_f (fun q => c11 q.1), by rw [ht]; exact hP, va_K.moved hW.alike hK, hD⟩, hS.F ht⟩) hS.2.2 dX2_gave_33
  ·
    rw [q_lceq] at c11
    refine lv_aload_n hx hb dX2_gave_14 rfl (lv_at hl 1 rfl) ?_
    refine lv_iload_n hx hb dX2_gave_15 rfl (lv_at hl 2 rfl) ?_
    refine lv_iconst (v := nI 1) hx hb dX2_gave_16 (by decide) ?_
    refine st_calll (va_runV (As := [.int (nI k), .int (nI 1)]) (rest := []) ⟨hx, hb, hml, hown, hts⟩ (c_Pairs_at l dC dI cJ cI r0 r1 nn fv k 1 (by omega) (by omega) H.size) (cwV 2 hts gX2_gave_X5_at rfl rfl rfl (by decide +kernel) ⟨Nat.le_of_ble_eq_true rfl, Nat.le_of_ble_eq_true rfl⟩) (st_preV hK hP hD [1, 2] rfl rfl (ci := 5) (q0 := 0) rfl rfl) rfl rfl hl.1 rfl (lv_room (Nat.le_of_ble_eq_true rfl)) dX2_gave_17 ⟨Nat.le_of_ble_eq_true rfl, Nat.le_of_ble_eq_true rfl⟩) hP hD hS hA [1, 2] [0] (wr := [(h0, .inr (2, [.long pv.1, .long pv.2]))]) rfl rfl (by decide) (by decide) [0, 1, 2] (res := fun _ => [(h0, .inr (2, [.long pv.1, .long pv.2])), (r0, .inr (5, [.ref r1])), (r1, .inl (cJ, nn, .inr (.inl (fv))))]) (fun _ => rfl) (by decide) (fun r_2 _ H locs hu hP hD hS => ?_)
    have hP : va_P (dC, dI) vwCl [(h0, .inr (2, [.long pv.1, .long pv.2])), (r0, .inr (5, [.ref r1])), (r1, .inl (cJ, nn, .inr (.inl (fv))))] H := hP
    have hD : va_D A [(h0, .inr (2, [.long pv.1, .long pv.2])), (r0, .inr (5, [.ref r1])), (r1, .inl (cJ, nn, .inr (.inl (fv))))] := hD
    subst hu
    refine lv_aload_n hx hb dX2_gave_20 rfl (lv_at hl 0 rfl) ?_
    refine va_get (D := (dC, dI)) (ci := 2) (v := .long pv.2) (C := RX2) (T := TX2) (N := 2) hx hb hts iX2 hown hK hP 0 rfl rfl 1 (by decide) f15 (fun _ h9 => h9) rfl dX2_gave_21 ?_
    refine W.lcmp hx hb dX2_gave_24 ?_
    refine lv_if_ne (tgt := 32) hx hb dX2_gave_25 (by decide) (fun c25 => ?_) (fun c25 => ?_)
    ·
      rw [q_lceq] at c25
      refine lv_iconst (v := nI 0) hx hb dX2_gave_32 (by decide) ?_
      exact W.zret (v := nI 0) hx hb hr (by decide) (fun t ht hW => ⟨⟨nI 0, (), rfl, bI_f (fun q => c25 q.2), by rw [ht]; exact hP, va_K.moved hW.alike hK, hD⟩, hS.F ht⟩) hS.2.2 dX2_gave_33
    ·
      rw [q_lceq] at c25
      refine lv_iconst (v := nI 1) hx hb dX2_gave_28 (by decide) ?_
      refine lv_goto (tgt := 33) hx hb dX2_gave_29 (by decide) ?_
      exact W.zret (v := nI 1) hx hb hr (by decide) (fun t ht hW => ⟨⟨nI 1, (), rfl, bI_t ⟨c11, c25⟩, by rw [ht]; exact hP, va_K.moved hW.alike hK, hD⟩, hS.F ht⟩) hS.2.2 dX2_gave_33
