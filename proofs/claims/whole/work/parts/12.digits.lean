set_option maxHeartbeats 4000000 in
set_option maxRecDepth 100000 in
theorem c_Digits_read (l : Launch) (dC : Nat → ClassId) (dI : Nat → Nat → Nat) (cJ cI : ClassId) (d0 d1 : Nat) (dv : Nat → Int32) (v1 v2 : Int64) (sz : Nat) : Met l yX1_read wsX1_read ({ frames := 1, cells := 0, slots := 0, locals := 22 }) (va_Pc [.ref d0, .long v1, .long v2] (st_B (dC, dI) vwCl [(cJ, .long), (cI, .int)] [(d0, .inr (1, [.ref d1])), (d1, .inl (cI, 35, .inl (dv)))] sz)) (va_Qv (fun _ : Unit => True) (st_E (dC, dI) vwCl [(cJ, .long), (cI, .int)] (va_A [(d0, .inr (1, [.ref d1])), (d1, .inl (cI, 35, .inl (dv)))] sz) (fun _ => [(d0, .inr (1, [.ref d1])), (d1, .inl (cI, 35, .inl (mkT (fun k => nI (digs (v1, v2) k)) 35 dv)))])) (va_A [(d0, .inr (1, [.ref d1])), (d1, .inl (cI, 35, .inl (dv)))] sz)) 0 0 (va_A [(d0, .inr (1, [.ref d1])), (d1, .inl (cI, 35, .inl (dv)))] sz) := by
  refine Met.ofW (cc := cX1_read) (maxL := 9) (ret := none) (by decide) rfl ?_
  intro p e s m args below meth c s₁ B hml hv
  obtain ⟨rfl, hsz, hP, hK, hD0⟩ := hv
  have hx := B.exec
  have hb := B.bytes
  have hr := B.returns
  have hts := atoms_spec (ws := wsX1_read) B.pre
  have hown : s.vm.findClass RX1 = some m.cls := findClass_of_methodNamed B.named
  have hlocks := B.notSynchronized
  subst hsz
  have hD := hD0.self (sz := s.heap.size)
  generalize hAe : va_A [(d0, .inr (1, [.ref d1])), (d1, .inl (cI, 35, .inl (dv)))] s.heap.size = A at hD ⊢
  have hA : ∀ q : Nat, s.heap.size ≤ q → A q := fun q h => by rw [← hAe]; exact Or.inr h
  have hS : va_S A s.heap s.heap [] := va_S.rf
  have hP : va_P (dC, dI) vwCl [(d0, .inr (1, [.ref d1])), (d1, .inl (cI, 35, .inl (dv)))] s.heap := hP
  have hl := lv_entry ([.ref d0, .long v1, .long v2]) (n := 9) (Nat.le_of_ble_eq_true rfl)
  rw [lg_entry_eq]
  generalize (lg_sl ([.ref d0, .long v1, .long v2]) ++ List.replicate (9 - (lg_sl ([.ref d0, .long v1, .long v2])).length) Slot.unset).toArray = ls at hl ⊢
  have iX1 : ∀ w ∈ wsX10, w ∈ wsX1_read := by decide +kernel
  have f9 := hts (.fieldLink RX1 9 "LeafSigner$Digits" "values" "[I") (by decide +kernel)
  have hl : lv_has ls 9 [(0, .ref d0), (1, .long v1), (3, .long v2)] := hl
  have hk32 := lk_le (v1, v2) 32
  refine lv_iconst (v := nI 0) hx hb dX1_read_0 (by decide) ?_
  refine lv_istore (lv' := [(5, .int (nI 0)), (0, .ref d0), (1, .long v1), (3, .long v2)]) hx hb dX1_read_1 hl (by decide) rfl (fun ls hl => ?_)
  refine lv_iconst (v := nI 0) hx hb dX1_read_3 (by decide) ?_
  refine lv_istore (lv' := [(6, .int (nI 0)), (5, .int (nI 0)), (0, .ref d0), (1, .long v1), (3, .long v2)]) hx hb dX1_read_4 hl (by decide) rfl (fun ls hl => ?_)
  have eW_1 : ([(d0, .inr (1, [.ref d1])), (d1, .inl (cI, 35, .inl (dv)))] : va_W) = [(d0, .inr (1, [.ref d1])), (d1, .inl (cI, 35, .inl (mkT (fun k => nI (d4 (v1, v2) k)) 0 dv)))] := by rw [mkT_0]
  have hP : va_P (dC, dI) vwCl [(d0, .inr (1, [.ref d1])), (d1, .inl (cI, 35, .inl (mkT (fun k => nI (d4 (v1, v2) k)) 0 dv)))] s.heap := by rw [← eW_1]; exact hP
  have hD : va_D A [(d0, .inr (1, [.ref d1])), (d1, .inl (cI, 35, .inl (mkT (fun k => nI (d4 (v1, v2) k)) 0 dv)))] := by rw [← eW_1]; exact hD
  refine st_loop (I := fun i H locs ls => va_P (dC, dI) vwCl [(d0, .inr (1, [.ref d1])), (d1, .inl (cI, 35, .inl (mkT (fun k => nI (d4 (v1, v2) k)) i dv)))] H ∧ va_D A [(d0, .inr (1, [.ref d1])), (d1, .inl (cI, 35, .inl (mkT (fun k => nI (d4 (v1, v2) k)) i dv)))] ∧ va_S A s.heap H locs ∧ lv_has ls 9 [(0, .ref d0), (1, .long v1), (3, .long v2), (5, .int (nI (lk (v1, v2) i))), (6, .int (nI i))]) 0 32 (by omega) ⟨hP, hD, hS, lv_sub hl [2, 3, 4, 1, 0] rfl⟩ (fun H locs ls hI => ?_) (fun i H locs ls hi hI ih => ?_)
  ·
    obtain ⟨hP, hD, hS, hl⟩ := hI
    have hP : va_P (dC, dI) vwCl [(d0, .inr (1, [.ref d1])), (d1, .inl (cI, 35, .inl (mkT (fun k => nI (d4 (v1, v2) k)) 32 dv)))] H := hP
    have hD : va_D A [(d0, .inr (1, [.ref d1])), (d1, .inl (cI, 35, .inl (mkT (fun k => nI (d4 (v1, v2) k)) 32 dv)))] := hD
    have hl : lv_has ls 9 [(0, .ref d0), (1, .long v1), (3, .long v2), (5, .int (nI (lk (v1, v2) 32))), (6, .int (nI 32))] := hl
    refine lv_iload hx hb dX1_read_6 (lv_at hl 4 rfl) ?_
    refine lv_bipush (v := nI 32) hx hb dX1_read_8 (by decide) ?_
    refine lv_icmp_ge (tgt := 68) hx hb dX1_read_10 (by decide) (fun c10 => ?_) (fun c10 => ?_)
    ·
      rw [q_le (by omega) (by omega)] at c10
      refine lv_bipush (v := nI 32) hx hb dX1_read_68 (by decide) ?_
      refine lv_istore (lv' := [(6, .int (nI 32)), (0, .ref d0), (1, .long v1), (3, .long v2), (5, .int (nI (lk (v1, v2) 32)))]) hx hb dX1_read_70 hl (by decide) rfl (fun ls hl => ?_)
      have eW_2 : ([(d0, .inr (1, [.ref d1])), (d1, .inl (cI, 35, .inl (mkT (fun k => nI (d4 (v1, v2) k)) 32 dv)))] : va_W) = [(d0, .inr (1, [.ref d1])), (d1, .inl (cI, 35, .inl (mkT (fun k => nI (digs (v1, v2) k)) 32 dv)))] := by rw [mkT_congr (fun k hk => congrArg nI (digs_lo (v1, v2) hk).symm)]
      have hP : va_P (dC, dI) vwCl [(d0, .inr (1, [.ref d1])), (d1, .inl (cI, 35, .inl (mkT (fun k => nI (digs (v1, v2) k)) 32 dv)))] H := by rw [← eW_2]; exact hP
      have hD : va_D A [(d0, .inr (1, [.ref d1])), (d1, .inl (cI, 35, .inl (mkT (fun k => nI (digs (v1, v2) k)) 32 dv)))] := by rw [← eW_2]; exact hD
      refine st_loop (I := fun i H locs ls => (32 ≤ i) ∧ va_P (dC, dI) vwCl [(d0, .inr (1, [.ref d1])), (d1, .inl (cI, 35, .inl (mkT (fun k => nI (digs (v1, v2) k)) i dv)))] H ∧ va_D A [(d0, .inr (1, [.ref d1])), (d1, .inl (cI, 35, .inl (mkT (fun k => nI (digs (v1, v2) k)) i dv)))] ∧ va_S A s.heap H locs ∧ lv_has ls 9 [(0, .ref d0), (1, .long v1), (3, .long v2), (5, .int (nI (lk (v1, v2) 32))), (6, .int (nI i))]) 32 35 (by omega) ⟨(Nat.le_refl 32), hP, hD, hS, lv_sub hl [1, 2, 3, 4, 0] rfl⟩ (fun H locs ls hI => ?_) (fun i H locs ls hi hI ih => ?_)
      ·
        obtain ⟨hi0, hP, hD, hS, hl⟩ := hI
        have hP : va_P (dC, dI) vwCl [(d0, .inr (1, [.ref d1])), (d1, .inl (cI, 35, .inl (mkT (fun k => nI (digs (v1, v2) k)) 35 dv)))] H := hP
        have hD : va_D A [(d0, .inr (1, [.ref d1])), (d1, .inl (cI, 35, .inl (mkT (fun k => nI (digs (v1, v2) k)) 35 dv)))] := hD
        have hl : lv_has ls 9 [(0, .ref d0), (1, .long v1), (3, .long v2), (5, .int (nI (lk (v1, v2) 32))), (6, .int (nI 35))] := hl
        refine lv_iload hx hb dX1_read_72 (lv_at hl 4 rfl) ?_
        refine lv_bipush (v := nI 35) hx hb dX1_read_74 (by decide) ?_
        refine lv_icmp_ge (tgt := 103) hx hb dX1_read_76 (by decide) (fun c76 => ?_) (fun c76 => ?_)
        ·
          rw [q_le (by omega) (by omega)] at c76
          exact W.vret hx hb hr (fun t ht hW => ⟨⟨(), rfl, trivial, by rw [ht]; exact hP, va_K.moved hW.alike hK, hD⟩, hS.F ht⟩) hS.2.2 dX1_read_103
        ·
          rw [q_le (by omega) (by omega)] at c76
          exact absurd c76 (by omega)
      ·
        obtain ⟨hi0, hP, hD, hS, hl⟩ := hI
        have hP : va_P (dC, dI) vwCl [(d0, .inr (1, [.ref d1])), (d1, .inl (cI, 35, .inl (mkT (fun k => nI (digs (v1, v2) k)) i dv)))] H := hP
        have hD : va_D A [(d0, .inr (1, [.ref d1])), (d1, .inl (cI, 35, .inl (mkT (fun k => nI (digs (v1, v2) k)) i dv)))] := hD
        have hl : lv_has ls 9 [(0, .ref d0), (1, .long v1), (3, .long v2), (5, .int (nI (lk (v1, v2) 32))), (6, .int (nI i))] := hl
        refine lv_iload hx hb dX1_read_72 (lv_at hl 4 rfl) ?_
        refine lv_bipush (v := nI 35) hx hb dX1_read_74 (by decide) ?_
        refine lv_icmp_ge (tgt := 103) hx hb dX1_read_76 (by decide) (fun c76 => ?_) (fun c76 => ?_)
        ·
          rw [q_le (by omega) (by omega)] at c76
          exact absurd c76 (by omega)
        ·
          rw [q_le (by omega) (by omega)] at c76
          refine lv_aload_n hx hb dX1_read_79 rfl (lv_at hl 0 rfl) ?_
          refine va_get (D := (dC, dI)) (ci := 1) (v := .ref d1) (C := RX1) (T := TX1) (N := 1) hx hb hts iX1 hown hK hP 0 rfl rfl 0 (by decide) f9 (fun _ h9 => h9) rfl dX1_read_80 ?_
          refine lv_iload hx hb dX1_read_83 (lv_at hl 4 rfl) ?_
          refine lv_iload hx hb dX1_read_85 (lv_at hl 3 rfl) ?_
          refine lv_i2l (v := lN (lk (v1, v2) 32)) hx hb dX1_read_87 (nI_l (by omega)) ?_
          refine lv_bipush (v := nI 34) hx hb dX1_read_88 (by decide) ?_
          refine lv_iload hx hb dX1_read_90 (lv_at hl 4 rfl) ?_
          refine lv_isub hx hb dX1_read_92 ?_
          refine st_i (y := nI (34 - i)) (pk_sub (by omega)) ?_
          refine st_calli (va_runS (As := [.long (lN (lk (v1, v2) 32)), .int (nI (34 - i))]) (rest := [.int (nI i), .ref d1]) ⟨hx, hb, hml, hown, hts⟩ (c_Digits_fourBits l dC dI cJ cI  (lN (lk (v1, v2) 32)) (34 - i) (by omega) H.size) (va_cwS 2 hts gX1_read_X1_fourBits rfl rfl rfl (by decide +kernel) ⟨Nat.le_of_ble_eq_true rfl, Nat.le_of_ble_eq_true rfl⟩) (st_preS hK hP hD [] rfl rfl) rfl rfl hl.1 rfl (lv_room (Nat.le_of_ble_eq_true rfl)) dX1_read_93 ⟨Nat.le_of_ble_eq_true rfl, Nat.le_of_ble_eq_true rfl⟩) hP hD hS hA [] [0, 1] (wr := [(d0, .inr (1, [.ref d1])), (d1, .inl (cI, 35, .inl (mkT (fun k => nI (digs (v1, v2) k)) i dv)))]) rfl rfl (by decide) (by decide) [0, 1] (res := fun _ => [(d0, .inr (1, [.ref d1])), (d1, .inl (cI, 35, .inl (mkT (fun k => nI (digs (v1, v2) k)) i dv)))]) (fun _ => rfl) (by decide) (fun r_3 _ H locs hu hP hD hS => ?_)
          have hP : va_P (dC, dI) vwCl [(d0, .inr (1, [.ref d1])), (d1, .inl (cI, 35, .inl (mkT (fun k => nI (digs (v1, v2) k)) i dv)))] H := hP
          have hD : va_D A [(d0, .inr (1, [.ref d1])), (d1, .inl (cI, 35, .inl (mkT (fun k => nI (digs (v1, v2) k)) i dv)))] := hD
          subst hu
          refine st_i (y := nI (digs (v1, v2) i)) (congrArg nI (digs_hi (v1, v2) (by omega) (by omega))) ?_
          refine st_iast hx hb hK hP hD hS 1 1 rfl rfl i rfl (by omega) (by omega) dX1_read_96 (fun H locs hP hD hS => ?_)
          have hP : va_P (dC, dI) vwCl [(d0, .inr (1, [.ref d1])), (d1, .inl (cI, 35, .inl (upd (mkT (fun k => nI (digs (v1, v2) k)) i dv) i (nI (digs (v1, v2) i)))))] H := hP
          have hD : va_D A [(d0, .inr (1, [.ref d1])), (d1, .inl (cI, 35, .inl (upd (mkT (fun k => nI (digs (v1, v2) k)) i dv) i (nI (digs (v1, v2) i)))))] := hD
          refine lv_iinc (v := nI (i + 1)) (lv' := [(6, .int (nI (i + 1))), (0, .ref d0), (1, .long v1), (3, .long v2), (5, .int (nI (lk (v1, v2) 32)))]) hx hb dX1_read_97 hl (k := 4) rfl (st_inc i 1 (by decide)) (by decide) rfl (fun ls hl => ?_)
          refine lv_goto (tgt := 72) hx hb dX1_read_100 (by decide) ?_
          have eW_4 : ([(d0, .inr (1, [.ref d1])), (d1, .inl (cI, 35, .inl (upd (mkT (fun k => nI (digs (v1, v2) k)) i dv) i (nI (digs (v1, v2) i)))))] : va_W) = [(d0, .inr (1, [.ref d1])), (d1, .inl (cI, 35, .inl (mkT (fun k => nI (digs (v1, v2) k)) (i + 1) dv)))] := by rw [← mkT_upd]
          have hP : va_P (dC, dI) vwCl [(d0, .inr (1, [.ref d1])), (d1, .inl (cI, 35, .inl (mkT (fun k => nI (digs (v1, v2) k)) (i + 1) dv)))] H := by rw [← eW_4]; exact hP
          have hD : va_D A [(d0, .inr (1, [.ref d1])), (d1, .inl (cI, 35, .inl (mkT (fun k => nI (digs (v1, v2) k)) (i + 1) dv)))] := by rw [← eW_4]; exact hD
          exact ih _ _ _ ⟨(by omega), hP, hD, hS, lv_sub hl [1, 2, 3, 4, 0] rfl⟩
    ·
      rw [q_le (by omega) (by omega)] at c10
      exact absurd c10 (by omega)
  ·
    obtain ⟨hP, hD, hS, hl⟩ := hI
    have hP : va_P (dC, dI) vwCl [(d0, .inr (1, [.ref d1])), (d1, .inl (cI, 35, .inl (mkT (fun k => nI (d4 (v1, v2) k)) i dv)))] H := hP
    have hD : va_D A [(d0, .inr (1, [.ref d1])), (d1, .inl (cI, 35, .inl (mkT (fun k => nI (d4 (v1, v2) k)) i dv)))] := hD
    have hl : lv_has ls 9 [(0, .ref d0), (1, .long v1), (3, .long v2), (5, .int (nI (lk (v1, v2) i))), (6, .int (nI i))] := hl
    refine lv_iload hx hb dX1_read_6 (lv_at hl 4 rfl) ?_
    refine lv_bipush (v := nI 32) hx hb dX1_read_8 (by decide) ?_
    refine lv_icmp_ge (tgt := 68) hx hb dX1_read_10 (by decide) (fun c10 => ?_) (fun c10 => ?_)
    ·
      rw [q_le (by omega) (by omega)] at c10
      exact absurd c10 (by omega)
    ·
      rw [q_le (by omega) (by omega)] at c10
      refine lv_iload hx hb dX1_read_13 (lv_at hl 4 rfl) ?_
      refine lv_bipush (v := nI 16) hx hb dX1_read_15 (by decide) ?_
      refine lv_icmp_ge (tgt := 24) hx hb dX1_read_17 (by decide) (fun c17 => ?_) (fun c17 => ?_)
      ·
        rw [q_le (by omega) (by omega)] at c17
        refine lv_lload_n hx hb dX1_read_24 rfl (lv_at hl 2 rfl) ?_
        refine lv_lstore (lv' := [(7, .long v2), (0, .ref d0), (1, .long v1), (3, .long v2), (5, .int (nI (lk (v1, v2) i))), (6, .int (nI i))]) hx hb dX1_read_25 hl (by decide) rfl (fun ls hl => ?_)
        refine lv_aload_n hx hb dX1_read_27 rfl (lv_at hl 1 rfl) ?_
        refine va_get (D := (dC, dI)) (ci := 1) (v := .ref d1) (C := RX1) (T := TX1) (N := 1) hx hb hts iX1 hown hK hP 0 rfl rfl 0 (by decide) f9 (fun _ h9 => h9) rfl dX1_read_28 ?_
        refine lv_iload hx hb dX1_read_31 (lv_at hl 5 rfl) ?_
        refine lv_lload hx hb dX1_read_33 (lv_at hl 0 rfl) ?_
        refine lv_bipush (v := nI 15) hx hb dX1_read_35 (by decide) ?_
        refine lv_iload hx hb dX1_read_37 (lv_at hl 5 rfl) ?_
        refine lv_bipush (v := nI 16) hx hb dX1_read_39 (by decide) ?_
        refine lv_irem hx hb dX1_read_41 (by decide) ?_
        refine st_i (y := nI (i % 16)) (pk_rem (by omega) (by decide) (by decide)) ?_
        refine lv_isub hx hb dX1_read_42 ?_
        refine st_i (y := nI (15 - (i % 16))) (pk_sub (by omega)) ?_
        refine st_calli (va_runS (As := [.long v2, .int (nI (15 - (i % 16)))]) (rest := [.int (nI i), .ref d1]) ⟨hx, hb, hml, hown, hts⟩ (c_Digits_fourBits l dC dI cJ cI  v2 (15 - (i % 16)) (by omega) H.size) (va_cwS 2 hts gX1_read_X1_fourBits rfl rfl rfl (by decide +kernel) ⟨Nat.le_of_ble_eq_true rfl, Nat.le_of_ble_eq_true rfl⟩) (st_preS hK hP hD [] rfl rfl) rfl rfl hl.1 rfl (lv_room (Nat.le_of_ble_eq_true rfl)) dX1_read_43 ⟨Nat.le_of_ble_eq_true rfl, Nat.le_of_ble_eq_true rfl⟩) hP hD hS hA [] [0, 1] (wr := [(d0, .inr (1, [.ref d1])), (d1, .inl (cI, 35, .inl (mkT (fun k => nI (d4 (v1, v2) k)) i dv)))]) rfl rfl (by decide) (by decide) [0, 1] (res := fun _ => [(d0, .inr (1, [.ref d1])), (d1, .inl (cI, 35, .inl (mkT (fun k => nI (d4 (v1, v2) k)) i dv)))]) (fun _ => rfl) (by decide) (fun r_5 _ H locs hu hP hD hS => ?_)
        have hP : va_P (dC, dI) vwCl [(d0, .inr (1, [.ref d1])), (d1, .inl (cI, 35, .inl (mkT (fun k => nI (d4 (v1, v2) k)) i dv)))] H := hP
        have hD : va_D A [(d0, .inr (1, [.ref d1])), (d1, .inl (cI, 35, .inl (mkT (fun k => nI (d4 (v1, v2) k)) i dv)))] := hD
        subst hu
        refine st_i (y := nI (d4 (v1, v2) i)) (congrArg nI (d4_hi c17).symm) ?_
        refine st_iast hx hb hK hP hD hS 1 1 rfl rfl i rfl (by omega) (by omega) dX1_read_46 (fun H locs hP hD hS => ?_)
        have hP : va_P (dC, dI) vwCl [(d0, .inr (1, [.ref d1])), (d1, .inl (cI, 35, .inl (upd (mkT (fun k => nI (d4 (v1, v2) k)) i dv) i (nI (d4 (v1, v2) i)))))] H := hP
        have hD : va_D A [(d0, .inr (1, [.ref d1])), (d1, .inl (cI, 35, .inl (upd (mkT (fun k => nI (d4 (v1, v2) k)) i dv) i (nI (d4 (v1, v2) i)))))] := hD
        refine lv_iload hx hb dX1_read_47 (lv_at hl 4 rfl) ?_
        refine lv_bipush (v := nI 15) hx hb dX1_read_49 (by decide) ?_
        refine lv_aload_n hx hb dX1_read_51 rfl (lv_at hl 1 rfl) ?_
        refine va_get (D := (dC, dI)) (ci := 1) (v := .ref d1) (C := RX1) (T := TX1) (N := 1) hx hb hts iX1 hown hK hP 0 rfl rfl 0 (by decide) f9 (fun _ h9 => h9) rfl dX1_read_52 ?_
        refine lv_iload hx hb dX1_read_55 (lv_at hl 5 rfl) ?_
        refine st_iald hx hb hK hP 1 1 rfl rfl i rfl (by omega) (by omega) dX1_read_57 ?_
        refine st_i (y := nI (d4 (v1, v2) i)) (pk_us) ?_
        have hd4 := d4_lt (v1, v2) i
        refine lv_isub hx hb dX1_read_58 ?_
        refine st_i (y := nI (15 - (d4 (v1, v2) i))) (pk_sub (by omega)) ?_
        refine lv_iadd hx hb dX1_read_59 ?_
        refine st_i (y := nI (lk (v1, v2) i + (15 - (d4 (v1, v2) i)))) (nI_add (lk (v1, v2) i) (15 - (d4 (v1, v2) i))) ?_
        refine st_i (y := nI (lk (v1, v2) (i + 1))) (rfl) ?_
        refine lv_istore (lv' := [(5, .int (nI (lk (v1, v2) (i + 1)))), (7, .long v2), (0, .ref d0), (1, .long v1), (3, .long v2), (6, .int (nI i))]) hx hb dX1_read_60 hl (by decide) rfl (fun ls hl => ?_)
        refine lv_iinc (v := nI (i + 1)) (lv' := [(6, .int (nI (i + 1))), (5, .int (nI (lk (v1, v2) (i + 1)))), (7, .long v2), (0, .ref d0), (1, .long v1), (3, .long v2)]) hx hb dX1_read_62 hl (k := 5) rfl (st_inc i 1 (by decide)) (by decide) rfl (fun ls hl => ?_)
        refine lv_goto (tgt := 6) hx hb dX1_read_65 (by decide) ?_
        have eW_6 : ([(d0, .inr (1, [.ref d1])), (d1, .inl (cI, 35, .inl (upd (mkT (fun k => nI (d4 (v1, v2) k)) i dv) i (nI (d4 (v1, v2) i)))))] : va_W) = [(d0, .inr (1, [.ref d1])), (d1, .inl (cI, 35, .inl (mkT (fun k => nI (d4 (v1, v2) k)) (i + 1) dv)))] := by rw [← mkT_upd]
        have hP : va_P (dC, dI) vwCl [(d0, .inr (1, [.ref d1])), (d1, .inl (cI, 35, .inl (mkT (fun k => nI (d4 (v1, v2) k)) (i + 1) dv)))] H := by rw [← eW_6]; exact hP
        have hD : va_D A [(d0, .inr (1, [.ref d1])), (d1, .inl (cI, 35, .inl (mkT (fun k => nI (d4 (v1, v2) k)) (i + 1) dv)))] := by rw [← eW_6]; exact hD
        exact ih _ _ _ ⟨hP, hD, hS, lv_sub hl [3, 4, 5, 1, 0] rfl⟩
      ·
        rw [q_le (by omega) (by omega)] at c17
        refine lv_lload_n hx hb dX1_read_20 rfl (lv_at hl 1 rfl) ?_
        refine lv_goto (tgt := 25) hx hb dX1_read_21 (by decide) ?_
        refine lv_lstore (lv' := [(7, .long v1), (0, .ref d0), (1, .long v1), (3, .long v2), (5, .int (nI (lk (v1, v2) i))), (6, .int (nI i))]) hx hb dX1_read_25 hl (by decide) rfl (fun ls hl => ?_)
        refine lv_aload_n hx hb dX1_read_27 rfl (lv_at hl 1 rfl) ?_
        refine va_get (D := (dC, dI)) (ci := 1) (v := .ref d1) (C := RX1) (T := TX1) (N := 1) hx hb hts iX1 hown hK hP 0 rfl rfl 0 (by decide) f9 (fun _ h9 => h9) rfl dX1_read_28 ?_
        refine lv_iload hx hb dX1_read_31 (lv_at hl 5 rfl) ?_
        refine lv_lload hx hb dX1_read_33 (lv_at hl 0 rfl) ?_
        refine lv_bipush (v := nI 15) hx hb dX1_read_35 (by decide) ?_
        refine lv_iload hx hb dX1_read_37 (lv_at hl 5 rfl) ?_
        refine lv_bipush (v := nI 16) hx hb dX1_read_39 (by decide) ?_
        refine lv_irem hx hb dX1_read_41 (by decide) ?_
        refine st_i (y := nI (i % 16)) (pk_rem (by omega) (by decide) (by decide)) ?_
        refine lv_isub hx hb dX1_read_42 ?_
        refine st_i (y := nI (15 - (i % 16))) (pk_sub (by omega)) ?_
        refine st_calli (va_runS (As := [.long v1, .int (nI (15 - (i % 16)))]) (rest := [.int (nI i), .ref d1]) ⟨hx, hb, hml, hown, hts⟩ (c_Digits_fourBits l dC dI cJ cI  v1 (15 - (i % 16)) (by omega) H.size) (va_cwS 2 hts gX1_read_X1_fourBits rfl rfl rfl (by decide +kernel) ⟨Nat.le_of_ble_eq_true rfl, Nat.le_of_ble_eq_true rfl⟩) (st_preS hK hP hD [] rfl rfl) rfl rfl hl.1 rfl (lv_room (Nat.le_of_ble_eq_true rfl)) dX1_read_43 ⟨Nat.le_of_ble_eq_true rfl, Nat.le_of_ble_eq_true rfl⟩) hP hD hS hA [] [0, 1] (wr := [(d0, .inr (1, [.ref d1])), (d1, .inl (cI, 35, .inl (mkT (fun k => nI (d4 (v1, v2) k)) i dv)))]) rfl rfl (by decide) (by decide) [0, 1] (res := fun _ => [(d0, .inr (1, [.ref d1])), (d1, .inl (cI, 35, .inl (mkT (fun k => nI (d4 (v1, v2) k)) i dv)))]) (fun _ => rfl) (by decide) (fun r_7 _ H locs hu hP hD hS => ?_)
        have hP : va_P (dC, dI) vwCl [(d0, .inr (1, [.ref d1])), (d1, .inl (cI, 35, .inl (mkT (fun k => nI (d4 (v1, v2) k)) i dv)))] H := hP
        have hD : va_D A [(d0, .inr (1, [.ref d1])), (d1, .inl (cI, 35, .inl (mkT (fun k => nI (d4 (v1, v2) k)) i dv)))] := hD
        subst hu
        refine st_i (y := nI (d4 (v1, v2) i)) (congrArg nI (d4_lo c17).symm) ?_
        refine st_iast hx hb hK hP hD hS 1 1 rfl rfl i rfl (by omega) (by omega) dX1_read_46 (fun H locs hP hD hS => ?_)
        have hP : va_P (dC, dI) vwCl [(d0, .inr (1, [.ref d1])), (d1, .inl (cI, 35, .inl (upd (mkT (fun k => nI (d4 (v1, v2) k)) i dv) i (nI (d4 (v1, v2) i)))))] H := hP
        have hD : va_D A [(d0, .inr (1, [.ref d1])), (d1, .inl (cI, 35, .inl (upd (mkT (fun k => nI (d4 (v1, v2) k)) i dv) i (nI (d4 (v1, v2) i)))))] := hD
        refine lv_iload hx hb dX1_read_47 (lv_at hl 4 rfl) ?_
        refine lv_bipush (v := nI 15) hx hb dX1_read_49 (by decide) ?_
        refine lv_aload_n hx hb dX1_read_51 rfl (lv_at hl 1 rfl) ?_
        refine va_get (D := (dC, dI)) (ci := 1) (v := .ref d1) (C := RX1) (T := TX1) (N := 1) hx hb hts iX1 hown hK hP 0 rfl rfl 0 (by decide) f9 (fun _ h9 => h9) rfl dX1_read_52 ?_
        refine lv_iload hx hb dX1_read_55 (lv_at hl 5 rfl) ?_
        refine st_iald hx hb hK hP 1 1 rfl rfl i rfl (by omega) (by omega) dX1_read_57 ?_
        refine st_i (y := nI (d4 (v1, v2) i)) (pk_us) ?_
        have hd4 := d4_lt (v1, v2) i
        refine lv_isub hx hb dX1_read_58 ?_
        refine st_i (y := nI (15 - (d4 (v1, v2) i))) (pk_sub (by omega)) ?_
        refine lv_iadd hx hb dX1_read_59 ?_
        refine st_i (y := nI (lk (v1, v2) i + (15 - (d4 (v1, v2) i)))) (nI_add (lk (v1, v2) i) (15 - (d4 (v1, v2) i))) ?_
        refine st_i (y := nI (lk (v1, v2) (i + 1))) (rfl) ?_
        refine lv_istore (lv' := [(5, .int (nI (lk (v1, v2) (i + 1)))), (7, .long v1), (0, .ref d0), (1, .long v1), (3, .long v2), (6, .int (nI i))]) hx hb dX1_read_60 hl (by decide) rfl (fun ls hl => ?_)
        refine lv_iinc (v := nI (i + 1)) (lv' := [(6, .int (nI (i + 1))), (5, .int (nI (lk (v1, v2) (i + 1)))), (7, .long v1), (0, .ref d0), (1, .long v1), (3, .long v2)]) hx hb dX1_read_62 hl (k := 5) rfl (st_inc i 1 (by decide)) (by decide) rfl (fun ls hl => ?_)
        refine lv_goto (tgt := 6) hx hb dX1_read_65 (by decide) ?_
        have eW_8 : ([(d0, .inr (1, [.ref d1])), (d1, .inl (cI, 35, .inl (upd (mkT (fun k => nI (d4 (v1, v2) k)) i dv) i (nI (d4 (v1, v2) i)))))] : va_W) = [(d0, .inr (1, [.ref d1])), (d1, .inl (cI, 35, .inl (mkT (fun k => nI (d4 (v1, v2) k)) (i + 1) dv)))] := by rw [← mkT_upd]
        have hP : va_P (dC, dI) vwCl [(d0, .inr (1, [.ref d1])), (d1, .inl (cI, 35, .inl (mkT (fun k => nI (d4 (v1, v2) k)) (i + 1) dv)))] H := by rw [← eW_8]; exact hP
        have hD : va_D A [(d0, .inr (1, [.ref d1])), (d1, .inl (cI, 35, .inl (mkT (fun k => nI (d4 (v1, v2) k)) (i + 1) dv)))] := by rw [← eW_8]; exact hD
        exact ih _ _ _ ⟨hP, hD, hS, lv_sub hl [3, 4, 5, 1, 0] rfl⟩
