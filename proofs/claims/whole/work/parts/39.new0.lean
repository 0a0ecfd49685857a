theorem st_cJ {D : va_G} {cl : List vw_C} {cJ cI cA : ClassId} {U : State} (h : va_K D cl ([(cJ, .long), (cI, .int)] ++ [(cA, .long)]) U) : cJ = cA := by
  have h1 := (h.2 0 _ rfl).2
  have h2 := (h.2 2 _ rfl).2
  exact Option.some.inj (h1.symm.trans h2)
theorem st_cI {D : va_G} {cl : List vw_C} {cJ cI cA : ClassId} {U : State} (h : va_K D cl ([(cJ, .long), (cI, .int)] ++ [(cA, .int)]) U) : cI = cA := by
  have h1 := (h.2 1 _ rfl).2
  have h2 := (h.2 2 _ rfl).2
  exact Option.some.inj (h1.symm.trans h2)
/-- the two calls of a nest mate's constructor -/
def nwA : Cond := .methodLinkNest RX8 18 yX2_init "LeafSigner"
def nwB : Cond := .methodLinkNest RX0 22 yX2_init "LeafSigner"
def st_BN (D : va_G) (cl : List vw_C) (tys : List (ClassId × FieldType)) (W0 : va_W) (sz : Nat) (U : State) : Prop := U.heap.size = sz ∧ va_P D cl W0 U.heap ∧ va_K D cl tys U ∧ va_D (fun _ => True) W0 ∧ va_Nw nwA U ∧ va_Nw nwB U
theorem st_preN {s : State} {H : Heap} {D : va_G} {cl : List vw_C} {tys : List (ClassId × FieldType)} {ws : va_W} {A : Nat → Prop} {av : List Value} {W0 : va_W} (hnA : va_Nw nwA s) (hnB : va_Nw nwB s) (hK : va_K D cl tys s) (hP : va_P D cl ws H) (hD : va_D A ws) (isC : List Nat) (hC : isC.map (fun i => ws[i]?) = W0.map some) (hn : va_nd isC = true) : PreS s H (va_Pc av (st_BN D cl tys W0 H.size)) av :=
  ⟨fun a U g mk q => by
    obtain ⟨q0, q1, qP, qK, qD, qA, qB⟩ := q
    exact ⟨q0, q1, qP, va_K.moved (u := U) (U := U.calling g mk a) (Vm.Alike.refl U.vm) qK, qD, va_Nw.same rfl rfl qA, va_Nw.same rfl rfl qB⟩,
   fun U hU hW => ⟨rfl, by rw [hU], by rw [hU]; exact hP.sub isC (st_mapf hC), va_K.moved hW.alike hK, (hD.sub isC hn hC).weaken (fun _ _ _ _ => trivial), va_Nw.warmM hW hnA, va_Nw.warmM hW hnB⟩⟩
