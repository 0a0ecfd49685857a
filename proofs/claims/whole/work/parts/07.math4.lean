theorem clb_e {ov : Int64} {lf : Nat} {PP : Nat → Int64 × Int64} {v : Int64 × Int64} {n : Nat} (h : lf / 2 ^ n % 2 = 0) : clb ov lf PP v (n + 1) = nd ov (n + 1) (lf / 2 ^ (n + 1)) (clb ov lf PP v n) (PP (35 + n)) := if_pos h
theorem clb_o {ov : Int64} {lf : Nat} {PP : Nat → Int64 × Int64} {v : Int64 × Int64} {n : Nat} (h : ¬ lf / 2 ^ n % 2 = 0) : clb ov lf PP v (n + 1) = nd ov (n + 1) (lf / 2 ^ (n + 1)) (PP (35 + n)) (clb ov lf PP v n) := if_neg h
theorem sgE_lo {w1 w2 ov : Int64} {hh lf ln i : Nat} {mv : Nat → Int64} (h : i < 35) : sgE w1 w2 ov hh lf mv ln i = plc w1 w2 ov lf i (digs (dgr w1 w2 ov hh lf mv ln) i) := if_pos h
theorem sgE_hi {w1 w2 ov : Int64} {hh lf ln n : Nat} {mv : Nat → Int64} : sgE w1 w2 ov hh lf mv ln (35 + n) = nv w1 w2 ov n (sib lf n) := by
  unfold sgE
  rw [if_neg (by omega), Nat.add_sub_cancel_left]
theorem nI_m1 {n : Nat} (h : n < 2 ^ 31) : ¬ nI n = -1 := fun q => by
  have h1 := nI_toInt h
  rw [q] at h1
  have h2 : (-1 : Int32).toInt = -1 := by decide
  rw [h2] at h1
  omega
theorem vrE_eq {ov : Int64} {lf : Nat} {PP : Nat → Int64 × Int64} {D : Int64 × Int64} : (fun c => cry ov lf c (pr PP (2 * c), pr PP (2 * c + 1)) (digs D c) (15 - digs D c)) = vrE ov lf PP D := by
  funext c
  rw [pr_1, pr_2]
  rfl
theorem vr_leaf {ov : Int64} {lf : Nat} {E : Nat → Int64 × Int64} {ev : Nat → Int64} : hm (ha (ha (lN 3, lN 72) ov) (lN lf)) (mkT (pr E) 70 ev) 70 = lfv ov lf E := by
  rw [hm_congr 70 (fun k hk => mkT_lt hk)]
  exact hm_pr _ _ 35
theorem nok_par {w1 w2 ov : Int64} {hh md j i : Nat} {nf : Nat → Int64} (h : NOK w1 w2 ov hh md nf) (hj : 1 ≤ j) (hjh : j ≤ hh) (hi : (i + 1) * 2 ^ j ≤ md) : nd ov j i (gp2 nf (2 ^ (hh - (j - 1)) + 2 * i)) (gp2 nf (2 ^ (hh - (j - 1)) + (2 * i + 1))) = nv w1 w2 ov j i := by
  have h2 := two_up (i := i) hj
  have h3 : (2 * i + 1) * 2 ^ (j - 1) ≤ (2 * i + 1 + 1) * 2 ^ (j - 1) := Nat.mul_le_mul_right _ (by omega)
  rw [h (j - 1) (2 * i + 1) (by omega) (by omega), h (j - 1) (2 * i) (by omega) (by omega)]
  obtain ⟨k, rfl⟩ : ∃ k, j = k + 1 := ⟨j - 1, by omega⟩
  rfl
