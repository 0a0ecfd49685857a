theorem clb_e {ov : Int64} {lf : Nat} {PP : Nat → Int64 × Int64} {v : Int64 × Int64} {n : Nat} (h : lf / 2 ^ n % 2 = 0) : clb ov lf PP v (n + 1) = nd ov (n + 1) (lf / 2 ^ (n + 1)) (clb ov lf PP v n) (PP (35 + n)) := if_pos h
theorem clb_o {ov : Int64} {lf : Nat} {PP : Nat → Int64 × Int64} {v : Int64 × Int64} {n : Nat} (h : ¬ lf / 2 ^ n % 2 = 0) : clb ov lf PP v (n + 1) = nd ov (n + 1) (lf / 2 ^ (n + 1)) (PP (35 + n)) (clb ov lf PP v n) := if_neg h
theorem sgE_lo {w1 w2 ov : Int64} {hh lf ln i : Nat} {mv : Nat → Int64} (h : i < 35) : sgE w1 w2 ov hh lf mv ln i = plc w1 w2 ov lf i (digs (dgr w1 w2 ov hh lf mv ln) i) := if_pos h
theorem sgE_hi {w1 w2 ov : Int64} {hh lf ln n : Nat} {mv : Nat → Int64} : sgE w1 w2 ov hh lf mv ln (35 + n) = nv w1 w2 ov n (sib lf n) := by
  unfold sgE
  rw [if_neg (by omega), Nat.add_sub_cancel_left]
