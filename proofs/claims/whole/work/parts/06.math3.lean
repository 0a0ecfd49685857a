/-! the answers of the calls, in numbers -/
theorem nar_b (x : Bool) : narrow .boolean (.int (bI x)) = .int (bI x) := by cases x <;> decide
theorem fit_b (x : Bool) : fits .boolean (.int (bI x)) = true := by cases x <;> decide
theorem i_le {a : Nat} (h : a < 2 ^ 31) {x : Int32} (h0 : ¬ x < 0) (h1 : ¬ nI a ≤ x) : ∃ j, j < a ∧ x = nI j := by
  obtain ⟨j, hj, rfl⟩ := nI_of h0
  rw [q_le h hj] at h1
  exact ⟨j, by omega, rfl⟩
theorem isM_get {hh md : Nat} {xl xi : Int32} (h4 : hh ≤ 4) (h : isMB hh md xl xi = true) : ∃ lv iv, lv ≤ hh ∧ iv < 2 ^ 31 ∧ (iv + 1) * 2 ^ lv ≤ md ∧ xl = nI lv ∧ xi = nI iv := by
  have h2 := isMB_iff.mp h
  obtain ⟨lv, hlv, rfl⟩ := isM_lv h2.1 h2.2.1 h4
  obtain ⟨iv, hiv, rfl⟩ := nI_of h2.2.2.1
  exact ⟨lv, iv, hlv, hiv, ((isMB_nat (by omega) (by omega) hiv).mp h).2, rfl, rfl⟩
theorem half_get {x : Int32} (h : x = 0 ∨ x = nI 1) : ∃ hf, hf ≤ 1 ∧ x = nI hf := by
  rcases h with rfl | rfl
  · exact ⟨0, by decide, nI_0.symm⟩
  · exact ⟨1, by decide, rfl⟩
theorem half_of {hf : Nat} (h : hf ≤ 1) : nI hf = 0 ∨ nI hf = nI 1 := by
  rcases (show hf = 0 ∨ hf = 1 by omega) with rfl | rfl
  · exact Or.inl nI_0
  · exact Or.inr rfl
theorem bf_not {x : Bool} (h : ¬ x = false) : x = true := by cases x <;> simp at h ⊢
theorem db_f {P : Prop} [Decidable P] (h : decide P = false) : ¬ P := of_decide_eq_false h
theorem db_t {P : Prop} [Decidable P] (h : ¬ decide P = false) : P := of_decide_eq_true (bf_not h)
/-- half hf of a pair -/
def hlf (x : Int32) (v : Int64 × Int64) : Int64 := if x = 0 then v.1 else v.2
theorem hlf_at (f : Nat → Int64) (k : Nat) {hf : Nat} (h : hf ≤ 1) : f (2 * k + hf) = hlf (nI hf) (gp2 f k) := by
  rcases (show hf = 0 ∨ hf = 1 by omega) with rfl | rfl
  · rfl
  · rfl
def ndA (w1 w2 ov : Int64) (hh md : Nat) (xl xi xh : Int32) : Int64 := if (xh = 0 ∨ xh = nI 1) ∧ isMB hh md xl xi = true then hlf xh (nv w1 w2 ov xl.toNatClampNeg xi.toNatClampNeg) else lN 0
theorem ndA_y {w1 w2 ov : Int64} {hh md lv iv hf : Nat} (h4 : hh ≤ 4) (hf1 : hf ≤ 1) (hl : lv ≤ hh) (hi : iv < 2 ^ 31) (h : (iv + 1) * 2 ^ lv ≤ md) : ndA w1 w2 ov hh md (nI lv) (nI iv) (nI hf) = hlf (nI hf) (nv w1 w2 ov lv iv) := by
  unfold ndA
  rw [if_pos ⟨half_of hf1, (isMB_nat (by omega) (by omega) hi).mpr ⟨hl, h⟩⟩, nI_clamp (by omega), nI_clamp hi]
theorem ndA_n {w1 w2 ov : Int64} {hh md : Nat} {xl xi xh : Int32} (h : ¬ ((xh = 0 ∨ xh = nI 1) ∧ isMB hh md xl xi = true)) : lN 0 = ndA w1 w2 ov hh md xl xi xh := by
  unfold ndA
  rw [if_neg h]
theorem isMB_root {hh md : Nat} (h4 : hh ≤ 4) : isMB hh md (nI hh) (nI 0) = decide (2 ^ hh ≤ md) := by
  have h := isMB_nat (hh := hh) (md := md) (lv := hh) (iv := 0) (by omega) (by omega) (by decide)
  by_cases h1 : 2 ^ hh ≤ md
  · rw [decide_eq_true h1]
    exact h.mpr ⟨Nat.le_refl _, by omega⟩
  · rw [decide_eq_false h1]
    cases h2 : isMB hh md (nI hh) (nI 0)
    · rfl
    · have := (h.mp h2).2
      omega
theorem NOK_root {w1 w2 ov : Int64} {hh md : Nat} {nf : Nat → Int64} (h : NOK w1 w2 ov hh md nf) (hm : 2 ^ hh ≤ md) : gp2 nf 1 = nv w1 w2 ov hh 0 := by
  have h1 := h hh 0 (Nat.le_refl _) (by omega)
  rw [Nat.sub_self] at h1
  exact h1
/-- the digest with a leaf and the signer's own root -/
def dgr (w1 w2 ov : Int64) (hh lf : Nat) (mv : Nat → Int64) (ln : Nat) : Int64 × Int64 := dgs ov lf (nv w1 w2 ov hh 0).1 (nv w1 w2 ov hh 0).2 mv ln
def dgA (w1 w2 ov : Int64) (hh md : Nat) (mv : Nat → Int64) (ln : Nat) (xl xk : Int32) : Int32 := if (¬ xl < 0 ∧ ¬ nI (2 ^ hh) ≤ xl) ∧ (¬ xk < 0 ∧ ¬ nI 35 ≤ xk) ∧ 2 ^ hh ≤ md then nI (digs (dgr w1 w2 ov hh xl.toNatClampNeg mv ln) xk.toNatClampNeg) else -1
theorem dgA_n {w1 w2 ov : Int64} {hh md : Nat} {mv : Nat → Int64} {ln : Nat} {xl xk : Int32} (h : ¬ ((¬ xl < 0 ∧ ¬ nI (2 ^ hh) ≤ xl) ∧ (¬ xk < 0 ∧ ¬ nI 35 ≤ xk) ∧ 2 ^ hh ≤ md)) : -1 = dgA w1 w2 ov hh md mv ln xl xk := by
  unfold dgA
  rw [if_neg h]
theorem dgA_y {w1 w2 ov : Int64} {hh md : Nat} {mv : Nat → Int64} {ln lf k : Nat} (h4 : hh ≤ 4) (h1 : lf < 2 ^ hh) (h2 : k < 35) (h3 : 2 ^ hh ≤ md) : nI (digs (dgr w1 w2 ov hh lf mv ln) k) = dgA w1 w2 ov hh md mv ln (nI lf) (nI k) := by
  have hp := p2_le h4
  unfold dgA
  rw [if_pos ⟨⟨by rw [q_lt0 (by omega)]; omega, by rw [q_le (by omega) (by omega)]; omega⟩, ⟨by rw [q_lt0 (by omega)]; omega, by rw [q_le (by omega) (by omega)]; omega⟩, h3⟩, nI_clamp (by omega), nI_clamp (by omega)]
theorem mn_i {a b : Nat} (ha : a < 2 ^ 31) (hb : b < 2 ^ 31) : (if nI b < nI a then nI b else nI a) = nI (min a b) := by
  by_cases h : b < a
  · rw [if_pos (by rw [q_lt hb ha]; exact h), Nat.min_eq_right (by omega)]
  · rw [if_neg (by rw [q_lt hb ha]; exact h), Nat.min_eq_left (by omega)]
/-- the leaf's neighbour on a level -/
def sib (lf lv : Nat) : Nat := (lf / 2 ^ lv) ^^^ 1
def sgE (w1 w2 ov : Int64) (hh lf : Nat) (mv : Nat → Int64) (ln : Nat) : Nat → Int64 × Int64 := fun c => if c < 35 then plc w1 w2 ov lf c (digs (dgr w1 w2 ov hh lf mv ln) c) else nv w1 w2 ov (c - 35) (sib lf (c - 35))
theorem xor1 (n : Nat) : n ^^^ 1 = if n % 2 = 0 then n + 1 else n - 1 := by
  have h0 : n = 2 * (n / 2) + n % 2 := by omega
  rcases (show n % 2 = 0 ∨ n % 2 = 1 by omega) with h | h
  · rw [if_pos h]
    apply Nat.eq_of_testBit_eq
    intro i
    rw [Nat.testBit_xor]
    cases i with
    | zero => rw [Nat.testBit_zero, Nat.testBit_zero, Nat.testBit_zero]; have h1 : (n + 1) % 2 = 1 := by omega
              simp [h, h1]
    | succ i => rw [Nat.testBit_succ, Nat.testBit_succ, Nat.testBit_succ, show (n + 1) / 2 = n / 2 by omega]; simp
  · rw [if_neg (by omega)]
    apply Nat.eq_of_testBit_eq
    intro i
    rw [Nat.testBit_xor]
    cases i with
    | zero => rw [Nat.testBit_zero, Nat.testBit_zero, Nat.testBit_zero]; have h1 : (n - 1) % 2 = 0 := by omega
              simp [h, h1]
    | succ i => rw [Nat.testBit_succ, Nat.testBit_succ, Nat.testBit_succ, show (n - 1) / 2 = n / 2 by omega]; simp
theorem xor1_pow {a i : Nat} (ha : 1 ≤ a) : (2 ^ a + i) ^^^ 1 = 2 ^ a + (i ^^^ 1) := by
  obtain ⟨k, rfl⟩ : ∃ k, a = k + 1 := ⟨a - 1, by omega⟩
  rw [Nat.pow_succ, xor1, xor1]
  rcases (show i % 2 = 0 ∨ i % 2 = 1 by omega) with h | h
  · rw [if_pos (by omega), if_pos h]; omega
  · rw [if_neg (by omega), if_neg (by omega)]; omega
theorem sib_lt {hh lf lv : Nat} (hl : lv < hh) (h : lf < 2 ^ hh) : sib lf lv < 2 ^ (hh - lv) := by
  have h1 : lf / 2 ^ lv < 2 ^ (hh - lv) := by
    rw [Nat.div_lt_iff_lt_mul (Nat.two_pow_pos lv), ← Nat.pow_add, Nat.sub_add_cancel (by omega)]
    exact h
  obtain ⟨k, hk⟩ : ∃ k, hh - lv = k + 1 := ⟨hh - lv - 1, by omega⟩
  unfold sib
  rw [hk, Nat.pow_succ] at h1 ⊢
  have hp := Nat.two_pow_pos k
  generalize lf / 2 ^ lv = q at h1 ⊢
  generalize 2 ^ k = P at h1 hp ⊢
  rw [xor1]
  split <;> omega
theorem sib_ok {hh lf lv md : Nat} (hl : lv < hh) (h : lf < 2 ^ hh) (hm : 2 ^ hh ≤ md) : (sib lf lv + 1) * 2 ^ lv ≤ md := by
  have h1 := sib_lt hl h
  have h2 : (sib lf lv + 1) * 2 ^ lv ≤ 2 ^ (hh - lv) * 2 ^ lv := Nat.mul_le_mul_right _ h1
  rw [← Nat.pow_add, Nat.sub_add_cancel (by omega)] at h2
  omega
/-- from the leaf's value up to a root, by the nodes beside -/
def clb (ov : Int64) (lf : Nat) (PP : Nat → Int64 × Int64) (v : Int64 × Int64) : Nat → Int64 × Int64
  | 0 => v
  | n + 1 => if lf / 2 ^ n % 2 = 0 then nd ov (n + 1) (lf / 2 ^ (n + 1)) (clb ov lf PP v n) (PP (35 + n)) else nd ov (n + 1) (lf / 2 ^ (n + 1)) (PP (35 + n)) (clb ov lf PP v n)
def vrE (ov : Int64) (lf : Nat) (PP : Nat → Int64 × Int64) (D : Int64 × Int64) : Nat → Int64 × Int64 := fun c => cry ov lf c (PP c) (digs D c) (15 - digs D c)
def vrR (ov : Int64) (hh lf : Nat) (PP : Nat → Int64 × Int64) (ta tb : Int64) (mv : Nat → Int64) (ln : Nat) : Int64 × Int64 := clb ov lf PP (lfv ov lf (vrE ov lf PP (dgs ov lf ta tb mv ln))) hh
def vrA (ov : Int64) (hh lf : Nat) (PP : Nat → Int64 × Int64) (ta tb : Int64) (mv : Nat → Int64) (ln : Nat) : Int32 := if ta = (vrR ov hh lf PP ta tb mv ln).1 ∧ tb = (vrR ov hh lf PP ta tb mv ln).2 then nI 0 else nI 2
theorem gp2_pr (E : Nat → Int64 × Int64) (k : Nat) : gp2 (pr E) k = E k := by
  unfold gp2
  rw [pr_1, pr_2]
theorem mkT_pr (E F : Nat → Int64 × Int64) (n : Nat) : mkT (pr E) (2 * n) (pr F) = pr (mkT E n F) := by
  funext j
  rcases (show j % 2 = 0 ∨ j % 2 = 1 by omega) with h | h
  · rw [show j = 2 * (j / 2) by omega, pr_1]
    by_cases h2 : j / 2 < n
    · rw [mkT_lt (by omega), mkT_lt h2, pr_1]
    · rw [mkT_ge (by omega), mkT_ge (by omega), pr_1]
  · rw [show j = 2 * (j / 2) + 1 by omega, pr_2]
    by_cases h2 : j / 2 < n
    · rw [mkT_lt (by omega), mkT_lt h2, pr_2]
    · rw [mkT_ge (by omega), mkT_ge (by omega), pr_2]
def upP (PP : Nat → Int64 × Int64) (k hf : Nat) (x : Int64) : Nat → Int64 × Int64 := fun j => if j = k then (if hf = 0 then (x, (PP k).2) else ((PP k).1, x)) else PP j
theorem upP_pr (PP : Nat → Int64 × Int64) (k : Nat) {hf : Nat} (h : hf ≤ 1) (x : Int64) : vp_updL (pr PP) (2 * k + hf) x = pr (upP PP k hf x) := by
  funext j
  rcases (show j % 2 = 0 ∨ j % 2 = 1 by omega) with h0 | h0
  · rw [show j = 2 * (j / 2) by omega, pr_1]
    by_cases h2 : j / 2 = k
    · rcases (show hf = 0 ∨ hf = 1 by omega) with rfl | rfl
      · rw [h2]; simp [upP, vp_updL]
      · rw [h2, pk_uLn (by omega), pr_1]; simp [upP]
    · rw [pk_uLn (by omega), pr_1]; simp [upP, h2]
  · rw [show j = 2 * (j / 2) + 1 by omega, pr_2]
    by_cases h2 : j / 2 = k
    · rcases (show hf = 0 ∨ hf = 1 by omega) with rfl | rfl
      · rw [h2, pk_uLn (by omega), pr_2]; simp [upP]
      · rw [h2]; simp [upP, vp_updL]
    · rw [pk_uLn (by omega), pr_2]; simp [upP, h2]
def ptA (PP : Nat → Int64 × Int64) (sn : Nat) (xk xh : Int32) : Int64 := if (xh = 0 ∨ xh = nI 1) ∧ (¬ xk < 0 ∧ ¬ nI sn ≤ xk) then hlf xh (PP xk.toNatClampNeg) else lN 0
theorem ptA_y {PP : Nat → Int64 × Int64} {sn k hf : Nat} (hs : sn < 2 ^ 31) (hf1 : hf ≤ 1) (h : k < sn) : hlf (nI hf) (PP k) = ptA PP sn (nI k) (nI hf) := by
  unfold ptA
  rw [if_pos ⟨half_of hf1, by rw [q_lt0 (by omega)]; omega, by rw [q_le hs (by omega)]; omega⟩, nI_clamp (by omega)]
theorem ptA_n {PP : Nat → Int64 × Int64} {sn : Nat} {xk xh : Int32} (h : ¬ ((xh = 0 ∨ xh = nI 1) ∧ (¬ xk < 0 ∧ ¬ nI sn ≤ xk))) : lN 0 = ptA PP sn xk xh := by
  unfold ptA
  rw [if_neg h]
def hsA (kv : Int32) (mv : Nat → Int64) (ln : Nat) (xh : Int32) : Int64 := if xh = 0 then (hm (kv.toInt64, lN ln) mv ln).1 else if xh = nI 1 then (hm (kv.toInt64, lN ln) mv ln).2 else lN 0
def ctA (hh md us ln : Nat) (xn x : Int32) : Int32 := if x = nI 0 then nI (2 ^ hh) else if x = nI 1 then nI md else if x = nI 2 then nI us else if x = nI 3 then nI ln else if x = nI 4 then xn else -1
theorem sw_out {x : Int32} (h0 : ¬ x = nI 0) (h1 : ¬ x = nI 1) (h2 : ¬ x = nI 2) (h3 : ¬ x = nI 3) (h4 : ¬ x = nI 4) : x.toInt < 0 ∨ 4 < x.toInt := by
  by_cases h : x < 0
  · exact Or.inl (by rw [Int32.lt_iff_toInt_lt] at h; exact h)
  · obtain ⟨j, hj, rfl⟩ := nI_of h
    rw [nI_toInt hj]
    refine Or.inr ?_
    rcases Nat.lt_or_ge j 5 with h5 | h5
    · rcases (show j = 0 ∨ j = 1 ∨ j = 2 ∨ j = 3 ∨ j = 4 by omega) with rfl | rfl | rfl | rfl | rfl
      · exact absurd rfl h0
      · exact absurd rfl h1
      · exact absurd rfl h2
      · exact absurd rfl h3
      · exact absurd rfl h4
    · omega
