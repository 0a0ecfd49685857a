theorem wb_tb (n : Nat) : (lN n).toBitVec = BitVec.ofNat 64 n := rfl
theorem wb_inj {a b : Int64} (h : a.toBitVec = b.toBitVec) : a = b := Int64.toBitVec_inj.mp h
theorem wb_tn {n : Nat} (h : n < 2 ^ 64) : (lN n).toBitVec.toNat = n := by rw [wb_tb, BitVec.toNat_ofNat, Nat.mod_eq_of_lt h]
theorem wb_cu : ∀ k, k < 64 → ((nI k).toInt64.toUInt64 &&& Int64.toUInt64 63) = UInt64.ofNat k := by decide +kernel
theorem wb_shr {n k : Nat} (hn : n < 2 ^ 64) (hk : k < 64) : ((lN n).toUInt64 >>> ((nI k).toInt64.toUInt64 &&& Int64.toUInt64 63)).toInt64 = lN (n / 2 ^ k) := by
  rw [wb_cu k hk]
  apply wb_inj
  apply BitVec.eq_of_toNat_eq
  show ((lN n).toUInt64 >>> UInt64.ofNat k).toNat = (BitVec.ofNat 64 _).toNat
  have h1 : (UInt64.ofNat k).toNat = k := by
    show (BitVec.ofNat 64 k).toNat = k
    rw [BitVec.toNat_ofNat, Nat.mod_eq_of_lt (by omega)]
  have h2 : (lN n).toUInt64.toNat = n := wb_tn hn
  rw [UInt64.toNat_shiftRight, h1, h2, Nat.mod_eq_of_lt hk, Nat.shiftRight_eq_div_pow, BitVec.toNat_ofNat, Nat.mod_eq_of_lt (Nat.lt_of_le_of_lt (Nat.div_le_self _ _) hn)]
theorem nx_xor (a b : Nat) : nI a ^^^ nI b = nI (a ^^^ b) := by
  apply Int32.toBitVec_inj.1
  show BitVec.ofNat 32 a ^^^ BitVec.ofNat 32 b = BitVec.ofNat 32 (a ^^^ b)
  apply BitVec.eq_of_getLsbD_eq
  intro i hi
  simp [hi]
theorem bI_t {P : Prop} [Decidable P] (h : P) : nI 1 = bI (decide P) := by rw [decide_eq_true h]; rfl
theorem bI_f {P : Prop} [Decidable P] (h : ¬ P) : nI 0 = bI (decide P) := by rw [decide_eq_false h]; rfl
theorem bI_t2 {x : Bool} (h : x = true) : nI 1 = bI x := by rw [h]; rfl
theorem bI_f2 {x : Bool} (h : ¬ x = true) : nI 0 = bI x := by
  cases x
  · rfl
  · exact absurd rfl h
/-- node xi of level xl is made -/
def isMB (hh md : Nat) (xl xi : Int32) : Bool := decide (¬ xl < 0 ∧ ¬ nI hh < xl ∧ ¬ xi < 0 ∧ (xi.toNatClampNeg + 1) * 2 ^ xl.toNatClampNeg ≤ md)
theorem isMB_iff {hh md : Nat} {xl xi : Int32} : isMB hh md xl xi = true ↔ (¬ xl < 0 ∧ ¬ nI hh < xl ∧ ¬ xi < 0 ∧ (xi.toNatClampNeg + 1) * 2 ^ xl.toNatClampNeg ≤ md) := decide_eq_true_iff
theorem isM_lv {hh : Nat} {xl : Int32} (h1 : ¬ xl < 0) (h2 : ¬ nI hh < xl) (h4 : hh ≤ 4) : ∃ lv, lv ≤ hh ∧ xl = nI lv := nI_of2 (M := nI hh) (nI_toInt (by omega)) h1 (Int32.not_lt.mp h2)
theorem isMB_nat {hh md lv iv : Nat} (h1 : hh < 2 ^ 31) (h2 : lv < 2 ^ 31) (h3 : iv < 2 ^ 31) : isMB hh md (nI lv) (nI iv) = true ↔ (lv ≤ hh ∧ (iv + 1) * 2 ^ lv ≤ md) := by
  rw [isMB_iff, q_lt0 h2, q_lt h1 h2, q_lt0 h3, nI_clamp h2, nI_clamp h3]
  constructor
  · intro h
    exact ⟨Nat.not_lt.mp h.2.1, h.2.2.2⟩
  · intro h
    exact ⟨Nat.not_lt_zero _, Nat.not_lt.mpr h.1, Nat.not_lt_zero _, h.2⟩
theorem le_dv {a i k : Nat} : (i + 1) * 2 ^ k ≤ a ↔ i < a / 2 ^ k := by
  rw [← Nat.le_div_iff_mul_le (Nat.two_pow_pos k)]
  exact Nat.succ_le_iff
theorem isM_no {hh md lv iv : Nat} (h1 : hh < 2 ^ 31) (h2 : lv < 2 ^ 31) (h3 : iv < 2 ^ 31) (h : md / 2 ^ lv ≤ iv) : ¬ isMB hh md (nI lv) (nI iv) = true := by
  rw [isMB_nat h1 h2 h3, le_dv]
  omega
theorem isM_yes {hh md lv iv : Nat} (hl : lv ≤ hh) (h1 : hh < 2 ^ 31) (h3 : iv < 2 ^ 31) (h : ¬ md / 2 ^ lv ≤ iv) : isMB hh md (nI lv) (nI iv) = true := by
  rw [isMB_nat h1 (by omega) h3, le_dv]
  omega
theorem d4_lo {v1 v2 : Int64} {i : Nat} (h : ¬ 16 ≤ i) : d4 (v1, v2) i = dg4 v1 (4 * (15 - i % 16)) := by
  have h2 : 60 - 4 * (i % 16) = 4 * (15 - i % 16) := by omega
  unfold d4
  rw [if_pos (by omega), h2]
theorem d4_hi {v1 v2 : Int64} {i : Nat} (h : 16 ≤ i) : d4 (v1, v2) i = dg4 v2 (4 * (15 - i % 16)) := by
  have h2 : 60 - 4 * (i % 16) = 4 * (15 - i % 16) := by omega
  unfold d4
  rw [if_neg (by omega), h2]
theorem dg4_lN {n k : Nat} (hn : n < 2 ^ 31) (hk : k < 64) : dg4 (lN n) k = n / 2 ^ k % 16 := by
  unfold dg4 shr6
  rw [wb_shr (by omega) hk, lN_i, pk_tn (Nat.lt_of_le_of_lt (Nat.div_le_self _ _) (by omega))]
theorem digs_lo (v : Int64 × Int64) {k : Nat} (h : k < 32) : digs v k = d4 v k := by
  unfold digs
  rw [if_pos h]
theorem digs_hi (v : Int64 × Int64) {i : Nat} (h1 : 32 ≤ i) (h2 : i < 35) : dg4 (lN (lk v 32)) (4 * (34 - i)) = digs v i := by
  have h := lk_le v 32
  rw [dg4_lN (by omega) (by omega)]
  unfold digs
  rw [if_neg (by omega)]
  rcases (show i = 32 ∨ i = 33 ∨ i = 34 by omega) with rfl | rfl | rfl
  · rw [if_pos rfl]
    show lk v 32 / 256 % 16 = _
    omega
  · rw [if_neg (by decide), if_pos rfl]
  · rw [if_neg (by decide), if_neg (by decide)]
    show lk v 32 / 1 % 16 = _
    rw [Nat.div_one]
theorem mkT_congr {α : Type} {g g2 f : Nat → α} {n : Nat} (h : ∀ k, k < n → g k = g2 k) : mkT g n f = mkT g2 n f := by
  funext k
  by_cases hk : k < n
  · rw [mkT_lt hk, mkT_lt hk, h k hk]
  · rw [mkT_ge (by omega), mkT_ge (by omega)]
theorem cry_s {o : Int64} {lf ch fm i : Nat} {v : Int64 × Int64} (h : fm ≤ i) : cry o lf ch v fm (i + 1 - fm) = cst o lf ch i (cry o lf ch v fm (i - fm)) := by
  have h1 : i + 1 - fm = (i - fm) + 1 := by omega
  rw [h1]
  show cst o lf ch (fm + (i - fm)) _ = _
  rw [Nat.add_sub_cancel' h]
