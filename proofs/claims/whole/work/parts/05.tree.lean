/-! the signer's nodes: the row of pairs, the root at place 1 -/
def gp2 (f : Nat → Int64) (k : Nat) : Int64 × Int64 := (f (2 * k), f (2 * k + 1))
theorem gp2_s (f : Nat → Int64) (k : Nat) (v : Int64 × Int64) : gp2 (setP f k v) k = v := by
  unfold gp2
  rw [setP_1, setP_2]
theorem gp2_n (f : Nat → Int64) {k j : Nat} (v : Int64 × Int64) (h : j ≠ k) : gp2 (setP f k v) j = gp2 f j := by
  unfold gp2
  rw [setP_n _ _ _ _ (by omega) (by omega), setP_n _ _ _ _ (by omega) (by omega)]
def NOK (w1 w2 ov : Int64) (hh md : Nat) (nf : Nat → Int64) : Prop := ∀ lv iv, lv ≤ hh → (iv + 1) * 2 ^ lv ≤ md → gp2 nf (2 ^ (hh - lv) + iv) = nv w1 w2 ov lv iv
def NOKp (w1 w2 ov : Int64) (hh md j : Nat) (nf : Nat → Int64) : Prop := ∀ lv iv, lv ≤ hh → (iv + 1) * 2 ^ lv ≤ (if lv < j then md + 1 else md) → gp2 nf (2 ^ (hh - lv) + iv) = nv w1 w2 ov lv iv
theorem NOK_0 {w1 w2 ov : Int64} {hh : Nat} {nf : Nat → Int64} : NOK w1 w2 ov hh 0 nf := fun lv iv _ h => absurd h (by
  have := Nat.mul_pos (show 0 < iv + 1 by omega) (Nat.two_pow_pos lv)
  omega)
theorem p2_le {j : Nat} (h : j ≤ 4) : 2 ^ j ≤ 16 := by
  have := Nat.pow_le_pow_right (n := 2) (by decide) h
  exact this
theorem slot_bd {hh lv iv md : Nat} (hl : lv ≤ hh) (hm : md ≤ 2 ^ hh) (h : (iv + 1) * 2 ^ lv ≤ md) : iv < 2 ^ (hh - lv) := by
  have h1 : (iv + 1) * 2 ^ lv ≤ 2 ^ (hh - lv) * 2 ^ lv := by
    rw [← Nat.pow_add, Nat.sub_add_cancel hl]
    omega
  exact Nat.le_of_mul_le_mul_right h1 (Nat.two_pow_pos lv)
theorem tslot_ne {hh lv j iv k : Nat} (hl : lv ≤ hh) (hj : j ≤ hh) (h1 : iv < 2 ^ (hh - lv)) (h2 : k < 2 ^ (hh - j)) (hne : lv ≠ j) : 2 ^ (hh - lv) + iv ≠ 2 ^ (hh - j) + k := by
  rcases Nat.lt_or_gt_of_ne hne with h | h
  · have h3 := Nat.pow_le_pow_right (n := 2) (by decide) (show hh - j + 1 ≤ hh - lv by omega)
    rw [Nat.pow_succ] at h3
    omega
  · have h3 := Nat.pow_le_pow_right (n := 2) (by decide) (show hh - lv + 1 ≤ hh - j by omega)
    rw [Nat.pow_succ] at h3
    omega
theorem slot_lt {hh lv iv md : Nat} (h4 : hh ≤ 4) (hl : lv ≤ hh) (hm : md ≤ 2 ^ hh) (h : (iv + 1) * 2 ^ lv ≤ md) : 2 ^ (hh - lv) + iv < 32 := by
  have h1 := slot_bd hl hm h
  have h2 := p2_le (show hh - lv ≤ 4 by omega)
  omega
theorem nok_leaf {w1 w2 ov : Int64} {hh md : Nat} {nf : Nat → Int64} (h : NOK w1 w2 ov hh md nf) (hm : md < 2 ^ hh) : NOKp w1 w2 ov hh md 1 (setP nf (2 ^ (hh - 0) + md) (nv w1 w2 ov 0 md)) := by
  intro lv iv hl hi
  by_cases h0 : lv = 0
  · subst h0
    rw [if_pos (by decide), Nat.pow_zero, Nat.mul_one] at hi
    by_cases he : iv = md
    · subst he; exact gp2_s _ _ _
    · rw [gp2_n _ _ (by omega)]
      exact h 0 iv hl (by rw [Nat.pow_zero, Nat.mul_one]; omega)
  · rw [if_neg (by omega)] at hi
    rw [gp2_n _ _ (tslot_ne hl (Nat.zero_le _) (slot_bd hl (by omega) hi) hm h0)]
    exact h lv iv hl hi
theorem up_eq {md j : Nat} (hd : (md + 1) % 2 ^ j = 0) : 1 ≤ (md + 1) / 2 ^ j ∧ ((md + 1) / 2 ^ j - 1 + 1) * 2 ^ j = md + 1 := by
  have h1 := Nat.div_add_mod (md + 1) (2 ^ j)
  rw [hd, Nat.add_zero] at h1
  have h2 : 1 ≤ (md + 1) / 2 ^ j := by
    rcases Nat.eq_zero_or_pos ((md + 1) / 2 ^ j) with h | h
    · rw [h, Nat.mul_zero] at h1; omega
    · exact h
  refine ⟨h2, ?_⟩
  rw [Nat.sub_add_cancel h2, Nat.mul_comm]
  exact h1
theorem two_up {i j : Nat} (hj : 1 ≤ j) : (2 * i + 1 + 1) * 2 ^ (j - 1) = (i + 1) * 2 ^ j := by
  have h1 : 2 ^ j = 2 * 2 ^ (j - 1) := by
    rw [← Nat.pow_succ']
    congr 1
    omega
  have h2 : 2 * i + 1 + 1 = (i + 1) * 2 := by omega
  rw [h1, h2, Nat.mul_assoc]
theorem nok_kids {w1 w2 ov : Int64} {hh md j i : Nat} {nf : Nat → Int64} (h : NOKp w1 w2 ov hh md j nf) (hj : 1 ≤ j) (hjh : j ≤ hh) (hi : (i + 1) * 2 ^ j = md + 1) : nd ov j i (gp2 nf (2 ^ (hh - (j - 1)) + 2 * i)) (gp2 nf (2 ^ (hh - (j - 1)) + (2 * i + 1))) = nv w1 w2 ov j i := by
  have h2 := two_up (i := i) hj
  have hp := Nat.two_pow_pos (j - 1)
  rw [h (j - 1) (2 * i + 1) (by omega) (by rw [if_pos (by omega), h2, hi]; exact Nat.le_refl _), h (j - 1) (2 * i) (by omega) (by
    rw [if_pos (by omega)]
    have h3 : (2 * i + 1) * 2 ^ (j - 1) ≤ (2 * i + 1 + 1) * 2 ^ (j - 1) := Nat.mul_le_mul_right _ (by omega)
    omega)]
  obtain ⟨k, rfl⟩ : ∃ k, j = k + 1 := ⟨j - 1, by omega⟩
  rfl
theorem nok_step {w1 w2 ov : Int64} {hh md j i : Nat} {nf : Nat → Int64} (h : NOKp w1 w2 ov hh md j nf) (hjh : j ≤ hh) (hm : md < 2 ^ hh) (hi : (i + 1) * 2 ^ j = md + 1) : NOKp w1 w2 ov hh md (j + 1) (setP nf (2 ^ (hh - j) + i) (nv w1 w2 ov j i)) := by
  intro lv iv hl hv
  have hb : i < 2 ^ (hh - j) := slot_bd hjh (show md + 1 ≤ 2 ^ hh by omega) (by omega)
  by_cases h0 : lv = j
  · subst h0
    rw [if_pos (by omega)] at hv
    by_cases he : iv = i
    · subst he; exact gp2_s _ _ _
    · rw [gp2_n _ _ (by omega)]
      refine h lv iv hl ?_
      rw [if_neg (by omega)]
      have h1 : iv + 1 ≤ i + 1 := Nat.le_of_mul_le_mul_right (show (iv + 1) * 2 ^ lv ≤ (i + 1) * 2 ^ lv by omega) (Nat.two_pow_pos lv)
      have h2 : (iv + 1) * 2 ^ lv ≤ i * 2 ^ lv := Nat.mul_le_mul_right _ (by omega)
      have h3 : (i + 1) * 2 ^ lv = i * 2 ^ lv + 2 ^ lv := Nat.succ_mul _ _
      have h4 := Nat.two_pow_pos lv
      omega
  · have hv2 : (iv + 1) * 2 ^ lv ≤ (if lv < j then md + 1 else md) := by
      by_cases h1 : lv < j
      · rw [if_pos h1]; rw [if_pos (by omega)] at hv; exact hv
      · rw [if_neg h1]; rw [if_neg (by omega)] at hv; exact hv
    have hb2 : iv < 2 ^ (hh - lv) := slot_bd hl (show md + 1 ≤ 2 ^ hh by omega) (by
      by_cases h1 : lv < j
      · rw [if_pos h1] at hv2; exact hv2
      · rw [if_neg h1] at hv2; omega)
    rw [gp2_n _ _ (tslot_ne hl hjh hb2 hb h0)]
    exact h lv iv hl hv2
theorem nok_brk {w1 w2 ov : Int64} {hh md j : Nat} {nf : Nat → Int64} (h : NOKp w1 w2 ov hh md j nf) (hd : ¬ (md + 1) % 2 ^ j = 0) : NOK w1 w2 ov hh (md + 1) nf := by
  intro lv iv hl hv
  refine h lv iv hl ?_
  by_cases h1 : lv < j
  · rw [if_pos h1]; exact hv
  · rw [if_neg h1]
    rcases Nat.lt_or_ge ((iv + 1) * 2 ^ lv) (md + 1) with h2 | h2
    · omega
    · have h3 : md + 1 = (iv + 1) * 2 ^ lv := by omega
      refine absurd ?_ hd
      rw [h3, show lv = j + (lv - j) by omega, Nat.pow_add, ← Nat.mul_assoc, Nat.mul_right_comm]
      exact Nat.mul_mod_left _ _
theorem nok_end {w1 w2 ov : Int64} {hh md : Nat} {nf : Nat → Int64} (h : NOKp w1 w2 ov hh md (hh + 1) nf) : NOK w1 w2 ov hh (md + 1) nf := by
  intro lv iv hl hv
  exact h lv iv hl (by rw [if_pos (by omega)]; exact hv)
theorem nok_bd {hh md j i : Nat} (h4 : hh ≤ 4) (hj : 1 ≤ j) (hjh : j ≤ hh) (hm : md < 2 ^ hh) (hi : (i + 1) * 2 ^ j = md + 1) : 2 ^ (hh - (j - 1)) + (2 * i + 1) < 32 := slot_lt (md := md + 1) h4 (by omega) (by omega) (by rw [two_up hj, hi]; exact Nat.le_refl _)
theorem nok_bd2 {hh md j i : Nat} (h4 : hh ≤ 4) (hjh : j ≤ hh) (hm : md < 2 ^ hh) (hi : (i + 1) * 2 ^ j = md + 1) : 2 ^ (hh - j) + i < 32 := slot_lt (md := md + 1) h4 hjh (by omega) (by omega)
theorem nok_leafv (w1 w2 ov : Int64) (lf : Nat) (ev : Nat → Int64) : hm (ha (ha (lN 3, lN 72) ov) (lN lf)) (mkT (pr (fun c => plc w1 w2 ov lf c 15)) 70 ev) 70 = nv w1 w2 ov 0 lf := by
  rw [hm_congr 70 (fun k hk => mkT_lt hk)]
  exact hm_pr _ _ 35
