/-! the reference's nodes: two rows, level by level -/
theorem at_ne {lv j iv k : Nat} (hl : lv ≤ 4) (hj : j ≤ 4) (h1 : iv < 2 ^ (4 - lv)) (h2 : k < 2 ^ (4 - j)) (hne : lv ≠ j) : 32 - 32 / 2 ^ lv + iv ≠ 32 - 32 / 2 ^ j + k := by
  rcases (show lv = 0 ∨ lv = 1 ∨ lv = 2 ∨ lv = 3 ∨ lv = 4 by omega) with rfl | rfl | rfl | rfl | rfl <;> rcases (show j = 0 ∨ j = 1 ∨ j = 2 ∨ j = 3 ∨ j = 4 by omega) with rfl | rfl | rfl | rfl | rfl <;> simp at h1 h2 hne ⊢ <;> omega
theorem at_lt {lv iv : Nat} (hl : lv ≤ 4) (h1 : iv < 2 ^ (4 - lv)) : 32 - 32 / 2 ^ lv + iv < 31 := by
  rcases (show lv = 0 ∨ lv = 1 ∨ lv = 2 ∨ lv = 3 ∨ lv = 4 by omega) with rfl | rfl | rfl | rfl | rfl <;> simp at h1 ⊢ <;> omega
theorem at_bd {hh lv iv md : Nat} (h4 : hh ≤ 4) (hl : lv ≤ hh) (hm : md ≤ 2 ^ hh) (h : (iv + 1) * 2 ^ lv ≤ md) : iv < 2 ^ (4 - lv) := by
  have h1 := slot_bd hl hm h
  have h2 := Nat.pow_le_pow_right (n := 2) (by decide) (show hh - lv ≤ 4 - lv by omega)
  omega
theorem at_in {hh lv iv md : Nat} (h4 : hh ≤ 4) (hl : lv ≤ hh) (hm : md ≤ 2 ^ hh) (h : (iv + 1) * 2 ^ lv ≤ md) : 32 - 32 / 2 ^ lv + iv < 31 := at_lt (by omega) (at_bd h4 hl hm h)
def ROK (w1 w2 ov : Int64) (hh md : Nat) (fF fS : Nat → Int64) : Prop := ∀ lv iv, lv ≤ hh → (iv + 1) * 2 ^ lv ≤ md → (fF (32 - 32 / 2 ^ lv + iv), fS (32 - 32 / 2 ^ lv + iv)) = nv w1 w2 ov lv iv
def ROKl (w1 w2 ov : Int64) (hh md j : Nat) (fF fS : Nat → Int64) : Prop := ∀ lv iv, lv ≤ hh → lv < j → (iv + 1) * 2 ^ lv ≤ md → (fF (32 - 32 / 2 ^ lv + iv), fS (32 - 32 / 2 ^ lv + iv)) = nv w1 w2 ov lv iv
def ROKi (w1 w2 ov : Int64) (hh md j i : Nat) (fF fS : Nat → Int64) : Prop := ∀ lv iv, lv ≤ hh → (lv < j ∨ (lv = j ∧ iv < i)) → (iv + 1) * 2 ^ lv ≤ md → (fF (32 - 32 / 2 ^ lv + iv), fS (32 - 32 / 2 ^ lv + iv)) = nv w1 w2 ov lv iv
def RLF (w1 w2 ov : Int64) (n : Nat) (fF fS : Nat → Int64) : Prop := ∀ iv, iv < n → (fF iv, fS iv) = nv w1 w2 ov 0 iv
theorem ROK_0 {w1 w2 ov : Int64} {hh : Nat} {fF fS : Nat → Int64} : ROK w1 w2 ov hh 0 fF fS := fun lv iv _ h => absurd h (by
  have := Nat.mul_pos (show 0 < iv + 1 by omega) (Nat.two_pow_pos lv)
  omega)
theorem at_0 (iv : Nat) : 32 - 32 / 2 ^ 0 + iv = iv := by simp
theorem rlf_0 {w1 w2 ov : Int64} {hh md : Nat} {fF fS : Nat → Int64} (h : ROK w1 w2 ov hh md fF fS) : RLF w1 w2 ov md fF fS := fun iv hi => by
  have h1 := h 0 iv (Nat.zero_le _) (by rw [Nat.pow_zero, Nat.mul_one]; omega)
  rw [at_0] at h1
  exact h1
theorem rlf_s {w1 w2 ov : Int64} {n : Nat} {fF fS : Nat → Int64} (h : RLF w1 w2 ov n fF fS) : RLF w1 w2 ov (n + 1) (vp_updL fF n (nv w1 w2 ov 0 n).1) (vp_updL fS n (nv w1 w2 ov 0 n).2) := fun iv hi => by
  by_cases h1 : iv = n
  · subst h1; rw [pk_uLs, pk_uLs]
  · rw [pk_uLn h1, pk_uLn h1]; exact h iv (by omega)
theorem rlf_1 {w1 w2 ov : Int64} {hh md : Nat} {fF fS : Nat → Int64} (h : RLF w1 w2 ov md fF fS) : ROKl w1 w2 ov hh md 1 fF fS := fun lv iv _ h1 h2 => by
  have h0 : lv = 0 := by omega
  subst h0
  rw [Nat.pow_zero, Nat.mul_one] at h2
  rw [at_0]
  exact h iv (by omega)
theorem rok_i0 {w1 w2 ov : Int64} {hh md j : Nat} {fF fS : Nat → Int64} (h : ROKl w1 w2 ov hh md j fF fS) : ROKi w1 w2 ov hh md j 0 fF fS := fun lv iv hl h1 h2 => h lv iv hl (by omega) h2
theorem rok_is {w1 w2 ov : Int64} {hh md j i : Nat} {fF fS : Nat → Int64} (h : ROKi w1 w2 ov hh md j i fF fS) (h4 : hh ≤ 4) (hjh : j ≤ hh) (hm : md ≤ 2 ^ hh) (hi : (i + 1) * 2 ^ j ≤ md) : ROKi w1 w2 ov hh md j (i + 1) (vp_updL fF (32 - 32 / 2 ^ j + i) (nv w1 w2 ov j i).1) (vp_updL fS (32 - 32 / 2 ^ j + i) (nv w1 w2 ov j i).2) := fun lv iv hl h1 h2 => by
  by_cases h0 : lv = j
  · subst h0
    by_cases he : iv = i
    · subst he; rw [pk_uLs, pk_uLs]
    · rw [pk_uLn (by omega), pk_uLn (by omega)]; exact h lv iv hl (by omega) h2
  · have hn := at_ne (show lv ≤ 4 by omega) (show j ≤ 4 by omega) (at_bd h4 hl hm h2) (at_bd h4 hjh hm hi) h0
    rw [pk_uLn hn, pk_uLn hn]; exact h lv iv hl (by omega) h2
theorem rok_ie {w1 w2 ov : Int64} {hh md j : Nat} {fF fS : Nat → Int64} (h : ROKi w1 w2 ov hh md j (md / 2 ^ j) fF fS) : ROKl w1 w2 ov hh md (j + 1) fF fS := fun lv iv hl h1 h2 => by
  refine h lv iv hl ?_ h2
  by_cases h0 : lv = j
  · subst h0; exact Or.inr ⟨rfl, le_dv.mp h2⟩
  · exact Or.inl (by omega)
theorem rok_e {w1 w2 ov : Int64} {hh md : Nat} {fF fS : Nat → Int64} (h : ROKl w1 w2 ov hh md (hh + 1) fF fS) : ROK w1 w2 ov hh md fF fS := fun lv iv hl h2 => h lv iv hl (by omega) h2
theorem rok_par {w1 w2 ov : Int64} {hh md j i : Nat} {fF fS : Nat → Int64} (h : ∀ lv iv, lv ≤ hh → lv < j → (iv + 1) * 2 ^ lv ≤ md → (fF (32 - 32 / 2 ^ lv + iv), fS (32 - 32 / 2 ^ lv + iv)) = nv w1 w2 ov lv iv) (hj : 1 ≤ j) (hjh : j ≤ hh) (hi : (i + 1) * 2 ^ j ≤ md) : nd ov j i (fF (32 - 32 / 2 ^ (j - 1) + 2 * i), fS (32 - 32 / 2 ^ (j - 1) + 2 * i)) (fF (32 - 32 / 2 ^ (j - 1) + 2 * i + 1), fS (32 - 32 / 2 ^ (j - 1) + 2 * i + 1)) = nv w1 w2 ov j i := by
  have h2 := two_up (i := i) hj
  have h3 : (2 * i + 1) * 2 ^ (j - 1) ≤ (2 * i + 1 + 1) * 2 ^ (j - 1) := Nat.mul_le_mul_right _ (by omega)
  rw [Nat.add_assoc, h (j - 1) (2 * i + 1) (by omega) (by omega) (by omega), h (j - 1) (2 * i) (by omega) (by omega) (by omega)]
  obtain ⟨k, rfl⟩ : ∃ k, j = k + 1 := ⟨j - 1, by omega⟩
  rfl
theorem rl_leaf {ov : Int64} {lf : Nat} {E : Nat → Int64 × Int64} {f g : Nat → Int64} : lfv ov lf (fun k => (mkT (fun c => (E c).1) 35 f k, mkT (fun c => (E c).2) 35 g k)) = lfv ov lf E := by
  unfold lfv
  exact hp_congr 35 (fun k hk => by rw [mkT_lt hk, mkT_lt hk])
theorem half_no1 {x : Int32} (h : x < 0) : ¬ (x = 0 ∨ x = nI 1) := fun q => by
  rcases q with rfl | rfl
  · exact absurd h (by decide)
  · exact absurd h (by decide)
theorem half_no2 {x : Int32} (h : nI 1 < x) : ¬ (x = 0 ∨ x = nI 1) := fun q => by
  rcases q with rfl | rfl
  · exact absurd h (by decide)
  · exact absurd h (by decide)
theorem half_in {x : Int32} (h0 : ¬ x < 0) (h1 : ¬ nI 1 < x) : ∃ hf, hf ≤ 1 ∧ x = nI hf := nI_of2 (M := nI 1) (by decide) h0 (Int32.not_lt.mp h1)
theorem ROK_root {w1 w2 ov : Int64} {hh md : Nat} {fF fS : Nat → Int64} (h : ROK w1 w2 ov hh md fF fS) (hm : 2 ^ hh ≤ md) : (fF (32 - 32 / 2 ^ hh), fS (32 - 32 / 2 ^ hh)) = nv w1 w2 ov hh 0 := h hh 0 (Nat.le_refl _) (by omega)
theorem mkT_3 (g f : Nat → Int32) : upd (upd (upd (mkT g 32 f) 32 (g 32)) 33 (g 33)) 34 (g 34) = mkT g 35 f := by rw [mkT_upd, mkT_upd, mkT_upd]
theorem digs_32 (v : Int64 × Int64) : lk v 32 / 256 = digs v 32 := by simp [digs]
theorem digs_33 (v : Int64 × Int64) : lk v 32 / 16 % 16 = digs v 33 := by simp [digs]
theorem digs_34 (v : Int64 × Int64) : lk v 32 % 16 = digs v 34 := by simp [digs]
theorem d4_loP {v : Int64 × Int64} {i : Nat} (h : ¬ 16 ≤ i) : dg4 v.1 (60 - 4 * (i % 16)) = d4 v i := by
  unfold d4
  rw [if_pos (by omega)]
theorem d4_hiP {v : Int64 × Int64} {i : Nat} (h : 16 ≤ i) : dg4 v.2 (60 - 4 * (i % 16)) = d4 v i := by
  unfold d4
  rw [if_neg (by omega)]
theorem sib_e {lf n : Nat} (h : lf / 2 ^ n % 2 = 0) : lf / 2 ^ n + 1 = sib lf n := by
  unfold sib
  rw [xor1, if_pos h]
theorem sib_o {lf n : Nat} (h : ¬ lf / 2 ^ n % 2 = 0) : lf / 2 ^ n - 1 = sib lf n := by
  unfold sib
  rw [xor1, if_neg h]
theorem upP_1 (PP : Nat → Int64 × Int64) (k : Nat) (x : Int64) : (vp_updL (fun k => (PP k).1) k x = fun j => (upP PP k 0 x j).1) ∧ ((fun k => (PP k).2) = fun j => (upP PP k 0 x j).2) := by
  constructor
  · funext j
    by_cases h : j = k
    · subst h; simp [upP, vp_updL]
    · simp [upP, vp_updL, h]
  · funext j
    by_cases h : j = k
    · subst h; simp [upP]
    · simp [upP, h]
theorem upP_2 (PP : Nat → Int64 × Int64) (k : Nat) (x : Int64) : (vp_updL (fun k => (PP k).2) k x = fun j => (upP PP k 1 x j).2) ∧ ((fun k => (PP k).1) = fun j => (upP PP k 1 x j).1) := by
  constructor
  · funext j
    by_cases h : j = k
    · subst h; simp [upP, vp_updL]
    · simp [upP, vp_updL, h]
  · funext j
    by_cases h : j = k
    · subst h; simp [upP]
    · simp [upP, h]
theorem mkT_P1 (E F : Nat → Int64 × Int64) (n : Nat) : mkT (fun c => (E c).1) n (fun k => (F k).1) = fun k => (mkT E n F k).1 := by
  funext k
  by_cases h : k < n
  · rw [mkT_lt h, mkT_lt h]
  · rw [mkT_ge (by omega), mkT_ge (by omega)]
theorem mkT_P2 (E F : Nat → Int64 × Int64) (n : Nat) : mkT (fun c => (E c).2) n (fun k => (F k).2) = fun k => (mkT E n F k).2 := by
  funext k
  by_cases h : k < n
  · rw [mkT_lt h, mkT_lt h]
  · rw [mkT_ge (by omega), mkT_ge (by omega)]
theorem ptA_0 (PP : Nat → Int64 × Int64) (xk xh : Int32) : ptA PP 0 xk xh = lN 0 := by
  unfold ptA
  rw [if_neg (fun q => by
    obtain ⟨k, -, rfl⟩ := nI_of q.2.1
    exact q.2.2 (by rw [nI_0]; exact Int32.not_lt.mp q.2.1))]
