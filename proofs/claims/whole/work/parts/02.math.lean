/-! the document's numbers: the hash, chains, leaves, nodes, digits -/
def shr6 (x : Int64) (k : Nat) : Int64 := (x.toUInt64 >>> ((nI k).toInt64.toUInt64 &&& Int64.toUInt64 63)).toInt64
def mx1 (x : Int64) : Int64 := (x ^^^ shr6 x 30) * (-4658895280553007687)
def mx2 (x : Int64) : Int64 := (x ^^^ shr6 x 27) * (-7723592293110705685)
def mxL (x : Int64) : Int64 := mx2 (mx1 x) ^^^ shr6 (mx2 (mx1 x)) 31
/-- the hash's two longs, and one long more -/
def ha (v : Int64 × Int64) (x : Int64) : Int64 × Int64 := (mxL (v.1 ^^^ x), mxL (v.2 + mxL (v.1 ^^^ x)))
def hm (v : Int64 × Int64) (f : Nat → Int64) : Nat → Int64 × Int64
  | 0 => v
  | n + 1 => ha (hm v f n) (f n)
/-- place j + 1 of a chain, of place j -/
def cst (o : Int64) (lf ch j : Nat) (v : Int64 × Int64) : Int64 × Int64 := ha (ha (ha (ha (ha (ha (lN 2, lN 6) o) (lN lf)) (lN ch)) (lN j)) v.1) v.2
def cry (o : Int64) (lf ch : Nat) (v : Int64 × Int64) (j : Nat) : Nat → Int64 × Int64
  | 0 => v
  | n + 1 => cst o lf ch (j + n) (cry o lf ch v j n)
def cs0 (w1 w2 : Int64) (lf ch : Nat) : Int64 × Int64 := ha (ha (ha (ha (lN 1, lN 4) w1) w2) (lN lf)) (lN ch)
def plc (w1 w2 o : Int64) (lf ch d : Nat) : Int64 × Int64 := cry o lf ch (cs0 w1 w2 lf ch) 0 d
/-- pairs, one behind the other -/
def hp (v : Int64 × Int64) (E : Nat → Int64 × Int64) : Nat → Int64 × Int64
  | 0 => v
  | n + 1 => ha (ha (hp v E n) (E n).1) (E n).2
def lfv (o : Int64) (lf : Nat) (E : Nat → Int64 × Int64) : Int64 × Int64 := hp (ha (ha (lN 3, lN 72) o) (lN lf)) E 35
def nd (o : Int64) (lv i : Nat) (v w : Int64 × Int64) : Int64 × Int64 := ha (ha (ha (ha (ha (ha (ha (lN 4, lN 7) o) (lN lv)) (lN i)) v.1) v.2) w.1) w.2
def nv (w1 w2 o : Int64) : Nat → Nat → Int64 × Int64
  | 0, i => lfv o i (fun ch => plc w1 w2 o i ch 15)
  | lv + 1, i => nd o (lv + 1) i (nv w1 w2 o lv (2 * i)) (nv w1 w2 o lv (2 * i + 1))
def dgs (o : Int64) (lf : Nat) (ra rb : Int64) (f : Nat → Int64) (n : Nat) : Int64 × Int64 := hm (ha (ha (ha (ha (lN 5, lN (4 + n)) o) (lN lf)) ra) rb) f n
/-- 4 bits of a long, from bit k on -/
def dg4 (x : Int64) (k : Nat) : Nat := (shr6 x k).toInt32.toBitVec.toNat % 16
def d4 (v : Int64 × Int64) (k : Nat) : Nat := dg4 (if k < 16 then v.1 else v.2) (60 - 4 * (k % 16))
def lk (v : Int64 × Int64) : Nat → Nat
  | 0 => 0
  | n + 1 => lk v n + (15 - d4 v n)
def digs (v : Int64 × Int64) (k : Nat) : Nat := if k < 32 then d4 v k else if k = 32 then lk v 32 / 256 else if k = 33 then lk v 32 / 16 % 16 else lk v 32 % 16
theorem d4_lt (v : Int64 × Int64) (k : Nat) : d4 v k < 16 := Nat.mod_lt _ (by decide)
theorem lk_le (v : Int64 × Int64) : ∀ n, lk v n ≤ 15 * n
  | 0 => Nat.le_refl 0
  | n + 1 => by
    have h := lk_le v n
    show lk v n + (15 - d4 v n) ≤ 15 * (n + 1)
    omega
theorem digs_lt (v : Int64 × Int64) (k : Nat) : digs v k < 16 := by
  unfold digs
  have h := lk_le v 32
  have h2 := d4_lt v k
  split
  · exact h2
  · split
    · omega
    · split <;> omega
/-- rows: the pair at place ch; the first n of another -/
def setP (g : Nat → Int64) (ch : Nat) (v : Int64 × Int64) : Nat → Int64 := vp_updL (vp_updL g (2 * ch) v.1) (2 * ch + 1) v.2
def mkT {α : Type} (g : Nat → α) (n : Nat) (f : Nat → α) : Nat → α := fun k => if k < n then g k else f k
def pr (E : Nat → Int64 × Int64) : Nat → Int64 := fun j => if j % 2 = 0 then (E (j / 2)).1 else (E (j / 2)).2
theorem setP_1 (g : Nat → Int64) (ch : Nat) (v : Int64 × Int64) : setP g ch v (2 * ch) = v.1 := by
  unfold setP vp_updL
  simp
theorem setP_2 (g : Nat → Int64) (ch : Nat) (v : Int64 × Int64) : setP g ch v (2 * ch + 1) = v.2 := by
  unfold setP vp_updL
  simp
theorem setP_n (g : Nat → Int64) (ch j : Nat) (v : Int64 × Int64) (h1 : j ≠ 2 * ch) (h2 : j ≠ 2 * ch + 1) : setP g ch v j = g j := by
  unfold setP vp_updL
  simp [h1, h2]
theorem setP_setP (g : Nat → Int64) (ch : Nat) (v w : Int64 × Int64) : setP (setP g ch v) ch w = setP g ch w := by
  funext j
  by_cases h1 : j = 2 * ch
  · subst h1; rw [setP_1, setP_1]
  · by_cases h2 : j = 2 * ch + 1
    · subst h2; rw [setP_2, setP_2]
    · rw [setP_n _ _ _ _ h1 h2, setP_n _ _ _ _ h1 h2, setP_n _ _ _ _ h1 h2]
theorem setP_self (g : Nat → Int64) (ch : Nat) : setP g ch (g (2 * ch), g (2 * ch + 1)) = g := by
  funext j
  by_cases h1 : j = 2 * ch
  · subst h1; rw [setP_1]
  · by_cases h2 : j = 2 * ch + 1
    · subst h2; rw [setP_2]
    · rw [setP_n _ _ _ _ h1 h2]
theorem mkT_0 {α : Type} (g f : Nat → α) : mkT g 0 f = f := by
  funext k; simp [mkT]
theorem mkT_lt {α : Type} {g f : Nat → α} {n k : Nat} (h : k < n) : mkT g n f k = g k := by simp [mkT, h]
theorem mkT_ge {α : Type} {g f : Nat → α} {n k : Nat} (h : n ≤ k) : mkT g n f k = f k := by simp [mkT, Nat.not_lt.mpr h]
theorem mkT_upd (g f : Nat → Int32) (n : Nat) : upd (mkT g n f) n (g n) = mkT g (n + 1) f := by
  funext k
  by_cases h : k = n
  · subst h; rw [pk_us, mkT_lt (Nat.lt_succ_self _)]
  · rw [pk_un h]
    by_cases h2 : k < n
    · rw [mkT_lt h2, mkT_lt (by omega)]
    · rw [mkT_ge (by omega), mkT_ge (by omega)]
theorem mkT_updL (g f : Nat → Int64) (n : Nat) : vp_updL (mkT g n f) n (g n) = mkT g (n + 1) f := by
  funext k
  by_cases h : k = n
  · subst h; rw [pk_uLs, mkT_lt (Nat.lt_succ_self _)]
  · rw [pk_uLn h]
    by_cases h2 : k < n
    · rw [mkT_lt h2, mkT_lt (by omega)]
    · rw [mkT_ge (by omega), mkT_ge (by omega)]
theorem pr_1 (E : Nat → Int64 × Int64) (n : Nat) : pr E (2 * n) = (E n).1 := by
  have h1 : 2 * n % 2 = 0 := by omega
  have h2 : 2 * n / 2 = n := by omega
  simp [pr, h1, h2]
theorem pr_2 (E : Nat → Int64 × Int64) (n : Nat) : pr E (2 * n + 1) = (E n).2 := by
  have h1 : (2 * n + 1) % 2 = 1 := by omega
  have h2 : (2 * n + 1) / 2 = n := by omega
  simp [pr, h1, h2]
theorem mkT_setP (E : Nat → Int64 × Int64) (f : Nat → Int64) (n : Nat) : setP (mkT (pr E) (2 * n) f) n (E n) = mkT (pr E) (2 * (n + 1)) f := by
  have h : 2 * (n + 1) = 2 * n + 1 + 1 := by omega
  rw [h, ← mkT_updL, ← mkT_updL, pr_1, pr_2]
  rfl
theorem hm_congr {v : Int64 × Int64} {f g : Nat → Int64} : ∀ n, (∀ k, k < n → f k = g k) → hm v f n = hm v g n
  | 0, _ => rfl
  | n + 1, h => by
    show ha (hm v f n) (f n) = ha (hm v g n) (g n)
    rw [hm_congr n (fun k hk => h k (by omega)), h n (Nat.lt_succ_self _)]
theorem hm_pr (v : Int64 × Int64) (E : Nat → Int64 × Int64) : ∀ n, hm v (pr E) (2 * n) = hp v E n
  | 0 => rfl
  | n + 1 => by
    have h : 2 * (n + 1) = 2 * n + 1 + 1 := by omega
    rw [h]
    show ha (ha (hm v (pr E) (2 * n)) (pr E (2 * n))) (pr E (2 * n + 1)) = ha (ha (hp v E n) (E n).1) (E n).2
    rw [hm_pr v E n, pr_1, pr_2]
theorem hm_2 (v : Int64 × Int64) (f : Nat → Int64) (n : Nat) : hm v f (2 * (n + 1)) = ha (ha (hm v f (2 * n)) (f (2 * n))) (f (2 * n + 1)) := by
  have h : 2 * (n + 1) = 2 * n + 1 + 1 := by omega
  rw [h]
  rfl
theorem hp_congr {v : Int64 × Int64} {E F : Nat → Int64 × Int64} : ∀ n, (∀ k, k < n → E k = F k) → hp v E n = hp v F n
  | 0, _ => rfl
  | n + 1, h => by
    show ha (ha (hp v E n) (E n).1) (E n).2 = ha (ha (hp v F n) (F n).1) (F n).2
    rw [hp_congr n (fun k hk => h k (by omega)), h n (Nat.lt_succ_self _)]
/-! comparisons of ints that are numbers -/
def bI (x : Bool) : Int32 := bif x then nI 1 else nI 0
theorem q_lt {a b : Nat} (ha : a < 2 ^ 31) (hb : b < 2 ^ 31) : (nI a < nI b) = (a < b) := propext (nI_ltI ha hb)
theorem q_le {a b : Nat} (ha : a < 2 ^ 31) (hb : b < 2 ^ 31) : (nI a ≤ nI b) = (a ≤ b) := propext (nI_leI ha hb)
theorem q_eq {a b : Nat} (ha : a < 2 ^ 31) (hb : b < 2 ^ 31) : (nI a = nI b) = (a = b) := propext (nI_eq ha hb)
theorem q_lt0 {a : Nat} (ha : a < 2 ^ 31) : (nI a < 0) = (a < 0) := q_lt (b := 0) ha (by decide)
theorem q_le0 {a : Nat} (ha : a < 2 ^ 31) : (nI a ≤ 0) = (a ≤ 0) := q_le (b := 0) ha (by decide)
theorem q_eq0 {a : Nat} (ha : a < 2 ^ 31) : (nI a = 0) = (a = 0) := q_eq (b := 0) ha (by decide)
theorem q_ge0 {a : Nat} (ha : a < 2 ^ 31) : (0 ≤ nI a) = (0 ≤ a) := q_le (a := 0) (by decide) ha
theorem q_gt0 {a : Nat} (ha : a < 2 ^ 31) : (0 < nI a) = (0 < a) := q_lt (a := 0) (by decide) ha
theorem q_b0 {x : Bool} : (bI x = 0) = (x = false) := by
  cases x
  · simp [bI]; rfl
  · simp [bI]; decide
theorem q_lceq {x y : Int64} : (lg_cmp x y = 0) = (x = y) := by
  unfold lg_cmp
  by_cases h1 : y < x
  · simp only [h1, if_true]
    have : x ≠ y := fun h => by subst h; exact absurd h1 (by simp)
    simp [this]
  · by_cases h2 : x = y
    · subst h2; simp
    · simp [h1, h2]
theorem st_sl : ∀ n, n < 32 → ((nI n &&& 31).toBitVec.smod 32).toNat = n := by decide +kernel
theorem st_shl1 {k : Nat} (h : k < 31) : nI 1 <<< (nI k &&& 31) = nI (2 ^ k) := by
  have h2 : 2 ^ k < 2 ^ 32 := Nat.pow_lt_pow_right (by decide) (by omega)
  rw [pk_shlN (n := 1) _ k (st_sl k (by omega)) (by omega), Nat.one_mul]
theorem st_shl {a k : Nat} (h : k < 31) (h2 : a * 2 ^ k < 2 ^ 32) : nI a <<< (nI k &&& 31) = nI (a * 2 ^ k) := pk_shlN _ k (st_sl k (by omega)) h2
theorem st_shr {a k : Nat} (ha : a < 2 ^ 31) (h : k < 32) : nI a >>> (nI k &&& 31) = nI (a / 2 ^ k) := pk_shrN ha _ k (st_sl k h)
theorem st_inc (a n : Nat) (h : Int32.ofInt (n : Int) = nI n) : nI a + Int32.ofInt (n : Int) = nI (a + n) := by
  rw [h]; exact nI_add a n
