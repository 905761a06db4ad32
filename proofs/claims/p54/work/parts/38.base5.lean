/-! the reference: places of rows, copies of planes -/
theorem kle {a b : Int64} {x y : Int} (ha : a.toInt = x) (hb : b.toInt = y) (h : a.toInt ≤ b.toInt) : x ≤ y := by omega
theorem klo {a b c : Int64} {x y z : Int} (ha : a.toInt = x) (hb : b.toInt = y) (hc : c.toInt = z) (h : a.toInt < b.toInt ∨ c.toInt < a.toInt) : x < y ∨ z < x := by omega
theorem i_rng (a : Int32) : -2147483648 ≤ a.toInt ∧ a.toInt ≤ 2147483647 := by
  have h1 := Int32.le_toInt a
  have h2 := Int32.toInt_lt a
  omega
theorem kl_addI {z : Int64} {a b : Int32} (e : z = a.toInt64 + b.toInt64) : z.toInt = a.toInt + b.toInt := by
  have h1 := i_rng a
  have h2 := i_rng b
  rw [e, Int64.toInt_add, i_64, i_64]
  show Int.bmod (a.toInt + b.toInt) 18446744073709551616 = _
  unfold Int.bmod
  simp only
  split <;> omega
/-- the places k, m + k, 2 m + k, .. of a row -/
def pg (m k : Nat) (lo hi : Int) (f : Nat → Int32) : Prop := ∀ j : Nat, lo ≤ (f (m * j + k)).toInt ∧ (f (m * j + k)).toInt ≤ hi
theorem pg_upd {m k : Nat} {lo hi : Int} {f : Nat → Int32} {i : Nat} {v : Int32} (P : pg m k lo hi f) (h : ∀ j : Nat, m * j + k = i → lo ≤ v.toInt ∧ v.toInt ≤ hi) : pg m k lo hi (upd f i v) := by
  intro j
  unfold upd
  by_cases e : m * j + k = i
  · rw [if_pos e]; exact h j e
  · rw [if_neg e]; exact P j
theorem pg_at {m k : Nat} {lo hi : Int} {f : Nat → Int32} (P : pg m k lo hi f) {x : Int32} {i j : Nat} (e : x = f i) (h : i = m * j + k) : lo ≤ x.toInt ∧ x.toInt ≤ hi := by rw [e, h]; exact P j
/-- plane b of a row of planes of m becomes plane a, up to its place k -/
def cpR (m a b k : Nat) (f : Nat → Int32) : Nat → Int32 := fun i => if m * b ≤ i ∧ i < m * b + k then f (m * a + (i - m * b)) else f i
theorem cpR_z {m a b : Nat} {f : Nat → Int32} : cpR m a b 0 f = f := by
  funext i
  unfold cpR
  rw [if_neg (by omega)]
theorem cpR_s {m a b k : Nat} {f : Nat → Int32} (h : k < m) (hab : m * a + m ≤ m * b ∨ m * b + m ≤ m * a) : upd (cpR m a b k f) (m * b + k) (cpR m a b k f (m * a + k)) = cpR m a b (k + 1) f := by
  have e : cpR m a b k f (m * a + k) = f (m * a + k) := by
    unfold cpR
    rw [if_neg (by omega)]
  rw [e]
  funext i
  unfold upd
  by_cases h1 : i = m * b + k
  · rw [if_pos h1]
    unfold cpR
    rw [if_pos ⟨by omega, by omega⟩]
    have e2 : m * a + (i - m * b) = m * a + k := by omega
    rw [e2]
  · rw [if_neg h1]
    unfold cpR
    by_cases h2 : m * b ≤ i ∧ i < m * b + k
    · rw [if_pos h2, if_pos ⟨h2.1, by omega⟩]
    · rw [if_neg h2, if_neg (by omega)]
theorem cpR_at {m a b r : Nat} {f : Nat → Int32} (h : r < m) : cpR m a b m f (m * b + r) = f (m * a + r) := by
  unfold cpR
  rw [if_pos ⟨by omega, by omega⟩]
  have e2 : m * a + (m * b + r - m * b) = m * a + r := by omega
  rw [e2]
theorem cpR_ne {m a b i : Nat} {f : Nat → Int32} (h : i < m * b ∨ m * b + m ≤ i) : cpR m a b m f i = f i := by
  unfold cpR
  rw [if_neg (by omega)]
theorem rg_cpR {lo hi : Int} {m a b k : Nat} {f : Nat → Int32} (R : rg lo hi f) : rg lo hi (cpR m a b k f) := by
  intro i
  unfold cpR
  split
  · exact R _
  · exact R i
theorem pg_cpR {k a b : Nat} {lo hi : Int} {f : Nat → Int32} (P : pg 3 k lo hi f) (hk : k < 3) : pg 3 k lo hi (cpR 3 a b 3 f) := by
  intro j
  unfold cpR
  by_cases h : 3 * b ≤ 3 * j + k ∧ 3 * j + k < 3 * b + 3
  · rw [if_pos h]
    have e : 3 * a + (3 * j + k - 3 * b) = 3 * a + k := by omega
    rw [e]
    exact P a
  · rw [if_neg h]
    exact P j
/-- the voters of a plane want 0 .. 3 -/
def vr (p : Nat) (fv fw : Nat → Int32) : Prop := ∀ v : Nat, (v : Int) < (fv p).toInt → 0 ≤ (fw (80 * p + 8 * v)).toInt ∧ (fw (80 * p + 8 * v)).toInt ≤ 3
theorem vr_21 {p i : Nat} {fv fw : Nat → Int32} {x : Int32} (V : vr p fv fw) (R : rg 0 10 fv) (hp : p < 4) (hi : 320 ≤ i) : vr p fv (upd fw i x) := by
  intro v hv
  have h10 := (R p).2
  unfold upd
  rw [if_neg (by omega)]
  exact V v hv
theorem vr_20 {p : Nat} {fv fw : Nat → Int32} {x : Int32} (V : vr p fv fw) (hp : p < 4) : vr p (upd fv 4 x) fw := by
  intro v hv
  have e : upd fv 4 x p = fv p := by
    unfold upd
    rw [if_neg (by omega)]
  rw [e] at hv
  exact V v hv
theorem vr_4 {fv fw : Nat → Int32} : vr 4 (upd fv 4 0) fw := by
  intro v hv
  have e : upd fv 4 0 4 = 0 := by
    unfold upd
    rw [if_pos rfl]
  rw [e] at hv
  have : ((0 : Int32).toInt) = 0 := by decide
  omega
theorem vr_cp {p a b : Nat} {fv fw : Nat → Int32} (Va : vr a fv fw) (Vp : vr p fv fw) (R : rg 0 10 fv) : vr p (cpR 1 a b 1 fv) (cpR 80 a b 80 fw) := by
  intro v hv
  by_cases h : p = b
  · subst h
    have e := cpR_at (m := 1) (a := a) (b := p) (r := 0) (f := fv) (by omega)
    simp only [Nat.one_mul, Nat.add_zero] at e
    rw [e] at hv
    have h10 := (R a).2
    rw [cpR_at (by omega)]
    exact Va v hv
  · have e : cpR 1 a b 1 fv p = fv p := cpR_ne (by omega)
    rw [e] at hv
    have h10 := (R p).2
    rw [cpR_ne (by omega)]
    exact Vp v hv
/-- a voter more: the old ones want what they wanted, the new one wants x -/
theorem vr_new {fv fw g : Nat → Int32} {n : Int32} (V : vr 4 fv fw) (h0 : 0 ≤ (fv 4).toInt) (hn : n.toInt = (fv 4).toInt + 1) (hold : ∀ i : Nat, (i : Int) < 320 + 8 * (fv 4).toInt → g i = fw i) (hx : 0 ≤ (g (320 + 8 * (fv 4).toInt).toNat).toInt ∧ (g (320 + 8 * (fv 4).toInt).toNat).toInt ≤ 3) : vr 4 (upd fv 4 n) g := by
  intro v hv
  have e : upd fv 4 n 4 = n := by
    unfold upd
    rw [if_pos rfl]
  rw [e, hn] at hv
  by_cases h : (v : Int) < (fv 4).toInt
  · rw [hold _ (by omega)]
    exact V v h
  · have e2 : 80 * 4 + 8 * v = (320 + 8 * (fv 4).toInt).toNat := by omega
    rw [e2]
    exact hx
theorem t_shl16 {z v : Int32} (e : z = 1 <<< (v &&& 31)) (h : 0 ≤ v.toInt) (h2 : v.toInt ≤ 16) : 1 ≤ z.toInt ∧ z.toInt ≤ 65536 ∧ (v.toInt ≤ 15 → z.toInt ≤ 32768) := by
  have key : ∀ n : Nat, n < 17 → 1 ≤ (1 <<< (Int32.ofNat n &&& 31) : Int32).toInt ∧ (1 <<< (Int32.ofNat n &&& 31) : Int32).toInt ≤ 65536 ∧ (n ≤ 15 → (1 <<< (Int32.ofNat n &&& 31) : Int32).toInt ≤ 32768) := by decide
  have hv : v = Int32.ofNat v.toInt.toNat := by
    rw [i_eq]
    have := nI_toInt (n := v.toInt.toNat) (by omega)
    unfold nI at this
    rw [this]
    omega
  have k := key v.toInt.toNat (by omega)
  rw [← hv] at k
  subst e
  exact ⟨k.1, k.2.1, fun h => k.2.2 (by omega)⟩
theorem t_or16 {z a b : Int32} (e : z = a ||| b) (h : 0 ≤ a.toInt) (h' : a.toInt ≤ 65535) (k : 0 ≤ b.toInt) (k' : b.toInt ≤ 65535) : 0 ≤ z.toInt ∧ z.toInt ≤ 65535 := by
  obtain ⟨h1, -⟩ := b_nn h
  obtain ⟨k1, -⟩ := b_nn k
  have h3 : z.toBitVec.toNat < 2 ^ 16 := by
    rw [e]
    show (a.toBitVec ||| b.toBitVec).toNat < _
    rw [BitVec.toNat_or]
    exact Nat.or_lt_two_pow (by omega) (by omega)
  have h4 := b_of (a := z) (by omega)
  omega
theorem upd_fwd {f : Nat → Int32} {k : Nat} (h : 0 ≤ (f k).toInt ∧ (f k).toInt < 12) : 0 < (upd f k (f k + 1) k).toInt := by
  have e : upd f k (f k + 1) k = f k + 1 := pk_us
  have t := t_add (z := upd f k (f k + 1) k) (x := (f k).toInt) (y := 1) e rfl rfl (by omega) (by omega)
  omega
theorem upd_ne {f : Nat → Int32} {i k : Nat} {v : Int32} (h : i ≠ k) : upd f k v i = f i := by
  unfold upd
  rw [if_neg h]
theorem upd_eq {f : Nat → Int32} {i k : Nat} {v : Int32} (h : i = k) : upd f k v i = v := by
  unfold upd
  rw [if_pos h]
def tmeas (b t a n : Int) : Int := (if b = 0 then 4000 else 0) + 2 * (n - a) + (if t = 0 then 0 else 1)
