abbrev U5 : Type := (Nat → Nat) × (Nat → Nat → Int32) × (Nat → Nat → Int64) × (Nat → Int32) × (Nat → Int64)
/-! numbers as integers, ranges of rows, loops in place -/
theorem t_bm {x : Int} (h1 : -2147483648 ≤ x) (h2 : x ≤ 2147483647) : x.bmod (2 ^ 32) = x := by
  show Int.bmod x 4294967296 = x
  unfold Int.bmod
  simp only
  split <;> omega
theorem t_add {z a b : Int32} {x y : Int} (e : z = a + b) (ha : a.toInt = x) (hb : b.toInt = y) (h1 : -2147483648 ≤ x + y) (h2 : x + y ≤ 2147483647) : z.toInt = x + y := by
  rw [e, Int32.toInt_add, ha, hb]
  exact t_bm h1 h2
theorem t_sub {z a b : Int32} {x y : Int} (e : z = a - b) (ha : a.toInt = x) (hb : b.toInt = y) (h1 : -2147483648 ≤ x - y) (h2 : x - y ≤ 2147483647) : z.toInt = x - y := by
  rw [e, Int32.toInt_sub, ha, hb]
  exact t_bm h1 h2
theorem t_mul {z a b : Int32} {x y : Int} (e : z = a * b) (ha : a.toInt = x) (hb : b.toInt = y) (h1 : -2147483648 ≤ x * y) (h2 : x * y ≤ 2147483647) : z.toInt = x * y := by
  rw [e, Int32.toInt_mul, ha, hb]
  exact t_bm h1 h2
theorem t_neg {z a : Int32} {x : Int} (e : z = -a) (ha : a.toInt = x) (h1 : -2147483648 ≤ -x) (h2 : -x ≤ 2147483647) : z.toInt = -x := by
  rw [e, Int32.toInt_neg, ha]
  exact t_bm h1 h2
theorem t_div {z a d : Int32} {x y : Int} (e : z = a / d) (ha : a.toInt = x) (hd : d.toInt = y) (h0 : 0 ≤ x) (hy : 0 < y) : z.toInt = x / y := by
  rw [e, Int32.toInt_div_of_ne_right _ _ (fun h => by rw [h] at hd; have : ((-1 : Int32)).toInt = -1 := by decide
                                                      omega), ha, hd, Int.tdiv_eq_ediv_of_nonneg h0]
theorem t_rem {z a d : Int32} {x y : Int} (e : z = a - a / d * d) (ha : a.toInt = x) (hd : d.toInt = y) (h0 : 0 ≤ x) (hx : x ≤ 2147483647) (hy : 0 < y) : z.toInt = x % y := by
  have hq : (a / d).toInt = x / y := t_div rfl ha hd h0 hy
  have h3 : 0 ≤ x / y := Int.ediv_nonneg h0 (Int.le_of_lt hy)
  have h4 : x / y * y ≤ x := Int.ediv_mul_le x (by omega)
  have h5 : 0 ≤ x / y * y := Int.mul_nonneg h3 (Int.le_of_lt hy)
  have hm : (a / d * d).toInt = x / y * y := t_mul rfl hq hd (by omega) (by omega)
  have hz : z.toInt = x - x / y * y := t_sub e ha hm (by omega) (by omega)
  rw [hz]
  have := Int.emod_add_ediv_mul x y
  omega
theorem t_max {z a b : Int32} (e : z = if a < b then b else a) : (z.toInt = a.toInt ∨ z.toInt = b.toInt) ∧ a.toInt ≤ z.toInt ∧ b.toInt ≤ z.toInt := by
  by_cases h : a < b
  · rw [if_pos h] at e; rw [i_lt] at h; subst e; omega
  · rw [if_neg h] at e; rw [i_lt] at h; subst e; omega
theorem t_min {z a b : Int32} (e : z = if b < a then b else a) : (z.toInt = a.toInt ∨ z.toInt = b.toInt) ∧ z.toInt ≤ a.toInt ∧ z.toInt ≤ b.toInt := by
  by_cases h : b < a
  · rw [if_pos h] at e; rw [i_lt] at h; subst e; omega
  · rw [if_neg h] at e; rw [i_lt] at h; subst e; omega
theorem c_lt {a b : Int32} {x y : Int} (ha : a.toInt = x) (hb : b.toInt = y) : a < b ↔ x < y := by rw [i_lt, ha, hb]
theorem c_le {a b : Int32} {x y : Int} (ha : a.toInt = x) (hb : b.toInt = y) : a ≤ b ↔ x ≤ y := by rw [i_le, ha, hb]
theorem c_eq {a b : Int32} {x y : Int} (ha : a.toInt = x) (hb : b.toInt = y) : a = b ↔ x = y := by rw [i_eq, ha, hb]
theorem c_ne {a b : Int32} {x y : Int} (ha : a.toInt = x) (hb : b.toInt = y) : ¬ a = b ↔ ¬ x = y := not_congr (c_eq ha hb)
theorem v_in {i : Int32} {x : Int} {n : Nat} (h : i.toInt = x) (h0 : 0 ≤ x) (h1 : x < n) : vp_in i n := vp_in_iff.mpr ⟨by omega, by omega⟩
/-- all numbers of a row lie between two -/
def rg (lo hi : Int) (f : Nat → Int32) : Prop := ∀ j : Nat, lo ≤ (f j).toInt ∧ (f j).toInt ≤ hi
theorem rg_upd {lo hi : Int} {f : Nat → Int32} {k : Nat} {v : Int32} (R : rg lo hi f) (h : lo ≤ v.toInt ∧ v.toInt ≤ hi) : rg lo hi (upd f k v) := by
  intro j
  unfold upd
  split
  · exact h
  · exact R j
theorem rg_cpy {lo hi : Int} {f g : Nat → Int32} {sp dp n : Nat} (R : rg lo hi f) (S : rg lo hi g) : rg lo hi (va_cpy f g sp dp n) := by
  intro j
  unfold va_cpy
  split
  · exact R _
  · exact S j
theorem rg_c {lo hi : Int} {v : Int32} (h : lo ≤ v.toInt ∧ v.toInt ≤ hi) : rg lo hi (fun _ => v) := fun _ => h
theorem rg_at {lo hi : Int} {f : Nat → Int32} (R : rg lo hi f) {x : Int32} {k : Nat} (e : x = f k) : lo ≤ x.toInt ∧ x.toInt ≤ hi := by rw [e]; exact R k
theorem lp_ind {α : Type} (P I : α → Prop) (μ : α → Nat) (step : ∀ a, I a → (∀ b, I b → μ b < μ a → P b) → P a) (a : α) (h : I a) : P a := by
  have key : ∀ (n : Nat) (a : α), I a → μ a < n → P a := by
    intro n
    induction n with
    | zero => intro a _ h; exact absurd h (Nat.not_lt_zero _)
    | succ n ih => intro a ha hn; exact step a ha (fun b hb hlt => ih b hb (Nat.lt_of_lt_of_le hlt (Nat.le_of_lt_succ hn)))
  exact key (μ a + 1) a h (Nat.lt_succ_self _)
theorem t_shl1 {z v : Int32} (e : z = 1 <<< (v &&& 31)) (h : 0 ≤ v.toInt) (h2 : v.toInt ≤ 10) : 1 ≤ z.toInt ∧ z.toInt ≤ 1024 ∧ (v.toInt ≤ 9 → z.toInt ≤ 512) := by
  have hv : v = 0 ∨ v = 1 ∨ v = 2 ∨ v = 3 ∨ v = 4 ∨ v = 5 ∨ v = 6 ∨ v = 7 ∨ v = 8 ∨ v = 9 ∨ v = 10 := by
    simp only [i_eq]
    have := (by decide : (0 : Int32).toInt = 0 ∧ (1 : Int32).toInt = 1 ∧ (2 : Int32).toInt = 2 ∧ (3 : Int32).toInt = 3 ∧ (4 : Int32).toInt = 4 ∧ (5 : Int32).toInt = 5 ∧ (6 : Int32).toInt = 6 ∧ (7 : Int32).toInt = 7 ∧ (8 : Int32).toInt = 8 ∧ (9 : Int32).toInt = 9 ∧ (10 : Int32).toInt = 10)
    omega
  subst e
  rcases hv with rfl | rfl | rfl | rfl | rfl | rfl | rfl | rfl | rfl | rfl | rfl <;> decide
theorem tn {x : Int32} {a : Int} (h : x.toInt = a) : x.toNatClampNeg = a.toNat := by rw [← h]; rfl
theorem upd_back (f : Nat → Int32) (k : Nat) : upd (upd f k (f k + 1)) k (upd f k (f k + 1) k - 1) = f := by
  funext j
  unfold upd
  by_cases h : j = k
  · subst h
    simp
  · simp [h]
