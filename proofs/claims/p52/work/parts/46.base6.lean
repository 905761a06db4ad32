/-! the reference: voters' sides, SORTS that suit, COLUMNS that stand -/
theorem vr_at {fv fw : Nat → Int32} (V : vr 0 fv fw) {x : Int32} {i n : Nat} (e : x = fw i) (hi : i = 8 * n) (hn : (n : Int) < (fv 0).toInt) : 0 ≤ x.toInt ∧ x.toInt ≤ 3 := by
  have h := V n hn
  rw [e, hi]
  simpa using h
def sdm (w l : Int32) : Int32 := if w.toInt < 2 then w else if l.toInt = 2 then w - 2 else if w.toInt = 2 then l else 1 - l
theorem sdm_1 {w l : Int32} (h : w.toInt < 2) : w = sdm w l := by unfold sdm; rw [if_pos h]
theorem sdm_2 {z w l : Int32} (h : 2 ≤ w.toInt) (h2 : l.toInt = 2) (e : z = w - 2) : z = sdm w l := by unfold sdm; rw [if_neg (by omega), if_pos h2]; exact e
theorem sdm_3 {w l : Int32} (h : w.toInt = 2) (h2 : ¬ l.toInt = 2) : l = sdm w l := by unfold sdm; rw [if_neg (by omega), if_neg h2, if_pos h]
theorem sdm_4 {z w l : Int32} (h : 2 < w.toInt) (h2 : ¬ l.toInt = 2) (e : z = 1 - l) : z = sdm w l := by unfold sdm; rw [if_neg (by omega), if_neg h2, if_neg (by omega)]; exact e
/-- the SORT s doesn't suit: there is none on the PILE, or it is too heavy -/
def sb (p q : Nat → Int32) (c : Int) (w : Int) (s : Nat) : Prop := (p (5 * w + s).toNat).toInt = 0 ∨ c < (q (3 * s)).toInt
def nsb (p q : Nat → Int32) (c w : Int) (n : Nat) : Prop := ∀ s : Nat, s < n → sb p q c w s
def sbI (p q : Nat → Int32) (c w : Int) (b : Int) (k n : Nat) : Prop := (b = -1 ∧ nsb p q c w k) ∨ (0 ≤ b ∧ ¬ nsb p q c w n)
theorem sbI_0 {p q : Nat → Int32} {c w : Int} {n : Nat} : sbI p q c w (-1) 0 n := Or.inl ⟨rfl, fun s h => absurd h (Nat.not_lt_zero s)⟩
theorem sbI_skip {p q : Nat → Int32} {c w b : Int} {k k' n : Nat} (h : sbI p q c w b k n) (hk : k' = k + 1) (hb : sb p q c w k) : sbI p q c w b k' n := by
  rcases h with ⟨h1, h2⟩ | h
  · refine Or.inl ⟨h1, fun s hs => ?_⟩
    by_cases e : s = k
    · rw [e]; exact hb
    · exact h2 s (by omega)
  · exact Or.inr h
theorem sbI_keep {p q : Nat → Int32} {c w b : Int} {k k' n : Nat} (h : sbI p q c w b k n) (hb : ¬ b = -1) : sbI p q c w b k' n := by
  rcases h with ⟨h1, h2⟩ | h
  · exact absurd h1 hb
  · exact Or.inr h
theorem sbI_take {p q : Nat → Int32} {c w b : Int} {k k' n : Nat} (hk : k < n) (hg : ¬ sb p q c w k) (h0 : 0 ≤ b) : sbI p q c w b k' n := Or.inr ⟨h0, fun h => hg (h k hk)⟩
theorem sbI_end {p q : Nat → Int32} {c w b : Int} {k n : Nat} (h : sbI p q c w b k n) (hk : n ≤ k) : (b = -1 ∧ nsb p q c w n) ∨ (0 ≤ b ∧ ¬ nsb p q c w n) := by
  rcases h with ⟨h1, h2⟩ | h
  · exact Or.inl ⟨h1, fun s hs => h2 s (by omega)⟩
  · exact Or.inr h
theorem sb_1 {p q : Nat → Int32} {c w : Int} {s : Nat} {k : Int} (hs : k = s) (h : (p (5 * w + k).toNat).toInt = 0) : sb p q c w s := Or.inl (by rw [← hs]; exact h)
theorem sb_2 {p q : Nat → Int32} {c w : Int} {s : Nat} {k : Int} (hs : k = s) (h : c < (q (3 * k).toNat).toInt) : sb p q c w s := by
  refine Or.inr ?_
  have e : 3 * s = (3 * k).toNat := by omega
  rw [e]
  exact h
theorem sb_n {p q : Nat → Int32} {c w : Int} {s : Nat} {k : Int} (hs : k = s) (h1 : ¬ (p (5 * w + k).toNat).toInt = 0) (h2 : (q (3 * k).toNat).toInt ≤ c) : ¬ sb p q c w s := by
  rintro (h | h)
  · exact h1 (by rw [hs]; exact h)
  · have e : 3 * s = (3 * k).toNat := by omega
    rw [e] at h
    omega
/-- every listed COLUMN has a STONE -/
def cr (n : Int) (f g : Nat → Int32) : Prop := ∀ k : Nat, (k : Int) < n → 0 < (f (g k).toInt.toNat).toInt
theorem cr_0 {f g : Nat → Int32} : cr 0 f g := fun k h => absurd h (by omega)
theorem cr_s {n n' a : Int} {f g : Nat → Int32} {i : Nat} {v : Int32} (h : cr n f g) (hn : n' = n + 1) (h0 : 0 ≤ n) (hi : (i : Int) = n) (ha : 0 < (f a.toNat).toInt) (hv : v.toInt = a) : cr n' f (upd g i v) := by
  intro k hk
  by_cases e : k = i
  · rw [upd_eq e, hv]; exact ha
  · rw [upd_ne e]; exact h k (by omega)
theorem cr_at {n : Int} {f g : Nat → Int32} (h : cr n f g) {x y : Int32} {i j : Nat} (ex : x = g i) (ey : y = f j) (hj : j = x.toInt.toNat) (hi : (i : Int) < n) : 0 < y.toInt := by
  rw [ey, hj, ex]
  exact h i hi
