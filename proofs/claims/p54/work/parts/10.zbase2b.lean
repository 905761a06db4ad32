theorem b_nn {a : Int32} (h : 0 ≤ a.toInt) : a.toInt = (a.toBitVec.toNat : Int) ∧ a.toBitVec.toNat < 2147483648 := by
  have h1 : a.toBitVec.toInt = a.toInt := rfl
  have h2 := BitVec.toInt_eq_toNat_cond a.toBitVec
  have h3 := a.toBitVec.isLt
  rw [h1] at h2
  split at h2 <;> omega
theorem b_of {a : Int32} (h : a.toBitVec.toNat < 2147483648) : a.toInt = (a.toBitVec.toNat : Int) := by
  have h1 : a.toBitVec.toInt = a.toInt := rfl
  have h2 := BitVec.toInt_eq_toNat_cond a.toBitVec
  rw [h1] at h2
  split at h2 <;> omega
theorem t_and1 {z a b : Int32} (e : z = a &&& b) (h : 0 ≤ a.toInt) : 0 ≤ z.toInt ∧ z.toInt ≤ a.toInt := by
  obtain ⟨h1, h2⟩ := b_nn h
  have h3 : z.toBitVec.toNat ≤ a.toBitVec.toNat := by
    rw [e]
    show (a.toBitVec &&& b.toBitVec).toNat ≤ _
    rw [BitVec.toNat_and]
    exact Nat.and_le_left
  have h4 := b_of (a := z) (by omega)
  omega
theorem t_and2 {z a b : Int32} (e : z = a &&& b) (h : 0 ≤ b.toInt) : 0 ≤ z.toInt ∧ z.toInt ≤ b.toInt := by
  obtain ⟨h1, h2⟩ := b_nn h
  have h3 : z.toBitVec.toNat ≤ b.toBitVec.toNat := by
    rw [e]
    show (a.toBitVec &&& b.toBitVec).toNat ≤ _
    rw [BitVec.toNat_and]
    exact Nat.and_le_right
  have h4 := b_of (a := z) (by omega)
  omega
theorem t_or {z a b : Int32} (e : z = a ||| b) (h : 0 ≤ a.toInt) (h' : a.toInt ≤ 1023) (k : 0 ≤ b.toInt) (k' : b.toInt ≤ 1023) : 0 ≤ z.toInt ∧ z.toInt ≤ 1023 := by
  obtain ⟨h1, -⟩ := b_nn h
  obtain ⟨k1, -⟩ := b_nn k
  have h3 : z.toBitVec.toNat < 2 ^ 10 := by
    rw [e]
    show (a.toBitVec ||| b.toBitVec).toNat < _
    rw [BitVec.toNat_or]
    exact Nat.or_lt_two_pow (by omega) (by omega)
  have h4 := b_of (a := z) (by omega)
  omega
