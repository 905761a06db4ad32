set_option maxRecDepth 100000 in
theorem sw_law (x : Int32) : x &&& 63 = 0 ∨ x &&& 63 = 1 ∨ x &&& 63 = 2 ∨ x &&& 63 = 3 ∨ x &&& 63 = 4 ∨ x &&& 63 = 5 ∨ x &&& 63 = 6 ∨ x &&& 63 = 7 ∨ x &&& 63 = 8 ∨ x &&& 63 = 9 ∨ x &&& 63 = 10 ∨ x &&& 63 = 11 ∨ x &&& 63 = 12 ∨ x &&& 63 = 13 ∨ x &&& 63 = 14 ∨ x &&& 63 = 15 ∨ x &&& 63 = 16 ∨ x &&& 63 = 17 ∨ x &&& 63 = 18 ∨ x &&& 63 = 19 ∨ x &&& 63 = 20 ∨ x &&& 63 = 21 ∨ x &&& 63 = 22 ∨ x &&& 63 = 23 ∨ x &&& 63 = 24 ∨ x &&& 63 = 25 ∨ x &&& 63 = 26 ∨ x &&& 63 = 27 ∨ x &&& 63 = 28 ∨ x &&& 63 = 29 ∨ x &&& 63 = 30 ∨ x &&& 63 = 31 ∨ x &&& 63 = 32 ∨ x &&& 63 = 33 ∨ x &&& 63 = 34 ∨ x &&& 63 = 35 ∨ x &&& 63 = 36 ∨ x &&& 63 = 37 ∨ x &&& 63 = 38 ∨ x &&& 63 = 39 ∨ x &&& 63 = 40 ∨ x &&& 63 = 41 ∨ x &&& 63 = 42 ∨ x &&& 63 = 43 ∨ x &&& 63 = 44 ∨ x &&& 63 = 45 ∨ x &&& 63 = 46 ∨ x &&& 63 = 47 ∨ x &&& 63 = 48 ∨ x &&& 63 = 49 ∨ x &&& 63 = 50 ∨ x &&& 63 = 51 ∨ x &&& 63 = 52 ∨ 52 < (x &&& 63).toInt := by
  obtain ⟨j, hj, e⟩ := pk_andE x (m := 63) 6 (by decide)
  rw [e]
  match j, hj with
  | 0, _ => exact Or.inl rfl
  | 1, _ => exact Or.inr (Or.inl rfl)
  | 2, _ => exact Or.inr (Or.inr (Or.inl rfl))
  | 3, _ => exact Or.inr (Or.inr (Or.inr (Or.inl rfl)))
  | 4, _ => exact Or.inr (Or.inr (Or.inr (Or.inr (Or.inl rfl))))
  | 5, _ => exact Or.inr (Or.inr (Or.inr (Or.inr (Or.inr (Or.inl rfl)))))
  | 6, _ => exact Or.inr (Or.inr (Or.inr (Or.inr (Or.inr (Or.inr (Or.inl rfl))))))
  | 7, _ => exact Or.inr (Or.inr (Or.inr (Or.inr (Or.inr (Or.inr (Or.inr (Or.inl rfl)))))))
  | 8, _ => exact Or.inr (Or.inr (Or.inr (Or.inr (Or.inr (Or.inr (Or.inr (Or.inr (Or.inl rfl))))))))
  | 9, _ => exact Or.inr (Or.inr (Or.inr (Or.inr (Or.inr (Or.inr (Or.inr (Or.inr (Or.inr (Or.inl rfl)))))))))
  | 10, _ => exact Or.inr (Or.inr (Or.inr (Or.inr (Or.inr (Or.inr (Or.inr (Or.inr (Or.inr (Or.inr (Or.inl rfl))))))))))
  | 11, _ => exact Or.inr (Or.inr (Or.inr (Or.inr (Or.inr (Or.inr (Or.inr (Or.inr (Or.inr (Or.inr (Or.inr (Or.inl rfl)))))))))))
  | 12, _ => exact Or.inr (Or.inr (Or.inr (Or.inr (Or.inr (Or.inr (Or.inr (Or.inr (Or.inr (Or.inr (Or.inr (Or.inr (Or.inl rfl))))))))))))
  | 13, _ => exact Or.inr (Or.inr (Or.inr (Or.inr (Or.inr (Or.inr (Or.inr (Or.inr (Or.inr (Or.inr (Or.inr (Or.inr (Or.inr (Or.inl rfl)))))))))))))
  | 14, _ => exact Or.inr (Or.inr (Or.inr (Or.inr (Or.inr (Or.inr (Or.inr (Or.inr (Or.inr (Or.inr (Or.inr (Or.inr (Or.inr (Or.inr (Or.inl rfl))))))))))))))
  | 15, _ => exact Or.inr (Or.inr (Or.inr (Or.inr (Or.inr (Or.inr (Or.inr (Or.inr (Or.inr (Or.inr (Or.inr (Or.inr (Or.inr (Or.inr (Or.inr (Or.inl rfl)))))))))))))))
  | 16, _ => exact Or.inr (Or.inr (Or.inr (Or.inr (Or.inr (Or.inr (Or.inr (Or.inr (Or.inr (Or.inr (Or.inr (Or.inr (Or.inr (Or.inr (Or.inr (Or.inr (Or.inl rfl))))))))))))))))
  | 17, _ => exact Or.inr (Or.inr (Or.inr (Or.inr (Or.inr (Or.inr (Or.inr (Or.inr (Or.inr (Or.inr (Or.inr (Or.inr (Or.inr (Or.inr (Or.inr (Or.inr (Or.inr (Or.inl rfl)))))))))))))))))
  | 18, _ => exact Or.inr (Or.inr (Or.inr (Or.inr (Or.inr (Or.inr (Or.inr (Or.inr (Or.inr (Or.inr (Or.inr (Or.inr (Or.inr (Or.inr (Or.inr (Or.inr (Or.inr (Or.inr (Or.inl rfl))))))))))))))))))
  | 19, _ => exact Or.inr (Or.inr (Or.inr (Or.inr (Or.inr (Or.inr (Or.inr (Or.inr (Or.inr (Or.inr (Or.inr (Or.inr (Or.inr (Or.inr (Or.inr (Or.inr (Or.inr (Or.inr (Or.inr (Or.inl rfl)))))))))))))))))))
  | 20, _ => exact Or.inr (Or.inr (Or.inr (Or.inr (Or.inr (Or.inr (Or.inr (Or.inr (Or.inr (Or.inr (Or.inr (Or.inr (Or.inr (Or.inr (Or.inr (Or.inr (Or.inr (Or.inr (Or.inr (Or.inr (Or.inl rfl))))))))))))))))))))
  | 21, _ => exact Or.inr (Or.inr (Or.inr (Or.inr (Or.inr (Or.inr (Or.inr (Or.inr (Or.inr (Or.inr (Or.inr (Or.inr (Or.inr (Or.inr (Or.inr (Or.inr (Or.inr (Or.inr (Or.inr (Or.inr (Or.inr (Or.inl rfl)))))))))))))))))))))
  | 22, _ => exact Or.inr (Or.inr (Or.inr (Or.inr (Or.inr (Or.inr (Or.inr (Or.inr (Or.inr (Or.inr (Or.inr (Or.inr (Or.inr (Or.inr (Or.inr (Or.inr (Or.inr (Or.inr (Or.inr (Or.inr (Or.inr (Or.inr (Or.inl rfl))))))))))))))))))))))
  | 23, _ => exact Or.inr (Or.inr (Or.inr (Or.inr (Or.inr (Or.inr (Or.inr (Or.inr (Or.inr (Or.inr (Or.inr (Or.inr (Or.inr (Or.inr (Or.inr (Or.inr (Or.inr (Or.inr (Or.inr (Or.inr (Or.inr (Or.inr (Or.inr (Or.inl rfl)))))))))))))))))))))))
  | 24, _ => exact Or.inr (Or.inr (Or.inr (Or.inr (Or.inr (Or.inr (Or.inr (Or.inr (Or.inr (Or.inr (Or.inr (Or.inr (Or.inr (Or.inr (Or.inr (Or.inr (Or.inr (Or.inr (Or.inr (Or.inr (Or.inr (Or.inr (Or.inr (Or.inr (Or.inl rfl))))))))))))))))))))))))
  | 25, _ => exact Or.inr (Or.inr (Or.inr (Or.inr (Or.inr (Or.inr (Or.inr (Or.inr (Or.inr (Or.inr (Or.inr (Or.inr (Or.inr (Or.inr (Or.inr (Or.inr (Or.inr (Or.inr (Or.inr (Or.inr (Or.inr (Or.inr (Or.inr (Or.inr (Or.inr (Or.inl rfl)))))))))))))))))))))))))
  | 26, _ => exact Or.inr (Or.inr (Or.inr (Or.inr (Or.inr (Or.inr (Or.inr (Or.inr (Or.inr (Or.inr (Or.inr (Or.inr (Or.inr (Or.inr (Or.inr (Or.inr (Or.inr (Or.inr (Or.inr (Or.inr (Or.inr (Or.inr (Or.inr (Or.inr (Or.inr (Or.inr (Or.inl rfl))))))))))))))))))))))))))
  | 27, _ => exact Or.inr (Or.inr (Or.inr (Or.inr (Or.inr (Or.inr (Or.inr (Or.inr (Or.inr (Or.inr (Or.inr (Or.inr (Or.inr (Or.inr (Or.inr (Or.inr (Or.inr (Or.inr (Or.inr (Or.inr (Or.inr (Or.inr (Or.inr (Or.inr (Or.inr (Or.inr (Or.inr (Or.inl rfl)))))))))))))))))))))))))))
  | 28, _ => exact Or.inr (Or.inr (Or.inr (Or.inr (Or.inr (Or.inr (Or.inr (Or.inr (Or.inr (Or.inr (Or.inr (Or.inr (Or.inr (Or.inr (Or.inr (Or.inr (Or.inr (Or.inr (Or.inr (Or.inr (Or.inr (Or.inr (Or.inr (Or.inr (Or.inr (Or.inr (Or.inr (Or.inr (Or.inl rfl))))))))))))))))))))))))))))
  | 29, _ => exact Or.inr (Or.inr (Or.inr (Or.inr (Or.inr (Or.inr (Or.inr (Or.inr (Or.inr (Or.inr (Or.inr (Or.inr (Or.inr (Or.inr (Or.inr (Or.inr (Or.inr (Or.inr (Or.inr (Or.inr (Or.inr (Or.inr (Or.inr (Or.inr (Or.inr (Or.inr (Or.inr (Or.inr (Or.inr (Or.inl rfl)))))))))))))))))))))))))))))
  | 30, _ => exact Or.inr (Or.inr (Or.inr (Or.inr (Or.inr (Or.inr (Or.inr (Or.inr (Or.inr (Or.inr (Or.inr (Or.inr (Or.inr (Or.inr (Or.inr (Or.inr (Or.inr (Or.inr (Or.inr (Or.inr (Or.inr (Or.inr (Or.inr (Or.inr (Or.inr (Or.inr (Or.inr (Or.inr (Or.inr (Or.inr (Or.inl rfl))))))))))))))))))))))))))))))
  | 31, _ => exact Or.inr (Or.inr (Or.inr (Or.inr (Or.inr (Or.inr (Or.inr (Or.inr (Or.inr (Or.inr (Or.inr (Or.inr (Or.inr (Or.inr (Or.inr (Or.inr (Or.inr (Or.inr (Or.inr (Or.inr (Or.inr (Or.inr (Or.inr (Or.inr (Or.inr (Or.inr (Or.inr (Or.inr (Or.inr (Or.inr (Or.inr (Or.inl rfl)))))))))))))))))))))))))))))))
  | 32, _ => exact Or.inr (Or.inr (Or.inr (Or.inr (Or.inr (Or.inr (Or.inr (Or.inr (Or.inr (Or.inr (Or.inr (Or.inr (Or.inr (Or.inr (Or.inr (Or.inr (Or.inr (Or.inr (Or.inr (Or.inr (Or.inr (Or.inr (Or.inr (Or.inr (Or.inr (Or.inr (Or.inr (Or.inr (Or.inr (Or.inr (Or.inr (Or.inr (Or.inl rfl))))))))))))))))))))))))))))))))
  | 33, _ => exact Or.inr (Or.inr (Or.inr (Or.inr (Or.inr (Or.inr (Or.inr (Or.inr (Or.inr (Or.inr (Or.inr (Or.inr (Or.inr (Or.inr (Or.inr (Or.inr (Or.inr (Or.inr (Or.inr (Or.inr (Or.inr (Or.inr (Or.inr (Or.inr (Or.inr (Or.inr (Or.inr (Or.inr (Or.inr (Or.inr (Or.inr (Or.inr (Or.inr (Or.inl rfl)))))))))))))))))))))))))))))))))
  | 34, _ => exact Or.inr (Or.inr (Or.inr (Or.inr (Or.inr (Or.inr (Or.inr (Or.inr (Or.inr (Or.inr (Or.inr (Or.inr (Or.inr (Or.inr (Or.inr (Or.inr (Or.inr (Or.inr (Or.inr (Or.inr (Or.inr (Or.inr (Or.inr (Or.inr (Or.inr (Or.inr (Or.inr (Or.inr (Or.inr (Or.inr (Or.inr (Or.inr (Or.inr (Or.inr (Or.inl rfl))))))))))))))))))))))))))))))))))
  | 35, _ => exact Or.inr (Or.inr (Or.inr (Or.inr (Or.inr (Or.inr (Or.inr (Or.inr (Or.inr (Or.inr (Or.inr (Or.inr (Or.inr (Or.inr (Or.inr (Or.inr (Or.inr (Or.inr (Or.inr (Or.inr (Or.inr (Or.inr (Or.inr (Or.inr (Or.inr (Or.inr (Or.inr (Or.inr (Or.inr (Or.inr (Or.inr (Or.inr (Or.inr (Or.inr (Or.inr (Or.inl rfl)))))))))))))))))))))))))))))))))))
  | 36, _ => exact Or.inr (Or.inr (Or.inr (Or.inr (Or.inr (Or.inr (Or.inr (Or.inr (Or.inr (Or.inr (Or.inr (Or.inr (Or.inr (Or.inr (Or.inr (Or.inr (Or.inr (Or.inr (Or.inr (Or.inr (Or.inr (Or.inr (Or.inr (Or.inr (Or.inr (Or.inr (Or.inr (Or.inr (Or.inr (Or.inr (Or.inr (Or.inr (Or.inr (Or.inr (Or.inr (Or.inr (Or.inl rfl))))))))))))))))))))))))))))))))))))
  | 37, _ => exact Or.inr (Or.inr (Or.inr (Or.inr (Or.inr (Or.inr (Or.inr (Or.inr (Or.inr (Or.inr (Or.inr (Or.inr (Or.inr (Or.inr (Or.inr (Or.inr (Or.inr (Or.inr (Or.inr (Or.inr (Or.inr (Or.inr (Or.inr (Or.inr (Or.inr (Or.inr (Or.inr (Or.inr (Or.inr (Or.inr (Or.inr (Or.inr (Or.inr (Or.inr (Or.inr (Or.inr (Or.inr (Or.inl rfl)))))))))))))))))))))))))))))))))))))
  | 38, _ => exact Or.inr (Or.inr (Or.inr (Or.inr (Or.inr (Or.inr (Or.inr (Or.inr (Or.inr (Or.inr (Or.inr (Or.inr (Or.inr (Or.inr (Or.inr (Or.inr (Or.inr (Or.inr (Or.inr (Or.inr (Or.inr (Or.inr (Or.inr (Or.inr (Or.inr (Or.inr (Or.inr (Or.inr (Or.inr (Or.inr (Or.inr (Or.inr (Or.inr (Or.inr (Or.inr (Or.inr (Or.inr (Or.inr (Or.inl rfl))))))))))))))))))))))))))))))))))))))
  | 39, _ => exact Or.inr (Or.inr (Or.inr (Or.inr (Or.inr (Or.inr (Or.inr (Or.inr (Or.inr (Or.inr (Or.inr (Or.inr (Or.inr (Or.inr (Or.inr (Or.inr (Or.inr (Or.inr (Or.inr (Or.inr (Or.inr (Or.inr (Or.inr (Or.inr (Or.inr (Or.inr (Or.inr (Or.inr (Or.inr (Or.inr (Or.inr (Or.inr (Or.inr (Or.inr (Or.inr (Or.inr (Or.inr (Or.inr (Or.inr (Or.inl rfl)))))))))))))))))))))))))))))))))))))))
  | 40, _ => exact Or.inr (Or.inr (Or.inr (Or.inr (Or.inr (Or.inr (Or.inr (Or.inr (Or.inr (Or.inr (Or.inr (Or.inr (Or.inr (Or.inr (Or.inr (Or.inr (Or.inr (Or.inr (Or.inr (Or.inr (Or.inr (Or.inr (Or.inr (Or.inr (Or.inr (Or.inr (Or.inr (Or.inr (Or.inr (Or.inr (Or.inr (Or.inr (Or.inr (Or.inr (Or.inr (Or.inr (Or.inr (Or.inr (Or.inr (Or.inr (Or.inl rfl))))))))))))))))))))))))))))))))))))))))
  | 41, _ => exact Or.inr (Or.inr (Or.inr (Or.inr (Or.inr (Or.inr (Or.inr (Or.inr (Or.inr (Or.inr (Or.inr (Or.inr (Or.inr (Or.inr (Or.inr (Or.inr (Or.inr (Or.inr (Or.inr (Or.inr (Or.inr (Or.inr (Or.inr (Or.inr (Or.inr (Or.inr (Or.inr (Or.inr (Or.inr (Or.inr (Or.inr (Or.inr (Or.inr (Or.inr (Or.inr (Or.inr (Or.inr (Or.inr (Or.inr (Or.inr (Or.inr (Or.inl rfl)))))))))))))))))))))))))))))))))))))))))
  | 42, _ => exact Or.inr (Or.inr (Or.inr (Or.inr (Or.inr (Or.inr (Or.inr (Or.inr (Or.inr (Or.inr (Or.inr (Or.inr (Or.inr (Or.inr (Or.inr (Or.inr (Or.inr (Or.inr (Or.inr (Or.inr (Or.inr (Or.inr (Or.inr (Or.inr (Or.inr (Or.inr (Or.inr (Or.inr (Or.inr (Or.inr (Or.inr (Or.inr (Or.inr (Or.inr (Or.inr (Or.inr (Or.inr (Or.inr (Or.inr (Or.inr (Or.inr (Or.inr (Or.inl rfl))))))))))))))))))))))))))))))))))))))))))
  | 43, _ => exact Or.inr (Or.inr (Or.inr (Or.inr (Or.inr (Or.inr (Or.inr (Or.inr (Or.inr (Or.inr (Or.inr (Or.inr (Or.inr (Or.inr (Or.inr (Or.inr (Or.inr (Or.inr (Or.inr (Or.inr (Or.inr (Or.inr (Or.inr (Or.inr (Or.inr (Or.inr (Or.inr (Or.inr (Or.inr (Or.inr (Or.inr (Or.inr (Or.inr (Or.inr (Or.inr (Or.inr (Or.inr (Or.inr (Or.inr (Or.inr (Or.inr (Or.inr (Or.inr (Or.inl rfl)))))))))))))))))))))))))))))))))))))))))))
  | 44, _ => exact Or.inr (Or.inr (Or.inr (Or.inr (Or.inr (Or.inr (Or.inr (Or.inr (Or.inr (Or.inr (Or.inr (Or.inr (Or.inr (Or.inr (Or.inr (Or.inr (Or.inr (Or.inr (Or.inr (Or.inr (Or.inr (Or.inr (Or.inr (Or.inr (Or.inr (Or.inr (Or.inr (Or.inr (Or.inr (Or.inr (Or.inr (Or.inr (Or.inr (Or.inr (Or.inr (Or.inr (Or.inr (Or.inr (Or.inr (Or.inr (Or.inr (Or.inr (Or.inr (Or.inr (Or.inl rfl))))))))))))))))))))))))))))))))))))))))))))
  | 45, _ => exact Or.inr (Or.inr (Or.inr (Or.inr (Or.inr (Or.inr (Or.inr (Or.inr (Or.inr (Or.inr (Or.inr (Or.inr (Or.inr (Or.inr (Or.inr (Or.inr (Or.inr (Or.inr (Or.inr (Or.inr (Or.inr (Or.inr (Or.inr (Or.inr (Or.inr (Or.inr (Or.inr (Or.inr (Or.inr (Or.inr (Or.inr (Or.inr (Or.inr (Or.inr (Or.inr (Or.inr (Or.inr (Or.inr (Or.inr (Or.inr (Or.inr (Or.inr (Or.inr (Or.inr (Or.inr (Or.inl rfl)))))))))))))))))))))))))))))))))))))))))))))
  | 46, _ => exact Or.inr (Or.inr (Or.inr (Or.inr (Or.inr (Or.inr (Or.inr (Or.inr (Or.inr (Or.inr (Or.inr (Or.inr (Or.inr (Or.inr (Or.inr (Or.inr (Or.inr (Or.inr (Or.inr (Or.inr (Or.inr (Or.inr (Or.inr (Or.inr (Or.inr (Or.inr (Or.inr (Or.inr (Or.inr (Or.inr (Or.inr (Or.inr (Or.inr (Or.inr (Or.inr (Or.inr (Or.inr (Or.inr (Or.inr (Or.inr (Or.inr (Or.inr (Or.inr (Or.inr (Or.inr (Or.inr (Or.inl rfl))))))))))))))))))))))))))))))))))))))))))))))
  | 47, _ => exact Or.inr (Or.inr (Or.inr (Or.inr (Or.inr (Or.inr (Or.inr (Or.inr (Or.inr (Or.inr (Or.inr (Or.inr (Or.inr (Or.inr (Or.inr (Or.inr (Or.inr (Or.inr (Or.inr (Or.inr (Or.inr (Or.inr (Or.inr (Or.inr (Or.inr (Or.inr (Or.inr (Or.inr (Or.inr (Or.inr (Or.inr (Or.inr (Or.inr (Or.inr (Or.inr (Or.inr (Or.inr (Or.inr (Or.inr (Or.inr (Or.inr (Or.inr (Or.inr (Or.inr (Or.inr (Or.inr (Or.inr (Or.inl rfl)))))))))))))))))))))))))))))))))))))))))))))))
  | 48, _ => exact Or.inr (Or.inr (Or.inr (Or.inr (Or.inr (Or.inr (Or.inr (Or.inr (Or.inr (Or.inr (Or.inr (Or.inr (Or.inr (Or.inr (Or.inr (Or.inr (Or.inr (Or.inr (Or.inr (Or.inr (Or.inr (Or.inr (Or.inr (Or.inr (Or.inr (Or.inr (Or.inr (Or.inr (Or.inr (Or.inr (Or.inr (Or.inr (Or.inr (Or.inr (Or.inr (Or.inr (Or.inr (Or.inr (Or.inr (Or.inr (Or.inr (Or.inr (Or.inr (Or.inr (Or.inr (Or.inr (Or.inr (Or.inr (Or.inl rfl))))))))))))))))))))))))))))))))))))))))))))))))
  | 49, _ => exact Or.inr (Or.inr (Or.inr (Or.inr (Or.inr (Or.inr (Or.inr (Or.inr (Or.inr (Or.inr (Or.inr (Or.inr (Or.inr (Or.inr (Or.inr (Or.inr (Or.inr (Or.inr (Or.inr (Or.inr (Or.inr (Or.inr (Or.inr (Or.inr (Or.inr (Or.inr (Or.inr (Or.inr (Or.inr (Or.inr (Or.inr (Or.inr (Or.inr (Or.inr (Or.inr (Or.inr (Or.inr (Or.inr (Or.inr (Or.inr (Or.inr (Or.inr (Or.inr (Or.inr (Or.inr (Or.inr (Or.inr (Or.inr (Or.inr (Or.inl rfl)))))))))))))))))))))))))))))))))))))))))))))))))
  | 50, _ => exact Or.inr (Or.inr (Or.inr (Or.inr (Or.inr (Or.inr (Or.inr (Or.inr (Or.inr (Or.inr (Or.inr (Or.inr (Or.inr (Or.inr (Or.inr (Or.inr (Or.inr (Or.inr (Or.inr (Or.inr (Or.inr (Or.inr (Or.inr (Or.inr (Or.inr (Or.inr (Or.inr (Or.inr (Or.inr (Or.inr (Or.inr (Or.inr (Or.inr (Or.inr (Or.inr (Or.inr (Or.inr (Or.inr (Or.inr (Or.inr (Or.inr (Or.inr (Or.inr (Or.inr (Or.inr (Or.inr (Or.inr (Or.inr (Or.inr (Or.inr (Or.inl rfl))))))))))))))))))))))))))))))))))))))))))))))))))
  | 51, _ => exact Or.inr (Or.inr (Or.inr (Or.inr (Or.inr (Or.inr (Or.inr (Or.inr (Or.inr (Or.inr (Or.inr (Or.inr (Or.inr (Or.inr (Or.inr (Or.inr (Or.inr (Or.inr (Or.inr (Or.inr (Or.inr (Or.inr (Or.inr (Or.inr (Or.inr (Or.inr (Or.inr (Or.inr (Or.inr (Or.inr (Or.inr (Or.inr (Or.inr (Or.inr (Or.inr (Or.inr (Or.inr (Or.inr (Or.inr (Or.inr (Or.inr (Or.inr (Or.inr (Or.inr (Or.inr (Or.inr (Or.inr (Or.inr (Or.inr (Or.inr (Or.inr (Or.inl rfl)))))))))))))))))))))))))))))))))))))))))))))))))))
  | 52, _ => exact Or.inr (Or.inr (Or.inr (Or.inr (Or.inr (Or.inr (Or.inr (Or.inr (Or.inr (Or.inr (Or.inr (Or.inr (Or.inr (Or.inr (Or.inr (Or.inr (Or.inr (Or.inr (Or.inr (Or.inr (Or.inr (Or.inr (Or.inr (Or.inr (Or.inr (Or.inr (Or.inr (Or.inr (Or.inr (Or.inr (Or.inr (Or.inr (Or.inr (Or.inr (Or.inr (Or.inr (Or.inr (Or.inr (Or.inr (Or.inr (Or.inr (Or.inr (Or.inr (Or.inr (Or.inr (Or.inr (Or.inr (Or.inr (Or.inr (Or.inr (Or.inr (Or.inr (Or.inl rfl))))))))))))))))))))))))))))))))))))))))))))))))))))
  | 53, _ => exact Or.inr (Or.inr (Or.inr (Or.inr (Or.inr (Or.inr (Or.inr (Or.inr (Or.inr (Or.inr (Or.inr (Or.inr (Or.inr (Or.inr (Or.inr (Or.inr (Or.inr (Or.inr (Or.inr (Or.inr (Or.inr (Or.inr (Or.inr (Or.inr (Or.inr (Or.inr (Or.inr (Or.inr (Or.inr (Or.inr (Or.inr (Or.inr (Or.inr (Or.inr (Or.inr (Or.inr (Or.inr (Or.inr (Or.inr (Or.inr (Or.inr (Or.inr (Or.inr (Or.inr (Or.inr (Or.inr (Or.inr (Or.inr (Or.inr (Or.inr (Or.inr (Or.inr (Or.inr (by decide)))))))))))))))))))))))))))))))))))))))))))))))))))))
  | 54, _ => exact Or.inr (Or.inr (Or.inr (Or.inr (Or.inr (Or.inr (Or.inr (Or.inr (Or.inr (Or.inr (Or.inr (Or.inr (Or.inr (Or.inr (Or.inr (Or.inr (Or.inr (Or.inr (Or.inr (Or.inr (Or.inr (Or.inr (Or.inr (Or.inr (Or.inr (Or.inr (Or.inr (Or.inr (Or.inr (Or.inr (Or.inr (Or.inr (Or.inr (Or.inr (Or.inr (Or.inr (Or.inr (Or.inr (Or.inr (Or.inr (Or.inr (Or.inr (Or.inr (Or.inr (Or.inr (Or.inr (Or.inr (Or.inr (Or.inr (Or.inr (Or.inr (Or.inr (Or.inr (by decide)))))))))))))))))))))))))))))))))))))))))))))))))))))
  | 55, _ => exact Or.inr (Or.inr (Or.inr (Or.inr (Or.inr (Or.inr (Or.inr (Or.inr (Or.inr (Or.inr (Or.inr (Or.inr (Or.inr (Or.inr (Or.inr (Or.inr (Or.inr (Or.inr (Or.inr (Or.inr (Or.inr (Or.inr (Or.inr (Or.inr (Or.inr (Or.inr (Or.inr (Or.inr (Or.inr (Or.inr (Or.inr (Or.inr (Or.inr (Or.inr (Or.inr (Or.inr (Or.inr (Or.inr (Or.inr (Or.inr (Or.inr (Or.inr (Or.inr (Or.inr (Or.inr (Or.inr (Or.inr (Or.inr (Or.inr (Or.inr (Or.inr (Or.inr (Or.inr (by decide)))))))))))))))))))))))))))))))))))))))))))))))))))))
  | 56, _ => exact Or.inr (Or.inr (Or.inr (Or.inr (Or.inr (Or.inr (Or.inr (Or.inr (Or.inr (Or.inr (Or.inr (Or.inr (Or.inr (Or.inr (Or.inr (Or.inr (Or.inr (Or.inr (Or.inr (Or.inr (Or.inr (Or.inr (Or.inr (Or.inr (Or.inr (Or.inr (Or.inr (Or.inr (Or.inr (Or.inr (Or.inr (Or.inr (Or.inr (Or.inr (Or.inr (Or.inr (Or.inr (Or.inr (Or.inr (Or.inr (Or.inr (Or.inr (Or.inr (Or.inr (Or.inr (Or.inr (Or.inr (Or.inr (Or.inr (Or.inr (Or.inr (Or.inr (Or.inr (by decide)))))))))))))))))))))))))))))))))))))))))))))))))))))
  | 57, _ => exact Or.inr (Or.inr (Or.inr (Or.inr (Or.inr (Or.inr (Or.inr (Or.inr (Or.inr (Or.inr (Or.inr (Or.inr (Or.inr (Or.inr (Or.inr (Or.inr (Or.inr (Or.inr (Or.inr (Or.inr (Or.inr (Or.inr (Or.inr (Or.inr (Or.inr (Or.inr (Or.inr (Or.inr (Or.inr (Or.inr (Or.inr (Or.inr (Or.inr (Or.inr (Or.inr (Or.inr (Or.inr (Or.inr (Or.inr (Or.inr (Or.inr (Or.inr (Or.inr (Or.inr (Or.inr (Or.inr (Or.inr (Or.inr (Or.inr (Or.inr (Or.inr (Or.inr (Or.inr (by decide)))))))))))))))))))))))))))))))))))))))))))))))))))))
  | 58, _ => exact Or.inr (Or.inr (Or.inr (Or.inr (Or.inr (Or.inr (Or.inr (Or.inr (Or.inr (Or.inr (Or.inr (Or.inr (Or.inr (Or.inr (Or.inr (Or.inr (Or.inr (Or.inr (Or.inr (Or.inr (Or.inr (Or.inr (Or.inr (Or.inr (Or.inr (Or.inr (Or.inr (Or.inr (Or.inr (Or.inr (Or.inr (Or.inr (Or.inr (Or.inr (Or.inr (Or.inr (Or.inr (Or.inr (Or.inr (Or.inr (Or.inr (Or.inr (Or.inr (Or.inr (Or.inr (Or.inr (Or.inr (Or.inr (Or.inr (Or.inr (Or.inr (Or.inr (Or.inr (by decide)))))))))))))))))))))))))))))))))))))))))))))))))))))
  | 59, _ => exact Or.inr (Or.inr (Or.inr (Or.inr (Or.inr (Or.inr (Or.inr (Or.inr (Or.inr (Or.inr (Or.inr (Or.inr (Or.inr (Or.inr (Or.inr (Or.inr (Or.inr (Or.inr (Or.inr (Or.inr (Or.inr (Or.inr (Or.inr (Or.inr (Or.inr (Or.inr (Or.inr (Or.inr (Or.inr (Or.inr (Or.inr (Or.inr (Or.inr (Or.inr (Or.inr (Or.inr (Or.inr (Or.inr (Or.inr (Or.inr (Or.inr (Or.inr (Or.inr (Or.inr (Or.inr (Or.inr (Or.inr (Or.inr (Or.inr (Or.inr (Or.inr (Or.inr (Or.inr (by decide)))))))))))))))))))))))))))))))))))))))))))))))))))))
  | 60, _ => exact Or.inr (Or.inr (Or.inr (Or.inr (Or.inr (Or.inr (Or.inr (Or.inr (Or.inr (Or.inr (Or.inr (Or.inr (Or.inr (Or.inr (Or.inr (Or.inr (Or.inr (Or.inr (Or.inr (Or.inr (Or.inr (Or.inr (Or.inr (Or.inr (Or.inr (Or.inr (Or.inr (Or.inr (Or.inr (Or.inr (Or.inr (Or.inr (Or.inr (Or.inr (Or.inr (Or.inr (Or.inr (Or.inr (Or.inr (Or.inr (Or.inr (Or.inr (Or.inr (Or.inr (Or.inr (Or.inr (Or.inr (Or.inr (Or.inr (Or.inr (Or.inr (Or.inr (Or.inr (by decide)))))))))))))))))))))))))))))))))))))))))))))))))))))
  | 61, _ => exact Or.inr (Or.inr (Or.inr (Or.inr (Or.inr (Or.inr (Or.inr (Or.inr (Or.inr (Or.inr (Or.inr (Or.inr (Or.inr (Or.inr (Or.inr (Or.inr (Or.inr (Or.inr (Or.inr (Or.inr (Or.inr (Or.inr (Or.inr (Or.inr (Or.inr (Or.inr (Or.inr (Or.inr (Or.inr (Or.inr (Or.inr (Or.inr (Or.inr (Or.inr (Or.inr (Or.inr (Or.inr (Or.inr (Or.inr (Or.inr (Or.inr (Or.inr (Or.inr (Or.inr (Or.inr (Or.inr (Or.inr (Or.inr (Or.inr (Or.inr (Or.inr (Or.inr (Or.inr (by decide)))))))))))))))))))))))))))))))))))))))))))))))))))))
  | 62, _ => exact Or.inr (Or.inr (Or.inr (Or.inr (Or.inr (Or.inr (Or.inr (Or.inr (Or.inr (Or.inr (Or.inr (Or.inr (Or.inr (Or.inr (Or.inr (Or.inr (Or.inr (Or.inr (Or.inr (Or.inr (Or.inr (Or.inr (Or.inr (Or.inr (Or.inr (Or.inr (Or.inr (Or.inr (Or.inr (Or.inr (Or.inr (Or.inr (Or.inr (Or.inr (Or.inr (Or.inr (Or.inr (Or.inr (Or.inr (Or.inr (Or.inr (Or.inr (Or.inr (Or.inr (Or.inr (Or.inr (Or.inr (Or.inr (Or.inr (Or.inr (Or.inr (Or.inr (Or.inr (by decide)))))))))))))))))))))))))))))))))))))))))))))))))))))
  | 63, _ => exact Or.inr (Or.inr (Or.inr (Or.inr (Or.inr (Or.inr (Or.inr (Or.inr (Or.inr (Or.inr (Or.inr (Or.inr (Or.inr (Or.inr (Or.inr (Or.inr (Or.inr (Or.inr (Or.inr (Or.inr (Or.inr (Or.inr (Or.inr (Or.inr (Or.inr (Or.inr (Or.inr (Or.inr (Or.inr (Or.inr (Or.inr (Or.inr (Or.inr (Or.inr (Or.inr (Or.inr (Or.inr (Or.inr (Or.inr (Or.inr (Or.inr (Or.inr (Or.inr (Or.inr (Or.inr (Or.inr (Or.inr (Or.inr (Or.inr (Or.inr (Or.inr (Or.inr (Or.inr (by decide)))))))))))))))))))))))))))))))))))))))))))))))))))))
  | j + 64, h => exact absurd h (by omega)

set_option maxHeartbeats 8000000 in
set_option maxRecDepth 100000 in
theorem lawloop {p : Program} {e : Env} {s : State} {m : MethodId} {below : List Frame} {meth : Method} {c : Code} (l : Launch) {b L : Nat} {xs : Nat → Int32} (hL : L ≤ 3072) (C0 : lw_At p s m meth c b L xs) {D : va_G} {T : Nat → ClassId} (hC : cx D T s) {K : SKT} (hX : sx K (fun q : Nat => s.heap.size ≤ q) s s.heap) (x0 m0 : Nat) (u v : Nat → Nat) : ∀ (n : Nat) (F : Nat → Nat → Int32) (G : Nat → Nat → Int64) (N : Nat → Int32) (J : Nat → Int64) (Q : Nat → Nat) (H : Heap) (locs : List Loc) (ls : Array Slot) (i : Int32), lawI F N → va_P D vwCl (lawW T x0 m0 u v F G N J Q) H → va_D (fun q : Nat => s.heap.size ≤ q) (lawW T x0 m0 u v F G N J Q) → va_S (fun q : Nat => s.heap.size ≤ q) s.heap H locs → lv_has ls 4 [(3, .int i), (2, .ref m0), (1, .ref x0), (0, .ref b)] → 0 ≤ i.toInt → i.toInt ≤ 3072 → (L : Int) + 1 ≤ i.toInt + 6 * n → W p l e room_1 s m #[Value.ref b] below meth c H locs 181 83004 (lw_Z below #[Value.ref b] s) (F0 m 18 ls []) := by
  obtain ⟨hx, hb, hr, hml, hown, hts0, hXs, hbl, hlocks, hgv⟩ := id C0
  have hts : ∀ w ∈ gt, w.before #[Value.ref b] s = true := fun w hw => hts0 w (List.mem_filter.mp hw).1
  have hown : s.vm.findClass RL = some m.cls := hown
  have hb : c.code = cL_law := hb
  have hK := hC.1
  have hA : ∀ q : Nat, s.heap.size ≤ q → (fun q : Nat => s.heap.size ≤ q) q := fun _ h => h
  have hbA : ¬ (fun q : Nat => s.heap.size ≤ q) b := Nat.not_le.mpr hbl
  intro n
  induction n with
  | zero =>
    intro F G N J Q H locs ls i hI hP hD hS hl hi0 hi2 hn
    refine lv_iload_n hx hb dL_law_18 rfl (lv_at hl 0 rfl) ?_
    refine lv_aload_n hx hb dL_law_19 rfl (lv_at hl 3 rfl) ?_
    refine va_slen hx hb hXs hbl hbA hS dL_law_20 ?_
    refine lv_topi (fun x1 ex1 => ?_)
    have tx1 : x1.toInt = (L : Int) := by rw [ex1]; exact nI_toInt (by omega)
    refine lv_bipush (v := 6) hx hb dL_law_21 (by decide) ?_
    refine lv_isub hx hb dL_law_23 ?_
    refine lv_topi (fun x2 ex2 => ?_)
    have tx2 : x2.toInt = x1.toInt - 6 := t_sub (x := x1.toInt) (y := 6) ex2 rfl rfl (by omega) (by omega)
    refine lv_icmp_gt (tgt := 1865) hx hb dL_law_24 (by decide) (fun c1 => ?_) (fun c1 => ?_)
    · refine lv_iconst (v := 1) hx hb dL_law_1865 (by decide) ?_
      refine va_forget (fun q hq => hS.2.2 q hq) ?_
      refine W.widen (k := 600000) (n := 7302250) (Nat.le_of_ble_eq_true rfl) (Nat.le_of_ble_eq_true rfl) ?_
      exact lw_ret hx hb hr hlocks dL_law_1866
    · have c1 : i.toInt ≤ x2.toInt := by have h := mt (c_lt (x := x2.toInt) (y := i.toInt) rfl rfl).mpr c1; omega
      exfalso; omega
  | succ n ih =>
    intro F G N J Q H locs ls i hI hP hD hS hl hi0 hi2 hn
    refine lv_iload_n hx hb dL_law_18 rfl (lv_at hl 0 rfl) ?_
    refine lv_aload_n hx hb dL_law_19 rfl (lv_at hl 3 rfl) ?_
    refine va_slen hx hb hXs hbl hbA hS dL_law_20 ?_
    refine lv_topi (fun x1 ex1 => ?_)
    have tx1 : x1.toInt = (L : Int) := by rw [ex1]; exact nI_toInt (by omega)
    refine lv_bipush (v := 6) hx hb dL_law_21 (by decide) ?_
    refine lv_isub hx hb dL_law_23 ?_
    refine lv_topi (fun x2 ex2 => ?_)
    have tx2 : x2.toInt = x1.toInt - 6 := t_sub (x := x1.toInt) (y := 6) ex2 rfl rfl (by omega) (by omega)
    refine lv_icmp_gt (tgt := 1865) hx hb dL_law_24 (by decide) (fun c1 => ?_) (fun c1 => ?_)
    · refine lv_iconst (v := 1) hx hb dL_law_1865 (by decide) ?_
      refine va_forget (fun q hq => hS.2.2 q hq) ?_
      refine W.widen (k := 600000) (n := 7302250) (Nat.le_of_ble_eq_true rfl) (Nat.le_of_ble_eq_true rfl) ?_
      exact lw_ret hx hb hr hlocks dL_law_1866
    · have c1 : i.toInt ≤ x2.toInt := by have h := mt (c_lt (x := x2.toInt) (y := i.toInt) rfl rfl).mpr c1; omega
      have hi1 : i.toInt + 6 ≤ (L : Int) := by omega
      have kk : ∀ (F : Nat → Nat → Int32) (G : Nat → Nat → Int64) (N : Nat → Int32) (J : Nat → Int64) (Q : Nat → Nat) (H : Heap) (locs : List Loc) (ls : Array Slot), lawI F N → va_P D vwCl (lawW T x0 m0 u v F G N J Q) H → va_D (fun q : Nat => s.heap.size ≤ q) (lawW T x0 m0 u v F G N J Q) → va_S (fun q : Nat => s.heap.size ≤ q) s.heap H locs → lv_has ls 4 [(3, .int i), (2, .ref m0), (1, .ref x0), (0, .ref b)] → W p l e room_1 s m #[Value.ref b] below meth c H locs 181 83004 (lw_Z below #[Value.ref b] s) (F0 m 1859 ls []) := by
        intro F G N J Q H locs ls hI hP hD hS hl
        obtain ⟨x3, ex3⟩ : ∃ y : Int32, y = i + 6 := ⟨_, rfl⟩
        have tx3 : x3.toInt = i.toInt + 6 := t_add (x := i.toInt) (y := 6) ex3 rfl rfl (by omega) (by omega)
        refine lv_iinc (v := x3) (lv' := [(3, .int x3), (2, .ref m0), (1, .ref x0), (0, .ref b)]) hx hb dL_law_1859 hl (k := 0) rfl (by rw [ex3]; rfl) (by decide) rfl (fun ls hl => ?_)
        refine lv_goto (tgt := 18) hx hb dL_law_1862 (by decide) ?_
        exact ih F G N J Q H locs ls x3 hI hP hD hS hl (by omega) (by omega) (by omega)
      refine lv_aload_n hx hb dL_law_27 rfl (lv_at hl 3 rfl) ?_
      refine lv_iload_n hx hb dL_law_28 rfl (lv_at hl 0 rfl) ?_
      refine va_sld hx hb hXs hbl hbA hS (v_in (x := i.toInt) rfl (by omega) (by omega)) dL_law_29 ?_
      refine lv_bipush (v := 63) hx hb dL_law_30 (by decide) ?_
      refine lv_iand hx hb dL_law_32 ?_
      rcases sw_law (xs i.toNatClampNeg) with h | h | h | h | h | h | h | h | h | h | h | h | h | h | h | h | h | h | h | h | h | h | h | h | h | h | h | h | h | h | h | h | h | h | h | h | h | h | h | h | h | h | h | h | h | h | h | h | h | h | h | h | h | h
      · refine eqi (v := 0) h ?_
        refine lv_tableIn (off := 227) (tgt := 260) hx hb dL_law_33 (by decide) (by decide) (by decide) (by decide) ?_
        exact lawcase_0 l hL C0 hC hA hbA hX x0 m0 u v F G N J Q hI hP hD hS hi0 hi1 hl kk
      · refine eqi (v := 1) h ?_
        refine lv_tableIn (off := 290) (tgt := 323) hx hb dL_law_33 (by decide) (by decide) (by decide) (by decide) ?_
        exact lawcase_1 l hL C0 hC hA hbA hX x0 m0 u v F G N J Q hI hP hD hS hi0 hi1 hl kk
      · refine eqi (v := 2) h ?_
        refine lv_tableIn (off := 313) (tgt := 346) hx hb dL_law_33 (by decide) (by decide) (by decide) (by decide) ?_
        exact lawcase_2 l hL C0 hC hA hbA hX x0 m0 u v F G N J Q hI hP hD hS hi0 hi1 hl kk
      · refine eqi (v := 3) h ?_
        refine lv_tableIn (off := 326) (tgt := 359) hx hb dL_law_33 (by decide) (by decide) (by decide) (by decide) ?_
        exact lawcase_3 l hL C0 hC hA hbA hX x0 m0 u v F G N J Q hI hP hD hS hi0 hi1 hl kk
      · refine eqi (v := 4) h ?_
        refine lv_tableIn (off := 349) (tgt := 382) hx hb dL_law_33 (by decide) (by decide) (by decide) (by decide) ?_
        exact lawcase_4 l hL C0 hC hA hbA hX x0 m0 u v F G N J Q hI hP hD hS hi0 hi1 hl kk
      · refine eqi (v := 5) h ?_
        refine lv_tableIn (off := 392) (tgt := 425) hx hb dL_law_33 (by decide) (by decide) (by decide) (by decide) ?_
        exact lawcase_5 l hL C0 hC hA hbA hX x0 m0 u v F G N J Q hI hP hD hS hi0 hi1 hl kk
      · refine eqi (v := 6) h ?_
        refine lv_tableIn (off := 435) (tgt := 468) hx hb dL_law_33 (by decide) (by decide) (by decide) (by decide) ?_
        exact lawcase_6 l hL C0 hC hA hbA hX x0 m0 u v F G N J Q hI hP hD hS hi0 hi1 hl kk
      · refine eqi (v := 7) h ?_
        refine lv_tableIn (off := 468) (tgt := 501) hx hb dL_law_33 (by decide) (by decide) (by decide) (by decide) ?_
        exact lawcase_7 l hL C0 hC hA hbA hX x0 m0 u v F G N J Q hI hP hD hS hi0 hi1 hl kk
      · refine eqi (v := 8) h ?_
        refine lv_tableIn (off := 521) (tgt := 554) hx hb dL_law_33 (by decide) (by decide) (by decide) (by decide) ?_
        exact lawcase_8 l hL C0 hC hA hbA hX x0 m0 u v F G N J Q hI hP hD hS hi0 hi1 hl kk
      · refine eqi (v := 9) h ?_
        refine lv_tableIn (off := 554) (tgt := 587) hx hb dL_law_33 (by decide) (by decide) (by decide) (by decide) ?_
        exact lawcase_9 l hL C0 hC hA hbA hX x0 m0 u v F G N J Q hI hP hD hS hi0 hi1 hl kk
      · refine eqi (v := 10) h ?_
        refine lv_tableIn (off := 577) (tgt := 610) hx hb dL_law_33 (by decide) (by decide) (by decide) (by decide) ?_
        exact lawcase_10 l hL C0 hC hA hbA hX x0 m0 u v F G N J Q hI hP hD hS hi0 hi1 hl kk
      · refine eqi (v := 11) h ?_
        refine lv_tableIn (off := 610) (tgt := 643) hx hb dL_law_33 (by decide) (by decide) (by decide) (by decide) ?_
        exact lawcase_11 l hL C0 hC hA hbA hX x0 m0 u v F G N J Q hI hP hD hS hi0 hi1 hl kk
      · refine eqi (v := 12) h ?_
        refine lv_tableIn (off := 633) (tgt := 666) hx hb dL_law_33 (by decide) (by decide) (by decide) (by decide) ?_
        exact lawcase_12 l hL C0 hC hA hbA hX x0 m0 u v F G N J Q hI hP hD hS hi0 hi1 hl kk
      · refine eqi (v := 13) h ?_
        refine lv_tableIn (off := 666) (tgt := 699) hx hb dL_law_33 (by decide) (by decide) (by decide) (by decide) ?_
        exact lawcase_13 l hL C0 hC hA hbA hX x0 m0 u v F G N J Q hI hP hD hS hi0 hi1 hl kk
      · refine eqi (v := 14) h ?_
        refine lv_tableIn (off := 679) (tgt := 712) hx hb dL_law_33 (by decide) (by decide) (by decide) (by decide) ?_
        exact lawcase_14 l hL C0 hC hA hbA hX x0 m0 u v F G N J Q hI hP hD hS hi0 hi1 hl kk
      · refine eqi (v := 15) h ?_
        refine lv_tableIn (off := 712) (tgt := 745) hx hb dL_law_33 (by decide) (by decide) (by decide) (by decide) ?_
        exact lawcase_15 l hL C0 hC hA hbA hX x0 m0 u v F G N J Q hI hP hD hS hi0 hi1 hl kk
      · refine eqi (v := 16) h ?_
        refine lv_tableIn (off := 735) (tgt := 768) hx hb dL_law_33 (by decide) (by decide) (by decide) (by decide) ?_
        exact lawcase_16 l hL C0 hC hA hbA hX x0 m0 u v F G N J Q hI hP hD hS hi0 hi1 hl kk
      · refine eqi (v := 17) h ?_
        refine lv_tableIn (off := 758) (tgt := 791) hx hb dL_law_33 (by decide) (by decide) (by decide) (by decide) ?_
        exact lawcase_17 l hL C0 hC hA hbA hX x0 m0 u v F G N J Q hI hP hD hS hi0 hi1 hl kk
      · refine eqi (v := 18) h ?_
        refine lv_tableIn (off := 781) (tgt := 814) hx hb dL_law_33 (by decide) (by decide) (by decide) (by decide) ?_
        exact lawcase_18 l hL C0 hC hA hbA hX x0 m0 u v F G N J Q hI hP hD hS hi0 hi1 hl kk
      · refine eqi (v := 19) h ?_
        refine lv_tableIn (off := 804) (tgt := 837) hx hb dL_law_33 (by decide) (by decide) (by decide) (by decide) ?_
        exact lawcase_19 l hL C0 hC hA hbA hX x0 m0 u v F G N J Q hI hP hD hS hi0 hi1 hl kk
      · refine eqi (v := 20) h ?_
        refine lv_tableIn (off := 837) (tgt := 870) hx hb dL_law_33 (by decide) (by decide) (by decide) (by decide) ?_
        exact lawcase_20 l hL C0 hC hA hbA hX x0 m0 u v F G N J Q hI hP hD hS hi0 hi1 hl kk
      · refine eqi (v := 21) h ?_
        refine lv_tableIn (off := 870) (tgt := 903) hx hb dL_law_33 (by decide) (by decide) (by decide) (by decide) ?_
        exact lawcase_21 l hL C0 hC hA hbA hX x0 m0 u v F G N J Q hI hP hD hS hi0 hi1 hl kk
      · refine eqi (v := 22) h ?_
        refine lv_tableIn (off := 883) (tgt := 916) hx hb dL_law_33 (by decide) (by decide) (by decide) (by decide) ?_
        exact lawcase_22 l hL C0 hC hA hbA hX x0 m0 u v F G N J Q hI hP hD hS hi0 hi1 hl kk
      · refine eqi (v := 23) h ?_
        refine lv_tableIn (off := 906) (tgt := 939) hx hb dL_law_33 (by decide) (by decide) (by decide) (by decide) ?_
        exact lawcase_23 l hL C0 hC hA hbA hX x0 m0 u v F G N J Q hI hP hD hS hi0 hi1 hl kk
      · refine eqi (v := 24) h ?_
        refine lv_tableIn (off := 929) (tgt := 962) hx hb dL_law_33 (by decide) (by decide) (by decide) (by decide) ?_
        exact lawcase_24 l hL C0 hC hA hbA hX x0 m0 u v F G N J Q hI hP hD hS hi0 hi1 hl kk
      · refine eqi (v := 25) h ?_
        refine lv_tableIn (off := 952) (tgt := 985) hx hb dL_law_33 (by decide) (by decide) (by decide) (by decide) ?_
        exact lawcase_25 l hL C0 hC hA hbA hX x0 m0 u v F G N J Q hI hP hD hS hi0 hi1 hl kk
      · refine eqi (v := 26) h ?_
        refine lv_tableIn (off := 975) (tgt := 1008) hx hb dL_law_33 (by decide) (by decide) (by decide) (by decide) ?_
        exact lawcase_26 l hL C0 hC hA hbA hX x0 m0 u v F G N J Q hI hP hD hS hi0 hi1 hl kk
      · refine eqi (v := 27) h ?_
        refine lv_tableIn (off := 1008) (tgt := 1041) hx hb dL_law_33 (by decide) (by decide) (by decide) (by decide) ?_
        exact lawcase_27 l hL C0 hC hA hbA hX x0 m0 u v F G N J Q hI hP hD hS hi0 hi1 hl kk
      · refine eqi (v := 28) h ?_
        refine lv_tableIn (off := 1041) (tgt := 1074) hx hb dL_law_33 (by decide) (by decide) (by decide) (by decide) ?_
        exact lawcase_28 l hL C0 hC hA hbA hX x0 m0 u v F G N J Q hI hP hD hS hi0 hi1 hl kk
      · refine eqi (v := 29) h ?_
        refine lv_tableIn (off := 1064) (tgt := 1097) hx hb dL_law_33 (by decide) (by decide) (by decide) (by decide) ?_
        exact lawcase_29 l hL C0 hC hA hbA hX x0 m0 u v F G N J Q hI hP hD hS hi0 hi1 hl kk
      · refine eqi (v := 30) h ?_
        refine lv_tableIn (off := 1097) (tgt := 1130) hx hb dL_law_33 (by decide) (by decide) (by decide) (by decide) ?_
        exact lawcase_30 l hL C0 hC hA hbA hX x0 m0 u v F G N J Q hI hP hD hS hi0 hi1 hl kk
      · refine eqi (v := 31) h ?_
        refine lv_tableIn (off := 1120) (tgt := 1153) hx hb dL_law_33 (by decide) (by decide) (by decide) (by decide) ?_
        exact lawcase_31 l hL C0 hC hA hbA hX x0 m0 u v F G N J Q hI hP hD hS hi0 hi1 hl kk
      · refine eqi (v := 32) h ?_
        refine lv_tableIn (off := 1143) (tgt := 1176) hx hb dL_law_33 (by decide) (by decide) (by decide) (by decide) ?_
        exact lawcase_32 l hL C0 hC hA hbA hX x0 m0 u v F G N J Q hI hP hD hS hi0 hi1 hl kk
      · refine eqi (v := 33) h ?_
        refine lv_tableIn (off := 1166) (tgt := 1199) hx hb dL_law_33 (by decide) (by decide) (by decide) (by decide) ?_
        exact lawcase_33 l hL C0 hC hA hbA hX x0 m0 u v F G N J Q hI hP hD hS hi0 hi1 hl kk
      · refine eqi (v := 34) h ?_
        refine lv_tableIn (off := 1189) (tgt := 1222) hx hb dL_law_33 (by decide) (by decide) (by decide) (by decide) ?_
        exact lawcase_34 l hL C0 hC hA hbA hX x0 m0 u v F G N J Q hI hP hD hS hi0 hi1 hl kk
      · refine eqi (v := 35) h ?_
        refine lv_tableIn (off := 1212) (tgt := 1245) hx hb dL_law_33 (by decide) (by decide) (by decide) (by decide) ?_
        exact lawcase_35 l hL C0 hC hA hbA hX x0 m0 u v F G N J Q hI hP hD hS hi0 hi1 hl kk
      · refine eqi (v := 36) h ?_
        refine lv_tableIn (off := 1255) (tgt := 1288) hx hb dL_law_33 (by decide) (by decide) (by decide) (by decide) ?_
        exact lawcase_36 l hL C0 hC hA hbA hX x0 m0 u v F G N J Q hI hP hD hS hi0 hi1 hl kk
      · refine eqi (v := 37) h ?_
        refine lv_tableIn (off := 1278) (tgt := 1311) hx hb dL_law_33 (by decide) (by decide) (by decide) (by decide) ?_
        exact lawcase_37 l hL C0 hC hA hbA hX x0 m0 u v F G N J Q hI hP hD hS hi0 hi1 hl kk
      · refine eqi (v := 38) h ?_
        refine lv_tableIn (off := 1311) (tgt := 1344) hx hb dL_law_33 (by decide) (by decide) (by decide) (by decide) ?_
        exact lawcase_38 l hL C0 hC hA hbA hX x0 m0 u v F G N J Q hI hP hD hS hi0 hi1 hl kk
      · refine eqi (v := 39) h ?_
        refine lv_tableIn (off := 1354) (tgt := 1387) hx hb dL_law_33 (by decide) (by decide) (by decide) (by decide) ?_
        exact lawcase_39 l hL C0 hC hA hbA hX x0 m0 u v F G N J Q hI hP hD hS hi0 hi1 hl kk
      · refine eqi (v := 40) h ?_
        refine lv_tableIn (off := 1377) (tgt := 1410) hx hb dL_law_33 (by decide) (by decide) (by decide) (by decide) ?_
        exact lawcase_40 l hL C0 hC hA hbA hX x0 m0 u v F G N J Q hI hP hD hS hi0 hi1 hl kk
      · refine eqi (v := 41) h ?_
        refine lv_tableIn (off := 1400) (tgt := 1433) hx hb dL_law_33 (by decide) (by decide) (by decide) (by decide) ?_
        exact lawcase_41 l hL C0 hC hA hbA hX x0 m0 u v F G N J Q hI hP hD hS hi0 hi1 hl kk
      · refine eqi (v := 42) h ?_
        refine lv_tableIn (off := 1433) (tgt := 1466) hx hb dL_law_33 (by decide) (by decide) (by decide) (by decide) ?_
        exact lawcase_42 l hL C0 hC hA hbA hX x0 m0 u v F G N J Q hI hP hD hS hi0 hi1 hl kk
      · refine eqi (v := 43) h ?_
        refine lv_tableIn (off := 1486) (tgt := 1519) hx hb dL_law_33 (by decide) (by decide) (by decide) (by decide) ?_
        exact lawcase_43 l hL C0 hC hA hbA hX x0 m0 u v F G N J Q hI hP hD hS hi0 hi1 hl kk
      · refine eqi (v := 44) h ?_
        refine lv_tableIn (off := 1509) (tgt := 1542) hx hb dL_law_33 (by decide) (by decide) (by decide) (by decide) ?_
        exact lawcase_44 l hL C0 hC hA hbA hX x0 m0 u v F G N J Q hI hP hD hS hi0 hi1 hl kk
      · refine eqi (v := 45) h ?_
        refine lv_tableIn (off := 1532) (tgt := 1565) hx hb dL_law_33 (by decide) (by decide) (by decide) (by decide) ?_
        exact lawcase_45 l hL C0 hC hA hbA hX x0 m0 u v F G N J Q hI hP hD hS hi0 hi1 hl kk
      · refine eqi (v := 46) h ?_
        refine lv_tableIn (off := 1555) (tgt := 1588) hx hb dL_law_33 (by decide) (by decide) (by decide) (by decide) ?_
        exact lawcase_46 l hL C0 hC hA hbA hX x0 m0 u v F G N J Q hI hP hD hS hi0 hi1 hl kk
      · refine eqi (v := 47) h ?_
        refine lv_tableIn (off := 1578) (tgt := 1611) hx hb dL_law_33 (by decide) (by decide) (by decide) (by decide) ?_
        exact lawcase_47 l hL C0 hC hA hbA hX x0 m0 u v F G N J Q hI hP hD hS hi0 hi1 hl kk
      · refine eqi (v := 48) h ?_
        refine lv_tableIn (off := 1601) (tgt := 1634) hx hb dL_law_33 (by decide) (by decide) (by decide) (by decide) ?_
        exact lawcase_48 l hL C0 hC hA hbA hX x0 m0 u v F G N J Q hI hP hD hS hi0 hi1 hl kk
      · refine eqi (v := 49) h ?_
        refine lv_tableIn (off := 1624) (tgt := 1657) hx hb dL_law_33 (by decide) (by decide) (by decide) (by decide) ?_
        exact lawcase_49 l hL C0 hC hA hbA hX x0 m0 u v F G N J Q hI hP hD hS hi0 hi1 hl kk
      · refine eqi (v := 50) h ?_
        refine lv_tableIn (off := 1647) (tgt := 1680) hx hb dL_law_33 (by decide) (by decide) (by decide) (by decide) ?_
        exact lawcase_50 l hL C0 hC hA hbA hX x0 m0 u v F G N J Q hI hP hD hS hi0 hi1 hl kk
      · refine eqi (v := 51) h ?_
        refine lv_tableIn (off := 1690) (tgt := 1723) hx hb dL_law_33 (by decide) (by decide) (by decide) (by decide) ?_
        exact lawcase_51 l hL C0 hC hA hbA hX x0 m0 u v F G N J Q hI hP hD hS hi0 hi1 hl kk
      · refine eqi (v := 52) h ?_
        refine lv_tableIn (off := 1763) (tgt := 1796) hx hb dL_law_33 (by decide) (by decide) (by decide) (by decide) ?_
        exact lawcase_52 l hL C0 hC hA hbA hX x0 m0 u v F G N J Q hI hP hD hS hi0 hi1 hl kk
      · refine lv_tableOut (tgt := 1859) hx hb dL_law_33 (Or.inr h) (by decide) ?_
        exact kk F G N J Q _ _ _ hI hP hD hS hl

abbrev F0w : Nat → Nat → Int32 := (fun k => ([fun _ => 0, fun _ => 0, fun _ => 0, fun _ => 0, fun _ => 0, fun _ => 0, fun _ => 0, fun _ => 0, fun _ => 0, fun _ => 0, fun _ => 0, fun _ => 0, fun _ => 0, fun _ => 0, fun _ => 0, fun _ => 0, fun _ => 0, fun _ => 0, fun _ => 0, fun _ => 0, fun _ => 0, fun _ => 0, fun _ => 0, fun _ => 0, fun _ => 0, fun _ => 0, fun _ => 0, fun _ => 0, fun _ => 0, fun _ => 0, fun _ => 0, fun _ => 0, fun _ => 0, fun _ => 0, fun _ => 0, fun _ => 0, fun _ => 0, fun _ => 0, fun _ => 0, fun _ => 0, fun _ => 0, fun _ => 0, fun _ => 0, fun _ => 0, fun _ => 0, fun _ => 0, fun _ => 0, fun _ => 0, fun _ => 0, fun _ => 0, fun _ => 0, fun _ => 0, fun _ => 0, fun _ => 0, fun _ => 0, fun _ => 0, fun _ => 0, fun _ => 0, fun _ => 0, fun _ => 0, fun _ => 0, fun _ => 0, fun _ => 0, fun _ => 0, fun _ => 0, fun _ => 0, fun _ => 0, fun _ => 0, fun _ => 0, fun _ => 0, fun _ => 0, fun _ => 0, fun _ => 0, fun _ => 0, fun _ => 0, fun _ => 0, fun _ => 0, fun _ => 0, fun _ => 0, fun _ => 0, fun _ => 0, fun _ => 0, fun _ => 0, fun _ => 0, fun _ => 0, fun _ => 0, fun _ => 0, fun _ => 0, fun _ => 0, fun _ => 0, fun _ => 0, fun _ => 0, fun _ => 0, fun _ => 0, fun _ => 0, fun _ => 0, fun _ => 0, fun _ => 0, fun _ => 0, fun _ => 0, fun _ => 0, fun _ => 0, fun _ => 0, fun _ => 0, fun _ => 0, fun _ => 0, fun _ => 0, fun _ => 0, fun _ => 0, fun _ => 0, fun _ => 0, fun _ => 0, fun _ => 0, fun _ => 0, fun _ => 0, fun _ => 0, fun _ => 0, fun _ => 0, upd (upd (upd (upd (fun _ => 0) 0 (-1)) 1 (-1)) 2 (-1)) 3 (-1), fun _ => 0, fun _ => 0, fun _ => 0, fun _ => 0, fun _ => 0, fun _ => 0, fun _ => 0, fun _ => 0, fun _ => 0, fun _ => 0, fun _ => 0, fun _ => 0, fun _ => 0, fun _ => 0, fun _ => 0, upd (upd (upd (fun _ => 0) 0 0) 1 2) 2 0, fun _ => 0, fun _ => 0, fun _ => 0, fun _ => 0, fun _ => 0, fun _ => 0] : List (Nat → Int32)).getD k (fun _ => 0))
abbrev G0w : Nat → Nat → Int64 := (fun k => ([fun _ => 0, fun _ => 0, fun _ => 0, fun _ => 0, fun _ => 0, fun _ => 0, fun _ => 0, fun _ => 0, fun _ => 0, fun _ => 0] : List (Nat → Int64)).getD k (fun _ => 0))
abbrev N0w : Nat → Int32 := (fun k => ([0, 0, (-1), 0, 0, 0, 0, 0, 0, 0, 0, 0, 0, 0, 0, 0, 0, 0, 0, 0, 2, 0, 0, 0, 0, 0, 0, 0, 0, 0, 0, 0, 0, 2, 0, 0, 0, 0, 0, 0, 0, 0, 0, 0, 0, 0, 2, 0, 0, 0, 0, 0, 0, 0, 0, 0, 0, 0, 0, 2, 0, 0, 0, 0, 0, 0, 0, 0, 0, 0, 0, 0, 2, 0, 0, 0, 0, 0, 0, 0, 0, 0, 0, 0, (-1), 0, (-1), 0, (-1), 0, (-1), 0, 0, 0, 0, (-1), 0, 0, 0, 0, 0, 0, 0, 0, 0, 0, 0, 0, 0, 0, (-1), 0, 0, 0, 0, 0, 0, 0] : List (Int32)).getD k 0)
abbrev J0w : Nat → Int64 := (fun k => ([0, 0, 0, 0, 0, 0, 0] : List (Int64)).getD k 0)

set_option maxRecDepth 100000 in
theorem lawI_start : lawI F0w N0w := ⟨(show 0 ≤ (0 : Int32).toInt ∧ (0 : Int32).toInt ≤ 1600 by decide), (show 0 ≤ (0 : Int32).toInt ∧ (0 : Int32).toInt ≤ 5 by decide), (show 0 ≤ (0 : Int32).toInt ∧ (0 : Int32).toInt ≤ 10 by decide), (show rg 0 3 (fun _ => 0) from rg_c (by decide)), (show 0 ≤ (0 : Int32).toInt ∧ (0 : Int32).toInt ≤ 100 by decide), (show 0 ≤ (0 : Int32).toInt ∧ (0 : Int32).toInt ≤ 8 by decide), (show 0 ≤ (0 : Int32).toInt ∧ (0 : Int32).toInt ≤ 12 by decide), (show 0 ≤ (0 : Int32).toInt ∧ (0 : Int32).toInt ≤ 5 by decide), (show 0 ≤ (0 : Int32).toInt ∧ (0 : Int32).toInt ≤ 10 by decide), (show rg 0 3 (fun _ => 0) from rg_c (by decide)), (show rg 0 12 (fun _ => 0) from rg_c (by decide)), (show rg 0 4 (fun _ => 0) from rg_c (by decide)), (show 0 ≤ (0 : Int32).toInt ∧ (0 : Int32).toInt ≤ 100 by decide), (show 0 ≤ (0 : Int32).toInt ∧ (0 : Int32).toInt ≤ 8 by decide), (show 0 ≤ (0 : Int32).toInt ∧ (0 : Int32).toInt ≤ 12 by decide), (show 0 ≤ (0 : Int32).toInt ∧ (0 : Int32).toInt ≤ 5 by decide), (show 0 ≤ (0 : Int32).toInt ∧ (0 : Int32).toInt ≤ 10 by decide), (show rg 0 3 (fun _ => 0) from rg_c (by decide)), (show rg 0 12 (fun _ => 0) from rg_c (by decide)), (show rg 0 4 (fun _ => 0) from rg_c (by decide)), (show 0 ≤ (0 : Int32).toInt ∧ (0 : Int32).toInt ≤ 100 by decide), (show 0 ≤ (0 : Int32).toInt ∧ (0 : Int32).toInt ≤ 8 by decide), (show 0 ≤ (0 : Int32).toInt ∧ (0 : Int32).toInt ≤ 12 by decide), (show 0 ≤ (0 : Int32).toInt ∧ (0 : Int32).toInt ≤ 5 by decide), (show 0 ≤ (0 : Int32).toInt ∧ (0 : Int32).toInt ≤ 10 by decide), (show rg 0 3 (fun _ => 0) from rg_c (by decide)), (show rg 0 12 (fun _ => 0) from rg_c (by decide)), (show rg 0 4 (fun _ => 0) from rg_c (by decide)), (show 0 ≤ (0 : Int32).toInt ∧ (0 : Int32).toInt ≤ 100 by decide), (show 0 ≤ (0 : Int32).toInt ∧ (0 : Int32).toInt ≤ 8 by decide), (show 0 ≤ (0 : Int32).toInt ∧ (0 : Int32).toInt ≤ 12 by decide), (show 0 ≤ (0 : Int32).toInt ∧ (0 : Int32).toInt ≤ 5 by decide), (show 0 ≤ (0 : Int32).toInt ∧ (0 : Int32).toInt ≤ 10 by decide), (show rg 0 3 (fun _ => 0) from rg_c (by decide)), (show rg 0 12 (fun _ => 0) from rg_c (by decide)), (show rg 0 4 (fun _ => 0) from rg_c (by decide)), (show 0 ≤ (0 : Int32).toInt ∧ (0 : Int32).toInt ≤ 100 by decide), (show 0 ≤ (0 : Int32).toInt ∧ (0 : Int32).toInt ≤ 8 by decide), (show 0 ≤ (0 : Int32).toInt ∧ (0 : Int32).toInt ≤ 12 by decide), (show 0 ≤ (0 : Int32).toInt ∧ (0 : Int32).toInt ≤ 5 by decide), (show 0 ≤ (0 : Int32).toInt ∧ (0 : Int32).toInt ≤ 10 by decide), (show rg 0 3 (fun _ => 0) from rg_c (by decide)), (show rg 0 12 (fun _ => 0) from rg_c (by decide)), (show rg 0 4 (fun _ => 0) from rg_c (by decide)), (show (-1) ≤ ((-1) : Int32).toInt ∧ ((-1) : Int32).toInt ≤ 60 by decide), (show (-1) ≤ ((-1) : Int32).toInt ∧ ((-1) : Int32).toInt ≤ 60 by decide), (show (-1) ≤ ((-1) : Int32).toInt ∧ ((-1) : Int32).toInt ≤ 60 by decide), (show (-1) ≤ ((-1) : Int32).toInt ∧ ((-1) : Int32).toInt ≤ 60 by decide), (show 0 ≤ (0 : Int32).toInt ∧ (0 : Int32).toInt ≤ 16 by decide), (show (-1) ≤ ((-1) : Int32).toInt ∧ ((-1) : Int32).toInt ≤ 16 by decide), (show 0 ≤ (0 : Int32).toInt ∧ (0 : Int32).toInt ≤ 1600 by decide), (show 0 ≤ (0 : Int32).toInt ∧ (0 : Int32).toInt ≤ 16 by decide), (show rg 0 60 (fun _ => 0) from rg_c (by decide)), (show rg 0 5 (fun _ => 0) from rg_c (by decide)), (show rg 0 10 (fun _ => 0) from rg_c (by decide)), (show rg 0 12 (fun _ => 0) from rg_c (by decide)), (show rg 0 4 (fun _ => 0) from rg_c (by decide)), (show rg (-1) 9 (fun _ => 0) from rg_c (by decide)), (show rg 0 15 (fun _ => 0) from rg_c (by decide)), (show pg 3 0 0 8 (fun _ => 0) from fun _ => (show 0 ≤ (0 : Int32).toInt ∧ (0 : Int32).toInt ≤ 8 by decide)), (show pg 3 1 0 12 (fun _ => 0) from fun _ => (show 0 ≤ (0 : Int32).toInt ∧ (0 : Int32).toInt ≤ 12 by decide)), (show pg 3 0 0 100 (upd (upd (upd (fun _ => 0) 0 0) 1 2) 2 0) from pg_upd (pg_upd (pg_upd (fun _ => (show 0 ≤ (0 : Int32).toInt ∧ (0 : Int32).toInt ≤ 100 by decide)) (fun j hj => by decide)) (fun j hj => by decide)) (fun j hj => by decide)), (show pg 3 1 0 2 (upd (upd (upd (fun _ => 0) 0 0) 1 2) 2 0) from pg_upd (pg_upd (pg_upd (fun _ => (show 0 ≤ (0 : Int32).toInt ∧ (0 : Int32).toInt ≤ 2 by decide)) (fun j hj => by decide)) (fun j hj => by decide)) (fun j hj => by decide)), (show vr 0 (fun _ => 0) (fun _ => 0) from fun v hv => absurd (show (v : Int) < (0 : Int32).toInt from hv) (by rw [show (0 : Int32).toInt = 0 from rfl]; omega)), (show vr 1 (fun _ => 0) (fun _ => 0) from fun v hv => absurd (show (v : Int) < (0 : Int32).toInt from hv) (by rw [show (0 : Int32).toInt = 0 from rfl]; omega)), (show vr 2 (fun _ => 0) (fun _ => 0) from fun v hv => absurd (show (v : Int) < (0 : Int32).toInt from hv) (by rw [show (0 : Int32).toInt = 0 from rfl]; omega)), (show vr 3 (fun _ => 0) (fun _ => 0) from fun v hv => absurd (show (v : Int) < (0 : Int32).toInt from hv) (by rw [show (0 : Int32).toInt = 0 from rfl]; omega)), rfl, (Or.inl ⟨by decide, by decide⟩), (Or.inl ⟨by decide, by decide⟩), (Or.inl ⟨by decide, by decide⟩), (Or.inl ⟨by decide, by decide⟩)⟩
