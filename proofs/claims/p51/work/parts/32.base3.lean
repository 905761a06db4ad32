/-! longs as integers; one of four -/
theorem kl_lt {a b : Int64} {x y : Int} (ha : a.toInt = x) (hb : b.toInt = y) : lg_cmp a b < 0 ↔ x < y := by rw [lc_lt, l_lt, ha, hb]
theorem kl_gt {a b : Int64} {x y : Int} (ha : a.toInt = x) (hb : b.toInt = y) : 0 < lg_cmp a b ↔ y < x := by rw [lc_gt, l_lt, ha, hb]
theorem kl_le {a b : Int64} {x y : Int} (ha : a.toInt = x) (hb : b.toInt = y) : lg_cmp a b ≤ 0 ↔ x ≤ y := by rw [lc_le, l_le, ha, hb]
theorem kl_ge {a b : Int64} {x y : Int} (ha : a.toInt = x) (hb : b.toInt = y) : 0 ≤ lg_cmp a b ↔ y ≤ x := by rw [lc_ge, l_le, ha, hb]
theorem kl_eq {a b : Int64} {x y : Int} (ha : a.toInt = x) (hb : b.toInt = y) : lg_cmp a b = 0 ↔ x = y := by rw [lc_eq, l_eq, ha, hb]
theorem kl_2i {z : Int32} {a : Int64} {x : Int} (e : z = a.toInt32) (ha : a.toInt = x) (h1 : -2147483648 ≤ x) (h2 : x ≤ 2147483647) : z.toInt = x := by
  rw [e, Int64.toInt_toInt32, ha]
  exact t_bm h1 h2
/-- one of four, by a number -/
def s4 (i a b c d : Int32) : Int32 := if i.toInt = 0 then a else if i.toInt = 1 then b else if i.toInt = 2 then c else d
theorem s4_0 {i a b c d : Int32} (h : i.toInt = 0) : s4 i a b c d = a := by unfold s4; rw [if_pos h]
theorem s4_1 {i a b c d : Int32} (h : i.toInt = 1) : s4 i a b c d = b := by unfold s4; rw [if_neg (by omega), if_pos h]
theorem s4_2 {i a b c d : Int32} (h : i.toInt = 2) : s4 i a b c d = c := by unfold s4; rw [if_neg (by omega), if_neg (by omega), if_pos h]
theorem s4_3 {i a b c d : Int32} (h : i.toInt = 3) : s4 i a b c d = d := by unfold s4; rw [if_neg (by omega), if_neg (by omega), if_neg (by omega)]
