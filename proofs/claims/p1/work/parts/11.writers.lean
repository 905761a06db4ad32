set_option maxHeartbeats 4000000 in
set_option maxRecDepth 100000 in
theorem c_X2_isVoid (l : Launch) (D : va_G) (T : Nat → ClassId) (h0 nb : Nat) (w : Int32) : Met l yX2_isVoid (wM yX2_isVoid cX2_isVoid 1 (some .boolean)) ({ frames := 0, cells := 0, slots := 0, locals := 0 }) (va_Pc [.ref h0] (pwP D T [(h0, .inr (2, [.ref nb, .int w, .int (-1)]))])) (va_Qi (fun (r : Int32) (u : Unit) => r = 1) (fun _ _ => True) (fun _ => False)) 0 0 (fun _ => False) := by
  refine Met.ofW (cc := cX2_isVoid) (maxL := 1) (ret := (some .boolean)) (by decide) rfl ?_
  intro p e s m args below meth c s₁ B hml hv
  obtain ⟨rfl, hP, hC⟩ := hv
  have hx := B.exec
  have hb := B.bytes
  have hr := B.returns
  have hts : ∀ w ∈ gt, w.before _ s = true := fun w hw => atoms_spec (ws := (wM yX2_isVoid cX2_isVoid 1 (some .boolean))) B.pre w (List.mem_cons_of_mem _ hw)
  have hown : s.vm.findClass RX2 = some m.cls := findClass_of_methodNamed B.named
  have hlocks := B.notSynchronized
  have hK := hC.1
  have hS : va_S (fun _ => False) s.heap s.heap [] := va_S.rf
  have hl := lv_entry ([.ref h0]) (n := 1) (Nat.le_of_ble_eq_true rfl)
  rw [lg_entry_eq]
  generalize (lg_sl ([.ref h0]) ++ List.replicate (1 - (lg_sl ([.ref h0])).length) Slot.unset).toArray = ls at hl ⊢
  have hl : lv_has ls 1 [(0, .ref h0)] := hl
  refine lv_aload_n hx hb dX2_isVoid_0 rfl (lv_at hl 0 rfl) ?_
  refine va_get (D := D) (ci := 2) (C := RX2) (T := TX2) (N := 3) hx hb hts iX2 hown hK hP 0 rfl rfl 2 (by decide) (hts _ m428) (fun _ h9 => h9) rfl dX2_isVoid_1 ?_
  refine lv_iconst (v := (-1)) hx hb dX2_isVoid_4 (by decide) ?_
  refine lv_icmp_ne (tgt := 12) hx hb dX2_isVoid_5 (by decide) (fun c_1 => absurd c_1 (by decide)) (fun _ => ?_)
  refine lv_iconst (v := 1) hx hb dX2_isVoid_8 (by decide) ?_
  refine lv_goto (tgt := 13) hx hb dX2_isVoid_9 (by decide) ?_
  exact W.zret (v := 1) hx hb hr rfl (fun t ht hW => ⟨⟨1, (), rfl, rfl, trivial⟩, hS.F ht⟩) hS.2.2 dX2_isVoid_13

theorem z15_c_X10_end (i1 : Int32) (h0 : i1 < 0) : ((-1) : Int32) = a_end i1 := by
  unfold a_end
  (repeat' split) <;> first | rfl | assumption | (simp_all; done) | (exfalso; simp only [i_lt, i_le, i_eq, l_lt, l_le, l_eq, i_64, i_0, i_1, i_2, i_3, i_4, i_5, i_6, i_7, i_8, i_12, i_60, i_m1, l_0, l_1, l_2, l_3, l_4, l_12, l_m1, vp_in_iff] at *; omega)
theorem z16_c_X10_end (i1 : Int32) (h0 : ¬ i1 < 0) (h1 : i1 ≤ 0) : (i1 : Int32) = a_end i1 := by
  unfold a_end
  (repeat' split) <;> first | rfl | assumption | (simp_all; done) | (exfalso; simp only [i_lt, i_le, i_eq, l_lt, l_le, l_eq, i_64, i_0, i_1, i_2, i_3, i_4, i_5, i_6, i_7, i_8, i_12, i_60, i_m1, l_0, l_1, l_2, l_3, l_4, l_12, l_m1, vp_in_iff] at *; omega)
theorem z17_c_X10_end (i1 : Int32) (h0 : ¬ i1 < 0) (h1 : ¬ i1 ≤ 0) : ((-1) : Int32) = a_end i1 := by
  unfold a_end
  (repeat' split) <;> first | rfl | assumption | (simp_all; done) | (exfalso; simp only [i_lt, i_le, i_eq, l_lt, l_le, l_eq, i_64, i_0, i_1, i_2, i_3, i_4, i_5, i_6, i_7, i_8, i_12, i_60, i_m1, l_0, l_1, l_2, l_3, l_4, l_12, l_m1, vp_in_iff] at *; omega)
set_option maxHeartbeats 4000000 in
set_option maxRecDepth 100000 in
theorem c_X10_end (l : Launch) (D : va_G) (T : Nat → ClassId) (x0 a0 a1 a2 a15 a38 a130 a131 a132 a141 a144 a150 a151 : Nat) (i1 : Int32) (sz : Nat) : Met l yX10_end (wM yX10_end cX10_end 2 (some .int)) ({ frames := 0, cells := 0, slots := 0, locals := 0 }) (va_Pc [.ref x0, .int i1] (pwM D T [(x0, .inr (10, [.ref a0, .ref a2, .ref a15, .ref a38, .ref a130, .ref a131, .ref a132, .ref a141, .ref a144, .ref a150, .ref a151])), (a0, .inr (4, [.ref a1, .int 0]))] sz)) (va_Qi (fun (r : Int32) (u : Unit) => r = a_end i1) (fun _ _ => True) (va_A [(x0, .inr (10, [.ref a0, .ref a2, .ref a15, .ref a38, .ref a130, .ref a131, .ref a132, .ref a141, .ref a144, .ref a150, .ref a151])), (a0, .inr (4, [.ref a1, .int 0]))] sz)) 0 0 (va_A [(x0, .inr (10, [.ref a0, .ref a2, .ref a15, .ref a38, .ref a130, .ref a131, .ref a132, .ref a141, .ref a144, .ref a150, .ref a151])), (a0, .inr (4, [.ref a1, .int 0]))] sz) := by
  refine Met.ofW (cc := cX10_end) (maxL := 2) (ret := (some .int)) (by decide) rfl ?_
  intro p e s m args below meth c s₁ B hml hv
  obtain ⟨rfl, hsz, hP, hC, hD0⟩ := hv
  have hx := B.exec
  have hb := B.bytes
  have hr := B.returns
  have hts : ∀ w ∈ gt, w.before _ s = true := fun w hw => atoms_spec (ws := (wM yX10_end cX10_end 2 (some .int))) B.pre w (List.mem_cons_of_mem _ hw)
  have hown : s.vm.findClass RX10 = some m.cls := findClass_of_methodNamed B.named
  have hlocks := B.notSynchronized
  have hK := hC.1
  subst hsz
  have hD := hD0.self (sz := s.heap.size)
  generalize hAe : va_A [(x0, .inr (10, [.ref a0, .ref a2, .ref a15, .ref a38, .ref a130, .ref a131, .ref a132, .ref a141, .ref a144, .ref a150, .ref a151])), (a0, .inr (4, [.ref a1, .int 0]))] s.heap.size = A at hD ⊢
  have hA : ∀ q : Nat, s.heap.size ≤ q → A q := fun q h => by rw [← hAe]; exact Or.inr h
  have hS : va_S A s.heap s.heap [] := va_S.rf
  have hl := lv_entry ([.ref x0, .int i1]) (n := 2) (Nat.le_of_ble_eq_true rfl)
  rw [lg_entry_eq]
  generalize (lg_sl ([.ref x0, .int i1]) ++ List.replicate (2 - (lg_sl ([.ref x0, .int i1])).length) Slot.unset).toArray = ls at hl ⊢
  have hl : lv_has ls 2 [(0, .ref x0), (1, .int i1)] := hl
  refine lv_iload_n hx hb dX10_end_0 rfl (lv_at hl 1 rfl) ?_
  refine lv_if_lt (tgt := 15) hx hb dX10_end_1 (by decide) (fun c_1 => ?_) (fun c_1 => ?_)
  · refine lv_iconst (v := (-1)) hx hb dX10_end_15 (by decide) ?_
    exact W.iret (v := (-1)) hx hb hr (fun t ht hW => ⟨⟨(-1), (), rfl, (z15_c_X10_end i1 c_1), trivial⟩, hS.F ht⟩) hS.2.2 dX10_end_16
  · refine lv_iload_n hx hb dX10_end_4 rfl (lv_at hl 1 rfl) ?_
    refine lv_aload_n hx hb dX10_end_5 rfl (lv_at hl 0 rfl) ?_
    refine va_get (D := D) (ci := 10) (C := RX10) (T := TX10) (N := 11) hx hb hts iX10 hown hK hP 0 rfl rfl 0 (by decide) (hts _ m525) (fun _ h9 => h9) rfl dX10_end_6 ?_
    refine va_get (D := D) (ci := 4) (C := RX4) (T := TX4) (N := 2) hx hb hts iX4 hown hK hP 1 rfl rfl 1 (by decide) (hts _ m143) (fun _ h9 => h9) rfl dX10_end_9 ?_
    refine lv_icmp_le (tgt := 17) hx hb dX10_end_12 (by decide) (fun c_2 => ?_) (fun c_2 => ?_)
    · refine lv_aload_n hx hb dX10_end_17 rfl (lv_at hl 0 rfl) ?_
      refine va_get (D := D) (ci := 10) (C := RX10) (T := TX10) (N := 11) hx hb hts iX10 hown hK hP 0 rfl rfl 0 (by decide) (hts _ m525) (fun _ h9 => h9) rfl dX10_end_18 ?_
      refine lv_iload_n hx hb dX10_end_21 rfl (lv_at hl 1 rfl) ?_
      refine va_put (D := D) (ci := 4) (v := .int i1) (ty := .int) (C := RX4) (T := TX4) (N := 2) hx hb hts iX4 tyX4 tyX4_ok nmX4 hown hK hP hD hS 1 rfl rfl 1 (by decide) (hts _ m143) (fun _ h9 => h9) rfl (by decide +kernel) rfl rfl (Nat.le_of_ble_eq_true rfl) dX10_end_22 (fun H locs hP hD hS => ?_)
      have hP : va_P D vwCl [(x0, .inr (10, [.ref a0, .ref a2, .ref a15, .ref a38, .ref a130, .ref a131, .ref a132, .ref a141, .ref a144, .ref a150, .ref a151])), (a0, .inr (4, [.ref a1, .int i1]))] H := hP
      have hD : va_D A [(x0, .inr (10, [.ref a0, .ref a2, .ref a15, .ref a38, .ref a130, .ref a131, .ref a132, .ref a141, .ref a144, .ref a150, .ref a151])), (a0, .inr (4, [.ref a1, .int i1]))] := hD
      refine lv_iload_n hx hb dX10_end_25 rfl (lv_at hl 1 rfl) ?_
      exact W.iret (v := i1) hx hb hr (fun t ht hW => ⟨⟨i1, (), rfl, (z16_c_X10_end i1 c_1 c_2), trivial⟩, hS.F ht⟩) hS.2.2 dX10_end_26
    · refine lv_iconst (v := (-1)) hx hb dX10_end_15 (by decide) ?_
      exact W.iret (v := (-1)) hx hb hr (fun t ht hW => ⟨⟨(-1), (), rfl, (z17_c_X10_end i1 c_1 c_2), trivial⟩, hS.F ht⟩) hS.2.2 dX10_end_16

theorem z18_c_X10_write (i1 : Int32) (h0 : 0 ≤ i1) (h1 : i1 < 4) : i1 = 0 ∨ i1 = 1 ∨ i1 = 2 ∨ i1 = 3 := by
  simp only [i_lt, i_le, i_eq, l_lt, l_le, l_eq, i_64, i_0, i_1, i_2, i_3, i_4, i_5, i_6, i_7, i_8, i_12, i_60, i_m1, l_0, l_1, l_2, l_3, l_4, l_12, l_m1, vp_in_iff] at *; omega
theorem z19_c_X10_write (i1 : Int32) (h0 : 0 ≤ i1) (h1 : i1 < 4) (h2 : i1 = 0) : ((-6) : Int32) = a_write i1 := by
  unfold a_write
  (repeat' split) <;> first | rfl | assumption | (simp_all; done) | (exfalso; simp only [i_lt, i_le, i_eq, l_lt, l_le, l_eq, i_64, i_0, i_1, i_2, i_3, i_4, i_5, i_6, i_7, i_8, i_12, i_60, i_m1, l_0, l_1, l_2, l_3, l_4, l_12, l_m1, vp_in_iff] at *; omega)
theorem z20_c_X10_write (i1 : Int32) (h0 : 0 ≤ i1) (h1 : i1 < 4) (h2 : i1 = 1) : ((-6) : Int32) = a_write i1 := by
  unfold a_write
  (repeat' split) <;> first | rfl | assumption | (simp_all; done) | (exfalso; simp only [i_lt, i_le, i_eq, l_lt, l_le, l_eq, i_64, i_0, i_1, i_2, i_3, i_4, i_5, i_6, i_7, i_8, i_12, i_60, i_m1, l_0, l_1, l_2, l_3, l_4, l_12, l_m1, vp_in_iff] at *; omega)
theorem z21_c_X10_write (i1 : Int32) (h0 : 0 ≤ i1) (h1 : i1 < 4) (h2 : i1 = 2) : ((-6) : Int32) = a_write i1 := by
  unfold a_write
  (repeat' split) <;> first | rfl | assumption | (simp_all; done) | (exfalso; simp only [i_lt, i_le, i_eq, l_lt, l_le, l_eq, i_64, i_0, i_1, i_2, i_3, i_4, i_5, i_6, i_7, i_8, i_12, i_60, i_m1, l_0, l_1, l_2, l_3, l_4, l_12, l_m1, vp_in_iff] at *; omega)
theorem z22_c_X10_write (i1 : Int32) (h0 : 0 ≤ i1) (h1 : i1 < 4) (h2 : i1 = 3) : ((-6) : Int32) = a_write i1 := by
  unfold a_write
  (repeat' split) <;> first | rfl | assumption | (simp_all; done) | (exfalso; simp only [i_lt, i_le, i_eq, l_lt, l_le, l_eq, i_64, i_0, i_1, i_2, i_3, i_4, i_5, i_6, i_7, i_8, i_12, i_60, i_m1, l_0, l_1, l_2, l_3, l_4, l_12, l_m1, vp_in_iff] at *; omega)
theorem z23_c_X10_write (i1 : Int32) (h0 : ¬ (0 ≤ i1 ∧ i1 < 4)) : ((-2) : Int32) = a_write i1 := by
  unfold a_write
  (repeat' split) <;> first | rfl | assumption | (simp_all; done) | (exfalso; simp only [i_lt, i_le, i_eq, l_lt, l_le, l_eq, i_64, i_0, i_1, i_2, i_3, i_4, i_5, i_6, i_7, i_8, i_12, i_60, i_m1, l_0, l_1, l_2, l_3, l_4, l_12, l_m1, vp_in_iff] at *; omega)
set_option maxHeartbeats 4000000 in
set_option maxRecDepth 100000 in
theorem c_X10_write (l : Launch) (D : va_G) (T : Nat → ClassId) (x0 a0 a2 a15 a38 a130 a131 a132 a133 a134 a135 a136 a137 a138 a139 a140 a141 a144 a150 a151 : Nat) (i1 : Int32) (i2 : Int32) (v3 : Int64) : Met l yX10_write (wM yX10_write cX10_write 6 (some .int)) ({ frames := 1, cells := 0, slots := 0, locals := 21 }) (va_Pc [.ref x0, .int i1, .int i2, .long v3] (pwP D T [(x0, .inr (10, [.ref a0, .ref a2, .ref a15, .ref a38, .ref a130, .ref a131, .ref a132, .ref a141, .ref a144, .ref a150, .ref a151])), (a132, .inl (T 4, 4, .inr (.inr (.inr (.inr (va_up (va_up (va_up (va_up (fun _ => none) 0 (some a133)) 1 (some a135)) 2 (some a137)) 3 (some a139))))))), (a133, .inr (2, [.ref a134, .int 0, .int (-1)])), (a135, .inr (2, [.ref a136, .int 0, .int (-1)])), (a137, .inr (2, [.ref a138, .int 0, .int (-1)])), (a139, .inr (2, [.ref a140, .int 0, .int (-1)]))])) (va_Qi (fun (r : Int32) (u : Unit) => r = a_write i1) (fun _ _ => True) (fun _ => False)) 0 0 (fun _ => False) := by
  refine Met.ofW (cc := cX10_write) (maxL := 6) (ret := (some .int)) (by decide) rfl ?_
  intro p e s m args below meth c s₁ B hml hv
  obtain ⟨rfl, hP, hC⟩ := hv
  have hx := B.exec
  have hb := B.bytes
  have hr := B.returns
  have hts : ∀ w ∈ gt, w.before _ s = true := fun w hw => atoms_spec (ws := (wM yX10_write cX10_write 6 (some .int))) B.pre w (List.mem_cons_of_mem _ hw)
  have hown : s.vm.findClass RX10 = some m.cls := findClass_of_methodNamed B.named
  have hlocks := B.notSynchronized
  have hK := hC.1
  have hS : va_S (fun _ => False) s.heap s.heap [] := va_S.rf
  have hl := lv_entry ([.ref x0, .int i1, .int i2, .long v3]) (n := 6) (Nat.le_of_ble_eq_true rfl)
  rw [lg_entry_eq]
  generalize (lg_sl ([.ref x0, .int i1, .int i2, .long v3]) ++ List.replicate (6 - (lg_sl ([.ref x0, .int i1, .int i2, .long v3])).length) Slot.unset).toArray = ls at hl ⊢
  have hl : lv_has ls 6 [(0, .ref x0), (1, .int i1), (2, .int i2), (3, .long v3)] := hl
  refine lv_aload_n hx hb dX10_write_0 rfl (lv_at hl 0 rfl) ?_
  refine lv_iload_n hx hb dX10_write_1 rfl (lv_at hl 1 rfl) ?_
  refine puI (cV (As := [.int i1]) (rest := []) ⟨hx, hb, hml, hown, hts⟩ (c_X10_isSlot l D T x0 a0 a2 a15 a38 a130 a131 a132 a133 a135 a137 a139 a141 a144 a150 a151 i1) k_X10_isSlot v_X10_isSlot m1239 rfl rfl ⟨(Nat.le_of_ble_eq_true rfl), (Nat.le_of_ble_eq_true rfl)⟩ (preP hC (hP.sub (ws' := [(x0, .inr (10, [.ref a0, .ref a2, .ref a15, .ref a38, .ref a130, .ref a131, .ref a132, .ref a141, .ref a144, .ref a150, .ref a151])), (a132, .inl (T 4, 4, .inr (.inr (.inr (.inr (va_up (va_up (va_up (va_up (fun _ => none) 0 (some a133)) 1 (some a135)) 2 (some a137)) 3 (some a139)))))))]) [0, 1] rfl)) (va_recv hK hP (ci := 10) (q0 := 0) rfl rfl) rfl hl.1 rfl (Nat.le_of_ble_eq_true rfl) dX10_write_2 ⟨(Nat.le_of_ble_eq_true rfl), (Nat.le_of_ble_eq_true rfl)⟩) hS hP (fun r_1 H locs hw hP hS => ?_)
  rcases (show (r_1 = 1 ∧ 0 ≤ i1 ∧ i1 < 4) ∨ (r_1 = 0 ∧ ¬ (0 ≤ i1 ∧ i1 < 4)) from hw) with ⟨rfl, c_3, c_4⟩ | ⟨rfl, c_5⟩
  · refine lv_if_ne (tgt := 11) hx hb dX10_write_5 (by decide) (fun _ => ?_) (fun c_6 => absurd c_6 (by decide))
    refine lv_aload_n hx hb dX10_write_11 rfl (lv_at hl 0 rfl) ?_
    refine va_get (D := D) (ci := 10) (C := RX10) (T := TX10) (N := 11) hx hb hts iX10 hown hK hP 0 rfl rfl 6 (by decide) (hts _ m531) (fun _ h9 => h9) rfl dX10_write_12 ?_
    refine lv_iload_n hx hb dX10_write_15 rfl (lv_at hl 1 rfl) ?_
    rcases (z18_c_X10_write i1 c_3 c_4) with rfl | rfl | rfl | rfl
    · refine va_aldq (D := D) hx hb hK hP 1 4 rfl rfl (by unfold vp_in; decide) dX10_write_16 ?_
      refine W.eq (g2 := F0 m _ ls (.ref a133 :: _)) rfl ?_
      refine lv_astore (lv' := [(5, .ref a133), (0, .ref x0), (1, .int 0), (2, .int i2), (3, .long v3)]) hx hb dX10_write_17 hl (by decide) rfl (fun ls hl => ?_)
      refine lv_aload hx hb dX10_write_19 (lv_at hl 0 rfl) ?_
      refine puI (cV (As := []) (rest := []) ⟨hx, hb, hml, hown, hts⟩ (c_X2_isVoid l D T a133 a134 0) k_X2_isVoid v_X2_isVoid m1243 rfl rfl ⟨(Nat.le_of_ble_eq_true rfl), (Nat.le_of_ble_eq_true rfl)⟩ (preP hC (hP.sub (ws' := [(a133, .inr (2, [.ref a134, .int 0, .int (-1)]))]) [2] rfl)) (va_recv hK hP (ci := 2) (q0 := 2) rfl rfl) rfl hl.1 rfl (Nat.le_of_ble_eq_true rfl) dX10_write_21 ⟨(Nat.le_of_ble_eq_true rfl), (Nat.le_of_ble_eq_true rfl)⟩) hS hP (fun r_7 H locs hw hP hS => ?_)
      obtain rfl : r_7 = 1 := hw
      refine lv_if_eq (tgt := 30) hx hb dX10_write_24 (by decide) (fun c_9 => absurd c_9 (by decide)) (fun _ => ?_)
      refine lv_bipush (v := (-6)) hx hb dX10_write_27 (by decide) ?_
      exact W.iret (v := (-6)) hx hb hr (fun t ht hW => ⟨⟨(-6), (), rfl, (z19_c_X10_write 0 c_3 c_4 rfl), trivial⟩, hS.F ht⟩) hS.2.2 dX10_write_29
    · refine va_aldq (D := D) hx hb hK hP 1 4 rfl rfl (by unfold vp_in; decide) dX10_write_16 ?_
      refine W.eq (g2 := F0 m _ ls (.ref a135 :: _)) rfl ?_
      refine lv_astore (lv' := [(5, .ref a135), (0, .ref x0), (1, .int 1), (2, .int i2), (3, .long v3)]) hx hb dX10_write_17 hl (by decide) rfl (fun ls hl => ?_)
      refine lv_aload hx hb dX10_write_19 (lv_at hl 0 rfl) ?_
      refine puI (cV (As := []) (rest := []) ⟨hx, hb, hml, hown, hts⟩ (c_X2_isVoid l D T a135 a136 0) k_X2_isVoid v_X2_isVoid m1243 rfl rfl ⟨(Nat.le_of_ble_eq_true rfl), (Nat.le_of_ble_eq_true rfl)⟩ (preP hC (hP.sub (ws' := [(a135, .inr (2, [.ref a136, .int 0, .int (-1)]))]) [3] rfl)) (va_recv hK hP (ci := 2) (q0 := 3) rfl rfl) rfl hl.1 rfl (Nat.le_of_ble_eq_true rfl) dX10_write_21 ⟨(Nat.le_of_ble_eq_true rfl), (Nat.le_of_ble_eq_true rfl)⟩) hS hP (fun r_10 H locs hw hP hS => ?_)
      obtain rfl : r_10 = 1 := hw
      refine lv_if_eq (tgt := 30) hx hb dX10_write_24 (by decide) (fun c_12 => absurd c_12 (by decide)) (fun _ => ?_)
      refine lv_bipush (v := (-6)) hx hb dX10_write_27 (by decide) ?_
      exact W.iret (v := (-6)) hx hb hr (fun t ht hW => ⟨⟨(-6), (), rfl, (z20_c_X10_write 1 c_3 c_4 rfl), trivial⟩, hS.F ht⟩) hS.2.2 dX10_write_29
    · refine va_aldq (D := D) hx hb hK hP 1 4 rfl rfl (by unfold vp_in; decide) dX10_write_16 ?_
      refine W.eq (g2 := F0 m _ ls (.ref a137 :: _)) rfl ?_
      refine lv_astore (lv' := [(5, .ref a137), (0, .ref x0), (1, .int 2), (2, .int i2), (3, .long v3)]) hx hb dX10_write_17 hl (by decide) rfl (fun ls hl => ?_)
      refine lv_aload hx hb dX10_write_19 (lv_at hl 0 rfl) ?_
      refine puI (cV (As := []) (rest := []) ⟨hx, hb, hml, hown, hts⟩ (c_X2_isVoid l D T a137 a138 0) k_X2_isVoid v_X2_isVoid m1243 rfl rfl ⟨(Nat.le_of_ble_eq_true rfl), (Nat.le_of_ble_eq_true rfl)⟩ (preP hC (hP.sub (ws' := [(a137, .inr (2, [.ref a138, .int 0, .int (-1)]))]) [4] rfl)) (va_recv hK hP (ci := 2) (q0 := 4) rfl rfl) rfl hl.1 rfl (Nat.le_of_ble_eq_true rfl) dX10_write_21 ⟨(Nat.le_of_ble_eq_true rfl), (Nat.le_of_ble_eq_true rfl)⟩) hS hP (fun r_13 H locs hw hP hS => ?_)
      obtain rfl : r_13 = 1 := hw
      refine lv_if_eq (tgt := 30) hx hb dX10_write_24 (by decide) (fun c_15 => absurd c_15 (by decide)) (fun _ => ?_)
      refine lv_bipush (v := (-6)) hx hb dX10_write_27 (by decide) ?_
      exact W.iret (v := (-6)) hx hb hr (fun t ht hW => ⟨⟨(-6), (), rfl, (z21_c_X10_write 2 c_3 c_4 rfl), trivial⟩, hS.F ht⟩) hS.2.2 dX10_write_29
    · refine va_aldq (D := D) hx hb hK hP 1 4 rfl rfl (by unfold vp_in; decide) dX10_write_16 ?_
      refine W.eq (g2 := F0 m _ ls (.ref a139 :: _)) rfl ?_
      refine lv_astore (lv' := [(5, .ref a139), (0, .ref x0), (1, .int 3), (2, .int i2), (3, .long v3)]) hx hb dX10_write_17 hl (by decide) rfl (fun ls hl => ?_)
      refine lv_aload hx hb dX10_write_19 (lv_at hl 0 rfl) ?_
      refine puI (cV (As := []) (rest := []) ⟨hx, hb, hml, hown, hts⟩ (c_X2_isVoid l D T a139 a140 0) k_X2_isVoid v_X2_isVoid m1243 rfl rfl ⟨(Nat.le_of_ble_eq_true rfl), (Nat.le_of_ble_eq_true rfl)⟩ (preP hC (hP.sub (ws' := [(a139, .inr (2, [.ref a140, .int 0, .int (-1)]))]) [5] rfl)) (va_recv hK hP (ci := 2) (q0 := 5) rfl rfl) rfl hl.1 rfl (Nat.le_of_ble_eq_true rfl) dX10_write_21 ⟨(Nat.le_of_ble_eq_true rfl), (Nat.le_of_ble_eq_true rfl)⟩) hS hP (fun r_16 H locs hw hP hS => ?_)
      obtain rfl : r_16 = 1 := hw
      refine lv_if_eq (tgt := 30) hx hb dX10_write_24 (by decide) (fun c_18 => absurd c_18 (by decide)) (fun _ => ?_)
      refine lv_bipush (v := (-6)) hx hb dX10_write_27 (by decide) ?_
      exact W.iret (v := (-6)) hx hb hr (fun t ht hW => ⟨⟨(-6), (), rfl, (z22_c_X10_write 3 c_3 c_4 rfl), trivial⟩, hS.F ht⟩) hS.2.2 dX10_write_29
  · refine lv_if_ne (tgt := 11) hx hb dX10_write_5 (by decide) (fun c_19 => absurd c_19 (by decide)) (fun _ => ?_)
    refine lv_bipush (v := (-2)) hx hb dX10_write_8 (by decide) ?_
    exact W.iret (v := (-2)) hx hb hr (fun t ht hW => ⟨⟨(-2), (), rfl, (z23_c_X10_write i1 c_5), trivial⟩, hS.F ht⟩) hS.2.2 dX10_write_10

theorem z24_c_X10_paste (i1 : Int32) (i3 : Int32) (h0 : 0 ≤ i1) (h1 : i1 < 4) (h2 : 0 ≤ i3) (h3 : i3 < 4) : i1 = 0 ∨ i1 = 1 ∨ i1 = 2 ∨ i1 = 3 := by
  simp only [i_lt, i_le, i_eq, l_lt, l_le, l_eq, i_64, i_0, i_1, i_2, i_3, i_4, i_5, i_6, i_7, i_8, i_12, i_60, i_m1, l_0, l_1, l_2, l_3, l_4, l_12, l_m1, vp_in_iff] at *; omega
theorem z25_c_X10_paste (i1 : Int32) (i3 : Int32) (h0 : 0 ≤ i1) (h1 : i1 < 4) (h2 : 0 ≤ i3) (h3 : i3 < 4) (h4 : i1 = 0) : i3 = 0 ∨ i3 = 1 ∨ i3 = 2 ∨ i3 = 3 := by
  simp only [i_lt, i_le, i_eq, l_lt, l_le, l_eq, i_64, i_0, i_1, i_2, i_3, i_4, i_5, i_6, i_7, i_8, i_12, i_60, i_m1, l_0, l_1, l_2, l_3, l_4, l_12, l_m1, vp_in_iff] at *; omega
theorem z26_c_X10_paste (i1 : Int32) (i3 : Int32) (h0 : 0 ≤ i1) (h1 : i1 < 4) (h2 : 0 ≤ i3) (h3 : i3 < 4) (h4 : i1 = 0) (h5 : i3 = 0) : ((-6) : Int32) = a_paste i1 i3 := by
  unfold a_paste
  (repeat' split) <;> first | rfl | assumption | (simp_all; done) | (exfalso; simp only [i_lt, i_le, i_eq, l_lt, l_le, l_eq, i_64, i_0, i_1, i_2, i_3, i_4, i_5, i_6, i_7, i_8, i_12, i_60, i_m1, l_0, l_1, l_2, l_3, l_4, l_12, l_m1, vp_in_iff] at *; omega)
theorem z27_c_X10_paste (i1 : Int32) (i3 : Int32) (h0 : 0 ≤ i1) (h1 : i1 < 4) (h2 : 0 ≤ i3) (h3 : i3 < 4) (h4 : i1 = 0) (h5 : i3 = 1) : ((-6) : Int32) = a_paste i1 i3 := by
  unfold a_paste
  (repeat' split) <;> first | rfl | assumption | (simp_all; done) | (exfalso; simp only [i_lt, i_le, i_eq, l_lt, l_le, l_eq, i_64, i_0, i_1, i_2, i_3, i_4, i_5, i_6, i_7, i_8, i_12, i_60, i_m1, l_0, l_1, l_2, l_3, l_4, l_12, l_m1, vp_in_iff] at *; omega)
theorem z28_c_X10_paste (i1 : Int32) (i3 : Int32) (h0 : 0 ≤ i1) (h1 : i1 < 4) (h2 : 0 ≤ i3) (h3 : i3 < 4) (h4 : i1 = 0) (h5 : i3 = 2) : ((-6) : Int32) = a_paste i1 i3 := by
  unfold a_paste
  (repeat' split) <;> first | rfl | assumption | (simp_all; done) | (exfalso; simp only [i_lt, i_le, i_eq, l_lt, l_le, l_eq, i_64, i_0, i_1, i_2, i_3, i_4, i_5, i_6, i_7, i_8, i_12, i_60, i_m1, l_0, l_1, l_2, l_3, l_4, l_12, l_m1, vp_in_iff] at *; omega)
theorem z29_c_X10_paste (i1 : Int32) (i3 : Int32) (h0 : 0 ≤ i1) (h1 : i1 < 4) (h2 : 0 ≤ i3) (h3 : i3 < 4) (h4 : i1 = 0) (h5 : i3 = 3) : ((-6) : Int32) = a_paste i1 i3 := by
  unfold a_paste
  (repeat' split) <;> first | rfl | assumption | (simp_all; done) | (exfalso; simp only [i_lt, i_le, i_eq, l_lt, l_le, l_eq, i_64, i_0, i_1, i_2, i_3, i_4, i_5, i_6, i_7, i_8, i_12, i_60, i_m1, l_0, l_1, l_2, l_3, l_4, l_12, l_m1, vp_in_iff] at *; omega)
theorem z30_c_X10_paste (i1 : Int32) (i3 : Int32) (h0 : 0 ≤ i1) (h1 : i1 < 4) (h2 : 0 ≤ i3) (h3 : i3 < 4) (h4 : i1 = 1) : i3 = 0 ∨ i3 = 1 ∨ i3 = 2 ∨ i3 = 3 := by
  simp only [i_lt, i_le, i_eq, l_lt, l_le, l_eq, i_64, i_0, i_1, i_2, i_3, i_4, i_5, i_6, i_7, i_8, i_12, i_60, i_m1, l_0, l_1, l_2, l_3, l_4, l_12, l_m1, vp_in_iff] at *; omega
theorem z31_c_X10_paste (i1 : Int32) (i3 : Int32) (h0 : 0 ≤ i1) (h1 : i1 < 4) (h2 : 0 ≤ i3) (h3 : i3 < 4) (h4 : i1 = 1) (h5 : i3 = 0) : ((-6) : Int32) = a_paste i1 i3 := by
  unfold a_paste
  (repeat' split) <;> first | rfl | assumption | (simp_all; done) | (exfalso; simp only [i_lt, i_le, i_eq, l_lt, l_le, l_eq, i_64, i_0, i_1, i_2, i_3, i_4, i_5, i_6, i_7, i_8, i_12, i_60, i_m1, l_0, l_1, l_2, l_3, l_4, l_12, l_m1, vp_in_iff] at *; omega)
theorem z32_c_X10_paste (i1 : Int32) (i3 : Int32) (h0 : 0 ≤ i1) (h1 : i1 < 4) (h2 : 0 ≤ i3) (h3 : i3 < 4) (h4 : i1 = 1) (h5 : i3 = 1) : ((-6) : Int32) = a_paste i1 i3 := by
  unfold a_paste
  (repeat' split) <;> first | rfl | assumption | (simp_all; done) | (exfalso; simp only [i_lt, i_le, i_eq, l_lt, l_le, l_eq, i_64, i_0, i_1, i_2, i_3, i_4, i_5, i_6, i_7, i_8, i_12, i_60, i_m1, l_0, l_1, l_2, l_3, l_4, l_12, l_m1, vp_in_iff] at *; omega)
theorem z33_c_X10_paste (i1 : Int32) (i3 : Int32) (h0 : 0 ≤ i1) (h1 : i1 < 4) (h2 : 0 ≤ i3) (h3 : i3 < 4) (h4 : i1 = 1) (h5 : i3 = 2) : ((-6) : Int32) = a_paste i1 i3 := by
  unfold a_paste
  (repeat' split) <;> first | rfl | assumption | (simp_all; done) | (exfalso; simp only [i_lt, i_le, i_eq, l_lt, l_le, l_eq, i_64, i_0, i_1, i_2, i_3, i_4, i_5, i_6, i_7, i_8, i_12, i_60, i_m1, l_0, l_1, l_2, l_3, l_4, l_12, l_m1, vp_in_iff] at *; omega)
theorem z34_c_X10_paste (i1 : Int32) (i3 : Int32) (h0 : 0 ≤ i1) (h1 : i1 < 4) (h2 : 0 ≤ i3) (h3 : i3 < 4) (h4 : i1 = 1) (h5 : i3 = 3) : ((-6) : Int32) = a_paste i1 i3 := by
  unfold a_paste
  (repeat' split) <;> first | rfl | assumption | (simp_all; done) | (exfalso; simp only [i_lt, i_le, i_eq, l_lt, l_le, l_eq, i_64, i_0, i_1, i_2, i_3, i_4, i_5, i_6, i_7, i_8, i_12, i_60, i_m1, l_0, l_1, l_2, l_3, l_4, l_12, l_m1, vp_in_iff] at *; omega)
theorem z35_c_X10_paste (i1 : Int32) (i3 : Int32) (h0 : 0 ≤ i1) (h1 : i1 < 4) (h2 : 0 ≤ i3) (h3 : i3 < 4) (h4 : i1 = 2) : i3 = 0 ∨ i3 = 1 ∨ i3 = 2 ∨ i3 = 3 := by
  simp only [i_lt, i_le, i_eq, l_lt, l_le, l_eq, i_64, i_0, i_1, i_2, i_3, i_4, i_5, i_6, i_7, i_8, i_12, i_60, i_m1, l_0, l_1, l_2, l_3, l_4, l_12, l_m1, vp_in_iff] at *; omega
theorem z36_c_X10_paste (i1 : Int32) (i3 : Int32) (h0 : 0 ≤ i1) (h1 : i1 < 4) (h2 : 0 ≤ i3) (h3 : i3 < 4) (h4 : i1 = 2) (h5 : i3 = 0) : ((-6) : Int32) = a_paste i1 i3 := by
  unfold a_paste
  (repeat' split) <;> first | rfl | assumption | (simp_all; done) | (exfalso; simp only [i_lt, i_le, i_eq, l_lt, l_le, l_eq, i_64, i_0, i_1, i_2, i_3, i_4, i_5, i_6, i_7, i_8, i_12, i_60, i_m1, l_0, l_1, l_2, l_3, l_4, l_12, l_m1, vp_in_iff] at *; omega)
theorem z37_c_X10_paste (i1 : Int32) (i3 : Int32) (h0 : 0 ≤ i1) (h1 : i1 < 4) (h2 : 0 ≤ i3) (h3 : i3 < 4) (h4 : i1 = 2) (h5 : i3 = 1) : ((-6) : Int32) = a_paste i1 i3 := by
  unfold a_paste
  (repeat' split) <;> first | rfl | assumption | (simp_all; done) | (exfalso; simp only [i_lt, i_le, i_eq, l_lt, l_le, l_eq, i_64, i_0, i_1, i_2, i_3, i_4, i_5, i_6, i_7, i_8, i_12, i_60, i_m1, l_0, l_1, l_2, l_3, l_4, l_12, l_m1, vp_in_iff] at *; omega)
theorem z38_c_X10_paste (i1 : Int32) (i3 : Int32) (h0 : 0 ≤ i1) (h1 : i1 < 4) (h2 : 0 ≤ i3) (h3 : i3 < 4) (h4 : i1 = 2) (h5 : i3 = 2) : ((-6) : Int32) = a_paste i1 i3 := by
  unfold a_paste
  (repeat' split) <;> first | rfl | assumption | (simp_all; done) | (exfalso; simp only [i_lt, i_le, i_eq, l_lt, l_le, l_eq, i_64, i_0, i_1, i_2, i_3, i_4, i_5, i_6, i_7, i_8, i_12, i_60, i_m1, l_0, l_1, l_2, l_3, l_4, l_12, l_m1, vp_in_iff] at *; omega)
theorem z39_c_X10_paste (i1 : Int32) (i3 : Int32) (h0 : 0 ≤ i1) (h1 : i1 < 4) (h2 : 0 ≤ i3) (h3 : i3 < 4) (h4 : i1 = 2) (h5 : i3 = 3) : ((-6) : Int32) = a_paste i1 i3 := by
  unfold a_paste
  (repeat' split) <;> first | rfl | assumption | (simp_all; done) | (exfalso; simp only [i_lt, i_le, i_eq, l_lt, l_le, l_eq, i_64, i_0, i_1, i_2, i_3, i_4, i_5, i_6, i_7, i_8, i_12, i_60, i_m1, l_0, l_1, l_2, l_3, l_4, l_12, l_m1, vp_in_iff] at *; omega)
theorem z40_c_X10_paste (i1 : Int32) (i3 : Int32) (h0 : 0 ≤ i1) (h1 : i1 < 4) (h2 : 0 ≤ i3) (h3 : i3 < 4) (h4 : i1 = 3) : i3 = 0 ∨ i3 = 1 ∨ i3 = 2 ∨ i3 = 3 := by
  simp only [i_lt, i_le, i_eq, l_lt, l_le, l_eq, i_64, i_0, i_1, i_2, i_3, i_4, i_5, i_6, i_7, i_8, i_12, i_60, i_m1, l_0, l_1, l_2, l_3, l_4, l_12, l_m1, vp_in_iff] at *; omega
theorem z41_c_X10_paste (i1 : Int32) (i3 : Int32) (h0 : 0 ≤ i1) (h1 : i1 < 4) (h2 : 0 ≤ i3) (h3 : i3 < 4) (h4 : i1 = 3) (h5 : i3 = 0) : ((-6) : Int32) = a_paste i1 i3 := by
  unfold a_paste
  (repeat' split) <;> first | rfl | assumption | (simp_all; done) | (exfalso; simp only [i_lt, i_le, i_eq, l_lt, l_le, l_eq, i_64, i_0, i_1, i_2, i_3, i_4, i_5, i_6, i_7, i_8, i_12, i_60, i_m1, l_0, l_1, l_2, l_3, l_4, l_12, l_m1, vp_in_iff] at *; omega)
theorem z42_c_X10_paste (i1 : Int32) (i3 : Int32) (h0 : 0 ≤ i1) (h1 : i1 < 4) (h2 : 0 ≤ i3) (h3 : i3 < 4) (h4 : i1 = 3) (h5 : i3 = 1) : ((-6) : Int32) = a_paste i1 i3 := by
  unfold a_paste
  (repeat' split) <;> first | rfl | assumption | (simp_all; done) | (exfalso; simp only [i_lt, i_le, i_eq, l_lt, l_le, l_eq, i_64, i_0, i_1, i_2, i_3, i_4, i_5, i_6, i_7, i_8, i_12, i_60, i_m1, l_0, l_1, l_2, l_3, l_4, l_12, l_m1, vp_in_iff] at *; omega)
theorem z43_c_X10_paste (i1 : Int32) (i3 : Int32) (h0 : 0 ≤ i1) (h1 : i1 < 4) (h2 : 0 ≤ i3) (h3 : i3 < 4) (h4 : i1 = 3) (h5 : i3 = 2) : ((-6) : Int32) = a_paste i1 i3 := by
  unfold a_paste
  (repeat' split) <;> first | rfl | assumption | (simp_all; done) | (exfalso; simp only [i_lt, i_le, i_eq, l_lt, l_le, l_eq, i_64, i_0, i_1, i_2, i_3, i_4, i_5, i_6, i_7, i_8, i_12, i_60, i_m1, l_0, l_1, l_2, l_3, l_4, l_12, l_m1, vp_in_iff] at *; omega)
theorem z44_c_X10_paste (i1 : Int32) (i3 : Int32) (h0 : 0 ≤ i1) (h1 : i1 < 4) (h2 : 0 ≤ i3) (h3 : i3 < 4) (h4 : i1 = 3) (h5 : i3 = 3) : ((-6) : Int32) = a_paste i1 i3 := by
  unfold a_paste
  (repeat' split) <;> first | rfl | assumption | (simp_all; done) | (exfalso; simp only [i_lt, i_le, i_eq, l_lt, l_le, l_eq, i_64, i_0, i_1, i_2, i_3, i_4, i_5, i_6, i_7, i_8, i_12, i_60, i_m1, l_0, l_1, l_2, l_3, l_4, l_12, l_m1, vp_in_iff] at *; omega)
theorem z45_c_X10_paste (i1 : Int32) (i3 : Int32) (h0 : 0 ≤ i1) (h1 : i1 < 4) (h2 : ¬ (0 ≤ i3 ∧ i3 < 4)) : ((-2) : Int32) = a_paste i1 i3 := by
  unfold a_paste
  (repeat' split) <;> first | rfl | assumption | (simp_all; done) | (exfalso; simp only [i_lt, i_le, i_eq, l_lt, l_le, l_eq, i_64, i_0, i_1, i_2, i_3, i_4, i_5, i_6, i_7, i_8, i_12, i_60, i_m1, l_0, l_1, l_2, l_3, l_4, l_12, l_m1, vp_in_iff] at *; omega)
theorem z46_c_X10_paste (i1 : Int32) (i3 : Int32) (h0 : ¬ (0 ≤ i1 ∧ i1 < 4)) : ((-2) : Int32) = a_paste i1 i3 := by
  unfold a_paste
  (repeat' split) <;> first | rfl | assumption | (simp_all; done) | (exfalso; simp only [i_lt, i_le, i_eq, l_lt, l_le, l_eq, i_64, i_0, i_1, i_2, i_3, i_4, i_5, i_6, i_7, i_8, i_12, i_60, i_m1, l_0, l_1, l_2, l_3, l_4, l_12, l_m1, vp_in_iff] at *; omega)
set_option maxHeartbeats 4000000 in
set_option maxRecDepth 100000 in
theorem c_X10_paste (l : Launch) (D : va_G) (T : Nat → ClassId) (x0 a0 a2 a15 a38 a130 a131 a132 a133 a134 a135 a136 a137 a138 a139 a140 a141 a144 a150 a151 : Nat) (i1 : Int32) (i2 : Int32) (i3 : Int32) (i4 : Int32) (i5 : Int32) : Met l yX10_paste (wM yX10_paste cX10_paste 8 (some .int)) ({ frames := 1, cells := 0, slots := 0, locals := 21 }) (va_Pc [.ref x0, .int i1, .int i2, .int i3, .int i4, .int i5] (pwP D T [(x0, .inr (10, [.ref a0, .ref a2, .ref a15, .ref a38, .ref a130, .ref a131, .ref a132, .ref a141, .ref a144, .ref a150, .ref a151])), (a132, .inl (T 4, 4, .inr (.inr (.inr (.inr (va_up (va_up (va_up (va_up (fun _ => none) 0 (some a133)) 1 (some a135)) 2 (some a137)) 3 (some a139))))))), (a133, .inr (2, [.ref a134, .int 0, .int (-1)])), (a135, .inr (2, [.ref a136, .int 0, .int (-1)])), (a137, .inr (2, [.ref a138, .int 0, .int (-1)])), (a139, .inr (2, [.ref a140, .int 0, .int (-1)]))])) (va_Qi (fun (r : Int32) (u : Unit) => r = a_paste i1 i3) (fun _ _ => True) (fun _ => False)) 0 0 (fun _ => False) := by
  refine Met.ofW (cc := cX10_paste) (maxL := 8) (ret := (some .int)) (by decide) rfl ?_
  intro p e s m args below meth c s₁ B hml hv
  obtain ⟨rfl, hP, hC⟩ := hv
  have hx := B.exec
  have hb := B.bytes
  have hr := B.returns
  have hts : ∀ w ∈ gt, w.before _ s = true := fun w hw => atoms_spec (ws := (wM yX10_paste cX10_paste 8 (some .int))) B.pre w (List.mem_cons_of_mem _ hw)
  have hown : s.vm.findClass RX10 = some m.cls := findClass_of_methodNamed B.named
  have hlocks := B.notSynchronized
  have hK := hC.1
  have hS : va_S (fun _ => False) s.heap s.heap [] := va_S.rf
  have hl := lv_entry ([.ref x0, .int i1, .int i2, .int i3, .int i4, .int i5]) (n := 8) (Nat.le_of_ble_eq_true rfl)
  rw [lg_entry_eq]
  generalize (lg_sl ([.ref x0, .int i1, .int i2, .int i3, .int i4, .int i5]) ++ List.replicate (8 - (lg_sl ([.ref x0, .int i1, .int i2, .int i3, .int i4, .int i5])).length) Slot.unset).toArray = ls at hl ⊢
  have hl : lv_has ls 8 [(0, .ref x0), (1, .int i1), (2, .int i2), (3, .int i3), (4, .int i4), (5, .int i5)] := hl
  refine lv_aload_n hx hb dX10_paste_0 rfl (lv_at hl 0 rfl) ?_
  refine lv_iload_n hx hb dX10_paste_1 rfl (lv_at hl 1 rfl) ?_
  refine puI (cV (As := [.int i1]) (rest := []) ⟨hx, hb, hml, hown, hts⟩ (c_X10_isSlot l D T x0 a0 a2 a15 a38 a130 a131 a132 a133 a135 a137 a139 a141 a144 a150 a151 i1) k_X10_isSlot v_X10_isSlot m1239 rfl rfl ⟨(Nat.le_of_ble_eq_true rfl), (Nat.le_of_ble_eq_true rfl)⟩ (preP hC (hP.sub (ws' := [(x0, .inr (10, [.ref a0, .ref a2, .ref a15, .ref a38, .ref a130, .ref a131, .ref a132, .ref a141, .ref a144, .ref a150, .ref a151])), (a132, .inl (T 4, 4, .inr (.inr (.inr (.inr (va_up (va_up (va_up (va_up (fun _ => none) 0 (some a133)) 1 (some a135)) 2 (some a137)) 3 (some a139)))))))]) [0, 1] rfl)) (va_recv hK hP (ci := 10) (q0 := 0) rfl rfl) rfl hl.1 rfl (Nat.le_of_ble_eq_true rfl) dX10_paste_2 ⟨(Nat.le_of_ble_eq_true rfl), (Nat.le_of_ble_eq_true rfl)⟩) hS hP (fun r_1 H locs hw hP hS => ?_)
  rcases (show (r_1 = 1 ∧ 0 ≤ i1 ∧ i1 < 4) ∨ (r_1 = 0 ∧ ¬ (0 ≤ i1 ∧ i1 < 4)) from hw) with ⟨rfl, c_3, c_4⟩ | ⟨rfl, c_5⟩
  · refine lv_if_eq (tgt := 16) hx hb dX10_paste_5 (by decide) (fun c_6 => absurd c_6 (by decide)) (fun _ => ?_)
    refine lv_aload_n hx hb dX10_paste_8 rfl (lv_at hl 0 rfl) ?_
    refine lv_iload_n hx hb dX10_paste_9 rfl (lv_at hl 3 rfl) ?_
    refine puI (cV (As := [.int i3]) (rest := []) ⟨hx, hb, hml, hown, hts⟩ (c_X10_isSlot l D T x0 a0 a2 a15 a38 a130 a131 a132 a133 a135 a137 a139 a141 a144 a150 a151 i3) k_X10_isSlot v_X10_isSlot m1239 rfl rfl ⟨(Nat.le_of_ble_eq_true rfl), (Nat.le_of_ble_eq_true rfl)⟩ (preP hC (hP.sub (ws' := [(x0, .inr (10, [.ref a0, .ref a2, .ref a15, .ref a38, .ref a130, .ref a131, .ref a132, .ref a141, .ref a144, .ref a150, .ref a151])), (a132, .inl (T 4, 4, .inr (.inr (.inr (.inr (va_up (va_up (va_up (va_up (fun _ => none) 0 (some a133)) 1 (some a135)) 2 (some a137)) 3 (some a139)))))))]) [0, 1] rfl)) (va_recv hK hP (ci := 10) (q0 := 0) rfl rfl) rfl hl.1 rfl (Nat.le_of_ble_eq_true rfl) dX10_paste_10 ⟨(Nat.le_of_ble_eq_true rfl), (Nat.le_of_ble_eq_true rfl)⟩) hS hP (fun r_7 H locs hw hP hS => ?_)
    rcases (show (r_7 = 1 ∧ 0 ≤ i3 ∧ i3 < 4) ∨ (r_7 = 0 ∧ ¬ (0 ≤ i3 ∧ i3 < 4)) from hw) with ⟨rfl, c_9, c_10⟩ | ⟨rfl, c_11⟩
    · refine lv_if_ne (tgt := 19) hx hb dX10_paste_13 (by decide) (fun _ => ?_) (fun c_12 => absurd c_12 (by decide))
      refine lv_aload_n hx hb dX10_paste_19 rfl (lv_at hl 0 rfl) ?_
      refine va_get (D := D) (ci := 10) (C := RX10) (T := TX10) (N := 11) hx hb hts iX10 hown hK hP 0 rfl rfl 6 (by decide) (hts _ m531) (fun _ h9 => h9) rfl dX10_paste_20 ?_
      refine lv_iload_n hx hb dX10_paste_23 rfl (lv_at hl 1 rfl) ?_
      rcases (z24_c_X10_paste i1 i3 c_3 c_4 c_9 c_10) with rfl | rfl | rfl | rfl
      · refine va_aldq (D := D) hx hb hK hP 1 4 rfl rfl (by unfold vp_in; decide) dX10_paste_24 ?_
        refine W.eq (g2 := F0 m _ ls (.ref a133 :: _)) rfl ?_
        refine lv_astore (lv' := [(6, .ref a133), (0, .ref x0), (1, .int 0), (2, .int i2), (3, .int i3), (4, .int i4), (5, .int i5)]) hx hb dX10_paste_25 hl (by decide) rfl (fun ls hl => ?_)
        refine lv_aload_n hx hb dX10_paste_27 rfl (lv_at hl 1 rfl) ?_
        refine va_get (D := D) (ci := 10) (C := RX10) (T := TX10) (N := 11) hx hb hts iX10 hown hK hP 0 rfl rfl 6 (by decide) (hts _ m531) (fun _ h9 => h9) rfl dX10_paste_28 ?_
        refine lv_iload_n hx hb dX10_paste_31 rfl (lv_at hl 4 rfl) ?_
        rcases (z25_c_X10_paste 0 i3 c_3 c_4 c_9 c_10 rfl) with rfl | rfl | rfl | rfl
        · refine va_aldq (D := D) hx hb hK hP 1 4 rfl rfl (by unfold vp_in; decide) dX10_paste_32 ?_
          refine W.eq (g2 := F0 m _ ls (.ref a133 :: _)) rfl ?_
          refine lv_astore (lv' := [(7, .ref a133), (6, .ref a133), (0, .ref x0), (1, .int 0), (2, .int i2), (3, .int 0), (4, .int i4), (5, .int i5)]) hx hb dX10_paste_33 hl (by decide) rfl (fun ls hl => ?_)
          refine lv_aload hx hb dX10_paste_35 (lv_at hl 1 rfl) ?_
          refine puI (cV (As := []) (rest := []) ⟨hx, hb, hml, hown, hts⟩ (c_X2_isVoid l D T a133 a134 0) k_X2_isVoid v_X2_isVoid m1243 rfl rfl ⟨(Nat.le_of_ble_eq_true rfl), (Nat.le_of_ble_eq_true rfl)⟩ (preP hC (hP.sub (ws' := [(a133, .inr (2, [.ref a134, .int 0, .int (-1)]))]) [2] rfl)) (va_recv hK hP (ci := 2) (q0 := 2) rfl rfl) rfl hl.1 rfl (Nat.le_of_ble_eq_true rfl) dX10_paste_37 ⟨(Nat.le_of_ble_eq_true rfl), (Nat.le_of_ble_eq_true rfl)⟩) hS hP (fun r_13 H locs hw hP hS => ?_)
          obtain rfl : r_13 = 1 := hw
          refine lv_if_ne (tgt := 51) hx hb dX10_paste_40 (by decide) (fun _ => ?_) (fun c_15 => absurd c_15 (by decide))
          refine lv_bipush (v := (-6)) hx hb dX10_paste_51 (by decide) ?_
          exact W.iret (v := (-6)) hx hb hr (fun t ht hW => ⟨⟨(-6), (), rfl, (z26_c_X10_paste 0 0 c_3 c_4 c_9 c_10 rfl rfl), trivial⟩, hS.F ht⟩) hS.2.2 dX10_paste_53
        · refine va_aldq (D := D) hx hb hK hP 1 4 rfl rfl (by unfold vp_in; decide) dX10_paste_32 ?_
          refine W.eq (g2 := F0 m _ ls (.ref a135 :: _)) rfl ?_
          refine lv_astore (lv' := [(7, .ref a135), (6, .ref a133), (0, .ref x0), (1, .int 0), (2, .int i2), (3, .int 1), (4, .int i4), (5, .int i5)]) hx hb dX10_paste_33 hl (by decide) rfl (fun ls hl => ?_)
          refine lv_aload hx hb dX10_paste_35 (lv_at hl 1 rfl) ?_
          refine puI (cV (As := []) (rest := []) ⟨hx, hb, hml, hown, hts⟩ (c_X2_isVoid l D T a133 a134 0) k_X2_isVoid v_X2_isVoid m1243 rfl rfl ⟨(Nat.le_of_ble_eq_true rfl), (Nat.le_of_ble_eq_true rfl)⟩ (preP hC (hP.sub (ws' := [(a133, .inr (2, [.ref a134, .int 0, .int (-1)]))]) [2] rfl)) (va_recv hK hP (ci := 2) (q0 := 2) rfl rfl) rfl hl.1 rfl (Nat.le_of_ble_eq_true rfl) dX10_paste_37 ⟨(Nat.le_of_ble_eq_true rfl), (Nat.le_of_ble_eq_true rfl)⟩) hS hP (fun r_16 H locs hw hP hS => ?_)
          obtain rfl : r_16 = 1 := hw
          refine lv_if_ne (tgt := 51) hx hb dX10_paste_40 (by decide) (fun _ => ?_) (fun c_18 => absurd c_18 (by decide))
          refine lv_bipush (v := (-6)) hx hb dX10_paste_51 (by decide) ?_
          exact W.iret (v := (-6)) hx hb hr (fun t ht hW => ⟨⟨(-6), (), rfl, (z27_c_X10_paste 0 1 c_3 c_4 c_9 c_10 rfl rfl), trivial⟩, hS.F ht⟩) hS.2.2 dX10_paste_53
        · refine va_aldq (D := D) hx hb hK hP 1 4 rfl rfl (by unfold vp_in; decide) dX10_paste_32 ?_
          refine W.eq (g2 := F0 m _ ls (.ref a137 :: _)) rfl ?_
          refine lv_astore (lv' := [(7, .ref a137), (6, .ref a133), (0, .ref x0), (1, .int 0), (2, .int i2), (3, .int 2), (4, .int i4), (5, .int i5)]) hx hb dX10_paste_33 hl (by decide) rfl (fun ls hl => ?_)
          refine lv_aload hx hb dX10_paste_35 (lv_at hl 1 rfl) ?_
          refine puI (cV (As := []) (rest := []) ⟨hx, hb, hml, hown, hts⟩ (c_X2_isVoid l D T a133 a134 0) k_X2_isVoid v_X2_isVoid m1243 rfl rfl ⟨(Nat.le_of_ble_eq_true rfl), (Nat.le_of_ble_eq_true rfl)⟩ (preP hC (hP.sub (ws' := [(a133, .inr (2, [.ref a134, .int 0, .int (-1)]))]) [2] rfl)) (va_recv hK hP (ci := 2) (q0 := 2) rfl rfl) rfl hl.1 rfl (Nat.le_of_ble_eq_true rfl) dX10_paste_37 ⟨(Nat.le_of_ble_eq_true rfl), (Nat.le_of_ble_eq_true rfl)⟩) hS hP (fun r_19 H locs hw hP hS => ?_)
          obtain rfl : r_19 = 1 := hw
          refine lv_if_ne (tgt := 51) hx hb dX10_paste_40 (by decide) (fun _ => ?_) (fun c_21 => absurd c_21 (by decide))
          refine lv_bipush (v := (-6)) hx hb dX10_paste_51 (by decide) ?_
          exact W.iret (v := (-6)) hx hb hr (fun t ht hW => ⟨⟨(-6), (), rfl, (z28_c_X10_paste 0 2 c_3 c_4 c_9 c_10 rfl rfl), trivial⟩, hS.F ht⟩) hS.2.2 dX10_paste_53
        · refine va_aldq (D := D) hx hb hK hP 1 4 rfl rfl (by unfold vp_in; decide) dX10_paste_32 ?_
          refine W.eq (g2 := F0 m _ ls (.ref a139 :: _)) rfl ?_
          refine lv_astore (lv' := [(7, .ref a139), (6, .ref a133), (0, .ref x0), (1, .int 0), (2, .int i2), (3, .int 3), (4, .int i4), (5, .int i5)]) hx hb dX10_paste_33 hl (by decide) rfl (fun ls hl => ?_)
          refine lv_aload hx hb dX10_paste_35 (lv_at hl 1 rfl) ?_
          refine puI (cV (As := []) (rest := []) ⟨hx, hb, hml, hown, hts⟩ (c_X2_isVoid l D T a133 a134 0) k_X2_isVoid v_X2_isVoid m1243 rfl rfl ⟨(Nat.le_of_ble_eq_true rfl), (Nat.le_of_ble_eq_true rfl)⟩ (preP hC (hP.sub (ws' := [(a133, .inr (2, [.ref a134, .int 0, .int (-1)]))]) [2] rfl)) (va_recv hK hP (ci := 2) (q0 := 2) rfl rfl) rfl hl.1 rfl (Nat.le_of_ble_eq_true rfl) dX10_paste_37 ⟨(Nat.le_of_ble_eq_true rfl), (Nat.le_of_ble_eq_true rfl)⟩) hS hP (fun r_22 H locs hw hP hS => ?_)
          obtain rfl : r_22 = 1 := hw
          refine lv_if_ne (tgt := 51) hx hb dX10_paste_40 (by decide) (fun _ => ?_) (fun c_24 => absurd c_24 (by decide))
          refine lv_bipush (v := (-6)) hx hb dX10_paste_51 (by decide) ?_
          exact W.iret (v := (-6)) hx hb hr (fun t ht hW => ⟨⟨(-6), (), rfl, (z29_c_X10_paste 0 3 c_3 c_4 c_9 c_10 rfl rfl), trivial⟩, hS.F ht⟩) hS.2.2 dX10_paste_53
      · refine va_aldq (D := D) hx hb hK hP 1 4 rfl rfl (by unfold vp_in; decide) dX10_paste_24 ?_
        refine W.eq (g2 := F0 m _ ls (.ref a135 :: _)) rfl ?_
        refine lv_astore (lv' := [(6, .ref a135), (0, .ref x0), (1, .int 1), (2, .int i2), (3, .int i3), (4, .int i4), (5, .int i5)]) hx hb dX10_paste_25 hl (by decide) rfl (fun ls hl => ?_)
        refine lv_aload_n hx hb dX10_paste_27 rfl (lv_at hl 1 rfl) ?_
        refine va_get (D := D) (ci := 10) (C := RX10) (T := TX10) (N := 11) hx hb hts iX10 hown hK hP 0 rfl rfl 6 (by decide) (hts _ m531) (fun _ h9 => h9) rfl dX10_paste_28 ?_
        refine lv_iload_n hx hb dX10_paste_31 rfl (lv_at hl 4 rfl) ?_
        rcases (z30_c_X10_paste 1 i3 c_3 c_4 c_9 c_10 rfl) with rfl | rfl | rfl | rfl
        · refine va_aldq (D := D) hx hb hK hP 1 4 rfl rfl (by unfold vp_in; decide) dX10_paste_32 ?_
          refine W.eq (g2 := F0 m _ ls (.ref a133 :: _)) rfl ?_
          refine lv_astore (lv' := [(7, .ref a133), (6, .ref a135), (0, .ref x0), (1, .int 1), (2, .int i2), (3, .int 0), (4, .int i4), (5, .int i5)]) hx hb dX10_paste_33 hl (by decide) rfl (fun ls hl => ?_)
          refine lv_aload hx hb dX10_paste_35 (lv_at hl 1 rfl) ?_
          refine puI (cV (As := []) (rest := []) ⟨hx, hb, hml, hown, hts⟩ (c_X2_isVoid l D T a135 a136 0) k_X2_isVoid v_X2_isVoid m1243 rfl rfl ⟨(Nat.le_of_ble_eq_true rfl), (Nat.le_of_ble_eq_true rfl)⟩ (preP hC (hP.sub (ws' := [(a135, .inr (2, [.ref a136, .int 0, .int (-1)]))]) [3] rfl)) (va_recv hK hP (ci := 2) (q0 := 3) rfl rfl) rfl hl.1 rfl (Nat.le_of_ble_eq_true rfl) dX10_paste_37 ⟨(Nat.le_of_ble_eq_true rfl), (Nat.le_of_ble_eq_true rfl)⟩) hS hP (fun r_25 H locs hw hP hS => ?_)
          obtain rfl : r_25 = 1 := hw
          refine lv_if_ne (tgt := 51) hx hb dX10_paste_40 (by decide) (fun _ => ?_) (fun c_27 => absurd c_27 (by decide))
          refine lv_bipush (v := (-6)) hx hb dX10_paste_51 (by decide) ?_
          exact W.iret (v := (-6)) hx hb hr (fun t ht hW => ⟨⟨(-6), (), rfl, (z31_c_X10_paste 1 0 c_3 c_4 c_9 c_10 rfl rfl), trivial⟩, hS.F ht⟩) hS.2.2 dX10_paste_53
        · refine va_aldq (D := D) hx hb hK hP 1 4 rfl rfl (by unfold vp_in; decide) dX10_paste_32 ?_
          refine W.eq (g2 := F0 m _ ls (.ref a135 :: _)) rfl ?_
          refine lv_astore (lv' := [(7, .ref a135), (6, .ref a135), (0, .ref x0), (1, .int 1), (2, .int i2), (3, .int 1), (4, .int i4), (5, .int i5)]) hx hb dX10_paste_33 hl (by decide) rfl (fun ls hl => ?_)
          refine lv_aload hx hb dX10_paste_35 (lv_at hl 1 rfl) ?_
          refine puI (cV (As := []) (rest := []) ⟨hx, hb, hml, hown, hts⟩ (c_X2_isVoid l D T a135 a136 0) k_X2_isVoid v_X2_isVoid m1243 rfl rfl ⟨(Nat.le_of_ble_eq_true rfl), (Nat.le_of_ble_eq_true rfl)⟩ (preP hC (hP.sub (ws' := [(a135, .inr (2, [.ref a136, .int 0, .int (-1)]))]) [3] rfl)) (va_recv hK hP (ci := 2) (q0 := 3) rfl rfl) rfl hl.1 rfl (Nat.le_of_ble_eq_true rfl) dX10_paste_37 ⟨(Nat.le_of_ble_eq_true rfl), (Nat.le_of_ble_eq_true rfl)⟩) hS hP (fun r_28 H locs hw hP hS => ?_)
          obtain rfl : r_28 = 1 := hw
          refine lv_if_ne (tgt := 51) hx hb dX10_paste_40 (by decide) (fun _ => ?_) (fun c_30 => absurd c_30 (by decide))
          refine lv_bipush (v := (-6)) hx hb dX10_paste_51 (by decide) ?_
          exact W.iret (v := (-6)) hx hb hr (fun t ht hW => ⟨⟨(-6), (), rfl, (z32_c_X10_paste 1 1 c_3 c_4 c_9 c_10 rfl rfl), trivial⟩, hS.F ht⟩) hS.2.2 dX10_paste_53
        · refine va_aldq (D := D) hx hb hK hP 1 4 rfl rfl (by unfold vp_in; decide) dX10_paste_32 ?_
          refine W.eq (g2 := F0 m _ ls (.ref a137 :: _)) rfl ?_
          refine lv_astore (lv' := [(7, .ref a137), (6, .ref a135), (0, .ref x0), (1, .int 1), (2, .int i2), (3, .int 2), (4, .int i4), (5, .int i5)]) hx hb dX10_paste_33 hl (by decide) rfl (fun ls hl => ?_)
          refine lv_aload hx hb dX10_paste_35 (lv_at hl 1 rfl) ?_
          refine puI (cV (As := []) (rest := []) ⟨hx, hb, hml, hown, hts⟩ (c_X2_isVoid l D T a135 a136 0) k_X2_isVoid v_X2_isVoid m1243 rfl rfl ⟨(Nat.le_of_ble_eq_true rfl), (Nat.le_of_ble_eq_true rfl)⟩ (preP hC (hP.sub (ws' := [(a135, .inr (2, [.ref a136, .int 0, .int (-1)]))]) [3] rfl)) (va_recv hK hP (ci := 2) (q0 := 3) rfl rfl) rfl hl.1 rfl (Nat.le_of_ble_eq_true rfl) dX10_paste_37 ⟨(Nat.le_of_ble_eq_true rfl), (Nat.le_of_ble_eq_true rfl)⟩) hS hP (fun r_31 H locs hw hP hS => ?_)
          obtain rfl : r_31 = 1 := hw
          refine lv_if_ne (tgt := 51) hx hb dX10_paste_40 (by decide) (fun _ => ?_) (fun c_33 => absurd c_33 (by decide))
          refine lv_bipush (v := (-6)) hx hb dX10_paste_51 (by decide) ?_
          exact W.iret (v := (-6)) hx hb hr (fun t ht hW => ⟨⟨(-6), (), rfl, (z33_c_X10_paste 1 2 c_3 c_4 c_9 c_10 rfl rfl), trivial⟩, hS.F ht⟩) hS.2.2 dX10_paste_53
        · refine va_aldq (D := D) hx hb hK hP 1 4 rfl rfl (by unfold vp_in; decide) dX10_paste_32 ?_
          refine W.eq (g2 := F0 m _ ls (.ref a139 :: _)) rfl ?_
          refine lv_astore (lv' := [(7, .ref a139), (6, .ref a135), (0, .ref x0), (1, .int 1), (2, .int i2), (3, .int 3), (4, .int i4), (5, .int i5)]) hx hb dX10_paste_33 hl (by decide) rfl (fun ls hl => ?_)
          refine lv_aload hx hb dX10_paste_35 (lv_at hl 1 rfl) ?_
          refine puI (cV (As := []) (rest := []) ⟨hx, hb, hml, hown, hts⟩ (c_X2_isVoid l D T a135 a136 0) k_X2_isVoid v_X2_isVoid m1243 rfl rfl ⟨(Nat.le_of_ble_eq_true rfl), (Nat.le_of_ble_eq_true rfl)⟩ (preP hC (hP.sub (ws' := [(a135, .inr (2, [.ref a136, .int 0, .int (-1)]))]) [3] rfl)) (va_recv hK hP (ci := 2) (q0 := 3) rfl rfl) rfl hl.1 rfl (Nat.le_of_ble_eq_true rfl) dX10_paste_37 ⟨(Nat.le_of_ble_eq_true rfl), (Nat.le_of_ble_eq_true rfl)⟩) hS hP (fun r_34 H locs hw hP hS => ?_)
          obtain rfl : r_34 = 1 := hw
          refine lv_if_ne (tgt := 51) hx hb dX10_paste_40 (by decide) (fun _ => ?_) (fun c_36 => absurd c_36 (by decide))
          refine lv_bipush (v := (-6)) hx hb dX10_paste_51 (by decide) ?_
          exact W.iret (v := (-6)) hx hb hr (fun t ht hW => ⟨⟨(-6), (), rfl, (z34_c_X10_paste 1 3 c_3 c_4 c_9 c_10 rfl rfl), trivial⟩, hS.F ht⟩) hS.2.2 dX10_paste_53
      · refine va_aldq (D := D) hx hb hK hP 1 4 rfl rfl (by unfold vp_in; decide) dX10_paste_24 ?_
        refine W.eq (g2 := F0 m _ ls (.ref a137 :: _)) rfl ?_
        refine lv_astore (lv' := [(6, .ref a137), (0, .ref x0), (1, .int 2), (2, .int i2), (3, .int i3), (4, .int i4), (5, .int i5)]) hx hb dX10_paste_25 hl (by decide) rfl (fun ls hl => ?_)
        refine lv_aload_n hx hb dX10_paste_27 rfl (lv_at hl 1 rfl) ?_
        refine va_get (D := D) (ci := 10) (C := RX10) (T := TX10) (N := 11) hx hb hts iX10 hown hK hP 0 rfl rfl 6 (by decide) (hts _ m531) (fun _ h9 => h9) rfl dX10_paste_28 ?_
        refine lv_iload_n hx hb dX10_paste_31 rfl (lv_at hl 4 rfl) ?_
        rcases (z35_c_X10_paste 2 i3 c_3 c_4 c_9 c_10 rfl) with rfl | rfl | rfl | rfl
        · refine va_aldq (D := D) hx hb hK hP 1 4 rfl rfl (by unfold vp_in; decide) dX10_paste_32 ?_
          refine W.eq (g2 := F0 m _ ls (.ref a133 :: _)) rfl ?_
          refine lv_astore (lv' := [(7, .ref a133), (6, .ref a137), (0, .ref x0), (1, .int 2), (2, .int i2), (3, .int 0), (4, .int i4), (5, .int i5)]) hx hb dX10_paste_33 hl (by decide) rfl (fun ls hl => ?_)
          refine lv_aload hx hb dX10_paste_35 (lv_at hl 1 rfl) ?_
          refine puI (cV (As := []) (rest := []) ⟨hx, hb, hml, hown, hts⟩ (c_X2_isVoid l D T a137 a138 0) k_X2_isVoid v_X2_isVoid m1243 rfl rfl ⟨(Nat.le_of_ble_eq_true rfl), (Nat.le_of_ble_eq_true rfl)⟩ (preP hC (hP.sub (ws' := [(a137, .inr (2, [.ref a138, .int 0, .int (-1)]))]) [4] rfl)) (va_recv hK hP (ci := 2) (q0 := 4) rfl rfl) rfl hl.1 rfl (Nat.le_of_ble_eq_true rfl) dX10_paste_37 ⟨(Nat.le_of_ble_eq_true rfl), (Nat.le_of_ble_eq_true rfl)⟩) hS hP (fun r_37 H locs hw hP hS => ?_)
          obtain rfl : r_37 = 1 := hw
          refine lv_if_ne (tgt := 51) hx hb dX10_paste_40 (by decide) (fun _ => ?_) (fun c_39 => absurd c_39 (by decide))
          refine lv_bipush (v := (-6)) hx hb dX10_paste_51 (by decide) ?_
          exact W.iret (v := (-6)) hx hb hr (fun t ht hW => ⟨⟨(-6), (), rfl, (z36_c_X10_paste 2 0 c_3 c_4 c_9 c_10 rfl rfl), trivial⟩, hS.F ht⟩) hS.2.2 dX10_paste_53
        · refine va_aldq (D := D) hx hb hK hP 1 4 rfl rfl (by unfold vp_in; decide) dX10_paste_32 ?_
          refine W.eq (g2 := F0 m _ ls (.ref a135 :: _)) rfl ?_
          refine lv_astore (lv' := [(7, .ref a135), (6, .ref a137), (0, .ref x0), (1, .int 2), (2, .int i2), (3, .int 1), (4, .int i4), (5, .int i5)]) hx hb dX10_paste_33 hl (by decide) rfl (fun ls hl => ?_)
          refine lv_aload hx hb dX10_paste_35 (lv_at hl 1 rfl) ?_
          refine puI (cV (As := []) (rest := []) ⟨hx, hb, hml, hown, hts⟩ (c_X2_isVoid l D T a137 a138 0) k_X2_isVoid v_X2_isVoid m1243 rfl rfl ⟨(Nat.le_of_ble_eq_true rfl), (Nat.le_of_ble_eq_true rfl)⟩ (preP hC (hP.sub (ws' := [(a137, .inr (2, [.ref a138, .int 0, .int (-1)]))]) [4] rfl)) (va_recv hK hP (ci := 2) (q0 := 4) rfl rfl) rfl hl.1 rfl (Nat.le_of_ble_eq_true rfl) dX10_paste_37 ⟨(Nat.le_of_ble_eq_true rfl), (Nat.le_of_ble_eq_true rfl)⟩) hS hP (fun r_40 H locs hw hP hS => ?_)
          obtain rfl : r_40 = 1 := hw
          refine lv_if_ne (tgt := 51) hx hb dX10_paste_40 (by decide) (fun _ => ?_) (fun c_42 => absurd c_42 (by decide))
          refine lv_bipush (v := (-6)) hx hb dX10_paste_51 (by decide) ?_
          exact W.iret (v := (-6)) hx hb hr (fun t ht hW => ⟨⟨(-6), (), rfl, (z37_c_X10_paste 2 1 c_3 c_4 c_9 c_10 rfl rfl), trivial⟩, hS.F ht⟩) hS.2.2 dX10_paste_53
        · refine va_aldq (D := D) hx hb hK hP 1 4 rfl rfl (by unfold vp_in; decide) dX10_paste_32 ?_
          refine W.eq (g2 := F0 m _ ls (.ref a137 :: _)) rfl ?_
          refine lv_astore (lv' := [(7, .ref a137), (6, .ref a137), (0, .ref x0), (1, .int 2), (2, .int i2), (3, .int 2), (4, .int i4), (5, .int i5)]) hx hb dX10_paste_33 hl (by decide) rfl (fun ls hl => ?_)
          refine lv_aload hx hb dX10_paste_35 (lv_at hl 1 rfl) ?_
          refine puI (cV (As := []) (rest := []) ⟨hx, hb, hml, hown, hts⟩ (c_X2_isVoid l D T a137 a138 0) k_X2_isVoid v_X2_isVoid m1243 rfl rfl ⟨(Nat.le_of_ble_eq_true rfl), (Nat.le_of_ble_eq_true rfl)⟩ (preP hC (hP.sub (ws' := [(a137, .inr (2, [.ref a138, .int 0, .int (-1)]))]) [4] rfl)) (va_recv hK hP (ci := 2) (q0 := 4) rfl rfl) rfl hl.1 rfl (Nat.le_of_ble_eq_true rfl) dX10_paste_37 ⟨(Nat.le_of_ble_eq_true rfl), (Nat.le_of_ble_eq_true rfl)⟩) hS hP (fun r_43 H locs hw hP hS => ?_)
          obtain rfl : r_43 = 1 := hw
          refine lv_if_ne (tgt := 51) hx hb dX10_paste_40 (by decide) (fun _ => ?_) (fun c_45 => absurd c_45 (by decide))
          refine lv_bipush (v := (-6)) hx hb dX10_paste_51 (by decide) ?_
          exact W.iret (v := (-6)) hx hb hr (fun t ht hW => ⟨⟨(-6), (), rfl, (z38_c_X10_paste 2 2 c_3 c_4 c_9 c_10 rfl rfl), trivial⟩, hS.F ht⟩) hS.2.2 dX10_paste_53
        · refine va_aldq (D := D) hx hb hK hP 1 4 rfl rfl (by unfold vp_in; decide) dX10_paste_32 ?_
          refine W.eq (g2 := F0 m _ ls (.ref a139 :: _)) rfl ?_
          refine lv_astore (lv' := [(7, .ref a139), (6, .ref a137), (0, .ref x0), (1, .int 2), (2, .int i2), (3, .int 3), (4, .int i4), (5, .int i5)]) hx hb dX10_paste_33 hl (by decide) rfl (fun ls hl => ?_)
          refine lv_aload hx hb dX10_paste_35 (lv_at hl 1 rfl) ?_
          refine puI (cV (As := []) (rest := []) ⟨hx, hb, hml, hown, hts⟩ (c_X2_isVoid l D T a137 a138 0) k_X2_isVoid v_X2_isVoid m1243 rfl rfl ⟨(Nat.le_of_ble_eq_true rfl), (Nat.le_of_ble_eq_true rfl)⟩ (preP hC (hP.sub (ws' := [(a137, .inr (2, [.ref a138, .int 0, .int (-1)]))]) [4] rfl)) (va_recv hK hP (ci := 2) (q0 := 4) rfl rfl) rfl hl.1 rfl (Nat.le_of_ble_eq_true rfl) dX10_paste_37 ⟨(Nat.le_of_ble_eq_true rfl), (Nat.le_of_ble_eq_true rfl)⟩) hS hP (fun r_46 H locs hw hP hS => ?_)
          obtain rfl : r_46 = 1 := hw
          refine lv_if_ne (tgt := 51) hx hb dX10_paste_40 (by decide) (fun _ => ?_) (fun c_48 => absurd c_48 (by decide))
          refine lv_bipush (v := (-6)) hx hb dX10_paste_51 (by decide) ?_
          exact W.iret (v := (-6)) hx hb hr (fun t ht hW => ⟨⟨(-6), (), rfl, (z39_c_X10_paste 2 3 c_3 c_4 c_9 c_10 rfl rfl), trivial⟩, hS.F ht⟩) hS.2.2 dX10_paste_53
      · refine va_aldq (D := D) hx hb hK hP 1 4 rfl rfl (by unfold vp_in; decide) dX10_paste_24 ?_
        refine W.eq (g2 := F0 m _ ls (.ref a139 :: _)) rfl ?_
        refine lv_astore (lv' := [(6, .ref a139), (0, .ref x0), (1, .int 3), (2, .int i2), (3, .int i3), (4, .int i4), (5, .int i5)]) hx hb dX10_paste_25 hl (by decide) rfl (fun ls hl => ?_)
        refine lv_aload_n hx hb dX10_paste_27 rfl (lv_at hl 1 rfl) ?_
        refine va_get (D := D) (ci := 10) (C := RX10) (T := TX10) (N := 11) hx hb hts iX10 hown hK hP 0 rfl rfl 6 (by decide) (hts _ m531) (fun _ h9 => h9) rfl dX10_paste_28 ?_
        refine lv_iload_n hx hb dX10_paste_31 rfl (lv_at hl 4 rfl) ?_
        rcases (z40_c_X10_paste 3 i3 c_3 c_4 c_9 c_10 rfl) with rfl | rfl | rfl | rfl
        · refine va_aldq (D := D) hx hb hK hP 1 4 rfl rfl (by unfold vp_in; decide) dX10_paste_32 ?_
          refine W.eq (g2 := F0 m _ ls (.ref a133 :: _)) rfl ?_
          refine lv_astore (lv' := [(7, .ref a133), (6, .ref a139), (0, .ref x0), (1, .int 3), (2, .int i2), (3, .int 0), (4, .int i4), (5, .int i5)]) hx hb dX10_paste_33 hl (by decide) rfl (fun ls hl => ?_)
          refine lv_aload hx hb dX10_paste_35 (lv_at hl 1 rfl) ?_
          refine puI (cV (As := []) (rest := []) ⟨hx, hb, hml, hown, hts⟩ (c_X2_isVoid l D T a139 a140 0) k_X2_isVoid v_X2_isVoid m1243 rfl rfl ⟨(Nat.le_of_ble_eq_true rfl), (Nat.le_of_ble_eq_true rfl)⟩ (preP hC (hP.sub (ws' := [(a139, .inr (2, [.ref a140, .int 0, .int (-1)]))]) [5] rfl)) (va_recv hK hP (ci := 2) (q0 := 5) rfl rfl) rfl hl.1 rfl (Nat.le_of_ble_eq_true rfl) dX10_paste_37 ⟨(Nat.le_of_ble_eq_true rfl), (Nat.le_of_ble_eq_true rfl)⟩) hS hP (fun r_49 H locs hw hP hS => ?_)
          obtain rfl : r_49 = 1 := hw
          refine lv_if_ne (tgt := 51) hx hb dX10_paste_40 (by decide) (fun _ => ?_) (fun c_51 => absurd c_51 (by decide))
          refine lv_bipush (v := (-6)) hx hb dX10_paste_51 (by decide) ?_
          exact W.iret (v := (-6)) hx hb hr (fun t ht hW => ⟨⟨(-6), (), rfl, (z41_c_X10_paste 3 0 c_3 c_4 c_9 c_10 rfl rfl), trivial⟩, hS.F ht⟩) hS.2.2 dX10_paste_53
        · refine va_aldq (D := D) hx hb hK hP 1 4 rfl rfl (by unfold vp_in; decide) dX10_paste_32 ?_
          refine W.eq (g2 := F0 m _ ls (.ref a135 :: _)) rfl ?_
          refine lv_astore (lv' := [(7, .ref a135), (6, .ref a139), (0, .ref x0), (1, .int 3), (2, .int i2), (3, .int 1), (4, .int i4), (5, .int i5)]) hx hb dX10_paste_33 hl (by decide) rfl (fun ls hl => ?_)
          refine lv_aload hx hb dX10_paste_35 (lv_at hl 1 rfl) ?_
          refine puI (cV (As := []) (rest := []) ⟨hx, hb, hml, hown, hts⟩ (c_X2_isVoid l D T a139 a140 0) k_X2_isVoid v_X2_isVoid m1243 rfl rfl ⟨(Nat.le_of_ble_eq_true rfl), (Nat.le_of_ble_eq_true rfl)⟩ (preP hC (hP.sub (ws' := [(a139, .inr (2, [.ref a140, .int 0, .int (-1)]))]) [5] rfl)) (va_recv hK hP (ci := 2) (q0 := 5) rfl rfl) rfl hl.1 rfl (Nat.le_of_ble_eq_true rfl) dX10_paste_37 ⟨(Nat.le_of_ble_eq_true rfl), (Nat.le_of_ble_eq_true rfl)⟩) hS hP (fun r_52 H locs hw hP hS => ?_)
          obtain rfl : r_52 = 1 := hw
          refine lv_if_ne (tgt := 51) hx hb dX10_paste_40 (by decide) (fun _ => ?_) (fun c_54 => absurd c_54 (by decide))
          refine lv_bipush (v := (-6)) hx hb dX10_paste_51 (by decide) ?_
          exact W.iret (v := (-6)) hx hb hr (fun t ht hW => ⟨⟨(-6), (), rfl, (z42_c_X10_paste 3 1 c_3 c_4 c_9 c_10 rfl rfl), trivial⟩, hS.F ht⟩) hS.2.2 dX10_paste_53
        · refine va_aldq (D := D) hx hb hK hP 1 4 rfl rfl (by unfold vp_in; decide) dX10_paste_32 ?_
          refine W.eq (g2 := F0 m _ ls (.ref a137 :: _)) rfl ?_
          refine lv_astore (lv' := [(7, .ref a137), (6, .ref a139), (0, .ref x0), (1, .int 3), (2, .int i2), (3, .int 2), (4, .int i4), (5, .int i5)]) hx hb dX10_paste_33 hl (by decide) rfl (fun ls hl => ?_)
          refine lv_aload hx hb dX10_paste_35 (lv_at hl 1 rfl) ?_
          refine puI (cV (As := []) (rest := []) ⟨hx, hb, hml, hown, hts⟩ (c_X2_isVoid l D T a139 a140 0) k_X2_isVoid v_X2_isVoid m1243 rfl rfl ⟨(Nat.le_of_ble_eq_true rfl), (Nat.le_of_ble_eq_true rfl)⟩ (preP hC (hP.sub (ws' := [(a139, .inr (2, [.ref a140, .int 0, .int (-1)]))]) [5] rfl)) (va_recv hK hP (ci := 2) (q0 := 5) rfl rfl) rfl hl.1 rfl (Nat.le_of_ble_eq_true rfl) dX10_paste_37 ⟨(Nat.le_of_ble_eq_true rfl), (Nat.le_of_ble_eq_true rfl)⟩) hS hP (fun r_55 H locs hw hP hS => ?_)
          obtain rfl : r_55 = 1 := hw
          refine lv_if_ne (tgt := 51) hx hb dX10_paste_40 (by decide) (fun _ => ?_) (fun c_57 => absurd c_57 (by decide))
          refine lv_bipush (v := (-6)) hx hb dX10_paste_51 (by decide) ?_
          exact W.iret (v := (-6)) hx hb hr (fun t ht hW => ⟨⟨(-6), (), rfl, (z43_c_X10_paste 3 2 c_3 c_4 c_9 c_10 rfl rfl), trivial⟩, hS.F ht⟩) hS.2.2 dX10_paste_53
        · refine va_aldq (D := D) hx hb hK hP 1 4 rfl rfl (by unfold vp_in; decide) dX10_paste_32 ?_
          refine W.eq (g2 := F0 m _ ls (.ref a139 :: _)) rfl ?_
          refine lv_astore (lv' := [(7, .ref a139), (6, .ref a139), (0, .ref x0), (1, .int 3), (2, .int i2), (3, .int 3), (4, .int i4), (5, .int i5)]) hx hb dX10_paste_33 hl (by decide) rfl (fun ls hl => ?_)
          refine lv_aload hx hb dX10_paste_35 (lv_at hl 1 rfl) ?_
          refine puI (cV (As := []) (rest := []) ⟨hx, hb, hml, hown, hts⟩ (c_X2_isVoid l D T a139 a140 0) k_X2_isVoid v_X2_isVoid m1243 rfl rfl ⟨(Nat.le_of_ble_eq_true rfl), (Nat.le_of_ble_eq_true rfl)⟩ (preP hC (hP.sub (ws' := [(a139, .inr (2, [.ref a140, .int 0, .int (-1)]))]) [5] rfl)) (va_recv hK hP (ci := 2) (q0 := 5) rfl rfl) rfl hl.1 rfl (Nat.le_of_ble_eq_true rfl) dX10_paste_37 ⟨(Nat.le_of_ble_eq_true rfl), (Nat.le_of_ble_eq_true rfl)⟩) hS hP (fun r_58 H locs hw hP hS => ?_)
          obtain rfl : r_58 = 1 := hw
          refine lv_if_ne (tgt := 51) hx hb dX10_paste_40 (by decide) (fun _ => ?_) (fun c_60 => absurd c_60 (by decide))
          refine lv_bipush (v := (-6)) hx hb dX10_paste_51 (by decide) ?_
          exact W.iret (v := (-6)) hx hb hr (fun t ht hW => ⟨⟨(-6), (), rfl, (z44_c_X10_paste 3 3 c_3 c_4 c_9 c_10 rfl rfl), trivial⟩, hS.F ht⟩) hS.2.2 dX10_paste_53
    · refine lv_if_ne (tgt := 19) hx hb dX10_paste_13 (by decide) (fun c_61 => absurd c_61 (by decide)) (fun _ => ?_)
      refine lv_bipush (v := (-2)) hx hb dX10_paste_16 (by decide) ?_
      exact W.iret (v := (-2)) hx hb hr (fun t ht hW => ⟨⟨(-2), (), rfl, (z45_c_X10_paste i1 i3 c_3 c_4 c_11), trivial⟩, hS.F ht⟩) hS.2.2 dX10_paste_18
  · refine lv_if_eq (tgt := 16) hx hb dX10_paste_5 (by decide) (fun _ => ?_) (fun c_62 => absurd (by decide) c_62)
    refine lv_bipush (v := (-2)) hx hb dX10_paste_16 (by decide) ?_
    exact W.iret (v := (-2)) hx hb hr (fun t ht hW => ⟨⟨(-2), (), rfl, (z46_c_X10_paste i1 i3 c_5), trivial⟩, hS.F ht⟩) hS.2.2 dX10_paste_18

set_option maxHeartbeats 4000000 in
set_option maxRecDepth 100000 in
theorem c_X2_begin (l : Launch) (D : va_G) (T : Nat → ClassId) (h0 nb : Nat) (w0 s0 w1 s1 : Int32) (f : Nat → Int64) (sz : Nat) : Met l yX2_begin (wM yX2_begin cX2_begin 3 none) ({ frames := 1, cells := 0, slots := 0, locals := 24 }) (va_Pc [.ref h0, .int w1, .int s1] (pwM D T [(h0, .inr (2, [.ref nb, .int w0, .int s0])), (nb, .inl (T 2, 60, .inr (.inl f)))] sz)) (va_Qv (fun (u : UU) => True) (fun u t => pwE D (va_A [(h0, .inr (2, [.ref nb, .int w0, .int s0])), (nb, .inl (T 2, 60, .inr (.inl f)))] sz) [(h0, .inr (2, [.ref nb, .int w1, .int s1])), (nb, .inl (T 2, 60, .inr (.inl (u.2.2.1 0))))] t) (va_A [(h0, .inr (2, [.ref nb, .int w0, .int s0])), (nb, .inl (T 2, 60, .inr (.inl f)))] sz)) 0 0 (va_A [(h0, .inr (2, [.ref nb, .int w0, .int s0])), (nb, .inl (T 2, 60, .inr (.inl f)))] sz) := by
  refine Met.ofW (cc := cX2_begin) (maxL := 3) (ret := none) (by decide) rfl ?_
  intro p e s m args below meth c s₁ B hml hv
  obtain ⟨rfl, hsz, hP, hC, hD0⟩ := hv
  have hx := B.exec
  have hb := B.bytes
  have hr := B.returns
  have hts : ∀ w ∈ gt, w.before _ s = true := fun w hw => atoms_spec (ws := (wM yX2_begin cX2_begin 3 none)) B.pre w (List.mem_cons_of_mem _ hw)
  have hown : s.vm.findClass RX2 = some m.cls := findClass_of_methodNamed B.named
  have hlocks := B.notSynchronized
  have hK := hC.1
  subst hsz
  have hD := hD0.self (sz := s.heap.size)
  generalize hAe : va_A [(h0, .inr (2, [.ref nb, .int w0, .int s0])), (nb, .inl (T 2, 60, .inr (.inl f)))] s.heap.size = A at hD ⊢
  have hA : ∀ q : Nat, s.heap.size ≤ q → A q := fun q h => by rw [← hAe]; exact Or.inr h
  have hS : va_S A s.heap s.heap [] := va_S.rf
  have hl := lv_entry ([.ref h0, .int w1, .int s1]) (n := 3) (Nat.le_of_ble_eq_true rfl)
  rw [lg_entry_eq]
  generalize (lg_sl ([.ref h0, .int w1, .int s1]) ++ List.replicate (3 - (lg_sl ([.ref h0, .int w1, .int s1])).length) Slot.unset).toArray = ls at hl ⊢
  have hl : lv_has ls 3 [(0, .ref h0), (1, .int w1), (2, .int s1)] := hl
  refine lv_aload_n hx hb dX2_begin_0 rfl (lv_at hl 0 rfl) ?_
  refine lv_iload_n hx hb dX2_begin_1 rfl (lv_at hl 1 rfl) ?_
  refine va_put (D := D) (ci := 2) (v := .int w1) (ty := .int) (C := RX2) (T := TX2) (N := 3) hx hb hts iX2 tyX2 tyX2_ok nmX2 hown hK hP hD hS 0 rfl rfl 1 (by decide) (hts _ m426) (fun _ h9 => h9) rfl (by decide +kernel) rfl rfl (Nat.le_of_ble_eq_true rfl) dX2_begin_2 (fun H locs hP hD hS => ?_)
  have hP : va_P D vwCl [(h0, .inr (2, [.ref nb, .int w1, .int s0])), (nb, .inl (T 2, 60, .inr (.inl f)))] H := hP
  have hD : va_D A [(h0, .inr (2, [.ref nb, .int w1, .int s0])), (nb, .inl (T 2, 60, .inr (.inl f)))] := hD
  refine lv_aload_n hx hb dX2_begin_5 rfl (lv_at hl 0 rfl) ?_
  refine lv_iload_n hx hb dX2_begin_6 rfl (lv_at hl 2 rfl) ?_
  refine va_put (D := D) (ci := 2) (v := .int s1) (ty := .int) (C := RX2) (T := TX2) (N := 3) hx hb hts iX2 tyX2 tyX2_ok nmX2 hown hK hP hD hS 0 rfl rfl 2 (by decide) (hts _ m428) (fun _ h9 => h9) rfl (by decide +kernel) rfl rfl (Nat.le_of_ble_eq_true rfl) dX2_begin_7 (fun H locs hP hD hS => ?_)
  have hP : va_P D vwCl [(h0, .inr (2, [.ref nb, .int w1, .int s1])), (nb, .inl (T 2, 60, .inr (.inl f)))] H := hP
  have hD : va_D A [(h0, .inr (2, [.ref nb, .int w1, .int s1])), (nb, .inl (T 2, 60, .inr (.inl f)))] := hD
  refine lv_aload_n hx hb dX2_begin_10 rfl (lv_at hl 0 rfl) ?_
  refine va_get (D := D) (ci := 2) (C := RX2) (T := TX2) (N := 3) hx hb hts iX2 hown hK hP 0 rfl rfl 0 (by decide) (hts _ m424) (fun _ h9 => h9) rfl dX2_begin_11 ?_
  refine lv_lconst (v := 0) hx hb dX2_begin_14 (by decide) ?_
  refine mtV (wr := [(h0, .inr (2, [.ref nb, .int w1, .int s1]))]) (cS (As := [.ref nb, .long 0]) (rest := []) ⟨hx, hb, hml, hown, hts⟩ (c_J7_fill_d0a16 l D T nb 60 0 f _ (by omega)) k_J7_fill_d0a16 m1129 m1289 rfl rfl ⟨(Nat.le_of_ble_eq_true rfl), (Nat.le_of_ble_eq_true rfl)⟩ (preM hC (hP.sub (ws' := [(nb, .inl (T 2, 60, .inr (.inl f)))]) [1] rfl) (hD.sub (ws' := [(nb, .inl (T 2, 60, .inr (.inl f)))]) [1] (by decide) rfl)) rfl hl.1 rfl (Nat.le_of_ble_eq_true rfl) dX2_begin_15 ⟨(Nat.le_of_ble_eq_true rfl), (Nat.le_of_ble_eq_true rfl)⟩) hS hA hP hD [1] [0] rfl rfl (by decide) (by decide) (fun u_2 H locs hw hP hD hS => ?_)
  have hP : va_P D vwCl [(h0, .inr (2, [.ref nb, .int w1, .int s1])), (nb, .inl (T 2, 60, .inr (.inl (u_2.2.2.1 0))))] H := hP
  have hD : va_D A [(h0, .inr (2, [.ref nb, .int w1, .int s1])), (nb, .inl (T 2, 60, .inr (.inl (u_2.2.2.1 0))))] := hD
  have hP9 := hP.sub (ws' := [(h0, .inr (2, [.ref nb, .int w1, .int s1])), (nb, .inl (T 2, 60, .inr (.inl (u_2.2.2.1 0))))]) [0, 1] rfl
  have hD9 := hD.sub (ws' := [(h0, .inr (2, [.ref nb, .int w1, .int s1])), (nb, .inl (T 2, 60, .inr (.inl (u_2.2.2.1 0))))]) [0, 1] (by decide) rfl
  exact W.vret hx hb hr (fun t ht hW => ⟨⟨(fun k => [].getD k 0, fun k => ([] : List (Nat → Int32)).getD k (fun _ => 0), fun k => [u_2.2.2.1 0].getD k (fun _ => 0), fun k => ([] : List Int32).getD k 0), rfl, trivial, by rw [ht]; exact hP9, hD9⟩, hS.F ht⟩) hS.2.2 dX2_begin_18

theorem z47_c_X10_row (i1 : Int32) (i2 : Int32) (i3 : Int32) (h0 : 0 ≤ i1) (h1 : i1 < 4) (h2 : i2 < 0) : ((-2) : Int32) = a_row i1 i2 i3 := by
  unfold a_row
  (repeat' split) <;> first | rfl | assumption | (simp_all; done) | (exfalso; simp only [i_lt, i_le, i_eq, l_lt, l_le, l_eq, i_64, i_0, i_1, i_2, i_3, i_4, i_5, i_6, i_7, i_8, i_12, i_60, i_m1, l_0, l_1, l_2, l_3, l_4, l_12, l_m1, vp_in_iff] at *; omega)
theorem z48_c_X10_row (i1 : Int32) (i2 : Int32) (i3 : Int32) (h0 : 0 ≤ i1) (h1 : i1 < 4) (h2 : ¬ i2 < 0) (h3 : 3 < i2) : ((-2) : Int32) = a_row i1 i2 i3 := by
  unfold a_row
  (repeat' split) <;> first | rfl | assumption | (simp_all; done) | (exfalso; simp only [i_lt, i_le, i_eq, l_lt, l_le, l_eq, i_64, i_0, i_1, i_2, i_3, i_4, i_5, i_6, i_7, i_8, i_12, i_60, i_m1, l_0, l_1, l_2, l_3, l_4, l_12, l_m1, vp_in_iff] at *; omega)
theorem z49_c_X10_row (i1 : Int32) (i2 : Int32) (i3 : Int32) (h0 : 0 ≤ i1) (h1 : i1 < 4) (h2 : ¬ i2 < 0) (h3 : ¬ 3 < i2) (h4 : i3 ≤ 60) (h5 : 0 ≤ i3) : i1 = 0 ∨ i1 = 1 ∨ i1 = 2 ∨ i1 = 3 := by
  simp only [i_lt, i_le, i_eq, l_lt, l_le, l_eq, i_64, i_0, i_1, i_2, i_3, i_4, i_5, i_6, i_7, i_8, i_12, i_60, i_m1, l_0, l_1, l_2, l_3, l_4, l_12, l_m1, vp_in_iff] at *; omega
theorem z50_c_X10_row (i1 : Int32) (i2 : Int32) (i3 : Int32) (h0 : 0 ≤ i1) (h1 : i1 < 4) (h2 : ¬ i2 < 0) (h3 : ¬ 3 < i2) (h4 : i3 ≤ 60) (h5 : 0 ≤ i3) (h6 : i1 = 0) : (0 : Int32) = a_row i1 i2 i3 := by
  unfold a_row
  (repeat' split) <;> first | rfl | assumption | (simp_all; done) | (exfalso; simp only [i_lt, i_le, i_eq, l_lt, l_le, l_eq, i_64, i_0, i_1, i_2, i_3, i_4, i_5, i_6, i_7, i_8, i_12, i_60, i_m1, l_0, l_1, l_2, l_3, l_4, l_12, l_m1, vp_in_iff] at *; omega)
theorem z51_c_X10_row (i1 : Int32) (i2 : Int32) (i3 : Int32) (h0 : 0 ≤ i1) (h1 : i1 < 4) (h2 : ¬ i2 < 0) (h3 : ¬ 3 < i2) (h4 : i3 ≤ 60) (h5 : 0 ≤ i3) (h6 : i1 = 1) : (0 : Int32) = a_row i1 i2 i3 := by
  unfold a_row
  (repeat' split) <;> first | rfl | assumption | (simp_all; done) | (exfalso; simp only [i_lt, i_le, i_eq, l_lt, l_le, l_eq, i_64, i_0, i_1, i_2, i_3, i_4, i_5, i_6, i_7, i_8, i_12, i_60, i_m1, l_0, l_1, l_2, l_3, l_4, l_12, l_m1, vp_in_iff] at *; omega)
theorem z52_c_X10_row (i1 : Int32) (i2 : Int32) (i3 : Int32) (h0 : 0 ≤ i1) (h1 : i1 < 4) (h2 : ¬ i2 < 0) (h3 : ¬ 3 < i2) (h4 : i3 ≤ 60) (h5 : 0 ≤ i3) (h6 : i1 = 2) : (0 : Int32) = a_row i1 i2 i3 := by
  unfold a_row
  (repeat' split) <;> first | rfl | assumption | (simp_all; done) | (exfalso; simp only [i_lt, i_le, i_eq, l_lt, l_le, l_eq, i_64, i_0, i_1, i_2, i_3, i_4, i_5, i_6, i_7, i_8, i_12, i_60, i_m1, l_0, l_1, l_2, l_3, l_4, l_12, l_m1, vp_in_iff] at *; omega)
theorem z53_c_X10_row (i1 : Int32) (i2 : Int32) (i3 : Int32) (h0 : 0 ≤ i1) (h1 : i1 < 4) (h2 : ¬ i2 < 0) (h3 : ¬ 3 < i2) (h4 : i3 ≤ 60) (h5 : 0 ≤ i3) (h6 : i1 = 3) : (0 : Int32) = a_row i1 i2 i3 := by
  unfold a_row
  (repeat' split) <;> first | rfl | assumption | (simp_all; done) | (exfalso; simp only [i_lt, i_le, i_eq, l_lt, l_le, l_eq, i_64, i_0, i_1, i_2, i_3, i_4, i_5, i_6, i_7, i_8, i_12, i_60, i_m1, l_0, l_1, l_2, l_3, l_4, l_12, l_m1, vp_in_iff] at *; omega)
theorem z54_c_X10_row (i1 : Int32) (i2 : Int32) (i3 : Int32) (h0 : 0 ≤ i1) (h1 : i1 < 4) (h2 : ¬ i2 < 0) (h3 : ¬ 3 < i2) (h4 : i3 ≤ 60) (h5 : ¬ 0 ≤ i3) : ((-3) : Int32) = a_row i1 i2 i3 := by
  unfold a_row
  (repeat' split) <;> first | rfl | assumption | (simp_all; done) | (exfalso; simp only [i_lt, i_le, i_eq, l_lt, l_le, l_eq, i_64, i_0, i_1, i_2, i_3, i_4, i_5, i_6, i_7, i_8, i_12, i_60, i_m1, l_0, l_1, l_2, l_3, l_4, l_12, l_m1, vp_in_iff] at *; omega)
theorem z55_c_X10_row (i1 : Int32) (i2 : Int32) (i3 : Int32) (h0 : 0 ≤ i1) (h1 : i1 < 4) (h2 : ¬ i2 < 0) (h3 : ¬ 3 < i2) (h4 : ¬ i3 ≤ 60) : ((-2) : Int32) = a_row i1 i2 i3 := by
  unfold a_row
  (repeat' split) <;> first | rfl | assumption | (simp_all; done) | (exfalso; simp only [i_lt, i_le, i_eq, l_lt, l_le, l_eq, i_64, i_0, i_1, i_2, i_3, i_4, i_5, i_6, i_7, i_8, i_12, i_60, i_m1, l_0, l_1, l_2, l_3, l_4, l_12, l_m1, vp_in_iff] at *; omega)
theorem z56_c_X10_row (i1 : Int32) (i2 : Int32) (i3 : Int32) (h0 : ¬ (0 ≤ i1 ∧ i1 < 4)) : ((-2) : Int32) = a_row i1 i2 i3 := by
  unfold a_row
  (repeat' split) <;> first | rfl | assumption | (simp_all; done) | (exfalso; simp only [i_lt, i_le, i_eq, l_lt, l_le, l_eq, i_64, i_0, i_1, i_2, i_3, i_4, i_5, i_6, i_7, i_8, i_12, i_60, i_m1, l_0, l_1, l_2, l_3, l_4, l_12, l_m1, vp_in_iff] at *; omega)
set_option maxHeartbeats 4000000 in
set_option maxRecDepth 100000 in
theorem c_X10_row (l : Launch) (D : va_G) (T : Nat → ClassId) (x0 a0 a2 a15 a38 a130 a131 a132 a133 a134 a135 a136 a137 a138 a139 a140 a141 a144 a150 a151 : Nat) (i1 : Int32) (i2 : Int32) (i3 : Int32) (sz : Nat) : Met l yX10_row (wM yX10_row cX10_row 4 (some .int)) ({ frames := 2, cells := 0, slots := 0, locals := 46 }) (va_Pc [.ref x0, .int i1, .int i2, .int i3] (pwM D T [(x0, .inr (10, [.ref a0, .ref a2, .ref a15, .ref a38, .ref a130, .ref a131, .ref a132, .ref a141, .ref a144, .ref a150, .ref a151])), (a132, .inl (T 4, 4, .inr (.inr (.inr (.inr (va_up (va_up (va_up (va_up (fun _ => none) 0 (some a133)) 1 (some a135)) 2 (some a137)) 3 (some a139))))))), (a133, .inr (2, [.ref a134, .int 0, .int (-1)])), (a134, .inl (T 2, 60, .inr (.inl (fun _ => 0)))), (a135, .inr (2, [.ref a136, .int 0, .int (-1)])), (a136, .inl (T 2, 60, .inr (.inl (fun _ => 0)))), (a137, .inr (2, [.ref a138, .int 0, .int (-1)])), (a138, .inl (T 2, 60, .inr (.inl (fun _ => 0)))), (a139, .inr (2, [.ref a140, .int 0, .int (-1)])), (a140, .inl (T 2, 60, .inr (.inl (fun _ => 0))))] sz)) (va_Qi (fun (r : Int32) (u : Unit) => r = a_row i1 i2 i3) (fun _ _ => True) (va_A [(x0, .inr (10, [.ref a0, .ref a2, .ref a15, .ref a38, .ref a130, .ref a131, .ref a132, .ref a141, .ref a144, .ref a150, .ref a151])), (a132, .inl (T 4, 4, .inr (.inr (.inr (.inr (va_up (va_up (va_up (va_up (fun _ => none) 0 (some a133)) 1 (some a135)) 2 (some a137)) 3 (some a139))))))), (a133, .inr (2, [.ref a134, .int 0, .int (-1)])), (a134, .inl (T 2, 60, .inr (.inl (fun _ => 0)))), (a135, .inr (2, [.ref a136, .int 0, .int (-1)])), (a136, .inl (T 2, 60, .inr (.inl (fun _ => 0)))), (a137, .inr (2, [.ref a138, .int 0, .int (-1)])), (a138, .inl (T 2, 60, .inr (.inl (fun _ => 0)))), (a139, .inr (2, [.ref a140, .int 0, .int (-1)])), (a140, .inl (T 2, 60, .inr (.inl (fun _ => 0))))] sz)) 0 0 (va_A [(x0, .inr (10, [.ref a0, .ref a2, .ref a15, .ref a38, .ref a130, .ref a131, .ref a132, .ref a141, .ref a144, .ref a150, .ref a151])), (a132, .inl (T 4, 4, .inr (.inr (.inr (.inr (va_up (va_up (va_up (va_up (fun _ => none) 0 (some a133)) 1 (some a135)) 2 (some a137)) 3 (some a139))))))), (a133, .inr (2, [.ref a134, .int 0, .int (-1)])), (a134, .inl (T 2, 60, .inr (.inl (fun _ => 0)))), (a135, .inr (2, [.ref a136, .int 0, .int (-1)])), (a136, .inl (T 2, 60, .inr (.inl (fun _ => 0)))), (a137, .inr (2, [.ref a138, .int 0, .int (-1)])), (a138, .inl (T 2, 60, .inr (.inl (fun _ => 0)))), (a139, .inr (2, [.ref a140, .int 0, .int (-1)])), (a140, .inl (T 2, 60, .inr (.inl (fun _ => 0))))] sz) := by
  refine Met.ofW (cc := cX10_row) (maxL := 4) (ret := (some .int)) (by decide) rfl ?_
  intro p e s m args below meth c s₁ B hml hv
  obtain ⟨rfl, hsz, hP, hC, hD0⟩ := hv
  have hx := B.exec
  have hb := B.bytes
  have hr := B.returns
  have hts : ∀ w ∈ gt, w.before _ s = true := fun w hw => atoms_spec (ws := (wM yX10_row cX10_row 4 (some .int))) B.pre w (List.mem_cons_of_mem _ hw)
  have hown : s.vm.findClass RX10 = some m.cls := findClass_of_methodNamed B.named
  have hlocks := B.notSynchronized
  have hK := hC.1
  subst hsz
  have hD := hD0.self (sz := s.heap.size)
  generalize hAe : va_A [(x0, .inr (10, [.ref a0, .ref a2, .ref a15, .ref a38, .ref a130, .ref a131, .ref a132, .ref a141, .ref a144, .ref a150, .ref a151])), (a132, .inl (T 4, 4, .inr (.inr (.inr (.inr (va_up (va_up (va_up (va_up (fun _ => none) 0 (some a133)) 1 (some a135)) 2 (some a137)) 3 (some a139))))))), (a133, .inr (2, [.ref a134, .int 0, .int (-1)])), (a134, .inl (T 2, 60, .inr (.inl (fun _ => 0)))), (a135, .inr (2, [.ref a136, .int 0, .int (-1)])), (a136, .inl (T 2, 60, .inr (.inl (fun _ => 0)))), (a137, .inr (2, [.ref a138, .int 0, .int (-1)])), (a138, .inl (T 2, 60, .inr (.inl (fun _ => 0)))), (a139, .inr (2, [.ref a140, .int 0, .int (-1)])), (a140, .inl (T 2, 60, .inr (.inl (fun _ => 0))))] s.heap.size = A at hD ⊢
  have hA : ∀ q : Nat, s.heap.size ≤ q → A q := fun q h => by rw [← hAe]; exact Or.inr h
  have hS : va_S A s.heap s.heap [] := va_S.rf
  have hl := lv_entry ([.ref x0, .int i1, .int i2, .int i3]) (n := 4) (Nat.le_of_ble_eq_true rfl)
  rw [lg_entry_eq]
  generalize (lg_sl ([.ref x0, .int i1, .int i2, .int i3]) ++ List.replicate (4 - (lg_sl ([.ref x0, .int i1, .int i2, .int i3])).length) Slot.unset).toArray = ls at hl ⊢
  have hl : lv_has ls 4 [(0, .ref x0), (1, .int i1), (2, .int i2), (3, .int i3)] := hl
  refine lv_aload_n hx hb dX10_row_0 rfl (lv_at hl 0 rfl) ?_
  refine lv_iload_n hx hb dX10_row_1 rfl (lv_at hl 1 rfl) ?_
  refine puI (cV (As := [.int i1]) (rest := []) ⟨hx, hb, hml, hown, hts⟩ (c_X10_isSlot l D T x0 a0 a2 a15 a38 a130 a131 a132 a133 a135 a137 a139 a141 a144 a150 a151 i1) k_X10_isSlot v_X10_isSlot m1239 rfl rfl ⟨(Nat.le_of_ble_eq_true rfl), (Nat.le_of_ble_eq_true rfl)⟩ (preP hC (hP.sub (ws' := [(x0, .inr (10, [.ref a0, .ref a2, .ref a15, .ref a38, .ref a130, .ref a131, .ref a132, .ref a141, .ref a144, .ref a150, .ref a151])), (a132, .inl (T 4, 4, .inr (.inr (.inr (.inr (va_up (va_up (va_up (va_up (fun _ => none) 0 (some a133)) 1 (some a135)) 2 (some a137)) 3 (some a139)))))))]) [0, 1] rfl)) (va_recv hK hP (ci := 10) (q0 := 0) rfl rfl) rfl hl.1 rfl (Nat.le_of_ble_eq_true rfl) dX10_row_2 ⟨(Nat.le_of_ble_eq_true rfl), (Nat.le_of_ble_eq_true rfl)⟩) hS hP (fun r_1 H locs hw hP hS => ?_)
  rcases (show (r_1 = 1 ∧ 0 ≤ i1 ∧ i1 < 4) ∨ (r_1 = 0 ∧ ¬ (0 ≤ i1 ∧ i1 < 4)) from hw) with ⟨rfl, c_3, c_4⟩ | ⟨rfl, c_5⟩
  · refine lv_if_eq (tgt := 23) hx hb dX10_row_5 (by decide) (fun c_6 => absurd c_6 (by decide)) (fun _ => ?_)
    refine lv_iload_n hx hb dX10_row_8 rfl (lv_at hl 2 rfl) ?_
    refine lv_if_lt (tgt := 23) hx hb dX10_row_9 (by decide) (fun c_7 => ?_) (fun c_7 => ?_)
    · refine lv_bipush (v := (-2)) hx hb dX10_row_23 (by decide) ?_
      exact W.iret (v := (-2)) hx hb hr (fun t ht hW => ⟨⟨(-2), (), rfl, (z47_c_X10_row i1 i2 i3 c_3 c_4 c_7), trivial⟩, hS.F ht⟩) hS.2.2 dX10_row_25
    · refine lv_iload_n hx hb dX10_row_12 rfl (lv_at hl 2 rfl) ?_
      refine lv_iconst (v := 3) hx hb dX10_row_13 (by decide) ?_
      refine lv_icmp_gt (tgt := 23) hx hb dX10_row_14 (by decide) (fun c_8 => ?_) (fun c_8 => ?_)
      · refine lv_bipush (v := (-2)) hx hb dX10_row_23 (by decide) ?_
        exact W.iret (v := (-2)) hx hb hr (fun t ht hW => ⟨⟨(-2), (), rfl, (z48_c_X10_row i1 i2 i3 c_3 c_4 c_7 c_8), trivial⟩, hS.F ht⟩) hS.2.2 dX10_row_25
      · refine lv_iload_n hx hb dX10_row_17 rfl (lv_at hl 3 rfl) ?_
        refine lv_bipush (v := 60) hx hb dX10_row_18 (by decide) ?_
        refine lv_icmp_le (tgt := 26) hx hb dX10_row_20 (by decide) (fun c_9 => ?_) (fun c_9 => ?_)
        · refine lv_iload_n hx hb dX10_row_26 rfl (lv_at hl 3 rfl) ?_
          refine lv_if_ge (tgt := 33) hx hb dX10_row_27 (by decide) (fun c_10 => ?_) (fun c_10 => ?_)
          · refine lv_aload_n hx hb dX10_row_33 rfl (lv_at hl 0 rfl) ?_
            refine va_get (D := D) (ci := 10) (C := RX10) (T := TX10) (N := 11) hx hb hts iX10 hown hK hP 0 rfl rfl 6 (by decide) (hts _ m531) (fun _ h9 => h9) rfl dX10_row_34 ?_
            refine lv_iload_n hx hb dX10_row_37 rfl (lv_at hl 1 rfl) ?_
            rcases (z49_c_X10_row i1 i2 i3 c_3 c_4 c_7 c_8 c_9 c_10) with rfl | rfl | rfl | rfl
            · refine va_aldq (D := D) hx hb hK hP 1 4 rfl rfl (by unfold vp_in; decide) dX10_row_38 ?_
              refine W.eq (g2 := F0 m _ ls (.ref a133 :: _)) rfl ?_
              refine lv_iload_n hx hb dX10_row_39 rfl (lv_at hl 2 rfl) ?_
              refine lv_iload_n hx hb dX10_row_40 rfl (lv_at hl 3 rfl) ?_
              refine mtV (wr := [(x0, .inr (10, [.ref a0, .ref a2, .ref a15, .ref a38, .ref a130, .ref a131, .ref a132, .ref a141, .ref a144, .ref a150, .ref a151])), (a132, .inl (T 4, 4, .inr (.inr (.inr (.inr (va_up (va_up (va_up (va_up (fun _ => none) 0 (some a133)) 1 (some a135)) 2 (some a137)) 3 (some a139))))))), (a135, .inr (2, [.ref a136, .int 0, .int (-1)])), (a136, .inl (T 2, 60, .inr (.inl (fun _ => 0)))), (a137, .inr (2, [.ref a138, .int 0, .int (-1)])), (a138, .inl (T 2, 60, .inr (.inl (fun _ => 0)))), (a139, .inr (2, [.ref a140, .int 0, .int (-1)])), (a140, .inl (T 2, 60, .inr (.inl (fun _ => 0))))]) (cV (As := [.int i2, .int i3]) (rest := []) ⟨hx, hb, hml, hown, hts⟩ (c_X2_begin l D T a133 a134 0 (-1) i2 i3 (fun _ => 0) _) k_X2_begin v_X2_begin m1285 rfl rfl ⟨(Nat.le_of_ble_eq_true rfl), (Nat.le_of_ble_eq_true rfl)⟩ (preM hC (hP.sub (ws' := [(a133, .inr (2, [.ref a134, .int 0, .int (-1)])), (a134, .inl (T 2, 60, .inr (.inl (fun _ => 0))))]) [2, 3] rfl) (hD.sub (ws' := [(a133, .inr (2, [.ref a134, .int 0, .int (-1)])), (a134, .inl (T 2, 60, .inr (.inl (fun _ => 0))))]) [2, 3] (by decide) rfl)) (va_recv hK hP (ci := 2) (q0 := 2) rfl rfl) rfl hl.1 rfl (Nat.le_of_ble_eq_true rfl) dX10_row_41 ⟨(Nat.le_of_ble_eq_true rfl), (Nat.le_of_ble_eq_true rfl)⟩) hS hA hP hD [2, 3] [0, 1, 4, 5, 6, 7, 8, 9] rfl rfl (by decide) (by decide) (fun u_12 H locs hw hP hD hS => ?_)
              have hP : va_P D vwCl [(x0, .inr (10, [.ref a0, .ref a2, .ref a15, .ref a38, .ref a130, .ref a131, .ref a132, .ref a141, .ref a144, .ref a150, .ref a151])), (a132, .inl (T 4, 4, .inr (.inr (.inr (.inr (va_up (va_up (va_up (va_up (fun _ => none) 0 (some a133)) 1 (some a135)) 2 (some a137)) 3 (some a139))))))), (a135, .inr (2, [.ref a136, .int 0, .int (-1)])), (a136, .inl (T 2, 60, .inr (.inl (fun _ => 0)))), (a137, .inr (2, [.ref a138, .int 0, .int (-1)])), (a138, .inl (T 2, 60, .inr (.inl (fun _ => 0)))), (a139, .inr (2, [.ref a140, .int 0, .int (-1)])), (a140, .inl (T 2, 60, .inr (.inl (fun _ => 0)))), (a133, .inr (2, [.ref a134, .int i2, .int i3])), (a134, .inl (T 2, 60, .inr (.inl (u_12.2.2.1 0))))] H := hP
              have hD : va_D A [(x0, .inr (10, [.ref a0, .ref a2, .ref a15, .ref a38, .ref a130, .ref a131, .ref a132, .ref a141, .ref a144, .ref a150, .ref a151])), (a132, .inl (T 4, 4, .inr (.inr (.inr (.inr (va_up (va_up (va_up (va_up (fun _ => none) 0 (some a133)) 1 (some a135)) 2 (some a137)) 3 (some a139))))))), (a135, .inr (2, [.ref a136, .int 0, .int (-1)])), (a136, .inl (T 2, 60, .inr (.inl (fun _ => 0)))), (a137, .inr (2, [.ref a138, .int 0, .int (-1)])), (a138, .inl (T 2, 60, .inr (.inl (fun _ => 0)))), (a139, .inr (2, [.ref a140, .int 0, .int (-1)])), (a140, .inl (T 2, 60, .inr (.inl (fun _ => 0)))), (a133, .inr (2, [.ref a134, .int i2, .int i3])), (a134, .inl (T 2, 60, .inr (.inl (u_12.2.2.1 0))))] := hD
              refine lv_iconst (v := 0) hx hb dX10_row_44 (by decide) ?_
              exact W.iret (v := 0) hx hb hr (fun t ht hW => ⟨⟨0, (), rfl, (z50_c_X10_row 0 i2 i3 c_3 c_4 c_7 c_8 c_9 c_10 rfl), trivial⟩, hS.F ht⟩) hS.2.2 dX10_row_45
            · refine va_aldq (D := D) hx hb hK hP 1 4 rfl rfl (by unfold vp_in; decide) dX10_row_38 ?_
              refine W.eq (g2 := F0 m _ ls (.ref a135 :: _)) rfl ?_
              refine lv_iload_n hx hb dX10_row_39 rfl (lv_at hl 2 rfl) ?_
              refine lv_iload_n hx hb dX10_row_40 rfl (lv_at hl 3 rfl) ?_
              refine mtV (wr := [(x0, .inr (10, [.ref a0, .ref a2, .ref a15, .ref a38, .ref a130, .ref a131, .ref a132, .ref a141, .ref a144, .ref a150, .ref a151])), (a132, .inl (T 4, 4, .inr (.inr (.inr (.inr (va_up (va_up (va_up (va_up (fun _ => none) 0 (some a133)) 1 (some a135)) 2 (some a137)) 3 (some a139))))))), (a133, .inr (2, [.ref a134, .int 0, .int (-1)])), (a134, .inl (T 2, 60, .inr (.inl (fun _ => 0)))), (a137, .inr (2, [.ref a138, .int 0, .int (-1)])), (a138, .inl (T 2, 60, .inr (.inl (fun _ => 0)))), (a139, .inr (2, [.ref a140, .int 0, .int (-1)])), (a140, .inl (T 2, 60, .inr (.inl (fun _ => 0))))]) (cV (As := [.int i2, .int i3]) (rest := []) ⟨hx, hb, hml, hown, hts⟩ (c_X2_begin l D T a135 a136 0 (-1) i2 i3 (fun _ => 0) _) k_X2_begin v_X2_begin m1285 rfl rfl ⟨(Nat.le_of_ble_eq_true rfl), (Nat.le_of_ble_eq_true rfl)⟩ (preM hC (hP.sub (ws' := [(a135, .inr (2, [.ref a136, .int 0, .int (-1)])), (a136, .inl (T 2, 60, .inr (.inl (fun _ => 0))))]) [4, 5] rfl) (hD.sub (ws' := [(a135, .inr (2, [.ref a136, .int 0, .int (-1)])), (a136, .inl (T 2, 60, .inr (.inl (fun _ => 0))))]) [4, 5] (by decide) rfl)) (va_recv hK hP (ci := 2) (q0 := 4) rfl rfl) rfl hl.1 rfl (Nat.le_of_ble_eq_true rfl) dX10_row_41 ⟨(Nat.le_of_ble_eq_true rfl), (Nat.le_of_ble_eq_true rfl)⟩) hS hA hP hD [4, 5] [0, 1, 2, 3, 6, 7, 8, 9] rfl rfl (by decide) (by decide) (fun u_14 H locs hw hP hD hS => ?_)
              have hP : va_P D vwCl [(x0, .inr (10, [.ref a0, .ref a2, .ref a15, .ref a38, .ref a130, .ref a131, .ref a132, .ref a141, .ref a144, .ref a150, .ref a151])), (a132, .inl (T 4, 4, .inr (.inr (.inr (.inr (va_up (va_up (va_up (va_up (fun _ => none) 0 (some a133)) 1 (some a135)) 2 (some a137)) 3 (some a139))))))), (a133, .inr (2, [.ref a134, .int 0, .int (-1)])), (a134, .inl (T 2, 60, .inr (.inl (fun _ => 0)))), (a137, .inr (2, [.ref a138, .int 0, .int (-1)])), (a138, .inl (T 2, 60, .inr (.inl (fun _ => 0)))), (a139, .inr (2, [.ref a140, .int 0, .int (-1)])), (a140, .inl (T 2, 60, .inr (.inl (fun _ => 0)))), (a135, .inr (2, [.ref a136, .int i2, .int i3])), (a136, .inl (T 2, 60, .inr (.inl (u_14.2.2.1 0))))] H := hP
              have hD : va_D A [(x0, .inr (10, [.ref a0, .ref a2, .ref a15, .ref a38, .ref a130, .ref a131, .ref a132, .ref a141, .ref a144, .ref a150, .ref a151])), (a132, .inl (T 4, 4, .inr (.inr (.inr (.inr (va_up (va_up (va_up (va_up (fun _ => none) 0 (some a133)) 1 (some a135)) 2 (some a137)) 3 (some a139))))))), (a133, .inr (2, [.ref a134, .int 0, .int (-1)])), (a134, .inl (T 2, 60, .inr (.inl (fun _ => 0)))), (a137, .inr (2, [.ref a138, .int 0, .int (-1)])), (a138, .inl (T 2, 60, .inr (.inl (fun _ => 0)))), (a139, .inr (2, [.ref a140, .int 0, .int (-1)])), (a140, .inl (T 2, 60, .inr (.inl (fun _ => 0)))), (a135, .inr (2, [.ref a136, .int i2, .int i3])), (a136, .inl (T 2, 60, .inr (.inl (u_14.2.2.1 0))))] := hD
              refine lv_iconst (v := 0) hx hb dX10_row_44 (by decide) ?_
              exact W.iret (v := 0) hx hb hr (fun t ht hW => ⟨⟨0, (), rfl, (z51_c_X10_row 1 i2 i3 c_3 c_4 c_7 c_8 c_9 c_10 rfl), trivial⟩, hS.F ht⟩) hS.2.2 dX10_row_45
            · refine va_aldq (D := D) hx hb hK hP 1 4 rfl rfl (by unfold vp_in; decide) dX10_row_38 ?_
              refine W.eq (g2 := F0 m _ ls (.ref a137 :: _)) rfl ?_
              refine lv_iload_n hx hb dX10_row_39 rfl (lv_at hl 2 rfl) ?_
              refine lv_iload_n hx hb dX10_row_40 rfl (lv_at hl 3 rfl) ?_
              refine mtV (wr := [(x0, .inr (10, [.ref a0, .ref a2, .ref a15, .ref a38, .ref a130, .ref a131, .ref a132, .ref a141, .ref a144, .ref a150, .ref a151])), (a132, .inl (T 4, 4, .inr (.inr (.inr (.inr (va_up (va_up (va_up (va_up (fun _ => none) 0 (some a133)) 1 (some a135)) 2 (some a137)) 3 (some a139))))))), (a133, .inr (2, [.ref a134, .int 0, .int (-1)])), (a134, .inl (T 2, 60, .inr (.inl (fun _ => 0)))), (a135, .inr (2, [.ref a136, .int 0, .int (-1)])), (a136, .inl (T 2, 60, .inr (.inl (fun _ => 0)))), (a139, .inr (2, [.ref a140, .int 0, .int (-1)])), (a140, .inl (T 2, 60, .inr (.inl (fun _ => 0))))]) (cV (As := [.int i2, .int i3]) (rest := []) ⟨hx, hb, hml, hown, hts⟩ (c_X2_begin l D T a137 a138 0 (-1) i2 i3 (fun _ => 0) _) k_X2_begin v_X2_begin m1285 rfl rfl ⟨(Nat.le_of_ble_eq_true rfl), (Nat.le_of_ble_eq_true rfl)⟩ (preM hC (hP.sub (ws' := [(a137, .inr (2, [.ref a138, .int 0, .int (-1)])), (a138, .inl (T 2, 60, .inr (.inl (fun _ => 0))))]) [6, 7] rfl) (hD.sub (ws' := [(a137, .inr (2, [.ref a138, .int 0, .int (-1)])), (a138, .inl (T 2, 60, .inr (.inl (fun _ => 0))))]) [6, 7] (by decide) rfl)) (va_recv hK hP (ci := 2) (q0 := 6) rfl rfl) rfl hl.1 rfl (Nat.le_of_ble_eq_true rfl) dX10_row_41 ⟨(Nat.le_of_ble_eq_true rfl), (Nat.le_of_ble_eq_true rfl)⟩) hS hA hP hD [6, 7] [0, 1, 2, 3, 4, 5, 8, 9] rfl rfl (by decide) (by decide) (fun u_16 H locs hw hP hD hS => ?_)
              have hP : va_P D vwCl [(x0, .inr (10, [.ref a0, .ref a2, .ref a15, .ref a38, .ref a130, .ref a131, .ref a132, .ref a141, .ref a144, .ref a150, .ref a151])), (a132, .inl (T 4, 4, .inr (.inr (.inr (.inr (va_up (va_up (va_up (va_up (fun _ => none) 0 (some a133)) 1 (some a135)) 2 (some a137)) 3 (some a139))))))), (a133, .inr (2, [.ref a134, .int 0, .int (-1)])), (a134, .inl (T 2, 60, .inr (.inl (fun _ => 0)))), (a135, .inr (2, [.ref a136, .int 0, .int (-1)])), (a136, .inl (T 2, 60, .inr (.inl (fun _ => 0)))), (a139, .inr (2, [.ref a140, .int 0, .int (-1)])), (a140, .inl (T 2, 60, .inr (.inl (fun _ => 0)))), (a137, .inr (2, [.ref a138, .int i2, .int i3])), (a138, .inl (T 2, 60, .inr (.inl (u_16.2.2.1 0))))] H := hP
              have hD : va_D A [(x0, .inr (10, [.ref a0, .ref a2, .ref a15, .ref a38, .ref a130, .ref a131, .ref a132, .ref a141, .ref a144, .ref a150, .ref a151])), (a132, .inl (T 4, 4, .inr (.inr (.inr (.inr (va_up (va_up (va_up (va_up (fun _ => none) 0 (some a133)) 1 (some a135)) 2 (some a137)) 3 (some a139))))))), (a133, .inr (2, [.ref a134, .int 0, .int (-1)])), (a134, .inl (T 2, 60, .inr (.inl (fun _ => 0)))), (a135, .inr (2, [.ref a136, .int 0, .int (-1)])), (a136, .inl (T 2, 60, .inr (.inl (fun _ => 0)))), (a139, .inr (2, [.ref a140, .int 0, .int (-1)])), (a140, .inl (T 2, 60, .inr (.inl (fun _ => 0)))), (a137, .inr (2, [.ref a138, .int i2, .int i3])), (a138, .inl (T 2, 60, .inr (.inl (u_16.2.2.1 0))))] := hD
              refine lv_iconst (v := 0) hx hb dX10_row_44 (by decide) ?_
              exact W.iret (v := 0) hx hb hr (fun t ht hW => ⟨⟨0, (), rfl, (z52_c_X10_row 2 i2 i3 c_3 c_4 c_7 c_8 c_9 c_10 rfl), trivial⟩, hS.F ht⟩) hS.2.2 dX10_row_45
            · refine va_aldq (D := D) hx hb hK hP 1 4 rfl rfl (by unfold vp_in; decide) dX10_row_38 ?_
              refine W.eq (g2 := F0 m _ ls (.ref a139 :: _)) rfl ?_
              refine lv_iload_n hx hb dX10_row_39 rfl (lv_at hl 2 rfl) ?_
              refine lv_iload_n hx hb dX10_row_40 rfl (lv_at hl 3 rfl) ?_
              refine mtV (wr := [(x0, .inr (10, [.ref a0, .ref a2, .ref a15, .ref a38, .ref a130, .ref a131, .ref a132, .ref a141, .ref a144, .ref a150, .ref a151])), (a132, .inl (T 4, 4, .inr (.inr (.inr (.inr (va_up (va_up (va_up (va_up (fun _ => none) 0 (some a133)) 1 (some a135)) 2 (some a137)) 3 (some a139))))))), (a133, .inr (2, [.ref a134, .int 0, .int (-1)])), (a134, .inl (T 2, 60, .inr (.inl (fun _ => 0)))), (a135, .inr (2, [.ref a136, .int 0, .int (-1)])), (a136, .inl (T 2, 60, .inr (.inl (fun _ => 0)))), (a137, .inr (2, [.ref a138, .int 0, .int (-1)])), (a138, .inl (T 2, 60, .inr (.inl (fun _ => 0))))]) (cV (As := [.int i2, .int i3]) (rest := []) ⟨hx, hb, hml, hown, hts⟩ (c_X2_begin l D T a139 a140 0 (-1) i2 i3 (fun _ => 0) _) k_X2_begin v_X2_begin m1285 rfl rfl ⟨(Nat.le_of_ble_eq_true rfl), (Nat.le_of_ble_eq_true rfl)⟩ (preM hC (hP.sub (ws' := [(a139, .inr (2, [.ref a140, .int 0, .int (-1)])), (a140, .inl (T 2, 60, .inr (.inl (fun _ => 0))))]) [8, 9] rfl) (hD.sub (ws' := [(a139, .inr (2, [.ref a140, .int 0, .int (-1)])), (a140, .inl (T 2, 60, .inr (.inl (fun _ => 0))))]) [8, 9] (by decide) rfl)) (va_recv hK hP (ci := 2) (q0 := 8) rfl rfl) rfl hl.1 rfl (Nat.le_of_ble_eq_true rfl) dX10_row_41 ⟨(Nat.le_of_ble_eq_true rfl), (Nat.le_of_ble_eq_true rfl)⟩) hS hA hP hD [8, 9] [0, 1, 2, 3, 4, 5, 6, 7] rfl rfl (by decide) (by decide) (fun u_18 H locs hw hP hD hS => ?_)
              have hP : va_P D vwCl [(x0, .inr (10, [.ref a0, .ref a2, .ref a15, .ref a38, .ref a130, .ref a131, .ref a132, .ref a141, .ref a144, .ref a150, .ref a151])), (a132, .inl (T 4, 4, .inr (.inr (.inr (.inr (va_up (va_up (va_up (va_up (fun _ => none) 0 (some a133)) 1 (some a135)) 2 (some a137)) 3 (some a139))))))), (a133, .inr (2, [.ref a134, .int 0, .int (-1)])), (a134, .inl (T 2, 60, .inr (.inl (fun _ => 0)))), (a135, .inr (2, [.ref a136, .int 0, .int (-1)])), (a136, .inl (T 2, 60, .inr (.inl (fun _ => 0)))), (a137, .inr (2, [.ref a138, .int 0, .int (-1)])), (a138, .inl (T 2, 60, .inr (.inl (fun _ => 0)))), (a139, .inr (2, [.ref a140, .int i2, .int i3])), (a140, .inl (T 2, 60, .inr (.inl (u_18.2.2.1 0))))] H := hP
              have hD : va_D A [(x0, .inr (10, [.ref a0, .ref a2, .ref a15, .ref a38, .ref a130, .ref a131, .ref a132, .ref a141, .ref a144, .ref a150, .ref a151])), (a132, .inl (T 4, 4, .inr (.inr (.inr (.inr (va_up (va_up (va_up (va_up (fun _ => none) 0 (some a133)) 1 (some a135)) 2 (some a137)) 3 (some a139))))))), (a133, .inr (2, [.ref a134, .int 0, .int (-1)])), (a134, .inl (T 2, 60, .inr (.inl (fun _ => 0)))), (a135, .inr (2, [.ref a136, .int 0, .int (-1)])), (a136, .inl (T 2, 60, .inr (.inl (fun _ => 0)))), (a137, .inr (2, [.ref a138, .int 0, .int (-1)])), (a138, .inl (T 2, 60, .inr (.inl (fun _ => 0)))), (a139, .inr (2, [.ref a140, .int i2, .int i3])), (a140, .inl (T 2, 60, .inr (.inl (u_18.2.2.1 0))))] := hD
              refine lv_iconst (v := 0) hx hb dX10_row_44 (by decide) ?_
              exact W.iret (v := 0) hx hb hr (fun t ht hW => ⟨⟨0, (), rfl, (z53_c_X10_row 3 i2 i3 c_3 c_4 c_7 c_8 c_9 c_10 rfl), trivial⟩, hS.F ht⟩) hS.2.2 dX10_row_45
          · refine lv_bipush (v := (-3)) hx hb dX10_row_30 (by decide) ?_
            exact W.iret (v := (-3)) hx hb hr (fun t ht hW => ⟨⟨(-3), (), rfl, (z54_c_X10_row i1 i2 i3 c_3 c_4 c_7 c_8 c_9 c_10), trivial⟩, hS.F ht⟩) hS.2.2 dX10_row_32
        · refine lv_bipush (v := (-2)) hx hb dX10_row_23 (by decide) ?_
          exact W.iret (v := (-2)) hx hb hr (fun t ht hW => ⟨⟨(-2), (), rfl, (z55_c_X10_row i1 i2 i3 c_3 c_4 c_7 c_8 c_9), trivial⟩, hS.F ht⟩) hS.2.2 dX10_row_25
  · refine lv_if_eq (tgt := 23) hx hb dX10_row_5 (by decide) (fun _ => ?_) (fun c_19 => absurd (by decide) c_19)
    refine lv_bipush (v := (-2)) hx hb dX10_row_23 (by decide) ?_
    exact W.iret (v := (-2)) hx hb hr (fun t ht hW => ⟨⟨(-2), (), rfl, (z56_c_X10_row i1 i2 i3 c_5), trivial⟩, hS.F ht⟩) hS.2.2 dX10_row_25

set_option maxHeartbeats 4000000 in
set_option maxRecDepth 100000 in
theorem c_X3_votersNow (l : Launch) (D : va_G) (T : Nat → ClassId) (a15 a16 a17 a18 a19 a20 a21 a22 a23 a24 a25 a26 a27 a36 a37 : Nat) : Met l yX3_votersNow (wM yX3_votersNow cX3_votersNow 3 (some .int)) ({ frames := 0, cells := 0, slots := 0, locals := 0 }) (va_Pc [.ref a15] (pwP D T [(a15, .inr (3, [.ref a16, .ref a27, .int 0, .int 0, .int 2, .long 0, .int 0, .ref a36, .ref a37])), (a16, .inr (5, [.int 0, .int 0, .int 0, .int 0, .int 0, .int 0, .int 0, .int 0, .int 0, .ref a17, .ref a18, .ref a19, .ref a20, .ref a21, .ref a22, .ref a23, .ref a24, .ref a25, .ref a26]))])) (va_Qi (fun (r : Int32) (u : Unit) => r = 0) (fun _ _ => True) (fun _ => False)) 0 0 (fun _ => False) := by
  refine Met.ofW (cc := cX3_votersNow) (maxL := 3) (ret := (some .int)) (by decide) rfl ?_
  intro p e s m args below meth c s₁ B hml hv
  obtain ⟨rfl, hP, hC⟩ := hv
  have hx := B.exec
  have hb := B.bytes
  have hr := B.returns
  have hts : ∀ w ∈ gt, w.before _ s = true := fun w hw => atoms_spec (ws := (wM yX3_votersNow cX3_votersNow 3 (some .int))) B.pre w (List.mem_cons_of_mem _ hw)
  have hown : s.vm.findClass RX3 = some m.cls := findClass_of_methodNamed B.named
  have hlocks := B.notSynchronized
  have hK := hC.1
  have hS : va_S (fun _ => False) s.heap s.heap [] := va_S.rf
  have hl := lv_entry ([.ref a15]) (n := 3) (Nat.le_of_ble_eq_true rfl)
  rw [lg_entry_eq]
  generalize (lg_sl ([.ref a15]) ++ List.replicate (3 - (lg_sl ([.ref a15])).length) Slot.unset).toArray = ls at hl ⊢
  have hl : lv_has ls 3 [(0, .ref a15)] := hl
  refine lv_iconst (v := 0) hx hb dX3_votersNow_0 (by decide) ?_
  refine lv_istore_n (lv' := [(1, .int 0), (0, .ref a15)]) hx hb dX3_votersNow_1 rfl hl (by decide) rfl (fun ls hl => ?_)
  refine lv_iconst (v := 0) hx hb dX3_votersNow_2 (by decide) ?_
  refine lv_istore_n (lv' := [(2, .int 0), (1, .int 0), (0, .ref a15)]) hx hb dX3_votersNow_3 rfl hl (by decide) rfl (fun ls hl => ?_)
  refine lv_iload_n hx hb dX3_votersNow_4 rfl (lv_at hl 0 rfl) ?_
  refine lv_aload_n hx hb dX3_votersNow_5 rfl (lv_at hl 2 rfl) ?_
  refine va_get (D := D) (ci := 3) (C := RX3) (T := TX3) (N := 9) hx hb hts iX3 hown hK hP 0 rfl rfl 0 (by decide) (hts _ m366) (fun _ h9 => h9) rfl dX3_votersNow_6 ?_
  refine va_get (D := D) (ci := 5) (C := RX5) (T := TX5) (N := 19) hx hb hts iX5 hown hK hP 1 rfl rfl 5 (by decide) (hts _ m189) (fun _ h9 => h9) rfl dX3_votersNow_9 ?_
  refine lv_icmp_ge (tgt := 35) hx hb dX3_votersNow_12 (by decide) (fun _ => ?_) (fun c_1 => absurd (by decide) c_1)
  refine lv_iload_n hx hb dX3_votersNow_35 rfl (lv_at hl 1 rfl) ?_
  exact W.iret (v := 0) hx hb hr (fun t ht hW => ⟨⟨0, (), rfl, rfl, trivial⟩, hS.F ht⟩) hS.2.2 dX3_votersNow_36

set_option maxHeartbeats 4000000 in
set_option maxRecDepth 100000 in
theorem c_X10_slotsWithRows (l : Launch) (D : va_G) (T : Nat → ClassId) (x0 a0 a2 a15 a38 a130 a131 a132 a133 a134 a135 a136 a137 a138 a139 a140 a141 a144 a150 a151 : Nat) : Met l yX10_slotsWithRows (wM yX10_slotsWithRows cX10_slotsWithRows 6 (some .int)) ({ frames := 1, cells := 0, slots := 0, locals := 20 }) (va_Pc [.ref x0] (pwP D T [(x0, .inr (10, [.ref a0, .ref a2, .ref a15, .ref a38, .ref a130, .ref a131, .ref a132, .ref a141, .ref a144, .ref a150, .ref a151])), (a132, .inl (T 4, 4, .inr (.inr (.inr (.inr (va_up (va_up (va_up (va_up (fun _ => none) 0 (some a133)) 1 (some a135)) 2 (some a137)) 3 (some a139))))))), (a133, .inr (2, [.ref a134, .int 0, .int (-1)])), (a135, .inr (2, [.ref a136, .int 0, .int (-1)])), (a137, .inr (2, [.ref a138, .int 0, .int (-1)])), (a139, .inr (2, [.ref a140, .int 0, .int (-1)]))])) (va_Qi (fun (r : Int32) (u : Unit) => r = 0) (fun _ _ => True) (fun _ => False)) 0 0 (fun _ => False) := by
  refine Met.ofW (cc := cX10_slotsWithRows) (maxL := 6) (ret := (some .int)) (by decide) rfl ?_
  intro p e s m args below meth c s₁ B hml hv
  obtain ⟨rfl, hP, hC⟩ := hv
  have hx := B.exec
  have hb := B.bytes
  have hr := B.returns
  have hts : ∀ w ∈ gt, w.before _ s = true := fun w hw => atoms_spec (ws := (wM yX10_slotsWithRows cX10_slotsWithRows 6 (some .int))) B.pre w (List.mem_cons_of_mem _ hw)
  have hown : s.vm.findClass RX10 = some m.cls := findClass_of_methodNamed B.named
  have hlocks := B.notSynchronized
  have hK := hC.1
  have hS : va_S (fun _ => False) s.heap s.heap [] := va_S.rf
  have hl := lv_entry ([.ref x0]) (n := 6) (Nat.le_of_ble_eq_true rfl)
  rw [lg_entry_eq]
  generalize (lg_sl ([.ref x0]) ++ List.replicate (6 - (lg_sl ([.ref x0])).length) Slot.unset).toArray = ls at hl ⊢
  have hl : lv_has ls 6 [(0, .ref x0)] := hl
  refine lv_iconst (v := 0) hx hb dX10_slotsWithRows_0 (by decide) ?_
  refine lv_istore_n (lv' := [(1, .int 0), (0, .ref x0)]) hx hb dX10_slotsWithRows_1 rfl hl (by decide) rfl (fun ls hl => ?_)
  refine lv_aload_n hx hb dX10_slotsWithRows_2 rfl (lv_at hl 1 rfl) ?_
  refine va_get (D := D) (ci := 10) (C := RX10) (T := TX10) (N := 11) hx hb hts iX10 hown hK hP 0 rfl rfl 6 (by decide) (hts _ m531) (fun _ h9 => h9) rfl dX10_slotsWithRows_3 ?_
  refine lv_astore_n (lv' := [(2, .ref a132), (1, .int 0), (0, .ref x0)]) hx hb dX10_slotsWithRows_6 rfl hl (by decide) rfl (fun ls hl => ?_)
  refine lv_aload_n hx hb dX10_slotsWithRows_7 rfl (lv_at hl 0 rfl) ?_
  refine va_alen (D := D) hx hb hK hP 1 4 rfl rfl (v := 4) rfl dX10_slotsWithRows_8 ?_
  refine lv_istore_n (lv' := [(3, .int 4), (2, .ref a132), (1, .int 0), (0, .ref x0)]) hx hb dX10_slotsWithRows_9 rfl hl (by decide) rfl (fun ls hl => ?_)
  refine lv_iconst (v := 0) hx hb dX10_slotsWithRows_10 (by decide) ?_
  refine lv_istore (lv' := [(4, .int 0), (3, .int 4), (2, .ref a132), (1, .int 0), (0, .ref x0)]) hx hb dX10_slotsWithRows_11 hl (by decide) rfl (fun ls hl => ?_)
  refine lv_iload hx hb dX10_slotsWithRows_13 (lv_at hl 0 rfl) ?_
  refine lv_iload_n hx hb dX10_slotsWithRows_15 rfl (lv_at hl 1 rfl) ?_
  refine lv_icmp_ge (tgt := 42) hx hb dX10_slotsWithRows_16 (by decide) (fun c_1 => absurd c_1 (by decide)) (fun _ => ?_)
  refine lv_aload_n hx hb dX10_slotsWithRows_19 rfl (lv_at hl 2 rfl) ?_
  refine lv_iload hx hb dX10_slotsWithRows_20 (lv_at hl 0 rfl) ?_
  refine va_aldq (D := D) hx hb hK hP 1 4 rfl rfl (by unfold vp_in; decide) dX10_slotsWithRows_22 ?_
  refine W.eq (g2 := F0 m _ ls (.ref a133 :: _)) rfl ?_
  refine lv_astore (lv' := [(5, .ref a133), (4, .int 0), (3, .int 4), (2, .ref a132), (1, .int 0), (0, .ref x0)]) hx hb dX10_slotsWithRows_23 hl (by decide) rfl (fun ls hl => ?_)
  refine lv_aload hx hb dX10_slotsWithRows_25 (lv_at hl 0 rfl) ?_
  refine puI (cV (As := []) (rest := []) ⟨hx, hb, hml, hown, hts⟩ (c_X2_isVoid l D T a133 a134 0) k_X2_isVoid v_X2_isVoid m1243 rfl rfl ⟨(Nat.le_of_ble_eq_true rfl), (Nat.le_of_ble_eq_true rfl)⟩ (preP hC (hP.sub (ws' := [(a133, .inr (2, [.ref a134, .int 0, .int (-1)]))]) [2] rfl)) (va_recv hK hP (ci := 2) (q0 := 2) rfl rfl) rfl hl.1 rfl (Nat.le_of_ble_eq_true rfl) dX10_slotsWithRows_27 ⟨(Nat.le_of_ble_eq_true rfl), (Nat.le_of_ble_eq_true rfl)⟩) hS hP (fun r_2 H locs hw hP hS => ?_)
  obtain rfl : r_2 = 1 := hw
  refine lv_if_ne (tgt := 36) hx hb dX10_slotsWithRows_30 (by decide) (fun _ => ?_) (fun c_4 => absurd c_4 (by decide))
  refine lv_iinc (v := 1) (lv' := [(4, .int 1), (5, .ref a133), (3, .int 4), (2, .ref a132), (1, .int 0), (0, .ref x0)]) hx hb dX10_slotsWithRows_36 hl (k := 1) rfl (by decide) (by decide) rfl (fun ls hl => ?_)
  refine lv_goto (tgt := 13) hx hb dX10_slotsWithRows_39 (by decide) ?_
  refine lv_iload hx hb dX10_slotsWithRows_13 (lv_at hl 0 rfl) ?_
  refine lv_iload_n hx hb dX10_slotsWithRows_15 rfl (lv_at hl 2 rfl) ?_
  refine lv_icmp_ge (tgt := 42) hx hb dX10_slotsWithRows_16 (by decide) (fun c_5 => absurd c_5 (by decide)) (fun _ => ?_)
  refine lv_aload_n hx hb dX10_slotsWithRows_19 rfl (lv_at hl 3 rfl) ?_
  refine lv_iload hx hb dX10_slotsWithRows_20 (lv_at hl 0 rfl) ?_
  refine va_aldq (D := D) hx hb hK hP 1 4 rfl rfl (by unfold vp_in; decide) dX10_slotsWithRows_22 ?_
  refine W.eq (g2 := F0 m _ ls (.ref a135 :: _)) rfl ?_
  refine lv_astore (lv' := [(5, .ref a135), (4, .int 1), (3, .int 4), (2, .ref a132), (1, .int 0), (0, .ref x0)]) hx hb dX10_slotsWithRows_23 hl (by decide) rfl (fun ls hl => ?_)
  refine lv_aload hx hb dX10_slotsWithRows_25 (lv_at hl 0 rfl) ?_
  refine puI (cV (As := []) (rest := []) ⟨hx, hb, hml, hown, hts⟩ (c_X2_isVoid l D T a135 a136 0) k_X2_isVoid v_X2_isVoid m1243 rfl rfl ⟨(Nat.le_of_ble_eq_true rfl), (Nat.le_of_ble_eq_true rfl)⟩ (preP hC (hP.sub (ws' := [(a135, .inr (2, [.ref a136, .int 0, .int (-1)]))]) [3] rfl)) (va_recv hK hP (ci := 2) (q0 := 3) rfl rfl) rfl hl.1 rfl (Nat.le_of_ble_eq_true rfl) dX10_slotsWithRows_27 ⟨(Nat.le_of_ble_eq_true rfl), (Nat.le_of_ble_eq_true rfl)⟩) hS hP (fun r_6 H locs hw hP hS => ?_)
  obtain rfl : r_6 = 1 := hw
  refine lv_if_ne (tgt := 36) hx hb dX10_slotsWithRows_30 (by decide) (fun _ => ?_) (fun c_8 => absurd c_8 (by decide))
  refine lv_iinc (v := 2) (lv' := [(4, .int 2), (5, .ref a135), (3, .int 4), (2, .ref a132), (1, .int 0), (0, .ref x0)]) hx hb dX10_slotsWithRows_36 hl (k := 1) rfl (by decide) (by decide) rfl (fun ls hl => ?_)
  refine lv_goto (tgt := 13) hx hb dX10_slotsWithRows_39 (by decide) ?_
  refine lv_iload hx hb dX10_slotsWithRows_13 (lv_at hl 0 rfl) ?_
  refine lv_iload_n hx hb dX10_slotsWithRows_15 rfl (lv_at hl 2 rfl) ?_
  refine lv_icmp_ge (tgt := 42) hx hb dX10_slotsWithRows_16 (by decide) (fun c_9 => absurd c_9 (by decide)) (fun _ => ?_)
  refine lv_aload_n hx hb dX10_slotsWithRows_19 rfl (lv_at hl 3 rfl) ?_
  refine lv_iload hx hb dX10_slotsWithRows_20 (lv_at hl 0 rfl) ?_
  refine va_aldq (D := D) hx hb hK hP 1 4 rfl rfl (by unfold vp_in; decide) dX10_slotsWithRows_22 ?_
  refine W.eq (g2 := F0 m _ ls (.ref a137 :: _)) rfl ?_
  refine lv_astore (lv' := [(5, .ref a137), (4, .int 2), (3, .int 4), (2, .ref a132), (1, .int 0), (0, .ref x0)]) hx hb dX10_slotsWithRows_23 hl (by decide) rfl (fun ls hl => ?_)
  refine lv_aload hx hb dX10_slotsWithRows_25 (lv_at hl 0 rfl) ?_
  refine puI (cV (As := []) (rest := []) ⟨hx, hb, hml, hown, hts⟩ (c_X2_isVoid l D T a137 a138 0) k_X2_isVoid v_X2_isVoid m1243 rfl rfl ⟨(Nat.le_of_ble_eq_true rfl), (Nat.le_of_ble_eq_true rfl)⟩ (preP hC (hP.sub (ws' := [(a137, .inr (2, [.ref a138, .int 0, .int (-1)]))]) [4] rfl)) (va_recv hK hP (ci := 2) (q0 := 4) rfl rfl) rfl hl.1 rfl (Nat.le_of_ble_eq_true rfl) dX10_slotsWithRows_27 ⟨(Nat.le_of_ble_eq_true rfl), (Nat.le_of_ble_eq_true rfl)⟩) hS hP (fun r_10 H locs hw hP hS => ?_)
  obtain rfl : r_10 = 1 := hw
  refine lv_if_ne (tgt := 36) hx hb dX10_slotsWithRows_30 (by decide) (fun _ => ?_) (fun c_12 => absurd c_12 (by decide))
  refine lv_iinc (v := 3) (lv' := [(4, .int 3), (5, .ref a137), (3, .int 4), (2, .ref a132), (1, .int 0), (0, .ref x0)]) hx hb dX10_slotsWithRows_36 hl (k := 1) rfl (by decide) (by decide) rfl (fun ls hl => ?_)
  refine lv_goto (tgt := 13) hx hb dX10_slotsWithRows_39 (by decide) ?_
  refine lv_iload hx hb dX10_slotsWithRows_13 (lv_at hl 0 rfl) ?_
  refine lv_iload_n hx hb dX10_slotsWithRows_15 rfl (lv_at hl 2 rfl) ?_
  refine lv_icmp_ge (tgt := 42) hx hb dX10_slotsWithRows_16 (by decide) (fun c_13 => absurd c_13 (by decide)) (fun _ => ?_)
  refine lv_aload_n hx hb dX10_slotsWithRows_19 rfl (lv_at hl 3 rfl) ?_
  refine lv_iload hx hb dX10_slotsWithRows_20 (lv_at hl 0 rfl) ?_
  refine va_aldq (D := D) hx hb hK hP 1 4 rfl rfl (by unfold vp_in; decide) dX10_slotsWithRows_22 ?_
  refine W.eq (g2 := F0 m _ ls (.ref a139 :: _)) rfl ?_
  refine lv_astore (lv' := [(5, .ref a139), (4, .int 3), (3, .int 4), (2, .ref a132), (1, .int 0), (0, .ref x0)]) hx hb dX10_slotsWithRows_23 hl (by decide) rfl (fun ls hl => ?_)
  refine lv_aload hx hb dX10_slotsWithRows_25 (lv_at hl 0 rfl) ?_
  refine puI (cV (As := []) (rest := []) ⟨hx, hb, hml, hown, hts⟩ (c_X2_isVoid l D T a139 a140 0) k_X2_isVoid v_X2_isVoid m1243 rfl rfl ⟨(Nat.le_of_ble_eq_true rfl), (Nat.le_of_ble_eq_true rfl)⟩ (preP hC (hP.sub (ws' := [(a139, .inr (2, [.ref a140, .int 0, .int (-1)]))]) [5] rfl)) (va_recv hK hP (ci := 2) (q0 := 5) rfl rfl) rfl hl.1 rfl (Nat.le_of_ble_eq_true rfl) dX10_slotsWithRows_27 ⟨(Nat.le_of_ble_eq_true rfl), (Nat.le_of_ble_eq_true rfl)⟩) hS hP (fun r_14 H locs hw hP hS => ?_)
  obtain rfl : r_14 = 1 := hw
  refine lv_if_ne (tgt := 36) hx hb dX10_slotsWithRows_30 (by decide) (fun _ => ?_) (fun c_16 => absurd c_16 (by decide))
  refine lv_iinc (v := 4) (lv' := [(4, .int 4), (5, .ref a139), (3, .int 4), (2, .ref a132), (1, .int 0), (0, .ref x0)]) hx hb dX10_slotsWithRows_36 hl (k := 1) rfl (by decide) (by decide) rfl (fun ls hl => ?_)
  refine lv_goto (tgt := 13) hx hb dX10_slotsWithRows_39 (by decide) ?_
  refine lv_iload hx hb dX10_slotsWithRows_13 (lv_at hl 0 rfl) ?_
  refine lv_iload_n hx hb dX10_slotsWithRows_15 rfl (lv_at hl 2 rfl) ?_
  refine lv_icmp_ge (tgt := 42) hx hb dX10_slotsWithRows_16 (by decide) (fun _ => ?_) (fun c_17 => absurd (by decide) c_17)
  refine lv_iload_n hx hb dX10_slotsWithRows_42 rfl (lv_at hl 4 rfl) ?_
  exact W.iret (v := 0) hx hb hr (fun t ht hW => ⟨⟨0, (), rfl, rfl, trivial⟩, hS.F ht⟩) hS.2.2 dX10_slotsWithRows_43

theorem z57_c_X10_count (i1 : Int32) (h0 : i1 = 0) : (0 : Int32) = a_count i1 := by
  unfold a_count
  (repeat' split) <;> first | rfl | assumption | (simp_all; done) | (exfalso; simp only [i_lt, i_le, i_eq, l_lt, l_le, l_eq, i_64, i_0, i_1, i_2, i_3, i_4, i_5, i_6, i_7, i_8, i_12, i_60, i_m1, l_0, l_1, l_2, l_3, l_4, l_12, l_m1, vp_in_iff] at *; omega)
theorem z58_c_X10_count (i1 : Int32) (h0 : i1 = 1) : (0 : Int32) = a_count i1 := by
  unfold a_count
  (repeat' split) <;> first | rfl | assumption | (simp_all; done) | (exfalso; simp only [i_lt, i_le, i_eq, l_lt, l_le, l_eq, i_64, i_0, i_1, i_2, i_3, i_4, i_5, i_6, i_7, i_8, i_12, i_60, i_m1, l_0, l_1, l_2, l_3, l_4, l_12, l_m1, vp_in_iff] at *; omega)
theorem z59_c_X10_count (i1 : Int32) (h0 : i1 = 2) : (0 : Int32) = a_count i1 := by
  unfold a_count
  (repeat' split) <;> first | rfl | assumption | (simp_all; done) | (exfalso; simp only [i_lt, i_le, i_eq, l_lt, l_le, l_eq, i_64, i_0, i_1, i_2, i_3, i_4, i_5, i_6, i_7, i_8, i_12, i_60, i_m1, l_0, l_1, l_2, l_3, l_4, l_12, l_m1, vp_in_iff] at *; omega)
theorem z60_c_X10_count (i1 : Int32) (h0 : i1 = 3) : (0 : Int32) = a_count i1 := by
  unfold a_count
  (repeat' split) <;> first | rfl | assumption | (simp_all; done) | (exfalso; simp only [i_lt, i_le, i_eq, l_lt, l_le, l_eq, i_64, i_0, i_1, i_2, i_3, i_4, i_5, i_6, i_7, i_8, i_12, i_60, i_m1, l_0, l_1, l_2, l_3, l_4, l_12, l_m1, vp_in_iff] at *; omega)
theorem z61_c_X10_count (i1 : Int32) (h0 : i1 = 4) : (0 : Int32) = a_count i1 := by
  unfold a_count
  (repeat' split) <;> first | rfl | assumption | (simp_all; done) | (exfalso; simp only [i_lt, i_le, i_eq, l_lt, l_le, l_eq, i_64, i_0, i_1, i_2, i_3, i_4, i_5, i_6, i_7, i_8, i_12, i_60, i_m1, l_0, l_1, l_2, l_3, l_4, l_12, l_m1, vp_in_iff] at *; omega)
theorem z62_c_X10_count (i1 : Int32) (h0 : i1 = 5) : (0 : Int32) = a_count i1 := by
  unfold a_count
  (repeat' split) <;> first | rfl | assumption | (simp_all; done) | (exfalso; simp only [i_lt, i_le, i_eq, l_lt, l_le, l_eq, i_64, i_0, i_1, i_2, i_3, i_4, i_5, i_6, i_7, i_8, i_12, i_60, i_m1, l_0, l_1, l_2, l_3, l_4, l_12, l_m1, vp_in_iff] at *; omega)
theorem z63_c_X10_count (i1 : Int32) (h0 : i1 = 6) : (2 : Int32) = a_count i1 := by
  unfold a_count
  (repeat' split) <;> first | rfl | assumption | (simp_all; done) | (exfalso; simp only [i_lt, i_le, i_eq, l_lt, l_le, l_eq, i_64, i_0, i_1, i_2, i_3, i_4, i_5, i_6, i_7, i_8, i_12, i_60, i_m1, l_0, l_1, l_2, l_3, l_4, l_12, l_m1, vp_in_iff] at *; omega)
theorem z64_c_X10_count (i1 : Int32) (h0 : i1 = 7) : (0 : Int32) = a_count i1 := by
  unfold a_count
  (repeat' split) <;> first | rfl | assumption | (simp_all; done) | (exfalso; simp only [i_lt, i_le, i_eq, l_lt, l_le, l_eq, i_64, i_0, i_1, i_2, i_3, i_4, i_5, i_6, i_7, i_8, i_12, i_60, i_m1, l_0, l_1, l_2, l_3, l_4, l_12, l_m1, vp_in_iff] at *; omega)
theorem z65_c_X10_count (i1 : Int32) (h0 : i1 = 8) : (0 : Int32) = a_count i1 := by
  unfold a_count
  (repeat' split) <;> first | rfl | assumption | (simp_all; done) | (exfalso; simp only [i_lt, i_le, i_eq, l_lt, l_le, l_eq, i_64, i_0, i_1, i_2, i_3, i_4, i_5, i_6, i_7, i_8, i_12, i_60, i_m1, l_0, l_1, l_2, l_3, l_4, l_12, l_m1, vp_in_iff] at *; omega)
theorem z66_c_X10_count (i1 : Int32) (h0 : i1 = 9) : (0 : Int32) = a_count i1 := by
  unfold a_count
  (repeat' split) <;> first | rfl | assumption | (simp_all; done) | (exfalso; simp only [i_lt, i_le, i_eq, l_lt, l_le, l_eq, i_64, i_0, i_1, i_2, i_3, i_4, i_5, i_6, i_7, i_8, i_12, i_60, i_m1, l_0, l_1, l_2, l_3, l_4, l_12, l_m1, vp_in_iff] at *; omega)
theorem z67_c_X10_count (i1 : Int32) (h0 : i1 = 10) : (0 : Int32) = a_count i1 := by
  unfold a_count
  (repeat' split) <;> first | rfl | assumption | (simp_all; done) | (exfalso; simp only [i_lt, i_le, i_eq, l_lt, l_le, l_eq, i_64, i_0, i_1, i_2, i_3, i_4, i_5, i_6, i_7, i_8, i_12, i_60, i_m1, l_0, l_1, l_2, l_3, l_4, l_12, l_m1, vp_in_iff] at *; omega)
theorem z68_c_X10_count (i1 : Int32) (h0 : i1 = 11) : (0 : Int32) = a_count i1 := by
  unfold a_count
  (repeat' split) <;> first | rfl | assumption | (simp_all; done) | (exfalso; simp only [i_lt, i_le, i_eq, l_lt, l_le, l_eq, i_64, i_0, i_1, i_2, i_3, i_4, i_5, i_6, i_7, i_8, i_12, i_60, i_m1, l_0, l_1, l_2, l_3, l_4, l_12, l_m1, vp_in_iff] at *; omega)
theorem z69_c_X10_count (i1 : Int32) (h0 : i1 = 12) : (0 : Int32) = a_count i1 := by
  unfold a_count
  (repeat' split) <;> first | rfl | assumption | (simp_all; done) | (exfalso; simp only [i_lt, i_le, i_eq, l_lt, l_le, l_eq, i_64, i_0, i_1, i_2, i_3, i_4, i_5, i_6, i_7, i_8, i_12, i_60, i_m1, l_0, l_1, l_2, l_3, l_4, l_12, l_m1, vp_in_iff] at *; omega)
theorem z70_c_X10_count (i1 : Int32) (h0 : i1.toInt < 0 ∨ 12 < i1.toInt) : ((-1) : Int32) = a_count i1 := by
  unfold a_count
  (repeat' split) <;> first | rfl | assumption | (simp_all; done) | (exfalso; simp only [i_lt, i_le, i_eq, l_lt, l_le, l_eq, i_64, i_0, i_1, i_2, i_3, i_4, i_5, i_6, i_7, i_8, i_12, i_60, i_m1, l_0, l_1, l_2, l_3, l_4, l_12, l_m1, vp_in_iff] at *; omega)
set_option maxHeartbeats 4000000 in
set_option maxRecDepth 100000 in
theorem c_X10_count (l : Launch) (D : va_G) (T : Nat → ClassId) (x0 a0 a1 a2 a15 a16 a17 a18 a19 a20 a21 a22 a23 a24 a25 a26 a27 a36 a37 a38 a130 a131 a132 a133 a134 a135 a136 a137 a138 a139 a140 a141 a144 a150 a151 : Nat) (i1 : Int32) : Met l yX10_count (wM yX10_count cX10_count 2 (some .int)) ({ frames := 2, cells := 0, slots := 0, locals := 45 }) (va_Pc [.ref x0, .int i1] (pwP D T [(x0, .inr (10, [.ref a0, .ref a2, .ref a15, .ref a38, .ref a130, .ref a131, .ref a132, .ref a141, .ref a144, .ref a150, .ref a151])), (a0, .inr (4, [.ref a1, .int 0])), (a15, .inr (3, [.ref a16, .ref a27, .int 0, .int 0, .int 2, .long 0, .int 0, .ref a36, .ref a37])), (a16, .inr (5, [.int 0, .int 0, .int 0, .int 0, .int 0, .int 0, .int 0, .int 0, .int 0, .ref a17, .ref a18, .ref a19, .ref a20, .ref a21, .ref a22, .ref a23, .ref a24, .ref a25, .ref a26])), (a132, .inl (T 4, 4, .inr (.inr (.inr (.inr (va_up (va_up (va_up (va_up (fun _ => none) 0 (some a133)) 1 (some a135)) 2 (some a137)) 3 (some a139))))))), (a133, .inr (2, [.ref a134, .int 0, .int (-1)])), (a135, .inr (2, [.ref a136, .int 0, .int (-1)])), (a137, .inr (2, [.ref a138, .int 0, .int (-1)])), (a139, .inr (2, [.ref a140, .int 0, .int (-1)]))])) (va_Qi (fun (r : Int32) (u : Unit) => r = a_count i1) (fun _ _ => True) (fun _ => False)) 0 0 (fun _ => False) := by
  refine Met.ofW (cc := cX10_count) (maxL := 2) (ret := (some .int)) (by decide) rfl ?_
  intro p e s m args below meth c s₁ B hml hv
  obtain ⟨rfl, hP, hC⟩ := hv
  have hx := B.exec
  have hb := B.bytes
  have hr := B.returns
  have hts : ∀ w ∈ gt, w.before _ s = true := fun w hw => atoms_spec (ws := (wM yX10_count cX10_count 2 (some .int))) B.pre w (List.mem_cons_of_mem _ hw)
  have hown : s.vm.findClass RX10 = some m.cls := findClass_of_methodNamed B.named
  have hlocks := B.notSynchronized
  have hK := hC.1
  have hS : va_S (fun _ => False) s.heap s.heap [] := va_S.rf
  have hl := lv_entry ([.ref x0, .int i1]) (n := 2) (Nat.le_of_ble_eq_true rfl)
  rw [lg_entry_eq]
  generalize (lg_sl ([.ref x0, .int i1]) ++ List.replicate (2 - (lg_sl ([.ref x0, .int i1])).length) Slot.unset).toArray = ls at hl ⊢
  have hl : lv_has ls 2 [(0, .ref x0), (1, .int i1)] := hl
  refine lv_iload_n hx hb dX10_count_0 rfl (lv_at hl 1 rfl) ?_
  rcases sw13 i1 with rfl | rfl | rfl | rfl | rfl | rfl | rfl | rfl | rfl | rfl | rfl | rfl | rfl | c_14
  · refine lv_tableIn (off := 67) (tgt := 68) hx hb dX10_count_1 (by decide) (by decide) (by decide) (by decide) ?_
    refine lv_aload_n hx hb dX10_count_68 rfl (lv_at hl 0 rfl) ?_
    refine va_get (D := D) (ci := 10) (C := RX10) (T := TX10) (N := 11) hx hb hts iX10 hown hK hP 0 rfl rfl 2 (by decide) (hts _ m527) (fun _ h9 => h9) rfl dX10_count_69 ?_
    refine va_get (D := D) (ci := 3) (C := RX3) (T := TX3) (N := 9) hx hb hts iX3 hown hK hP 2 rfl rfl 0 (by decide) (hts _ m371) (fun _ h9 => h9) rfl dX10_count_72 ?_
    refine va_get (D := D) (ci := 5) (C := RX5) (T := TX5) (N := 19) hx hb hts iX5 hown hK hP 3 rfl rfl 1 (by decide) (hts _ m173) (fun _ h9 => h9) rfl dX10_count_75 ?_
    exact W.iret (v := 0) hx hb hr (fun t ht hW => ⟨⟨0, (), rfl, (z57_c_X10_count 0 rfl), trivial⟩, hS.F ht⟩) hS.2.2 dX10_count_78
  · refine lv_tableIn (off := 78) (tgt := 79) hx hb dX10_count_1 (by decide) (by decide) (by decide) (by decide) ?_
    refine lv_aload_n hx hb dX10_count_79 rfl (lv_at hl 0 rfl) ?_
    refine va_get (D := D) (ci := 10) (C := RX10) (T := TX10) (N := 11) hx hb hts iX10 hown hK hP 0 rfl rfl 2 (by decide) (hts _ m527) (fun _ h9 => h9) rfl dX10_count_80 ?_
    refine va_get (D := D) (ci := 3) (C := RX3) (T := TX3) (N := 9) hx hb hts iX3 hown hK hP 2 rfl rfl 0 (by decide) (hts _ m371) (fun _ h9 => h9) rfl dX10_count_83 ?_
    refine va_get (D := D) (ci := 5) (C := RX5) (T := TX5) (N := 19) hx hb hts iX5 hown hK hP 3 rfl rfl 2 (by decide) (hts _ m177) (fun _ h9 => h9) rfl dX10_count_86 ?_
    exact W.iret (v := 0) hx hb hr (fun t ht hW => ⟨⟨0, (), rfl, (z58_c_X10_count 1 rfl), trivial⟩, hS.F ht⟩) hS.2.2 dX10_count_89
  · refine lv_tableIn (off := 89) (tgt := 90) hx hb dX10_count_1 (by decide) (by decide) (by decide) (by decide) ?_
    refine lv_aload_n hx hb dX10_count_90 rfl (lv_at hl 0 rfl) ?_
    refine va_get (D := D) (ci := 10) (C := RX10) (T := TX10) (N := 11) hx hb hts iX10 hown hK hP 0 rfl rfl 2 (by decide) (hts _ m527) (fun _ h9 => h9) rfl dX10_count_91 ?_
    refine va_get (D := D) (ci := 3) (C := RX3) (T := TX3) (N := 9) hx hb hts iX3 hown hK hP 2 rfl rfl 0 (by decide) (hts _ m371) (fun _ h9 => h9) rfl dX10_count_94 ?_
    refine va_get (D := D) (ci := 5) (C := RX5) (T := TX5) (N := 19) hx hb hts iX5 hown hK hP 3 rfl rfl 3 (by decide) (hts _ m181) (fun _ h9 => h9) rfl dX10_count_97 ?_
    exact W.iret (v := 0) hx hb hr (fun t ht hW => ⟨⟨0, (), rfl, (z59_c_X10_count 2 rfl), trivial⟩, hS.F ht⟩) hS.2.2 dX10_count_100
  · refine lv_tableIn (off := 100) (tgt := 101) hx hb dX10_count_1 (by decide) (by decide) (by decide) (by decide) ?_
    refine lv_aload_n hx hb dX10_count_101 rfl (lv_at hl 0 rfl) ?_
    refine va_get (D := D) (ci := 10) (C := RX10) (T := TX10) (N := 11) hx hb hts iX10 hown hK hP 0 rfl rfl 2 (by decide) (hts _ m527) (fun _ h9 => h9) rfl dX10_count_102 ?_
    refine va_get (D := D) (ci := 3) (C := RX3) (T := TX3) (N := 9) hx hb hts iX3 hown hK hP 2 rfl rfl 0 (by decide) (hts _ m371) (fun _ h9 => h9) rfl dX10_count_105 ?_
    refine va_get (D := D) (ci := 5) (C := RX5) (T := TX5) (N := 19) hx hb hts iX5 hown hK hP 3 rfl rfl 4 (by decide) (hts _ m186) (fun _ h9 => h9) rfl dX10_count_108 ?_
    exact W.iret (v := 0) hx hb hr (fun t ht hW => ⟨⟨0, (), rfl, (z60_c_X10_count 3 rfl), trivial⟩, hS.F ht⟩) hS.2.2 dX10_count_111
  · refine lv_tableIn (off := 111) (tgt := 112) hx hb dX10_count_1 (by decide) (by decide) (by decide) (by decide) ?_
    refine lv_aload_n hx hb dX10_count_112 rfl (lv_at hl 0 rfl) ?_
    refine va_get (D := D) (ci := 10) (C := RX10) (T := TX10) (N := 11) hx hb hts iX10 hown hK hP 0 rfl rfl 2 (by decide) (hts _ m527) (fun _ h9 => h9) rfl dX10_count_113 ?_
    refine va_get (D := D) (ci := 3) (C := RX3) (T := TX3) (N := 9) hx hb hts iX3 hown hK hP 2 rfl rfl 0 (by decide) (hts _ m371) (fun _ h9 => h9) rfl dX10_count_116 ?_
    refine va_get (D := D) (ci := 5) (C := RX5) (T := TX5) (N := 19) hx hb hts iX5 hown hK hP 3 rfl rfl 5 (by decide) (hts _ m191) (fun _ h9 => h9) rfl dX10_count_119 ?_
    exact W.iret (v := 0) hx hb hr (fun t ht hW => ⟨⟨0, (), rfl, (z61_c_X10_count 4 rfl), trivial⟩, hS.F ht⟩) hS.2.2 dX10_count_122
  · refine lv_tableIn (off := 122) (tgt := 123) hx hb dX10_count_1 (by decide) (by decide) (by decide) (by decide) ?_
    refine lv_aload_n hx hb dX10_count_123 rfl (lv_at hl 0 rfl) ?_
    refine va_get (D := D) (ci := 10) (C := RX10) (T := TX10) (N := 11) hx hb hts iX10 hown hK hP 0 rfl rfl 2 (by decide) (hts _ m527) (fun _ h9 => h9) rfl dX10_count_124 ?_
    refine va_get (D := D) (ci := 3) (C := RX3) (T := TX3) (N := 9) hx hb hts iX3 hown hK hP 2 rfl rfl 2 (by decide) (hts _ m380) (fun _ h9 => h9) rfl dX10_count_127 ?_
    exact W.iret (v := 0) hx hb hr (fun t ht hW => ⟨⟨0, (), rfl, (z62_c_X10_count 5 rfl), trivial⟩, hS.F ht⟩) hS.2.2 dX10_count_130
  · refine lv_tableIn (off := 130) (tgt := 131) hx hb dX10_count_1 (by decide) (by decide) (by decide) (by decide) ?_
    refine lv_aload_n hx hb dX10_count_131 rfl (lv_at hl 0 rfl) ?_
    refine va_get (D := D) (ci := 10) (C := RX10) (T := TX10) (N := 11) hx hb hts iX10 hown hK hP 0 rfl rfl 2 (by decide) (hts _ m527) (fun _ h9 => h9) rfl dX10_count_132 ?_
    refine va_get (D := D) (ci := 3) (C := RX3) (T := TX3) (N := 9) hx hb hts iX3 hown hK hP 2 rfl rfl 4 (by decide) (hts _ m389) (fun _ h9 => h9) rfl dX10_count_135 ?_
    exact W.iret (v := 2) hx hb hr (fun t ht hW => ⟨⟨2, (), rfl, (z63_c_X10_count 6 rfl), trivial⟩, hS.F ht⟩) hS.2.2 dX10_count_138
  · refine lv_tableIn (off := 138) (tgt := 139) hx hb dX10_count_1 (by decide) (by decide) (by decide) (by decide) ?_
    refine lv_aload_n hx hb dX10_count_139 rfl (lv_at hl 0 rfl) ?_
    refine va_get (D := D) (ci := 10) (C := RX10) (T := TX10) (N := 11) hx hb hts iX10 hown hK hP 0 rfl rfl 2 (by decide) (hts _ m527) (fun _ h9 => h9) rfl dX10_count_140 ?_
    refine va_get (D := D) (ci := 3) (C := RX3) (T := TX3) (N := 9) hx hb hts iX3 hown hK hP 2 rfl rfl 0 (by decide) (hts _ m371) (fun _ h9 => h9) rfl dX10_count_143 ?_
    refine va_get (D := D) (ci := 5) (C := RX5) (T := TX5) (N := 19) hx hb hts iX5 hown hK hP 3 rfl rfl 0 (by decide) (hts _ m166) (fun _ h9 => h9) rfl dX10_count_146 ?_
    exact W.iret (v := 0) hx hb hr (fun t ht hW => ⟨⟨0, (), rfl, (z64_c_X10_count 7 rfl), trivial⟩, hS.F ht⟩) hS.2.2 dX10_count_149
  · refine lv_tableIn (off := 149) (tgt := 150) hx hb dX10_count_1 (by decide) (by decide) (by decide) (by decide) ?_
    refine lv_aload_n hx hb dX10_count_150 rfl (lv_at hl 0 rfl) ?_
    refine va_get (D := D) (ci := 10) (C := RX10) (T := TX10) (N := 11) hx hb hts iX10 hown hK hP 0 rfl rfl 0 (by decide) (hts _ m525) (fun _ h9 => h9) rfl dX10_count_151 ?_
    refine va_get (D := D) (ci := 4) (C := RX4) (T := TX4) (N := 2) hx hb hts iX4 hown hK hP 1 rfl rfl 1 (by decide) (hts _ m143) (fun _ h9 => h9) rfl dX10_count_154 ?_
    exact W.iret (v := 0) hx hb hr (fun t ht hW => ⟨⟨0, (), rfl, (z65_c_X10_count 8 rfl), trivial⟩, hS.F ht⟩) hS.2.2 dX10_count_157
  · refine lv_tableIn (off := 157) (tgt := 158) hx hb dX10_count_1 (by decide) (by decide) (by decide) (by decide) ?_
    refine lv_aload_n hx hb dX10_count_158 rfl (lv_at hl 0 rfl) ?_
    refine va_get (D := D) (ci := 10) (C := RX10) (T := TX10) (N := 11) hx hb hts iX10 hown hK hP 0 rfl rfl 2 (by decide) (hts _ m527) (fun _ h9 => h9) rfl dX10_count_159 ?_
    refine va_get (D := D) (ci := 3) (C := RX3) (T := TX3) (N := 9) hx hb hts iX3 hown hK hP 2 rfl rfl 3 (by decide) (hts _ m386) (fun _ h9 => h9) rfl dX10_count_162 ?_
    exact W.iret (v := 0) hx hb hr (fun t ht hW => ⟨⟨0, (), rfl, (z66_c_X10_count 9 rfl), trivial⟩, hS.F ht⟩) hS.2.2 dX10_count_165
  · refine lv_tableIn (off := 165) (tgt := 166) hx hb dX10_count_1 (by decide) (by decide) (by decide) (by decide) ?_
    refine lv_aload_n hx hb dX10_count_166 rfl (lv_at hl 0 rfl) ?_
    refine va_get (D := D) (ci := 10) (C := RX10) (T := TX10) (N := 11) hx hb hts iX10 hown hK hP 0 rfl rfl 2 (by decide) (hts _ m527) (fun _ h9 => h9) rfl dX10_count_167 ?_
    refine va_get (D := D) (ci := 3) (C := RX3) (T := TX3) (N := 9) hx hb hts iX3 hown hK hP 2 rfl rfl 0 (by decide) (hts _ m371) (fun _ h9 => h9) rfl dX10_count_170 ?_
    refine va_get (D := D) (ci := 5) (C := RX5) (T := TX5) (N := 19) hx hb hts iX5 hown hK hP 3 rfl rfl 7 (by decide) (hts _ m199) (fun _ h9 => h9) rfl dX10_count_173 ?_
    exact W.iret (v := 0) hx hb hr (fun t ht hW => ⟨⟨0, (), rfl, (z67_c_X10_count 10 rfl), trivial⟩, hS.F ht⟩) hS.2.2 dX10_count_176
  · refine lv_tableIn (off := 176) (tgt := 177) hx hb dX10_count_1 (by decide) (by decide) (by decide) (by decide) ?_
    refine lv_aload_n hx hb dX10_count_177 rfl (lv_at hl 0 rfl) ?_
    refine va_get (D := D) (ci := 10) (C := RX10) (T := TX10) (N := 11) hx hb hts iX10 hown hK hP 0 rfl rfl 2 (by decide) (hts _ m527) (fun _ h9 => h9) rfl dX10_count_178 ?_
    refine puI (cV (As := []) (rest := []) ⟨hx, hb, hml, hown, hts⟩ (c_X3_votersNow l D T a15 a16 a17 a18 a19 a20 a21 a22 a23 a24 a25 a26 a27 a36 a37) k_X3_votersNow v_X3_votersNow m1265 rfl rfl ⟨(Nat.le_of_ble_eq_true rfl), (Nat.le_of_ble_eq_true rfl)⟩ (preP hC (hP.sub (ws' := [(a15, .inr (3, [.ref a16, .ref a27, .int 0, .int 0, .int 2, .long 0, .int 0, .ref a36, .ref a37])), (a16, .inr (5, [.int 0, .int 0, .int 0, .int 0, .int 0, .int 0, .int 0, .int 0, .int 0, .ref a17, .ref a18, .ref a19, .ref a20, .ref a21, .ref a22, .ref a23, .ref a24, .ref a25, .ref a26]))]) [2, 3] rfl)) (va_recv hK hP (ci := 3) (q0 := 2) rfl rfl) rfl hl.1 rfl (Nat.le_of_ble_eq_true rfl) dX10_count_181 ⟨(Nat.le_of_ble_eq_true rfl), (Nat.le_of_ble_eq_true rfl)⟩) hS hP (fun r_15 H locs hw hP hS => ?_)
    obtain rfl : r_15 = 0 := hw
    exact W.iret (v := 0) hx hb hr (fun t ht hW => ⟨⟨0, (), rfl, (z68_c_X10_count 11 rfl), trivial⟩, hS.F ht⟩) hS.2.2 dX10_count_184
  · refine lv_tableIn (off := 184) (tgt := 185) hx hb dX10_count_1 (by decide) (by decide) (by decide) (by decide) ?_
    refine lv_aload_n hx hb dX10_count_185 rfl (lv_at hl 0 rfl) ?_
    refine puI (cV (As := []) (rest := []) ⟨hx, hb, hml, hown, hts⟩ (c_X10_slotsWithRows l D T x0 a0 a2 a15 a38 a130 a131 a132 a133 a134 a135 a136 a137 a138 a139 a140 a141 a144 a150 a151) k_X10_slotsWithRows v_X10_slotsWithRows m1269 rfl rfl ⟨(Nat.le_of_ble_eq_true rfl), (Nat.le_of_ble_eq_true rfl)⟩ (preP hC (hP.sub (ws' := [(x0, .inr (10, [.ref a0, .ref a2, .ref a15, .ref a38, .ref a130, .ref a131, .ref a132, .ref a141, .ref a144, .ref a150, .ref a151])), (a132, .inl (T 4, 4, .inr (.inr (.inr (.inr (va_up (va_up (va_up (va_up (fun _ => none) 0 (some a133)) 1 (some a135)) 2 (some a137)) 3 (some a139))))))), (a133, .inr (2, [.ref a134, .int 0, .int (-1)])), (a135, .inr (2, [.ref a136, .int 0, .int (-1)])), (a137, .inr (2, [.ref a138, .int 0, .int (-1)])), (a139, .inr (2, [.ref a140, .int 0, .int (-1)]))]) [0, 4, 5, 6, 7, 8] rfl)) (va_recv hK hP (ci := 10) (q0 := 0) rfl rfl) rfl hl.1 rfl (Nat.le_of_ble_eq_true rfl) dX10_count_186 ⟨(Nat.le_of_ble_eq_true rfl), (Nat.le_of_ble_eq_true rfl)⟩) hS hP (fun r_17 H locs hw hP hS => ?_)
    obtain rfl : r_17 = 0 := hw
    exact W.iret (v := 0) hx hb hr (fun t ht hW => ⟨⟨0, (), rfl, (z69_c_X10_count 12 rfl), trivial⟩, hS.F ht⟩) hS.2.2 dX10_count_189
  · refine lv_tableOut (tgt := 190) hx hb dX10_count_1 c_14 (by decide) ?_
    refine lv_iconst (v := (-1)) hx hb dX10_count_190 (by decide) ?_
    exact W.iret (v := (-1)) hx hb hr (fun t ht hW => ⟨⟨(-1), (), rfl, (z70_c_X10_count i1 c_14), trivial⟩, hS.F ht⟩) hS.2.2 dX10_count_191

set_option maxHeartbeats 4000000 in
set_option maxRecDepth 100000 in
theorem c_X4_append_0 (l : Launch) (D : va_G) (T : Nat → ClassId) (h0 bb : Nat) (f : Nat → Int32) (i1 : Int32) (sz : Nat) : Met l yX4_append (wM yX4_append cX4_append 3 none) ({ frames := 0, cells := 0, slots := 0, locals := 0 }) (va_Pc [.ref h0, .int i1] (pwM D T [(h0, .inr (4, [.ref bb, .int 0])), (bb, .inl (T 1, 1600, .inl f))] sz)) (va_Qv (fun (u : UU) => True) (fun u t => pwE D (va_A [(h0, .inr (4, [.ref bb, .int 0])), (bb, .inl (T 1, 1600, .inl f))] sz) [(h0, .inr (4, [.ref bb, .int 4])), (bb, .inl (T 1, 1600, .inl (u.2.1 0)))] t) (va_A [(h0, .inr (4, [.ref bb, .int 0])), (bb, .inl (T 1, 1600, .inl f))] sz)) 0 0 (va_A [(h0, .inr (4, [.ref bb, .int 0])), (bb, .inl (T 1, 1600, .inl f))] sz) := by
  refine Met.ofW (cc := cX4_append) (maxL := 3) (ret := none) (by decide) rfl ?_
  intro p e s m args below meth c s₁ B hml hv
  obtain ⟨rfl, hsz, hP, hC, hD0⟩ := hv
  have hx := B.exec
  have hb := B.bytes
  have hr := B.returns
  have hts : ∀ w ∈ gt, w.before _ s = true := fun w hw => atoms_spec (ws := (wM yX4_append cX4_append 3 none)) B.pre w (List.mem_cons_of_mem _ hw)
  have hown : s.vm.findClass RX4 = some m.cls := findClass_of_methodNamed B.named
  have hlocks := B.notSynchronized
  have hK := hC.1
  subst hsz
  have hD := hD0.self (sz := s.heap.size)
  generalize hAe : va_A [(h0, .inr (4, [.ref bb, .int 0])), (bb, .inl (T 1, 1600, .inl f))] s.heap.size = A at hD ⊢
  have hA : ∀ q : Nat, s.heap.size ≤ q → A q := fun q h => by rw [← hAe]; exact Or.inr h
  have hS : va_S A s.heap s.heap [] := va_S.rf
  have hl := lv_entry ([.ref h0, .int i1]) (n := 3) (Nat.le_of_ble_eq_true rfl)
  rw [lg_entry_eq]
  generalize (lg_sl ([.ref h0, .int i1]) ++ List.replicate (3 - (lg_sl ([.ref h0, .int i1])).length) Slot.unset).toArray = ls at hl ⊢
  have hl : lv_has ls 3 [(0, .ref h0), (1, .int i1)] := hl
  refine lv_bipush (v := 24) hx hb dX4_append_0 (by decide) ?_
  refine lv_istore_n (lv' := [(2, .int 24), (0, .ref h0), (1, .int i1)]) hx hb dX4_append_2 rfl hl (by decide) rfl (fun ls hl => ?_)
  refine lv_iload_n hx hb dX4_append_3 rfl (lv_at hl 0 rfl) ?_
  refine lv_if_lt (tgt := 46) hx hb dX4_append_4 (by decide) (fun c_1 => absurd c_1 (by decide)) (fun _ => ?_)
  refine lv_aload_n hx hb dX4_append_7 rfl (lv_at hl 1 rfl) ?_
  refine va_get (D := D) (ci := 4) (C := RX4) (T := TX4) (N := 2) hx hb hts iX4 hown hK hP 0 rfl rfl 1 (by decide) (hts _ m144) (fun _ h9 => h9) rfl dX4_append_8 ?_
  refine lv_sipush (v := 1600) hx hb dX4_append_11 (by decide) ?_
  refine lv_icmp_ge (tgt := 46) hx hb dX4_append_14 (by decide) (fun c_2 => absurd c_2 (by decide)) (fun _ => ?_)
  refine lv_aload_n hx hb dX4_append_17 rfl (lv_at hl 1 rfl) ?_
  refine va_get (D := D) (ci := 4) (C := RX4) (T := TX4) (N := 2) hx hb hts iX4 hown hK hP 0 rfl rfl 0 (by decide) (hts _ m141) (fun _ h9 => h9) rfl dX4_append_18 ?_
  refine lv_aload_n hx hb dX4_append_21 rfl (lv_at hl 1 rfl) ?_
  refine va_get (D := D) (ci := 4) (C := RX4) (T := TX4) (N := 2) hx hb hts iX4 hown hK hP 0 rfl rfl 1 (by decide) (hts _ m144) (fun _ h9 => h9) rfl dX4_append_22 ?_
  refine lv_iload_n hx hb dX4_append_25 rfl (lv_at hl 2 rfl) ?_
  refine lv_iload_n hx hb dX4_append_26 rfl (lv_at hl 0 rfl) ?_
  refine lv_ishr hx hb dX4_append_27 ?_
  refine lv_topi (fun x_3 ex_3 => ?_)
  refine lv_i2b hx hb dX4_append_28 rfl ?_
  refine lv_topi (fun x_4 ex_4 => ?_)
  refine va_bast (D := D) hx hb hK hP hD hS 1 1 rfl rfl (by unfold vp_in; decide) dX4_append_29 (fun H locs hP hD hS => ?_)
  have hP : va_P D vwCl [(h0, .inr (4, [.ref bb, .int 0])), (bb, .inl (T 1, 1600, .inl (upd f 0 (vp_nar .byte x_4))))] H := hP
  have hD : va_D A [(h0, .inr (4, [.ref bb, .int 0])), (bb, .inl (T 1, 1600, .inl (upd f 0 (vp_nar .byte x_4))))] := hD
  generalize upd f 0 (vp_nar .byte x_4) = f_5 at hP hD
  refine lv_aload_n hx hb dX4_append_30 rfl (lv_at hl 1 rfl) ?_
  refine lv_dup hx hb dX4_append_31 rfl ?_
  refine va_get (D := D) (ci := 4) (C := RX4) (T := TX4) (N := 2) hx hb hts iX4 hown hK hP 0 rfl rfl 1 (by decide) (hts _ m144) (fun _ h9 => h9) rfl dX4_append_32 ?_
  refine lv_iconst (v := 1) hx hb dX4_append_35 (by decide) ?_
  refine lv_iadd hx hb dX4_append_36 ?_
  refine eqi (v := 1) (by decide) ?_
  refine va_put (D := D) (ci := 4) (v := .int 1) (ty := .int) (C := RX4) (T := TX4) (N := 2) hx hb hts iX4 tyX4 tyX4_ok nmX4 hown hK hP hD hS 0 rfl rfl 1 (by decide) (hts _ m144) (fun _ h9 => h9) rfl (by decide +kernel) rfl rfl (Nat.le_of_ble_eq_true rfl) dX4_append_37 (fun H locs hP hD hS => ?_)
  have hP : va_P D vwCl [(h0, .inr (4, [.ref bb, .int 1])), (bb, .inl (T 1, 1600, .inl f_5))] H := hP
  have hD : va_D A [(h0, .inr (4, [.ref bb, .int 1])), (bb, .inl (T 1, 1600, .inl f_5))] := hD
  refine lv_iinc (v := 16) (lv' := [(2, .int 16), (0, .ref h0), (1, .int i1)]) hx hb dX4_append_40 hl (k := 0) rfl (by decide) (by decide) rfl (fun ls hl => ?_)
  refine lv_goto (tgt := 3) hx hb dX4_append_43 (by decide) ?_
  refine lv_iload_n hx hb dX4_append_3 rfl (lv_at hl 0 rfl) ?_
  refine lv_if_lt (tgt := 46) hx hb dX4_append_4 (by decide) (fun c_6 => absurd c_6 (by decide)) (fun _ => ?_)
  refine lv_aload_n hx hb dX4_append_7 rfl (lv_at hl 1 rfl) ?_
  refine va_get (D := D) (ci := 4) (C := RX4) (T := TX4) (N := 2) hx hb hts iX4 hown hK hP 0 rfl rfl 1 (by decide) (hts _ m144) (fun _ h9 => h9) rfl dX4_append_8 ?_
  refine lv_sipush (v := 1600) hx hb dX4_append_11 (by decide) ?_
  refine lv_icmp_ge (tgt := 46) hx hb dX4_append_14 (by decide) (fun c_7 => absurd c_7 (by decide)) (fun _ => ?_)
  refine lv_aload_n hx hb dX4_append_17 rfl (lv_at hl 1 rfl) ?_
  refine va_get (D := D) (ci := 4) (C := RX4) (T := TX4) (N := 2) hx hb hts iX4 hown hK hP 0 rfl rfl 0 (by decide) (hts _ m141) (fun _ h9 => h9) rfl dX4_append_18 ?_
  refine lv_aload_n hx hb dX4_append_21 rfl (lv_at hl 1 rfl) ?_
  refine va_get (D := D) (ci := 4) (C := RX4) (T := TX4) (N := 2) hx hb hts iX4 hown hK hP 0 rfl rfl 1 (by decide) (hts _ m144) (fun _ h9 => h9) rfl dX4_append_22 ?_
  refine lv_iload_n hx hb dX4_append_25 rfl (lv_at hl 2 rfl) ?_
  refine lv_iload_n hx hb dX4_append_26 rfl (lv_at hl 0 rfl) ?_
  refine lv_ishr hx hb dX4_append_27 ?_
  refine lv_topi (fun x_8 ex_8 => ?_)
  refine lv_i2b hx hb dX4_append_28 rfl ?_
  refine lv_topi (fun x_9 ex_9 => ?_)
  refine va_bast (D := D) hx hb hK hP hD hS 1 1 rfl rfl (by unfold vp_in; decide) dX4_append_29 (fun H locs hP hD hS => ?_)
  have hP : va_P D vwCl [(h0, .inr (4, [.ref bb, .int 1])), (bb, .inl (T 1, 1600, .inl (upd f_5 1 (vp_nar .byte x_9))))] H := hP
  have hD : va_D A [(h0, .inr (4, [.ref bb, .int 1])), (bb, .inl (T 1, 1600, .inl (upd f_5 1 (vp_nar .byte x_9))))] := hD
  generalize upd f_5 1 (vp_nar .byte x_9) = f_10 at hP hD
  refine lv_aload_n hx hb dX4_append_30 rfl (lv_at hl 1 rfl) ?_
  refine lv_dup hx hb dX4_append_31 rfl ?_
  refine va_get (D := D) (ci := 4) (C := RX4) (T := TX4) (N := 2) hx hb hts iX4 hown hK hP 0 rfl rfl 1 (by decide) (hts _ m144) (fun _ h9 => h9) rfl dX4_append_32 ?_
  refine lv_iconst (v := 1) hx hb dX4_append_35 (by decide) ?_
  refine lv_iadd hx hb dX4_append_36 ?_
  refine eqi (v := 2) (by decide) ?_
  refine va_put (D := D) (ci := 4) (v := .int 2) (ty := .int) (C := RX4) (T := TX4) (N := 2) hx hb hts iX4 tyX4 tyX4_ok nmX4 hown hK hP hD hS 0 rfl rfl 1 (by decide) (hts _ m144) (fun _ h9 => h9) rfl (by decide +kernel) rfl rfl (Nat.le_of_ble_eq_true rfl) dX4_append_37 (fun H locs hP hD hS => ?_)
  have hP : va_P D vwCl [(h0, .inr (4, [.ref bb, .int 2])), (bb, .inl (T 1, 1600, .inl f_10))] H := hP
  have hD : va_D A [(h0, .inr (4, [.ref bb, .int 2])), (bb, .inl (T 1, 1600, .inl f_10))] := hD
  refine lv_iinc (v := 8) (lv' := [(2, .int 8), (0, .ref h0), (1, .int i1)]) hx hb dX4_append_40 hl (k := 0) rfl (by decide) (by decide) rfl (fun ls hl => ?_)
  refine lv_goto (tgt := 3) hx hb dX4_append_43 (by decide) ?_
  refine lv_iload_n hx hb dX4_append_3 rfl (lv_at hl 0 rfl) ?_
  refine lv_if_lt (tgt := 46) hx hb dX4_append_4 (by decide) (fun c_11 => absurd c_11 (by decide)) (fun _ => ?_)
  refine lv_aload_n hx hb dX4_append_7 rfl (lv_at hl 1 rfl) ?_
  refine va_get (D := D) (ci := 4) (C := RX4) (T := TX4) (N := 2) hx hb hts iX4 hown hK hP 0 rfl rfl 1 (by decide) (hts _ m144) (fun _ h9 => h9) rfl dX4_append_8 ?_
  refine lv_sipush (v := 1600) hx hb dX4_append_11 (by decide) ?_
  refine lv_icmp_ge (tgt := 46) hx hb dX4_append_14 (by decide) (fun c_12 => absurd c_12 (by decide)) (fun _ => ?_)
  refine lv_aload_n hx hb dX4_append_17 rfl (lv_at hl 1 rfl) ?_
  refine va_get (D := D) (ci := 4) (C := RX4) (T := TX4) (N := 2) hx hb hts iX4 hown hK hP 0 rfl rfl 0 (by decide) (hts _ m141) (fun _ h9 => h9) rfl dX4_append_18 ?_
  refine lv_aload_n hx hb dX4_append_21 rfl (lv_at hl 1 rfl) ?_
  refine va_get (D := D) (ci := 4) (C := RX4) (T := TX4) (N := 2) hx hb hts iX4 hown hK hP 0 rfl rfl 1 (by decide) (hts _ m144) (fun _ h9 => h9) rfl dX4_append_22 ?_
  refine lv_iload_n hx hb dX4_append_25 rfl (lv_at hl 2 rfl) ?_
  refine lv_iload_n hx hb dX4_append_26 rfl (lv_at hl 0 rfl) ?_
  refine lv_ishr hx hb dX4_append_27 ?_
  refine lv_topi (fun x_13 ex_13 => ?_)
  refine lv_i2b hx hb dX4_append_28 rfl ?_
  refine lv_topi (fun x_14 ex_14 => ?_)
  refine va_bast (D := D) hx hb hK hP hD hS 1 1 rfl rfl (by unfold vp_in; decide) dX4_append_29 (fun H locs hP hD hS => ?_)
  have hP : va_P D vwCl [(h0, .inr (4, [.ref bb, .int 2])), (bb, .inl (T 1, 1600, .inl (upd f_10 2 (vp_nar .byte x_14))))] H := hP
  have hD : va_D A [(h0, .inr (4, [.ref bb, .int 2])), (bb, .inl (T 1, 1600, .inl (upd f_10 2 (vp_nar .byte x_14))))] := hD
  generalize upd f_10 2 (vp_nar .byte x_14) = f_15 at hP hD
  refine lv_aload_n hx hb dX4_append_30 rfl (lv_at hl 1 rfl) ?_
  refine lv_dup hx hb dX4_append_31 rfl ?_
  refine va_get (D := D) (ci := 4) (C := RX4) (T := TX4) (N := 2) hx hb hts iX4 hown hK hP 0 rfl rfl 1 (by decide) (hts _ m144) (fun _ h9 => h9) rfl dX4_append_32 ?_
  refine lv_iconst (v := 1) hx hb dX4_append_35 (by decide) ?_
  refine lv_iadd hx hb dX4_append_36 ?_
  refine eqi (v := 3) (by decide) ?_
  refine va_put (D := D) (ci := 4) (v := .int 3) (ty := .int) (C := RX4) (T := TX4) (N := 2) hx hb hts iX4 tyX4 tyX4_ok nmX4 hown hK hP hD hS 0 rfl rfl 1 (by decide) (hts _ m144) (fun _ h9 => h9) rfl (by decide +kernel) rfl rfl (Nat.le_of_ble_eq_true rfl) dX4_append_37 (fun H locs hP hD hS => ?_)
  have hP : va_P D vwCl [(h0, .inr (4, [.ref bb, .int 3])), (bb, .inl (T 1, 1600, .inl f_15))] H := hP
  have hD : va_D A [(h0, .inr (4, [.ref bb, .int 3])), (bb, .inl (T 1, 1600, .inl f_15))] := hD
  refine lv_iinc (v := 0) (lv' := [(2, .int 0), (0, .ref h0), (1, .int i1)]) hx hb dX4_append_40 hl (k := 0) rfl (by decide) (by decide) rfl (fun ls hl => ?_)
  refine lv_goto (tgt := 3) hx hb dX4_append_43 (by decide) ?_
  refine lv_iload_n hx hb dX4_append_3 rfl (lv_at hl 0 rfl) ?_
  refine lv_if_lt (tgt := 46) hx hb dX4_append_4 (by decide) (fun c_16 => absurd c_16 (by decide)) (fun _ => ?_)
  refine lv_aload_n hx hb dX4_append_7 rfl (lv_at hl 1 rfl) ?_
  refine va_get (D := D) (ci := 4) (C := RX4) (T := TX4) (N := 2) hx hb hts iX4 hown hK hP 0 rfl rfl 1 (by decide) (hts _ m144) (fun _ h9 => h9) rfl dX4_append_8 ?_
  refine lv_sipush (v := 1600) hx hb dX4_append_11 (by decide) ?_
  refine lv_icmp_ge (tgt := 46) hx hb dX4_append_14 (by decide) (fun c_17 => absurd c_17 (by decide)) (fun _ => ?_)
  refine lv_aload_n hx hb dX4_append_17 rfl (lv_at hl 1 rfl) ?_
  refine va_get (D := D) (ci := 4) (C := RX4) (T := TX4) (N := 2) hx hb hts iX4 hown hK hP 0 rfl rfl 0 (by decide) (hts _ m141) (fun _ h9 => h9) rfl dX4_append_18 ?_
  refine lv_aload_n hx hb dX4_append_21 rfl (lv_at hl 1 rfl) ?_
  refine va_get (D := D) (ci := 4) (C := RX4) (T := TX4) (N := 2) hx hb hts iX4 hown hK hP 0 rfl rfl 1 (by decide) (hts _ m144) (fun _ h9 => h9) rfl dX4_append_22 ?_
  refine lv_iload_n hx hb dX4_append_25 rfl (lv_at hl 2 rfl) ?_
  refine lv_iload_n hx hb dX4_append_26 rfl (lv_at hl 0 rfl) ?_
  refine lv_ishr hx hb dX4_append_27 ?_
  refine lv_topi (fun x_18 ex_18 => ?_)
  refine lv_i2b hx hb dX4_append_28 rfl ?_
  refine lv_topi (fun x_19 ex_19 => ?_)
  refine va_bast (D := D) hx hb hK hP hD hS 1 1 rfl rfl (by unfold vp_in; decide) dX4_append_29 (fun H locs hP hD hS => ?_)
  have hP : va_P D vwCl [(h0, .inr (4, [.ref bb, .int 3])), (bb, .inl (T 1, 1600, .inl (upd f_15 3 (vp_nar .byte x_19))))] H := hP
  have hD : va_D A [(h0, .inr (4, [.ref bb, .int 3])), (bb, .inl (T 1, 1600, .inl (upd f_15 3 (vp_nar .byte x_19))))] := hD
  generalize upd f_15 3 (vp_nar .byte x_19) = f_20 at hP hD
  refine lv_aload_n hx hb dX4_append_30 rfl (lv_at hl 1 rfl) ?_
  refine lv_dup hx hb dX4_append_31 rfl ?_
  refine va_get (D := D) (ci := 4) (C := RX4) (T := TX4) (N := 2) hx hb hts iX4 hown hK hP 0 rfl rfl 1 (by decide) (hts _ m144) (fun _ h9 => h9) rfl dX4_append_32 ?_
  refine lv_iconst (v := 1) hx hb dX4_append_35 (by decide) ?_
  refine lv_iadd hx hb dX4_append_36 ?_
  refine eqi (v := 4) (by decide) ?_
  refine va_put (D := D) (ci := 4) (v := .int 4) (ty := .int) (C := RX4) (T := TX4) (N := 2) hx hb hts iX4 tyX4 tyX4_ok nmX4 hown hK hP hD hS 0 rfl rfl 1 (by decide) (hts _ m144) (fun _ h9 => h9) rfl (by decide +kernel) rfl rfl (Nat.le_of_ble_eq_true rfl) dX4_append_37 (fun H locs hP hD hS => ?_)
  have hP : va_P D vwCl [(h0, .inr (4, [.ref bb, .int 4])), (bb, .inl (T 1, 1600, .inl f_20))] H := hP
  have hD : va_D A [(h0, .inr (4, [.ref bb, .int 4])), (bb, .inl (T 1, 1600, .inl f_20))] := hD
  refine lv_iinc (v := (-8)) (lv' := [(2, .int (-8)), (0, .ref h0), (1, .int i1)]) hx hb dX4_append_40 hl (k := 0) rfl (by decide) (by decide) rfl (fun ls hl => ?_)
  refine lv_goto (tgt := 3) hx hb dX4_append_43 (by decide) ?_
  refine lv_iload_n hx hb dX4_append_3 rfl (lv_at hl 0 rfl) ?_
  refine lv_if_lt (tgt := 46) hx hb dX4_append_4 (by decide) (fun _ => ?_) (fun c_21 => absurd (by decide) c_21)
  have hP9 := hP.sub (ws' := [(h0, .inr (4, [.ref bb, .int 4])), (bb, .inl (T 1, 1600, .inl f_20))]) [0, 1] rfl
  have hD9 := hD.sub (ws' := [(h0, .inr (4, [.ref bb, .int 4])), (bb, .inl (T 1, 1600, .inl f_20))]) [0, 1] (by decide) rfl
  exact W.vret hx hb hr (fun t ht hW => ⟨⟨(fun k => [].getD k 0, fun k => [f_20].getD k (fun _ => 0), fun k => ([] : List (Nat → Int64)).getD k (fun _ => 0), fun k => ([] : List Int32).getD k 0), rfl, trivial, by rw [ht]; exact hP9, hD9⟩, hS.F ht⟩) hS.2.2 dX4_append_46

set_option maxHeartbeats 4000000 in
set_option maxRecDepth 100000 in
theorem c_X4_append_4 (l : Launch) (D : va_G) (T : Nat → ClassId) (h0 bb : Nat) (f : Nat → Int32) (i1 : Int32) (sz : Nat) : Met l yX4_append (wM yX4_append cX4_append 3 none) ({ frames := 0, cells := 0, slots := 0, locals := 0 }) (va_Pc [.ref h0, .int i1] (pwM D T [(h0, .inr (4, [.ref bb, .int 4])), (bb, .inl (T 1, 1600, .inl f))] sz)) (va_Qv (fun (u : UU) => True) (fun u t => pwE D (va_A [(h0, .inr (4, [.ref bb, .int 4])), (bb, .inl (T 1, 1600, .inl f))] sz) [(h0, .inr (4, [.ref bb, .int 8])), (bb, .inl (T 1, 1600, .inl (u.2.1 0)))] t) (va_A [(h0, .inr (4, [.ref bb, .int 4])), (bb, .inl (T 1, 1600, .inl f))] sz)) 0 0 (va_A [(h0, .inr (4, [.ref bb, .int 4])), (bb, .inl (T 1, 1600, .inl f))] sz) := by
  refine Met.ofW (cc := cX4_append) (maxL := 3) (ret := none) (by decide) rfl ?_
  intro p e s m args below meth c s₁ B hml hv
  obtain ⟨rfl, hsz, hP, hC, hD0⟩ := hv
  have hx := B.exec
  have hb := B.bytes
  have hr := B.returns
  have hts : ∀ w ∈ gt, w.before _ s = true := fun w hw => atoms_spec (ws := (wM yX4_append cX4_append 3 none)) B.pre w (List.mem_cons_of_mem _ hw)
  have hown : s.vm.findClass RX4 = some m.cls := findClass_of_methodNamed B.named
  have hlocks := B.notSynchronized
  have hK := hC.1
  subst hsz
  have hD := hD0.self (sz := s.heap.size)
  generalize hAe : va_A [(h0, .inr (4, [.ref bb, .int 4])), (bb, .inl (T 1, 1600, .inl f))] s.heap.size = A at hD ⊢
  have hA : ∀ q : Nat, s.heap.size ≤ q → A q := fun q h => by rw [← hAe]; exact Or.inr h
  have hS : va_S A s.heap s.heap [] := va_S.rf
  have hl := lv_entry ([.ref h0, .int i1]) (n := 3) (Nat.le_of_ble_eq_true rfl)
  rw [lg_entry_eq]
  generalize (lg_sl ([.ref h0, .int i1]) ++ List.replicate (3 - (lg_sl ([.ref h0, .int i1])).length) Slot.unset).toArray = ls at hl ⊢
  have hl : lv_has ls 3 [(0, .ref h0), (1, .int i1)] := hl
  refine lv_bipush (v := 24) hx hb dX4_append_0 (by decide) ?_
  refine lv_istore_n (lv' := [(2, .int 24), (0, .ref h0), (1, .int i1)]) hx hb dX4_append_2 rfl hl (by decide) rfl (fun ls hl => ?_)
  refine lv_iload_n hx hb dX4_append_3 rfl (lv_at hl 0 rfl) ?_
  refine lv_if_lt (tgt := 46) hx hb dX4_append_4 (by decide) (fun c_1 => absurd c_1 (by decide)) (fun _ => ?_)
  refine lv_aload_n hx hb dX4_append_7 rfl (lv_at hl 1 rfl) ?_
  refine va_get (D := D) (ci := 4) (C := RX4) (T := TX4) (N := 2) hx hb hts iX4 hown hK hP 0 rfl rfl 1 (by decide) (hts _ m144) (fun _ h9 => h9) rfl dX4_append_8 ?_
  refine lv_sipush (v := 1600) hx hb dX4_append_11 (by decide) ?_
  refine lv_icmp_ge (tgt := 46) hx hb dX4_append_14 (by decide) (fun c_2 => absurd c_2 (by decide)) (fun _ => ?_)
  refine lv_aload_n hx hb dX4_append_17 rfl (lv_at hl 1 rfl) ?_
  refine va_get (D := D) (ci := 4) (C := RX4) (T := TX4) (N := 2) hx hb hts iX4 hown hK hP 0 rfl rfl 0 (by decide) (hts _ m141) (fun _ h9 => h9) rfl dX4_append_18 ?_
  refine lv_aload_n hx hb dX4_append_21 rfl (lv_at hl 1 rfl) ?_
  refine va_get (D := D) (ci := 4) (C := RX4) (T := TX4) (N := 2) hx hb hts iX4 hown hK hP 0 rfl rfl 1 (by decide) (hts _ m144) (fun _ h9 => h9) rfl dX4_append_22 ?_
  refine lv_iload_n hx hb dX4_append_25 rfl (lv_at hl 2 rfl) ?_
  refine lv_iload_n hx hb dX4_append_26 rfl (lv_at hl 0 rfl) ?_
  refine lv_ishr hx hb dX4_append_27 ?_
  refine lv_topi (fun x_3 ex_3 => ?_)
  refine lv_i2b hx hb dX4_append_28 rfl ?_
  refine lv_topi (fun x_4 ex_4 => ?_)
  refine va_bast (D := D) hx hb hK hP hD hS 1 1 rfl rfl (by unfold vp_in; decide) dX4_append_29 (fun H locs hP hD hS => ?_)
  have hP : va_P D vwCl [(h0, .inr (4, [.ref bb, .int 4])), (bb, .inl (T 1, 1600, .inl (upd f 4 (vp_nar .byte x_4))))] H := hP
  have hD : va_D A [(h0, .inr (4, [.ref bb, .int 4])), (bb, .inl (T 1, 1600, .inl (upd f 4 (vp_nar .byte x_4))))] := hD
  generalize upd f 4 (vp_nar .byte x_4) = f_5 at hP hD
  refine lv_aload_n hx hb dX4_append_30 rfl (lv_at hl 1 rfl) ?_
  refine lv_dup hx hb dX4_append_31 rfl ?_
  refine va_get (D := D) (ci := 4) (C := RX4) (T := TX4) (N := 2) hx hb hts iX4 hown hK hP 0 rfl rfl 1 (by decide) (hts _ m144) (fun _ h9 => h9) rfl dX4_append_32 ?_
  refine lv_iconst (v := 1) hx hb dX4_append_35 (by decide) ?_
  refine lv_iadd hx hb dX4_append_36 ?_
  refine eqi (v := 5) (by decide) ?_
  refine va_put (D := D) (ci := 4) (v := .int 5) (ty := .int) (C := RX4) (T := TX4) (N := 2) hx hb hts iX4 tyX4 tyX4_ok nmX4 hown hK hP hD hS 0 rfl rfl 1 (by decide) (hts _ m144) (fun _ h9 => h9) rfl (by decide +kernel) rfl rfl (Nat.le_of_ble_eq_true rfl) dX4_append_37 (fun H locs hP hD hS => ?_)
  have hP : va_P D vwCl [(h0, .inr (4, [.ref bb, .int 5])), (bb, .inl (T 1, 1600, .inl f_5))] H := hP
  have hD : va_D A [(h0, .inr (4, [.ref bb, .int 5])), (bb, .inl (T 1, 1600, .inl f_5))] := hD
  refine lv_iinc (v := 16) (lv' := [(2, .int 16), (0, .ref h0), (1, .int i1)]) hx hb dX4_append_40 hl (k := 0) rfl (by decide) (by decide) rfl (fun ls hl => ?_)
  refine lv_goto (tgt := 3) hx hb dX4_append_43 (by decide) ?_
  refine lv_iload_n hx hb dX4_append_3 rfl (lv_at hl 0 rfl) ?_
  refine lv_if_lt (tgt := 46) hx hb dX4_append_4 (by decide) (fun c_6 => absurd c_6 (by decide)) (fun _ => ?_)
  refine lv_aload_n hx hb dX4_append_7 rfl (lv_at hl 1 rfl) ?_
  refine va_get (D := D) (ci := 4) (C := RX4) (T := TX4) (N := 2) hx hb hts iX4 hown hK hP 0 rfl rfl 1 (by decide) (hts _ m144) (fun _ h9 => h9) rfl dX4_append_8 ?_
  refine lv_sipush (v := 1600) hx hb dX4_append_11 (by decide) ?_
  refine lv_icmp_ge (tgt := 46) hx hb dX4_append_14 (by decide) (fun c_7 => absurd c_7 (by decide)) (fun _ => ?_)
  refine lv_aload_n hx hb dX4_append_17 rfl (lv_at hl 1 rfl) ?_
  refine va_get (D := D) (ci := 4) (C := RX4) (T := TX4) (N := 2) hx hb hts iX4 hown hK hP 0 rfl rfl 0 (by decide) (hts _ m141) (fun _ h9 => h9) rfl dX4_append_18 ?_
  refine lv_aload_n hx hb dX4_append_21 rfl (lv_at hl 1 rfl) ?_
  refine va_get (D := D) (ci := 4) (C := RX4) (T := TX4) (N := 2) hx hb hts iX4 hown hK hP 0 rfl rfl 1 (by decide) (hts _ m144) (fun _ h9 => h9) rfl dX4_append_22 ?_
  refine lv_iload_n hx hb dX4_append_25 rfl (lv_at hl 2 rfl) ?_
  refine lv_iload_n hx hb dX4_append_26 rfl (lv_at hl 0 rfl) ?_
  refine lv_ishr hx hb dX4_append_27 ?_
  refine lv_topi (fun x_8 ex_8 => ?_)
  refine lv_i2b hx hb dX4_append_28 rfl ?_
  refine lv_topi (fun x_9 ex_9 => ?_)
  refine va_bast (D := D) hx hb hK hP hD hS 1 1 rfl rfl (by unfold vp_in; decide) dX4_append_29 (fun H locs hP hD hS => ?_)
  have hP : va_P D vwCl [(h0, .inr (4, [.ref bb, .int 5])), (bb, .inl (T 1, 1600, .inl (upd f_5 5 (vp_nar .byte x_9))))] H := hP
  have hD : va_D A [(h0, .inr (4, [.ref bb, .int 5])), (bb, .inl (T 1, 1600, .inl (upd f_5 5 (vp_nar .byte x_9))))] := hD
  generalize upd f_5 5 (vp_nar .byte x_9) = f_10 at hP hD
  refine lv_aload_n hx hb dX4_append_30 rfl (lv_at hl 1 rfl) ?_
  refine lv_dup hx hb dX4_append_31 rfl ?_
  refine va_get (D := D) (ci := 4) (C := RX4) (T := TX4) (N := 2) hx hb hts iX4 hown hK hP 0 rfl rfl 1 (by decide) (hts _ m144) (fun _ h9 => h9) rfl dX4_append_32 ?_
  refine lv_iconst (v := 1) hx hb dX4_append_35 (by decide) ?_
  refine lv_iadd hx hb dX4_append_36 ?_
  refine eqi (v := 6) (by decide) ?_
  refine va_put (D := D) (ci := 4) (v := .int 6) (ty := .int) (C := RX4) (T := TX4) (N := 2) hx hb hts iX4 tyX4 tyX4_ok nmX4 hown hK hP hD hS 0 rfl rfl 1 (by decide) (hts _ m144) (fun _ h9 => h9) rfl (by decide +kernel) rfl rfl (Nat.le_of_ble_eq_true rfl) dX4_append_37 (fun H locs hP hD hS => ?_)
  have hP : va_P D vwCl [(h0, .inr (4, [.ref bb, .int 6])), (bb, .inl (T 1, 1600, .inl f_10))] H := hP
  have hD : va_D A [(h0, .inr (4, [.ref bb, .int 6])), (bb, .inl (T 1, 1600, .inl f_10))] := hD
  refine lv_iinc (v := 8) (lv' := [(2, .int 8), (0, .ref h0), (1, .int i1)]) hx hb dX4_append_40 hl (k := 0) rfl (by decide) (by decide) rfl (fun ls hl => ?_)
  refine lv_goto (tgt := 3) hx hb dX4_append_43 (by decide) ?_
  refine lv_iload_n hx hb dX4_append_3 rfl (lv_at hl 0 rfl) ?_
  refine lv_if_lt (tgt := 46) hx hb dX4_append_4 (by decide) (fun c_11 => absurd c_11 (by decide)) (fun _ => ?_)
  refine lv_aload_n hx hb dX4_append_7 rfl (lv_at hl 1 rfl) ?_
  refine va_get (D := D) (ci := 4) (C := RX4) (T := TX4) (N := 2) hx hb hts iX4 hown hK hP 0 rfl rfl 1 (by decide) (hts _ m144) (fun _ h9 => h9) rfl dX4_append_8 ?_
  refine lv_sipush (v := 1600) hx hb dX4_append_11 (by decide) ?_
  refine lv_icmp_ge (tgt := 46) hx hb dX4_append_14 (by decide) (fun c_12 => absurd c_12 (by decide)) (fun _ => ?_)
  refine lv_aload_n hx hb dX4_append_17 rfl (lv_at hl 1 rfl) ?_
  refine va_get (D := D) (ci := 4) (C := RX4) (T := TX4) (N := 2) hx hb hts iX4 hown hK hP 0 rfl rfl 0 (by decide) (hts _ m141) (fun _ h9 => h9) rfl dX4_append_18 ?_
  refine lv_aload_n hx hb dX4_append_21 rfl (lv_at hl 1 rfl) ?_
  refine va_get (D := D) (ci := 4) (C := RX4) (T := TX4) (N := 2) hx hb hts iX4 hown hK hP 0 rfl rfl 1 (by decide) (hts _ m144) (fun _ h9 => h9) rfl dX4_append_22 ?_
  refine lv_iload_n hx hb dX4_append_25 rfl (lv_at hl 2 rfl) ?_
  refine lv_iload_n hx hb dX4_append_26 rfl (lv_at hl 0 rfl) ?_
  refine lv_ishr hx hb dX4_append_27 ?_
  refine lv_topi (fun x_13 ex_13 => ?_)
  refine lv_i2b hx hb dX4_append_28 rfl ?_
  refine lv_topi (fun x_14 ex_14 => ?_)
  refine va_bast (D := D) hx hb hK hP hD hS 1 1 rfl rfl (by unfold vp_in; decide) dX4_append_29 (fun H locs hP hD hS => ?_)
  have hP : va_P D vwCl [(h0, .inr (4, [.ref bb, .int 6])), (bb, .inl (T 1, 1600, .inl (upd f_10 6 (vp_nar .byte x_14))))] H := hP
  have hD : va_D A [(h0, .inr (4, [.ref bb, .int 6])), (bb, .inl (T 1, 1600, .inl (upd f_10 6 (vp_nar .byte x_14))))] := hD
  generalize upd f_10 6 (vp_nar .byte x_14) = f_15 at hP hD
  refine lv_aload_n hx hb dX4_append_30 rfl (lv_at hl 1 rfl) ?_
  refine lv_dup hx hb dX4_append_31 rfl ?_
  refine va_get (D := D) (ci := 4) (C := RX4) (T := TX4) (N := 2) hx hb hts iX4 hown hK hP 0 rfl rfl 1 (by decide) (hts _ m144) (fun _ h9 => h9) rfl dX4_append_32 ?_
  refine lv_iconst (v := 1) hx hb dX4_append_35 (by decide) ?_
  refine lv_iadd hx hb dX4_append_36 ?_
  refine eqi (v := 7) (by decide) ?_
  refine va_put (D := D) (ci := 4) (v := .int 7) (ty := .int) (C := RX4) (T := TX4) (N := 2) hx hb hts iX4 tyX4 tyX4_ok nmX4 hown hK hP hD hS 0 rfl rfl 1 (by decide) (hts _ m144) (fun _ h9 => h9) rfl (by decide +kernel) rfl rfl (Nat.le_of_ble_eq_true rfl) dX4_append_37 (fun H locs hP hD hS => ?_)
  have hP : va_P D vwCl [(h0, .inr (4, [.ref bb, .int 7])), (bb, .inl (T 1, 1600, .inl f_15))] H := hP
  have hD : va_D A [(h0, .inr (4, [.ref bb, .int 7])), (bb, .inl (T 1, 1600, .inl f_15))] := hD
  refine lv_iinc (v := 0) (lv' := [(2, .int 0), (0, .ref h0), (1, .int i1)]) hx hb dX4_append_40 hl (k := 0) rfl (by decide) (by decide) rfl (fun ls hl => ?_)
  refine lv_goto (tgt := 3) hx hb dX4_append_43 (by decide) ?_
  refine lv_iload_n hx hb dX4_append_3 rfl (lv_at hl 0 rfl) ?_
  refine lv_if_lt (tgt := 46) hx hb dX4_append_4 (by decide) (fun c_16 => absurd c_16 (by decide)) (fun _ => ?_)
  refine lv_aload_n hx hb dX4_append_7 rfl (lv_at hl 1 rfl) ?_
  refine va_get (D := D) (ci := 4) (C := RX4) (T := TX4) (N := 2) hx hb hts iX4 hown hK hP 0 rfl rfl 1 (by decide) (hts _ m144) (fun _ h9 => h9) rfl dX4_append_8 ?_
  refine lv_sipush (v := 1600) hx hb dX4_append_11 (by decide) ?_
  refine lv_icmp_ge (tgt := 46) hx hb dX4_append_14 (by decide) (fun c_17 => absurd c_17 (by decide)) (fun _ => ?_)
  refine lv_aload_n hx hb dX4_append_17 rfl (lv_at hl 1 rfl) ?_
  refine va_get (D := D) (ci := 4) (C := RX4) (T := TX4) (N := 2) hx hb hts iX4 hown hK hP 0 rfl rfl 0 (by decide) (hts _ m141) (fun _ h9 => h9) rfl dX4_append_18 ?_
  refine lv_aload_n hx hb dX4_append_21 rfl (lv_at hl 1 rfl) ?_
  refine va_get (D := D) (ci := 4) (C := RX4) (T := TX4) (N := 2) hx hb hts iX4 hown hK hP 0 rfl rfl 1 (by decide) (hts _ m144) (fun _ h9 => h9) rfl dX4_append_22 ?_
  refine lv_iload_n hx hb dX4_append_25 rfl (lv_at hl 2 rfl) ?_
  refine lv_iload_n hx hb dX4_append_26 rfl (lv_at hl 0 rfl) ?_
  refine lv_ishr hx hb dX4_append_27 ?_
  refine lv_topi (fun x_18 ex_18 => ?_)
  refine lv_i2b hx hb dX4_append_28 rfl ?_
  refine lv_topi (fun x_19 ex_19 => ?_)
  refine va_bast (D := D) hx hb hK hP hD hS 1 1 rfl rfl (by unfold vp_in; decide) dX4_append_29 (fun H locs hP hD hS => ?_)
  have hP : va_P D vwCl [(h0, .inr (4, [.ref bb, .int 7])), (bb, .inl (T 1, 1600, .inl (upd f_15 7 (vp_nar .byte x_19))))] H := hP
  have hD : va_D A [(h0, .inr (4, [.ref bb, .int 7])), (bb, .inl (T 1, 1600, .inl (upd f_15 7 (vp_nar .byte x_19))))] := hD
  generalize upd f_15 7 (vp_nar .byte x_19) = f_20 at hP hD
  refine lv_aload_n hx hb dX4_append_30 rfl (lv_at hl 1 rfl) ?_
  refine lv_dup hx hb dX4_append_31 rfl ?_
  refine va_get (D := D) (ci := 4) (C := RX4) (T := TX4) (N := 2) hx hb hts iX4 hown hK hP 0 rfl rfl 1 (by decide) (hts _ m144) (fun _ h9 => h9) rfl dX4_append_32 ?_
  refine lv_iconst (v := 1) hx hb dX4_append_35 (by decide) ?_
  refine lv_iadd hx hb dX4_append_36 ?_
  refine eqi (v := 8) (by decide) ?_
  refine va_put (D := D) (ci := 4) (v := .int 8) (ty := .int) (C := RX4) (T := TX4) (N := 2) hx hb hts iX4 tyX4 tyX4_ok nmX4 hown hK hP hD hS 0 rfl rfl 1 (by decide) (hts _ m144) (fun _ h9 => h9) rfl (by decide +kernel) rfl rfl (Nat.le_of_ble_eq_true rfl) dX4_append_37 (fun H locs hP hD hS => ?_)
  have hP : va_P D vwCl [(h0, .inr (4, [.ref bb, .int 8])), (bb, .inl (T 1, 1600, .inl f_20))] H := hP
  have hD : va_D A [(h0, .inr (4, [.ref bb, .int 8])), (bb, .inl (T 1, 1600, .inl f_20))] := hD
  refine lv_iinc (v := (-8)) (lv' := [(2, .int (-8)), (0, .ref h0), (1, .int i1)]) hx hb dX4_append_40 hl (k := 0) rfl (by decide) (by decide) rfl (fun ls hl => ?_)
  refine lv_goto (tgt := 3) hx hb dX4_append_43 (by decide) ?_
  refine lv_iload_n hx hb dX4_append_3 rfl (lv_at hl 0 rfl) ?_
  refine lv_if_lt (tgt := 46) hx hb dX4_append_4 (by decide) (fun _ => ?_) (fun c_21 => absurd (by decide) c_21)
  have hP9 := hP.sub (ws' := [(h0, .inr (4, [.ref bb, .int 8])), (bb, .inl (T 1, 1600, .inl f_20))]) [0, 1] rfl
  have hD9 := hD.sub (ws' := [(h0, .inr (4, [.ref bb, .int 8])), (bb, .inl (T 1, 1600, .inl f_20))]) [0, 1] (by decide) rfl
  exact W.vret hx hb hr (fun t ht hW => ⟨⟨(fun k => [].getD k 0, fun k => [f_20].getD k (fun _ => 0), fun k => ([] : List (Nat → Int64)).getD k (fun _ => 0), fun k => ([] : List Int32).getD k 0), rfl, trivial, by rw [ht]; exact hP9, hD9⟩, hS.F ht⟩) hS.2.2 dX4_append_46

set_option maxHeartbeats 4000000 in
set_option maxRecDepth 100000 in
theorem c_X4_append_8 (l : Launch) (D : va_G) (T : Nat → ClassId) (h0 bb : Nat) (f : Nat → Int32) (i1 : Int32) (sz : Nat) : Met l yX4_append (wM yX4_append cX4_append 3 none) ({ frames := 0, cells := 0, slots := 0, locals := 0 }) (va_Pc [.ref h0, .int i1] (pwM D T [(h0, .inr (4, [.ref bb, .int 8])), (bb, .inl (T 1, 1600, .inl f))] sz)) (va_Qv (fun (u : UU) => True) (fun u t => pwE D (va_A [(h0, .inr (4, [.ref bb, .int 8])), (bb, .inl (T 1, 1600, .inl f))] sz) [(h0, .inr (4, [.ref bb, .int 12])), (bb, .inl (T 1, 1600, .inl (u.2.1 0)))] t) (va_A [(h0, .inr (4, [.ref bb, .int 8])), (bb, .inl (T 1, 1600, .inl f))] sz)) 0 0 (va_A [(h0, .inr (4, [.ref bb, .int 8])), (bb, .inl (T 1, 1600, .inl f))] sz) := by
  refine Met.ofW (cc := cX4_append) (maxL := 3) (ret := none) (by decide) rfl ?_
  intro p e s m args below meth c s₁ B hml hv
  obtain ⟨rfl, hsz, hP, hC, hD0⟩ := hv
  have hx := B.exec
  have hb := B.bytes
  have hr := B.returns
  have hts : ∀ w ∈ gt, w.before _ s = true := fun w hw => atoms_spec (ws := (wM yX4_append cX4_append 3 none)) B.pre w (List.mem_cons_of_mem _ hw)
  have hown : s.vm.findClass RX4 = some m.cls := findClass_of_methodNamed B.named
  have hlocks := B.notSynchronized
  have hK := hC.1
  subst hsz
  have hD := hD0.self (sz := s.heap.size)
  generalize hAe : va_A [(h0, .inr (4, [.ref bb, .int 8])), (bb, .inl (T 1, 1600, .inl f))] s.heap.size = A at hD ⊢
  have hA : ∀ q : Nat, s.heap.size ≤ q → A q := fun q h => by rw [← hAe]; exact Or.inr h
  have hS : va_S A s.heap s.heap [] := va_S.rf
  have hl := lv_entry ([.ref h0, .int i1]) (n := 3) (Nat.le_of_ble_eq_true rfl)
  rw [lg_entry_eq]
  generalize (lg_sl ([.ref h0, .int i1]) ++ List.replicate (3 - (lg_sl ([.ref h0, .int i1])).length) Slot.unset).toArray = ls at hl ⊢
  have hl : lv_has ls 3 [(0, .ref h0), (1, .int i1)] := hl
  refine lv_bipush (v := 24) hx hb dX4_append_0 (by decide) ?_
  refine lv_istore_n (lv' := [(2, .int 24), (0, .ref h0), (1, .int i1)]) hx hb dX4_append_2 rfl hl (by decide) rfl (fun ls hl => ?_)
  refine lv_iload_n hx hb dX4_append_3 rfl (lv_at hl 0 rfl) ?_
  refine lv_if_lt (tgt := 46) hx hb dX4_append_4 (by decide) (fun c_1 => absurd c_1 (by decide)) (fun _ => ?_)
  refine lv_aload_n hx hb dX4_append_7 rfl (lv_at hl 1 rfl) ?_
  refine va_get (D := D) (ci := 4) (C := RX4) (T := TX4) (N := 2) hx hb hts iX4 hown hK hP 0 rfl rfl 1 (by decide) (hts _ m144) (fun _ h9 => h9) rfl dX4_append_8 ?_
  refine lv_sipush (v := 1600) hx hb dX4_append_11 (by decide) ?_
  refine lv_icmp_ge (tgt := 46) hx hb dX4_append_14 (by decide) (fun c_2 => absurd c_2 (by decide)) (fun _ => ?_)
  refine lv_aload_n hx hb dX4_append_17 rfl (lv_at hl 1 rfl) ?_
  refine va_get (D := D) (ci := 4) (C := RX4) (T := TX4) (N := 2) hx hb hts iX4 hown hK hP 0 rfl rfl 0 (by decide) (hts _ m141) (fun _ h9 => h9) rfl dX4_append_18 ?_
  refine lv_aload_n hx hb dX4_append_21 rfl (lv_at hl 1 rfl) ?_
  refine va_get (D := D) (ci := 4) (C := RX4) (T := TX4) (N := 2) hx hb hts iX4 hown hK hP 0 rfl rfl 1 (by decide) (hts _ m144) (fun _ h9 => h9) rfl dX4_append_22 ?_
  refine lv_iload_n hx hb dX4_append_25 rfl (lv_at hl 2 rfl) ?_
  refine lv_iload_n hx hb dX4_append_26 rfl (lv_at hl 0 rfl) ?_
  refine lv_ishr hx hb dX4_append_27 ?_
  refine lv_topi (fun x_3 ex_3 => ?_)
  refine lv_i2b hx hb dX4_append_28 rfl ?_
  refine lv_topi (fun x_4 ex_4 => ?_)
  refine va_bast (D := D) hx hb hK hP hD hS 1 1 rfl rfl (by unfold vp_in; decide) dX4_append_29 (fun H locs hP hD hS => ?_)
  have hP : va_P D vwCl [(h0, .inr (4, [.ref bb, .int 8])), (bb, .inl (T 1, 1600, .inl (upd f 8 (vp_nar .byte x_4))))] H := hP
  have hD : va_D A [(h0, .inr (4, [.ref bb, .int 8])), (bb, .inl (T 1, 1600, .inl (upd f 8 (vp_nar .byte x_4))))] := hD
  generalize upd f 8 (vp_nar .byte x_4) = f_5 at hP hD
  refine lv_aload_n hx hb dX4_append_30 rfl (lv_at hl 1 rfl) ?_
  refine lv_dup hx hb dX4_append_31 rfl ?_
  refine va_get (D := D) (ci := 4) (C := RX4) (T := TX4) (N := 2) hx hb hts iX4 hown hK hP 0 rfl rfl 1 (by decide) (hts _ m144) (fun _ h9 => h9) rfl dX4_append_32 ?_
  refine lv_iconst (v := 1) hx hb dX4_append_35 (by decide) ?_
  refine lv_iadd hx hb dX4_append_36 ?_
  refine eqi (v := 9) (by decide) ?_
  refine va_put (D := D) (ci := 4) (v := .int 9) (ty := .int) (C := RX4) (T := TX4) (N := 2) hx hb hts iX4 tyX4 tyX4_ok nmX4 hown hK hP hD hS 0 rfl rfl 1 (by decide) (hts _ m144) (fun _ h9 => h9) rfl (by decide +kernel) rfl rfl (Nat.le_of_ble_eq_true rfl) dX4_append_37 (fun H locs hP hD hS => ?_)
  have hP : va_P D vwCl [(h0, .inr (4, [.ref bb, .int 9])), (bb, .inl (T 1, 1600, .inl f_5))] H := hP
  have hD : va_D A [(h0, .inr (4, [.ref bb, .int 9])), (bb, .inl (T 1, 1600, .inl f_5))] := hD
  refine lv_iinc (v := 16) (lv' := [(2, .int 16), (0, .ref h0), (1, .int i1)]) hx hb dX4_append_40 hl (k := 0) rfl (by decide) (by decide) rfl (fun ls hl => ?_)
  refine lv_goto (tgt := 3) hx hb dX4_append_43 (by decide) ?_
  refine lv_iload_n hx hb dX4_append_3 rfl (lv_at hl 0 rfl) ?_
  refine lv_if_lt (tgt := 46) hx hb dX4_append_4 (by decide) (fun c_6 => absurd c_6 (by decide)) (fun _ => ?_)
  refine lv_aload_n hx hb dX4_append_7 rfl (lv_at hl 1 rfl) ?_
  refine va_get (D := D) (ci := 4) (C := RX4) (T := TX4) (N := 2) hx hb hts iX4 hown hK hP 0 rfl rfl 1 (by decide) (hts _ m144) (fun _ h9 => h9) rfl dX4_append_8 ?_
  refine lv_sipush (v := 1600) hx hb dX4_append_11 (by decide) ?_
  refine lv_icmp_ge (tgt := 46) hx hb dX4_append_14 (by decide) (fun c_7 => absurd c_7 (by decide)) (fun _ => ?_)
  refine lv_aload_n hx hb dX4_append_17 rfl (lv_at hl 1 rfl) ?_
  refine va_get (D := D) (ci := 4) (C := RX4) (T := TX4) (N := 2) hx hb hts iX4 hown hK hP 0 rfl rfl 0 (by decide) (hts _ m141) (fun _ h9 => h9) rfl dX4_append_18 ?_
  refine lv_aload_n hx hb dX4_append_21 rfl (lv_at hl 1 rfl) ?_
  refine va_get (D := D) (ci := 4) (C := RX4) (T := TX4) (N := 2) hx hb hts iX4 hown hK hP 0 rfl rfl 1 (by decide) (hts _ m144) (fun _ h9 => h9) rfl dX4_append_22 ?_
  refine lv_iload_n hx hb dX4_append_25 rfl (lv_at hl 2 rfl) ?_
  refine lv_iload_n hx hb dX4_append_26 rfl (lv_at hl 0 rfl) ?_
  refine lv_ishr hx hb dX4_append_27 ?_
  refine lv_topi (fun x_8 ex_8 => ?_)
  refine lv_i2b hx hb dX4_append_28 rfl ?_
  refine lv_topi (fun x_9 ex_9 => ?_)
  refine va_bast (D := D) hx hb hK hP hD hS 1 1 rfl rfl (by unfold vp_in; decide) dX4_append_29 (fun H locs hP hD hS => ?_)
  have hP : va_P D vwCl [(h0, .inr (4, [.ref bb, .int 9])), (bb, .inl (T 1, 1600, .inl (upd f_5 9 (vp_nar .byte x_9))))] H := hP
  have hD : va_D A [(h0, .inr (4, [.ref bb, .int 9])), (bb, .inl (T 1, 1600, .inl (upd f_5 9 (vp_nar .byte x_9))))] := hD
  generalize upd f_5 9 (vp_nar .byte x_9) = f_10 at hP hD
  refine lv_aload_n hx hb dX4_append_30 rfl (lv_at hl 1 rfl) ?_
  refine lv_dup hx hb dX4_append_31 rfl ?_
  refine va_get (D := D) (ci := 4) (C := RX4) (T := TX4) (N := 2) hx hb hts iX4 hown hK hP 0 rfl rfl 1 (by decide) (hts _ m144) (fun _ h9 => h9) rfl dX4_append_32 ?_
  refine lv_iconst (v := 1) hx hb dX4_append_35 (by decide) ?_
  refine lv_iadd hx hb dX4_append_36 ?_
  refine eqi (v := 10) (by decide) ?_
  refine va_put (D := D) (ci := 4) (v := .int 10) (ty := .int) (C := RX4) (T := TX4) (N := 2) hx hb hts iX4 tyX4 tyX4_ok nmX4 hown hK hP hD hS 0 rfl rfl 1 (by decide) (hts _ m144) (fun _ h9 => h9) rfl (by decide +kernel) rfl rfl (Nat.le_of_ble_eq_true rfl) dX4_append_37 (fun H locs hP hD hS => ?_)
  have hP : va_P D vwCl [(h0, .inr (4, [.ref bb, .int 10])), (bb, .inl (T 1, 1600, .inl f_10))] H := hP
  have hD : va_D A [(h0, .inr (4, [.ref bb, .int 10])), (bb, .inl (T 1, 1600, .inl f_10))] := hD
  refine lv_iinc (v := 8) (lv' := [(2, .int 8), (0, .ref h0), (1, .int i1)]) hx hb dX4_append_40 hl (k := 0) rfl (by decide) (by decide) rfl (fun ls hl => ?_)
  refine lv_goto (tgt := 3) hx hb dX4_append_43 (by decide) ?_
  refine lv_iload_n hx hb dX4_append_3 rfl (lv_at hl 0 rfl) ?_
  refine lv_if_lt (tgt := 46) hx hb dX4_append_4 (by decide) (fun c_11 => absurd c_11 (by decide)) (fun _ => ?_)
  refine lv_aload_n hx hb dX4_append_7 rfl (lv_at hl 1 rfl) ?_
  refine va_get (D := D) (ci := 4) (C := RX4) (T := TX4) (N := 2) hx hb hts iX4 hown hK hP 0 rfl rfl 1 (by decide) (hts _ m144) (fun _ h9 => h9) rfl dX4_append_8 ?_
  refine lv_sipush (v := 1600) hx hb dX4_append_11 (by decide) ?_
  refine lv_icmp_ge (tgt := 46) hx hb dX4_append_14 (by decide) (fun c_12 => absurd c_12 (by decide)) (fun _ => ?_)
  refine lv_aload_n hx hb dX4_append_17 rfl (lv_at hl 1 rfl) ?_
  refine va_get (D := D) (ci := 4) (C := RX4) (T := TX4) (N := 2) hx hb hts iX4 hown hK hP 0 rfl rfl 0 (by decide) (hts _ m141) (fun _ h9 => h9) rfl dX4_append_18 ?_
  refine lv_aload_n hx hb dX4_append_21 rfl (lv_at hl 1 rfl) ?_
  refine va_get (D := D) (ci := 4) (C := RX4) (T := TX4) (N := 2) hx hb hts iX4 hown hK hP 0 rfl rfl 1 (by decide) (hts _ m144) (fun _ h9 => h9) rfl dX4_append_22 ?_
  refine lv_iload_n hx hb dX4_append_25 rfl (lv_at hl 2 rfl) ?_
  refine lv_iload_n hx hb dX4_append_26 rfl (lv_at hl 0 rfl) ?_
  refine lv_ishr hx hb dX4_append_27 ?_
  refine lv_topi (fun x_13 ex_13 => ?_)
  refine lv_i2b hx hb dX4_append_28 rfl ?_
  refine lv_topi (fun x_14 ex_14 => ?_)
  refine va_bast (D := D) hx hb hK hP hD hS 1 1 rfl rfl (by unfold vp_in; decide) dX4_append_29 (fun H locs hP hD hS => ?_)
  have hP : va_P D vwCl [(h0, .inr (4, [.ref bb, .int 10])), (bb, .inl (T 1, 1600, .inl (upd f_10 10 (vp_nar .byte x_14))))] H := hP
  have hD : va_D A [(h0, .inr (4, [.ref bb, .int 10])), (bb, .inl (T 1, 1600, .inl (upd f_10 10 (vp_nar .byte x_14))))] := hD
  generalize upd f_10 10 (vp_nar .byte x_14) = f_15 at hP hD
  refine lv_aload_n hx hb dX4_append_30 rfl (lv_at hl 1 rfl) ?_
  refine lv_dup hx hb dX4_append_31 rfl ?_
  refine va_get (D := D) (ci := 4) (C := RX4) (T := TX4) (N := 2) hx hb hts iX4 hown hK hP 0 rfl rfl 1 (by decide) (hts _ m144) (fun _ h9 => h9) rfl dX4_append_32 ?_
  refine lv_iconst (v := 1) hx hb dX4_append_35 (by decide) ?_
  refine lv_iadd hx hb dX4_append_36 ?_
  refine eqi (v := 11) (by decide) ?_
  refine va_put (D := D) (ci := 4) (v := .int 11) (ty := .int) (C := RX4) (T := TX4) (N := 2) hx hb hts iX4 tyX4 tyX4_ok nmX4 hown hK hP hD hS 0 rfl rfl 1 (by decide) (hts _ m144) (fun _ h9 => h9) rfl (by decide +kernel) rfl rfl (Nat.le_of_ble_eq_true rfl) dX4_append_37 (fun H locs hP hD hS => ?_)
  have hP : va_P D vwCl [(h0, .inr (4, [.ref bb, .int 11])), (bb, .inl (T 1, 1600, .inl f_15))] H := hP
  have hD : va_D A [(h0, .inr (4, [.ref bb, .int 11])), (bb, .inl (T 1, 1600, .inl f_15))] := hD
  refine lv_iinc (v := 0) (lv' := [(2, .int 0), (0, .ref h0), (1, .int i1)]) hx hb dX4_append_40 hl (k := 0) rfl (by decide) (by decide) rfl (fun ls hl => ?_)
  refine lv_goto (tgt := 3) hx hb dX4_append_43 (by decide) ?_
  refine lv_iload_n hx hb dX4_append_3 rfl (lv_at hl 0 rfl) ?_
  refine lv_if_lt (tgt := 46) hx hb dX4_append_4 (by decide) (fun c_16 => absurd c_16 (by decide)) (fun _ => ?_)
  refine lv_aload_n hx hb dX4_append_7 rfl (lv_at hl 1 rfl) ?_
  refine va_get (D := D) (ci := 4) (C := RX4) (T := TX4) (N := 2) hx hb hts iX4 hown hK hP 0 rfl rfl 1 (by decide) (hts _ m144) (fun _ h9 => h9) rfl dX4_append_8 ?_
  refine lv_sipush (v := 1600) hx hb dX4_append_11 (by decide) ?_
  refine lv_icmp_ge (tgt := 46) hx hb dX4_append_14 (by decide) (fun c_17 => absurd c_17 (by decide)) (fun _ => ?_)
  refine lv_aload_n hx hb dX4_append_17 rfl (lv_at hl 1 rfl) ?_
  refine va_get (D := D) (ci := 4) (C := RX4) (T := TX4) (N := 2) hx hb hts iX4 hown hK hP 0 rfl rfl 0 (by decide) (hts _ m141) (fun _ h9 => h9) rfl dX4_append_18 ?_
  refine lv_aload_n hx hb dX4_append_21 rfl (lv_at hl 1 rfl) ?_
  refine va_get (D := D) (ci := 4) (C := RX4) (T := TX4) (N := 2) hx hb hts iX4 hown hK hP 0 rfl rfl 1 (by decide) (hts _ m144) (fun _ h9 => h9) rfl dX4_append_22 ?_
  refine lv_iload_n hx hb dX4_append_25 rfl (lv_at hl 2 rfl) ?_
  refine lv_iload_n hx hb dX4_append_26 rfl (lv_at hl 0 rfl) ?_
  refine lv_ishr hx hb dX4_append_27 ?_
  refine lv_topi (fun x_18 ex_18 => ?_)
  refine lv_i2b hx hb dX4_append_28 rfl ?_
  refine lv_topi (fun x_19 ex_19 => ?_)
  refine va_bast (D := D) hx hb hK hP hD hS 1 1 rfl rfl (by unfold vp_in; decide) dX4_append_29 (fun H locs hP hD hS => ?_)
  have hP : va_P D vwCl [(h0, .inr (4, [.ref bb, .int 11])), (bb, .inl (T 1, 1600, .inl (upd f_15 11 (vp_nar .byte x_19))))] H := hP
  have hD : va_D A [(h0, .inr (4, [.ref bb, .int 11])), (bb, .inl (T 1, 1600, .inl (upd f_15 11 (vp_nar .byte x_19))))] := hD
  generalize upd f_15 11 (vp_nar .byte x_19) = f_20 at hP hD
  refine lv_aload_n hx hb dX4_append_30 rfl (lv_at hl 1 rfl) ?_
  refine lv_dup hx hb dX4_append_31 rfl ?_
  refine va_get (D := D) (ci := 4) (C := RX4) (T := TX4) (N := 2) hx hb hts iX4 hown hK hP 0 rfl rfl 1 (by decide) (hts _ m144) (fun _ h9 => h9) rfl dX4_append_32 ?_
  refine lv_iconst (v := 1) hx hb dX4_append_35 (by decide) ?_
  refine lv_iadd hx hb dX4_append_36 ?_
  refine eqi (v := 12) (by decide) ?_
  refine va_put (D := D) (ci := 4) (v := .int 12) (ty := .int) (C := RX4) (T := TX4) (N := 2) hx hb hts iX4 tyX4 tyX4_ok nmX4 hown hK hP hD hS 0 rfl rfl 1 (by decide) (hts _ m144) (fun _ h9 => h9) rfl (by decide +kernel) rfl rfl (Nat.le_of_ble_eq_true rfl) dX4_append_37 (fun H locs hP hD hS => ?_)
  have hP : va_P D vwCl [(h0, .inr (4, [.ref bb, .int 12])), (bb, .inl (T 1, 1600, .inl f_20))] H := hP
  have hD : va_D A [(h0, .inr (4, [.ref bb, .int 12])), (bb, .inl (T 1, 1600, .inl f_20))] := hD
  refine lv_iinc (v := (-8)) (lv' := [(2, .int (-8)), (0, .ref h0), (1, .int i1)]) hx hb dX4_append_40 hl (k := 0) rfl (by decide) (by decide) rfl (fun ls hl => ?_)
  refine lv_goto (tgt := 3) hx hb dX4_append_43 (by decide) ?_
  refine lv_iload_n hx hb dX4_append_3 rfl (lv_at hl 0 rfl) ?_
  refine lv_if_lt (tgt := 46) hx hb dX4_append_4 (by decide) (fun _ => ?_) (fun c_21 => absurd (by decide) c_21)
  have hP9 := hP.sub (ws' := [(h0, .inr (4, [.ref bb, .int 12])), (bb, .inl (T 1, 1600, .inl f_20))]) [0, 1] rfl
  have hD9 := hD.sub (ws' := [(h0, .inr (4, [.ref bb, .int 12])), (bb, .inl (T 1, 1600, .inl f_20))]) [0, 1] (by decide) rfl
  exact W.vret hx hb hr (fun t ht hW => ⟨⟨(fun k => [].getD k 0, fun k => [f_20].getD k (fun _ => 0), fun k => ([] : List (Nat → Int64)).getD k (fun _ => 0), fun k => ([] : List Int32).getD k 0), rfl, trivial, by rw [ht]; exact hP9, hD9⟩, hS.F ht⟩) hS.2.2 dX4_append_46

set_option maxHeartbeats 4000000 in
set_option maxRecDepth 100000 in
theorem c_X4_append_12 (l : Launch) (D : va_G) (T : Nat → ClassId) (h0 bb : Nat) (f : Nat → Int32) (i1 : Int32) (sz : Nat) : Met l yX4_append (wM yX4_append cX4_append 3 none) ({ frames := 0, cells := 0, slots := 0, locals := 0 }) (va_Pc [.ref h0, .int i1] (pwM D T [(h0, .inr (4, [.ref bb, .int 12])), (bb, .inl (T 1, 1600, .inl f))] sz)) (va_Qv (fun (u : UU) => True) (fun u t => pwE D (va_A [(h0, .inr (4, [.ref bb, .int 12])), (bb, .inl (T 1, 1600, .inl f))] sz) [(h0, .inr (4, [.ref bb, .int 16])), (bb, .inl (T 1, 1600, .inl (u.2.1 0)))] t) (va_A [(h0, .inr (4, [.ref bb, .int 12])), (bb, .inl (T 1, 1600, .inl f))] sz)) 0 0 (va_A [(h0, .inr (4, [.ref bb, .int 12])), (bb, .inl (T 1, 1600, .inl f))] sz) := by
  refine Met.ofW (cc := cX4_append) (maxL := 3) (ret := none) (by decide) rfl ?_
  intro p e s m args below meth c s₁ B hml hv
  obtain ⟨rfl, hsz, hP, hC, hD0⟩ := hv
  have hx := B.exec
  have hb := B.bytes
  have hr := B.returns
  have hts : ∀ w ∈ gt, w.before _ s = true := fun w hw => atoms_spec (ws := (wM yX4_append cX4_append 3 none)) B.pre w (List.mem_cons_of_mem _ hw)
  have hown : s.vm.findClass RX4 = some m.cls := findClass_of_methodNamed B.named
  have hlocks := B.notSynchronized
  have hK := hC.1
  subst hsz
  have hD := hD0.self (sz := s.heap.size)
  generalize hAe : va_A [(h0, .inr (4, [.ref bb, .int 12])), (bb, .inl (T 1, 1600, .inl f))] s.heap.size = A at hD ⊢
  have hA : ∀ q : Nat, s.heap.size ≤ q → A q := fun q h => by rw [← hAe]; exact Or.inr h
  have hS : va_S A s.heap s.heap [] := va_S.rf
  have hl := lv_entry ([.ref h0, .int i1]) (n := 3) (Nat.le_of_ble_eq_true rfl)
  rw [lg_entry_eq]
  generalize (lg_sl ([.ref h0, .int i1]) ++ List.replicate (3 - (lg_sl ([.ref h0, .int i1])).length) Slot.unset).toArray = ls at hl ⊢
  have hl : lv_has ls 3 [(0, .ref h0), (1, .int i1)] := hl
  refine lv_bipush (v := 24) hx hb dX4_append_0 (by decide) ?_
  refine lv_istore_n (lv' := [(2, .int 24), (0, .ref h0), (1, .int i1)]) hx hb dX4_append_2 rfl hl (by decide) rfl (fun ls hl => ?_)
  refine lv_iload_n hx hb dX4_append_3 rfl (lv_at hl 0 rfl) ?_
  refine lv_if_lt (tgt := 46) hx hb dX4_append_4 (by decide) (fun c_1 => absurd c_1 (by decide)) (fun _ => ?_)
  refine lv_aload_n hx hb dX4_append_7 rfl (lv_at hl 1 rfl) ?_
  refine va_get (D := D) (ci := 4) (C := RX4) (T := TX4) (N := 2) hx hb hts iX4 hown hK hP 0 rfl rfl 1 (by decide) (hts _ m144) (fun _ h9 => h9) rfl dX4_append_8 ?_
  refine lv_sipush (v := 1600) hx hb dX4_append_11 (by decide) ?_
  refine lv_icmp_ge (tgt := 46) hx hb dX4_append_14 (by decide) (fun c_2 => absurd c_2 (by decide)) (fun _ => ?_)
  refine lv_aload_n hx hb dX4_append_17 rfl (lv_at hl 1 rfl) ?_
  refine va_get (D := D) (ci := 4) (C := RX4) (T := TX4) (N := 2) hx hb hts iX4 hown hK hP 0 rfl rfl 0 (by decide) (hts _ m141) (fun _ h9 => h9) rfl dX4_append_18 ?_
  refine lv_aload_n hx hb dX4_append_21 rfl (lv_at hl 1 rfl) ?_
  refine va_get (D := D) (ci := 4) (C := RX4) (T := TX4) (N := 2) hx hb hts iX4 hown hK hP 0 rfl rfl 1 (by decide) (hts _ m144) (fun _ h9 => h9) rfl dX4_append_22 ?_
  refine lv_iload_n hx hb dX4_append_25 rfl (lv_at hl 2 rfl) ?_
  refine lv_iload_n hx hb dX4_append_26 rfl (lv_at hl 0 rfl) ?_
  refine lv_ishr hx hb dX4_append_27 ?_
  refine lv_topi (fun x_3 ex_3 => ?_)
  refine lv_i2b hx hb dX4_append_28 rfl ?_
  refine lv_topi (fun x_4 ex_4 => ?_)
  refine va_bast (D := D) hx hb hK hP hD hS 1 1 rfl rfl (by unfold vp_in; decide) dX4_append_29 (fun H locs hP hD hS => ?_)
  have hP : va_P D vwCl [(h0, .inr (4, [.ref bb, .int 12])), (bb, .inl (T 1, 1600, .inl (upd f 12 (vp_nar .byte x_4))))] H := hP
  have hD : va_D A [(h0, .inr (4, [.ref bb, .int 12])), (bb, .inl (T 1, 1600, .inl (upd f 12 (vp_nar .byte x_4))))] := hD
  generalize upd f 12 (vp_nar .byte x_4) = f_5 at hP hD
  refine lv_aload_n hx hb dX4_append_30 rfl (lv_at hl 1 rfl) ?_
  refine lv_dup hx hb dX4_append_31 rfl ?_
  refine va_get (D := D) (ci := 4) (C := RX4) (T := TX4) (N := 2) hx hb hts iX4 hown hK hP 0 rfl rfl 1 (by decide) (hts _ m144) (fun _ h9 => h9) rfl dX4_append_32 ?_
  refine lv_iconst (v := 1) hx hb dX4_append_35 (by decide) ?_
  refine lv_iadd hx hb dX4_append_36 ?_
  refine eqi (v := 13) (by decide) ?_
  refine va_put (D := D) (ci := 4) (v := .int 13) (ty := .int) (C := RX4) (T := TX4) (N := 2) hx hb hts iX4 tyX4 tyX4_ok nmX4 hown hK hP hD hS 0 rfl rfl 1 (by decide) (hts _ m144) (fun _ h9 => h9) rfl (by decide +kernel) rfl rfl (Nat.le_of_ble_eq_true rfl) dX4_append_37 (fun H locs hP hD hS => ?_)
  have hP : va_P D vwCl [(h0, .inr (4, [.ref bb, .int 13])), (bb, .inl (T 1, 1600, .inl f_5))] H := hP
  have hD : va_D A [(h0, .inr (4, [.ref bb, .int 13])), (bb, .inl (T 1, 1600, .inl f_5))] := hD
  refine lv_iinc (v := 16) (lv' := [(2, .int 16), (0, .ref h0), (1, .int i1)]) hx hb dX4_append_40 hl (k := 0) rfl (by decide) (by decide) rfl (fun ls hl => ?_)
  refine lv_goto (tgt := 3) hx hb dX4_append_43 (by decide) ?_
  refine lv_iload_n hx hb dX4_append_3 rfl (lv_at hl 0 rfl) ?_
  refine lv_if_lt (tgt := 46) hx hb dX4_append_4 (by decide) (fun c_6 => absurd c_6 (by decide)) (fun _ => ?_)
  refine lv_aload_n hx hb dX4_append_7 rfl (lv_at hl 1 rfl) ?_
  refine va_get (D := D) (ci := 4) (C := RX4) (T := TX4) (N := 2) hx hb hts iX4 hown hK hP 0 rfl rfl 1 (by decide) (hts _ m144) (fun _ h9 => h9) rfl dX4_append_8 ?_
  refine lv_sipush (v := 1600) hx hb dX4_append_11 (by decide) ?_
  refine lv_icmp_ge (tgt := 46) hx hb dX4_append_14 (by decide) (fun c_7 => absurd c_7 (by decide)) (fun _ => ?_)
  refine lv_aload_n hx hb dX4_append_17 rfl (lv_at hl 1 rfl) ?_
  refine va_get (D := D) (ci := 4) (C := RX4) (T := TX4) (N := 2) hx hb hts iX4 hown hK hP 0 rfl rfl 0 (by decide) (hts _ m141) (fun _ h9 => h9) rfl dX4_append_18 ?_
  refine lv_aload_n hx hb dX4_append_21 rfl (lv_at hl 1 rfl) ?_
  refine va_get (D := D) (ci := 4) (C := RX4) (T := TX4) (N := 2) hx hb hts iX4 hown hK hP 0 rfl rfl 1 (by decide) (hts _ m144) (fun _ h9 => h9) rfl dX4_append_22 ?_
  refine lv_iload_n hx hb dX4_append_25 rfl (lv_at hl 2 rfl) ?_
  refine lv_iload_n hx hb dX4_append_26 rfl (lv_at hl 0 rfl) ?_
  refine lv_ishr hx hb dX4_append_27 ?_
  refine lv_topi (fun x_8 ex_8 => ?_)
  refine lv_i2b hx hb dX4_append_28 rfl ?_
  refine lv_topi (fun x_9 ex_9 => ?_)
  refine va_bast (D := D) hx hb hK hP hD hS 1 1 rfl rfl (by unfold vp_in; decide) dX4_append_29 (fun H locs hP hD hS => ?_)
  have hP : va_P D vwCl [(h0, .inr (4, [.ref bb, .int 13])), (bb, .inl (T 1, 1600, .inl (upd f_5 13 (vp_nar .byte x_9))))] H := hP
  have hD : va_D A [(h0, .inr (4, [.ref bb, .int 13])), (bb, .inl (T 1, 1600, .inl (upd f_5 13 (vp_nar .byte x_9))))] := hD
  generalize upd f_5 13 (vp_nar .byte x_9) = f_10 at hP hD
  refine lv_aload_n hx hb dX4_append_30 rfl (lv_at hl 1 rfl) ?_
  refine lv_dup hx hb dX4_append_31 rfl ?_
  refine va_get (D := D) (ci := 4) (C := RX4) (T := TX4) (N := 2) hx hb hts iX4 hown hK hP 0 rfl rfl 1 (by decide) (hts _ m144) (fun _ h9 => h9) rfl dX4_append_32 ?_
  refine lv_iconst (v := 1) hx hb dX4_append_35 (by decide) ?_
  refine lv_iadd hx hb dX4_append_36 ?_
  refine eqi (v := 14) (by decide) ?_
  refine va_put (D := D) (ci := 4) (v := .int 14) (ty := .int) (C := RX4) (T := TX4) (N := 2) hx hb hts iX4 tyX4 tyX4_ok nmX4 hown hK hP hD hS 0 rfl rfl 1 (by decide) (hts _ m144) (fun _ h9 => h9) rfl (by decide +kernel) rfl rfl (Nat.le_of_ble_eq_true rfl) dX4_append_37 (fun H locs hP hD hS => ?_)
  have hP : va_P D vwCl [(h0, .inr (4, [.ref bb, .int 14])), (bb, .inl (T 1, 1600, .inl f_10))] H := hP
  have hD : va_D A [(h0, .inr (4, [.ref bb, .int 14])), (bb, .inl (T 1, 1600, .inl f_10))] := hD
  refine lv_iinc (v := 8) (lv' := [(2, .int 8), (0, .ref h0), (1, .int i1)]) hx hb dX4_append_40 hl (k := 0) rfl (by decide) (by decide) rfl (fun ls hl => ?_)
  refine lv_goto (tgt := 3) hx hb dX4_append_43 (by decide) ?_
  refine lv_iload_n hx hb dX4_append_3 rfl (lv_at hl 0 rfl) ?_
  refine lv_if_lt (tgt := 46) hx hb dX4_append_4 (by decide) (fun c_11 => absurd c_11 (by decide)) (fun _ => ?_)
  refine lv_aload_n hx hb dX4_append_7 rfl (lv_at hl 1 rfl) ?_
  refine va_get (D := D) (ci := 4) (C := RX4) (T := TX4) (N := 2) hx hb hts iX4 hown hK hP 0 rfl rfl 1 (by decide) (hts _ m144) (fun _ h9 => h9) rfl dX4_append_8 ?_
  refine lv_sipush (v := 1600) hx hb dX4_append_11 (by decide) ?_
  refine lv_icmp_ge (tgt := 46) hx hb dX4_append_14 (by decide) (fun c_12 => absurd c_12 (by decide)) (fun _ => ?_)
  refine lv_aload_n hx hb dX4_append_17 rfl (lv_at hl 1 rfl) ?_
  refine va_get (D := D) (ci := 4) (C := RX4) (T := TX4) (N := 2) hx hb hts iX4 hown hK hP 0 rfl rfl 0 (by decide) (hts _ m141) (fun _ h9 => h9) rfl dX4_append_18 ?_
  refine lv_aload_n hx hb dX4_append_21 rfl (lv_at hl 1 rfl) ?_
  refine va_get (D := D) (ci := 4) (C := RX4) (T := TX4) (N := 2) hx hb hts iX4 hown hK hP 0 rfl rfl 1 (by decide) (hts _ m144) (fun _ h9 => h9) rfl dX4_append_22 ?_
  refine lv_iload_n hx hb dX4_append_25 rfl (lv_at hl 2 rfl) ?_
  refine lv_iload_n hx hb dX4_append_26 rfl (lv_at hl 0 rfl) ?_
  refine lv_ishr hx hb dX4_append_27 ?_
  refine lv_topi (fun x_13 ex_13 => ?_)
  refine lv_i2b hx hb dX4_append_28 rfl ?_
  refine lv_topi (fun x_14 ex_14 => ?_)
  refine va_bast (D := D) hx hb hK hP hD hS 1 1 rfl rfl (by unfold vp_in; decide) dX4_append_29 (fun H locs hP hD hS => ?_)
  have hP : va_P D vwCl [(h0, .inr (4, [.ref bb, .int 14])), (bb, .inl (T 1, 1600, .inl (upd f_10 14 (vp_nar .byte x_14))))] H := hP
  have hD : va_D A [(h0, .inr (4, [.ref bb, .int 14])), (bb, .inl (T 1, 1600, .inl (upd f_10 14 (vp_nar .byte x_14))))] := hD
  generalize upd f_10 14 (vp_nar .byte x_14) = f_15 at hP hD
  refine lv_aload_n hx hb dX4_append_30 rfl (lv_at hl 1 rfl) ?_
  refine lv_dup hx hb dX4_append_31 rfl ?_
  refine va_get (D := D) (ci := 4) (C := RX4) (T := TX4) (N := 2) hx hb hts iX4 hown hK hP 0 rfl rfl 1 (by decide) (hts _ m144) (fun _ h9 => h9) rfl dX4_append_32 ?_
  refine lv_iconst (v := 1) hx hb dX4_append_35 (by decide) ?_
  refine lv_iadd hx hb dX4_append_36 ?_
  refine eqi (v := 15) (by decide) ?_
  refine va_put (D := D) (ci := 4) (v := .int 15) (ty := .int) (C := RX4) (T := TX4) (N := 2) hx hb hts iX4 tyX4 tyX4_ok nmX4 hown hK hP hD hS 0 rfl rfl 1 (by decide) (hts _ m144) (fun _ h9 => h9) rfl (by decide +kernel) rfl rfl (Nat.le_of_ble_eq_true rfl) dX4_append_37 (fun H locs hP hD hS => ?_)
  have hP : va_P D vwCl [(h0, .inr (4, [.ref bb, .int 15])), (bb, .inl (T 1, 1600, .inl f_15))] H := hP
  have hD : va_D A [(h0, .inr (4, [.ref bb, .int 15])), (bb, .inl (T 1, 1600, .inl f_15))] := hD
  refine lv_iinc (v := 0) (lv' := [(2, .int 0), (0, .ref h0), (1, .int i1)]) hx hb dX4_append_40 hl (k := 0) rfl (by decide) (by decide) rfl (fun ls hl => ?_)
  refine lv_goto (tgt := 3) hx hb dX4_append_43 (by decide) ?_
  refine lv_iload_n hx hb dX4_append_3 rfl (lv_at hl 0 rfl) ?_
  refine lv_if_lt (tgt := 46) hx hb dX4_append_4 (by decide) (fun c_16 => absurd c_16 (by decide)) (fun _ => ?_)
  refine lv_aload_n hx hb dX4_append_7 rfl (lv_at hl 1 rfl) ?_
  refine va_get (D := D) (ci := 4) (C := RX4) (T := TX4) (N := 2) hx hb hts iX4 hown hK hP 0 rfl rfl 1 (by decide) (hts _ m144) (fun _ h9 => h9) rfl dX4_append_8 ?_
  refine lv_sipush (v := 1600) hx hb dX4_append_11 (by decide) ?_
  refine lv_icmp_ge (tgt := 46) hx hb dX4_append_14 (by decide) (fun c_17 => absurd c_17 (by decide)) (fun _ => ?_)
  refine lv_aload_n hx hb dX4_append_17 rfl (lv_at hl 1 rfl) ?_
  refine va_get (D := D) (ci := 4) (C := RX4) (T := TX4) (N := 2) hx hb hts iX4 hown hK hP 0 rfl rfl 0 (by decide) (hts _ m141) (fun _ h9 => h9) rfl dX4_append_18 ?_
  refine lv_aload_n hx hb dX4_append_21 rfl (lv_at hl 1 rfl) ?_
  refine va_get (D := D) (ci := 4) (C := RX4) (T := TX4) (N := 2) hx hb hts iX4 hown hK hP 0 rfl rfl 1 (by decide) (hts _ m144) (fun _ h9 => h9) rfl dX4_append_22 ?_
  refine lv_iload_n hx hb dX4_append_25 rfl (lv_at hl 2 rfl) ?_
  refine lv_iload_n hx hb dX4_append_26 rfl (lv_at hl 0 rfl) ?_
  refine lv_ishr hx hb dX4_append_27 ?_
  refine lv_topi (fun x_18 ex_18 => ?_)
  refine lv_i2b hx hb dX4_append_28 rfl ?_
  refine lv_topi (fun x_19 ex_19 => ?_)
  refine va_bast (D := D) hx hb hK hP hD hS 1 1 rfl rfl (by unfold vp_in; decide) dX4_append_29 (fun H locs hP hD hS => ?_)
  have hP : va_P D vwCl [(h0, .inr (4, [.ref bb, .int 15])), (bb, .inl (T 1, 1600, .inl (upd f_15 15 (vp_nar .byte x_19))))] H := hP
  have hD : va_D A [(h0, .inr (4, [.ref bb, .int 15])), (bb, .inl (T 1, 1600, .inl (upd f_15 15 (vp_nar .byte x_19))))] := hD
  generalize upd f_15 15 (vp_nar .byte x_19) = f_20 at hP hD
  refine lv_aload_n hx hb dX4_append_30 rfl (lv_at hl 1 rfl) ?_
  refine lv_dup hx hb dX4_append_31 rfl ?_
  refine va_get (D := D) (ci := 4) (C := RX4) (T := TX4) (N := 2) hx hb hts iX4 hown hK hP 0 rfl rfl 1 (by decide) (hts _ m144) (fun _ h9 => h9) rfl dX4_append_32 ?_
  refine lv_iconst (v := 1) hx hb dX4_append_35 (by decide) ?_
  refine lv_iadd hx hb dX4_append_36 ?_
  refine eqi (v := 16) (by decide) ?_
  refine va_put (D := D) (ci := 4) (v := .int 16) (ty := .int) (C := RX4) (T := TX4) (N := 2) hx hb hts iX4 tyX4 tyX4_ok nmX4 hown hK hP hD hS 0 rfl rfl 1 (by decide) (hts _ m144) (fun _ h9 => h9) rfl (by decide +kernel) rfl rfl (Nat.le_of_ble_eq_true rfl) dX4_append_37 (fun H locs hP hD hS => ?_)
  have hP : va_P D vwCl [(h0, .inr (4, [.ref bb, .int 16])), (bb, .inl (T 1, 1600, .inl f_20))] H := hP
  have hD : va_D A [(h0, .inr (4, [.ref bb, .int 16])), (bb, .inl (T 1, 1600, .inl f_20))] := hD
  refine lv_iinc (v := (-8)) (lv' := [(2, .int (-8)), (0, .ref h0), (1, .int i1)]) hx hb dX4_append_40 hl (k := 0) rfl (by decide) (by decide) rfl (fun ls hl => ?_)
  refine lv_goto (tgt := 3) hx hb dX4_append_43 (by decide) ?_
  refine lv_iload_n hx hb dX4_append_3 rfl (lv_at hl 0 rfl) ?_
  refine lv_if_lt (tgt := 46) hx hb dX4_append_4 (by decide) (fun _ => ?_) (fun c_21 => absurd (by decide) c_21)
  have hP9 := hP.sub (ws' := [(h0, .inr (4, [.ref bb, .int 16])), (bb, .inl (T 1, 1600, .inl f_20))]) [0, 1] rfl
  have hD9 := hD.sub (ws' := [(h0, .inr (4, [.ref bb, .int 16])), (bb, .inl (T 1, 1600, .inl f_20))]) [0, 1] (by decide) rfl
  exact W.vret hx hb hr (fun t ht hW => ⟨⟨(fun k => [].getD k 0, fun k => [f_20].getD k (fun _ => 0), fun k => ([] : List (Nat → Int64)).getD k (fun _ => 0), fun k => ([] : List Int32).getD k 0), rfl, trivial, by rw [ht]; exact hP9, hD9⟩, hS.F ht⟩) hS.2.2 dX4_append_46

set_option maxHeartbeats 4000000 in
set_option maxRecDepth 100000 in
theorem c_X4_append_16 (l : Launch) (D : va_G) (T : Nat → ClassId) (h0 bb : Nat) (f : Nat → Int32) (i1 : Int32) (sz : Nat) : Met l yX4_append (wM yX4_append cX4_append 3 none) ({ frames := 0, cells := 0, slots := 0, locals := 0 }) (va_Pc [.ref h0, .int i1] (pwM D T [(h0, .inr (4, [.ref bb, .int 16])), (bb, .inl (T 1, 1600, .inl f))] sz)) (va_Qv (fun (u : UU) => True) (fun u t => pwE D (va_A [(h0, .inr (4, [.ref bb, .int 16])), (bb, .inl (T 1, 1600, .inl f))] sz) [(h0, .inr (4, [.ref bb, .int 20])), (bb, .inl (T 1, 1600, .inl (u.2.1 0)))] t) (va_A [(h0, .inr (4, [.ref bb, .int 16])), (bb, .inl (T 1, 1600, .inl f))] sz)) 0 0 (va_A [(h0, .inr (4, [.ref bb, .int 16])), (bb, .inl (T 1, 1600, .inl f))] sz) := by
  refine Met.ofW (cc := cX4_append) (maxL := 3) (ret := none) (by decide) rfl ?_
  intro p e s m args below meth c s₁ B hml hv
  obtain ⟨rfl, hsz, hP, hC, hD0⟩ := hv
  have hx := B.exec
  have hb := B.bytes
  have hr := B.returns
  have hts : ∀ w ∈ gt, w.before _ s = true := fun w hw => atoms_spec (ws := (wM yX4_append cX4_append 3 none)) B.pre w (List.mem_cons_of_mem _ hw)
  have hown : s.vm.findClass RX4 = some m.cls := findClass_of_methodNamed B.named
  have hlocks := B.notSynchronized
  have hK := hC.1
  subst hsz
  have hD := hD0.self (sz := s.heap.size)
  generalize hAe : va_A [(h0, .inr (4, [.ref bb, .int 16])), (bb, .inl (T 1, 1600, .inl f))] s.heap.size = A at hD ⊢
  have hA : ∀ q : Nat, s.heap.size ≤ q → A q := fun q h => by rw [← hAe]; exact Or.inr h
  have hS : va_S A s.heap s.heap [] := va_S.rf
  have hl := lv_entry ([.ref h0, .int i1]) (n := 3) (Nat.le_of_ble_eq_true rfl)
  rw [lg_entry_eq]
  generalize (lg_sl ([.ref h0, .int i1]) ++ List.replicate (3 - (lg_sl ([.ref h0, .int i1])).length) Slot.unset).toArray = ls at hl ⊢
  have hl : lv_has ls 3 [(0, .ref h0), (1, .int i1)] := hl
  refine lv_bipush (v := 24) hx hb dX4_append_0 (by decide) ?_
  refine lv_istore_n (lv' := [(2, .int 24), (0, .ref h0), (1, .int i1)]) hx hb dX4_append_2 rfl hl (by decide) rfl (fun ls hl => ?_)
  refine lv_iload_n hx hb dX4_append_3 rfl (lv_at hl 0 rfl) ?_
  refine lv_if_lt (tgt := 46) hx hb dX4_append_4 (by decide) (fun c_1 => absurd c_1 (by decide)) (fun _ => ?_)
  refine lv_aload_n hx hb dX4_append_7 rfl (lv_at hl 1 rfl) ?_
  refine va_get (D := D) (ci := 4) (C := RX4) (T := TX4) (N := 2) hx hb hts iX4 hown hK hP 0 rfl rfl 1 (by decide) (hts _ m144) (fun _ h9 => h9) rfl dX4_append_8 ?_
  refine lv_sipush (v := 1600) hx hb dX4_append_11 (by decide) ?_
  refine lv_icmp_ge (tgt := 46) hx hb dX4_append_14 (by decide) (fun c_2 => absurd c_2 (by decide)) (fun _ => ?_)
  refine lv_aload_n hx hb dX4_append_17 rfl (lv_at hl 1 rfl) ?_
  refine va_get (D := D) (ci := 4) (C := RX4) (T := TX4) (N := 2) hx hb hts iX4 hown hK hP 0 rfl rfl 0 (by decide) (hts _ m141) (fun _ h9 => h9) rfl dX4_append_18 ?_
  refine lv_aload_n hx hb dX4_append_21 rfl (lv_at hl 1 rfl) ?_
  refine va_get (D := D) (ci := 4) (C := RX4) (T := TX4) (N := 2) hx hb hts iX4 hown hK hP 0 rfl rfl 1 (by decide) (hts _ m144) (fun _ h9 => h9) rfl dX4_append_22 ?_
  refine lv_iload_n hx hb dX4_append_25 rfl (lv_at hl 2 rfl) ?_
  refine lv_iload_n hx hb dX4_append_26 rfl (lv_at hl 0 rfl) ?_
  refine lv_ishr hx hb dX4_append_27 ?_
  refine lv_topi (fun x_3 ex_3 => ?_)
  refine lv_i2b hx hb dX4_append_28 rfl ?_
  refine lv_topi (fun x_4 ex_4 => ?_)
  refine va_bast (D := D) hx hb hK hP hD hS 1 1 rfl rfl (by unfold vp_in; decide) dX4_append_29 (fun H locs hP hD hS => ?_)
  have hP : va_P D vwCl [(h0, .inr (4, [.ref bb, .int 16])), (bb, .inl (T 1, 1600, .inl (upd f 16 (vp_nar .byte x_4))))] H := hP
  have hD : va_D A [(h0, .inr (4, [.ref bb, .int 16])), (bb, .inl (T 1, 1600, .inl (upd f 16 (vp_nar .byte x_4))))] := hD
  generalize upd f 16 (vp_nar .byte x_4) = f_5 at hP hD
  refine lv_aload_n hx hb dX4_append_30 rfl (lv_at hl 1 rfl) ?_
  refine lv_dup hx hb dX4_append_31 rfl ?_
  refine va_get (D := D) (ci := 4) (C := RX4) (T := TX4) (N := 2) hx hb hts iX4 hown hK hP 0 rfl rfl 1 (by decide) (hts _ m144) (fun _ h9 => h9) rfl dX4_append_32 ?_
  refine lv_iconst (v := 1) hx hb dX4_append_35 (by decide) ?_
  refine lv_iadd hx hb dX4_append_36 ?_
  refine eqi (v := 17) (by decide) ?_
  refine va_put (D := D) (ci := 4) (v := .int 17) (ty := .int) (C := RX4) (T := TX4) (N := 2) hx hb hts iX4 tyX4 tyX4_ok nmX4 hown hK hP hD hS 0 rfl rfl 1 (by decide) (hts _ m144) (fun _ h9 => h9) rfl (by decide +kernel) rfl rfl (Nat.le_of_ble_eq_true rfl) dX4_append_37 (fun H locs hP hD hS => ?_)
  have hP : va_P D vwCl [(h0, .inr (4, [.ref bb, .int 17])), (bb, .inl (T 1, 1600, .inl f_5))] H := hP
  have hD : va_D A [(h0, .inr (4, [.ref bb, .int 17])), (bb, .inl (T 1, 1600, .inl f_5))] := hD
  refine lv_iinc (v := 16) (lv' := [(2, .int 16), (0, .ref h0), (1, .int i1)]) hx hb dX4_append_40 hl (k := 0) rfl (by decide) (by decide) rfl (fun ls hl => ?_)
  refine lv_goto (tgt := 3) hx hb dX4_append_43 (by decide) ?_
  refine lv_iload_n hx hb dX4_append_3 rfl (lv_at hl 0 rfl) ?_
  refine lv_if_lt (tgt := 46) hx hb dX4_append_4 (by decide) (fun c_6 => absurd c_6 (by decide)) (fun _ => ?_)
  refine lv_aload_n hx hb dX4_append_7 rfl (lv_at hl 1 rfl) ?_
  refine va_get (D := D) (ci := 4) (C := RX4) (T := TX4) (N := 2) hx hb hts iX4 hown hK hP 0 rfl rfl 1 (by decide) (hts _ m144) (fun _ h9 => h9) rfl dX4_append_8 ?_
  refine lv_sipush (v := 1600) hx hb dX4_append_11 (by decide) ?_
  refine lv_icmp_ge (tgt := 46) hx hb dX4_append_14 (by decide) (fun c_7 => absurd c_7 (by decide)) (fun _ => ?_)
  refine lv_aload_n hx hb dX4_append_17 rfl (lv_at hl 1 rfl) ?_
  refine va_get (D := D) (ci := 4) (C := RX4) (T := TX4) (N := 2) hx hb hts iX4 hown hK hP 0 rfl rfl 0 (by decide) (hts _ m141) (fun _ h9 => h9) rfl dX4_append_18 ?_
  refine lv_aload_n hx hb dX4_append_21 rfl (lv_at hl 1 rfl) ?_
  refine va_get (D := D) (ci := 4) (C := RX4) (T := TX4) (N := 2) hx hb hts iX4 hown hK hP 0 rfl rfl 1 (by decide) (hts _ m144) (fun _ h9 => h9) rfl dX4_append_22 ?_
  refine lv_iload_n hx hb dX4_append_25 rfl (lv_at hl 2 rfl) ?_
  refine lv_iload_n hx hb dX4_append_26 rfl (lv_at hl 0 rfl) ?_
  refine lv_ishr hx hb dX4_append_27 ?_
  refine lv_topi (fun x_8 ex_8 => ?_)
  refine lv_i2b hx hb dX4_append_28 rfl ?_
  refine lv_topi (fun x_9 ex_9 => ?_)
  refine va_bast (D := D) hx hb hK hP hD hS 1 1 rfl rfl (by unfold vp_in; decide) dX4_append_29 (fun H locs hP hD hS => ?_)
  have hP : va_P D vwCl [(h0, .inr (4, [.ref bb, .int 17])), (bb, .inl (T 1, 1600, .inl (upd f_5 17 (vp_nar .byte x_9))))] H := hP
  have hD : va_D A [(h0, .inr (4, [.ref bb, .int 17])), (bb, .inl (T 1, 1600, .inl (upd f_5 17 (vp_nar .byte x_9))))] := hD
  generalize upd f_5 17 (vp_nar .byte x_9) = f_10 at hP hD
  refine lv_aload_n hx hb dX4_append_30 rfl (lv_at hl 1 rfl) ?_
  refine lv_dup hx hb dX4_append_31 rfl ?_
  refine va_get (D := D) (ci := 4) (C := RX4) (T := TX4) (N := 2) hx hb hts iX4 hown hK hP 0 rfl rfl 1 (by decide) (hts _ m144) (fun _ h9 => h9) rfl dX4_append_32 ?_
  refine lv_iconst (v := 1) hx hb dX4_append_35 (by decide) ?_
  refine lv_iadd hx hb dX4_append_36 ?_
  refine eqi (v := 18) (by decide) ?_
  refine va_put (D := D) (ci := 4) (v := .int 18) (ty := .int) (C := RX4) (T := TX4) (N := 2) hx hb hts iX4 tyX4 tyX4_ok nmX4 hown hK hP hD hS 0 rfl rfl 1 (by decide) (hts _ m144) (fun _ h9 => h9) rfl (by decide +kernel) rfl rfl (Nat.le_of_ble_eq_true rfl) dX4_append_37 (fun H locs hP hD hS => ?_)
  have hP : va_P D vwCl [(h0, .inr (4, [.ref bb, .int 18])), (bb, .inl (T 1, 1600, .inl f_10))] H := hP
  have hD : va_D A [(h0, .inr (4, [.ref bb, .int 18])), (bb, .inl (T 1, 1600, .inl f_10))] := hD
  refine lv_iinc (v := 8) (lv' := [(2, .int 8), (0, .ref h0), (1, .int i1)]) hx hb dX4_append_40 hl (k := 0) rfl (by decide) (by decide) rfl (fun ls hl => ?_)
  refine lv_goto (tgt := 3) hx hb dX4_append_43 (by decide) ?_
  refine lv_iload_n hx hb dX4_append_3 rfl (lv_at hl 0 rfl) ?_
  refine lv_if_lt (tgt := 46) hx hb dX4_append_4 (by decide) (fun c_11 => absurd c_11 (by decide)) (fun _ => ?_)
  refine lv_aload_n hx hb dX4_append_7 rfl (lv_at hl 1 rfl) ?_
  refine va_get (D := D) (ci := 4) (C := RX4) (T := TX4) (N := 2) hx hb hts iX4 hown hK hP 0 rfl rfl 1 (by decide) (hts _ m144) (fun _ h9 => h9) rfl dX4_append_8 ?_
  refine lv_sipush (v := 1600) hx hb dX4_append_11 (by decide) ?_
  refine lv_icmp_ge (tgt := 46) hx hb dX4_append_14 (by decide) (fun c_12 => absurd c_12 (by decide)) (fun _ => ?_)
  refine lv_aload_n hx hb dX4_append_17 rfl (lv_at hl 1 rfl) ?_
  refine va_get (D := D) (ci := 4) (C := RX4) (T := TX4) (N := 2) hx hb hts iX4 hown hK hP 0 rfl rfl 0 (by decide) (hts _ m141) (fun _ h9 => h9) rfl dX4_append_18 ?_
  refine lv_aload_n hx hb dX4_append_21 rfl (lv_at hl 1 rfl) ?_
  refine va_get (D := D) (ci := 4) (C := RX4) (T := TX4) (N := 2) hx hb hts iX4 hown hK hP 0 rfl rfl 1 (by decide) (hts _ m144) (fun _ h9 => h9) rfl dX4_append_22 ?_
  refine lv_iload_n hx hb dX4_append_25 rfl (lv_at hl 2 rfl) ?_
  refine lv_iload_n hx hb dX4_append_26 rfl (lv_at hl 0 rfl) ?_
  refine lv_ishr hx hb dX4_append_27 ?_
  refine lv_topi (fun x_13 ex_13 => ?_)
  refine lv_i2b hx hb dX4_append_28 rfl ?_
  refine lv_topi (fun x_14 ex_14 => ?_)
  refine va_bast (D := D) hx hb hK hP hD hS 1 1 rfl rfl (by unfold vp_in; decide) dX4_append_29 (fun H locs hP hD hS => ?_)
  have hP : va_P D vwCl [(h0, .inr (4, [.ref bb, .int 18])), (bb, .inl (T 1, 1600, .inl (upd f_10 18 (vp_nar .byte x_14))))] H := hP
  have hD : va_D A [(h0, .inr (4, [.ref bb, .int 18])), (bb, .inl (T 1, 1600, .inl (upd f_10 18 (vp_nar .byte x_14))))] := hD
  generalize upd f_10 18 (vp_nar .byte x_14) = f_15 at hP hD
  refine lv_aload_n hx hb dX4_append_30 rfl (lv_at hl 1 rfl) ?_
  refine lv_dup hx hb dX4_append_31 rfl ?_
  refine va_get (D := D) (ci := 4) (C := RX4) (T := TX4) (N := 2) hx hb hts iX4 hown hK hP 0 rfl rfl 1 (by decide) (hts _ m144) (fun _ h9 => h9) rfl dX4_append_32 ?_
  refine lv_iconst (v := 1) hx hb dX4_append_35 (by decide) ?_
  refine lv_iadd hx hb dX4_append_36 ?_
  refine eqi (v := 19) (by decide) ?_
  refine va_put (D := D) (ci := 4) (v := .int 19) (ty := .int) (C := RX4) (T := TX4) (N := 2) hx hb hts iX4 tyX4 tyX4_ok nmX4 hown hK hP hD hS 0 rfl rfl 1 (by decide) (hts _ m144) (fun _ h9 => h9) rfl (by decide +kernel) rfl rfl (Nat.le_of_ble_eq_true rfl) dX4_append_37 (fun H locs hP hD hS => ?_)
  have hP : va_P D vwCl [(h0, .inr (4, [.ref bb, .int 19])), (bb, .inl (T 1, 1600, .inl f_15))] H := hP
  have hD : va_D A [(h0, .inr (4, [.ref bb, .int 19])), (bb, .inl (T 1, 1600, .inl f_15))] := hD
  refine lv_iinc (v := 0) (lv' := [(2, .int 0), (0, .ref h0), (1, .int i1)]) hx hb dX4_append_40 hl (k := 0) rfl (by decide) (by decide) rfl (fun ls hl => ?_)
  refine lv_goto (tgt := 3) hx hb dX4_append_43 (by decide) ?_
  refine lv_iload_n hx hb dX4_append_3 rfl (lv_at hl 0 rfl) ?_
  refine lv_if_lt (tgt := 46) hx hb dX4_append_4 (by decide) (fun c_16 => absurd c_16 (by decide)) (fun _ => ?_)
  refine lv_aload_n hx hb dX4_append_7 rfl (lv_at hl 1 rfl) ?_
  refine va_get (D := D) (ci := 4) (C := RX4) (T := TX4) (N := 2) hx hb hts iX4 hown hK hP 0 rfl rfl 1 (by decide) (hts _ m144) (fun _ h9 => h9) rfl dX4_append_8 ?_
  refine lv_sipush (v := 1600) hx hb dX4_append_11 (by decide) ?_
  refine lv_icmp_ge (tgt := 46) hx hb dX4_append_14 (by decide) (fun c_17 => absurd c_17 (by decide)) (fun _ => ?_)
  refine lv_aload_n hx hb dX4_append_17 rfl (lv_at hl 1 rfl) ?_
  refine va_get (D := D) (ci := 4) (C := RX4) (T := TX4) (N := 2) hx hb hts iX4 hown hK hP 0 rfl rfl 0 (by decide) (hts _ m141) (fun _ h9 => h9) rfl dX4_append_18 ?_
  refine lv_aload_n hx hb dX4_append_21 rfl (lv_at hl 1 rfl) ?_
  refine va_get (D := D) (ci := 4) (C := RX4) (T := TX4) (N := 2) hx hb hts iX4 hown hK hP 0 rfl rfl 1 (by decide) (hts _ m144) (fun _ h9 => h9) rfl dX4_append_22 ?_
  refine lv_iload_n hx hb dX4_append_25 rfl (lv_at hl 2 rfl) ?_
  refine lv_iload_n hx hb dX4_append_26 rfl (lv_at hl 0 rfl) ?_
  refine lv_ishr hx hb dX4_append_27 ?_
  refine lv_topi (fun x_18 ex_18 => ?_)
  refine lv_i2b hx hb dX4_append_28 rfl ?_
  refine lv_topi (fun x_19 ex_19 => ?_)
  refine va_bast (D := D) hx hb hK hP hD hS 1 1 rfl rfl (by unfold vp_in; decide) dX4_append_29 (fun H locs hP hD hS => ?_)
  have hP : va_P D vwCl [(h0, .inr (4, [.ref bb, .int 19])), (bb, .inl (T 1, 1600, .inl (upd f_15 19 (vp_nar .byte x_19))))] H := hP
  have hD : va_D A [(h0, .inr (4, [.ref bb, .int 19])), (bb, .inl (T 1, 1600, .inl (upd f_15 19 (vp_nar .byte x_19))))] := hD
  generalize upd f_15 19 (vp_nar .byte x_19) = f_20 at hP hD
  refine lv_aload_n hx hb dX4_append_30 rfl (lv_at hl 1 rfl) ?_
  refine lv_dup hx hb dX4_append_31 rfl ?_
  refine va_get (D := D) (ci := 4) (C := RX4) (T := TX4) (N := 2) hx hb hts iX4 hown hK hP 0 rfl rfl 1 (by decide) (hts _ m144) (fun _ h9 => h9) rfl dX4_append_32 ?_
  refine lv_iconst (v := 1) hx hb dX4_append_35 (by decide) ?_
  refine lv_iadd hx hb dX4_append_36 ?_
  refine eqi (v := 20) (by decide) ?_
  refine va_put (D := D) (ci := 4) (v := .int 20) (ty := .int) (C := RX4) (T := TX4) (N := 2) hx hb hts iX4 tyX4 tyX4_ok nmX4 hown hK hP hD hS 0 rfl rfl 1 (by decide) (hts _ m144) (fun _ h9 => h9) rfl (by decide +kernel) rfl rfl (Nat.le_of_ble_eq_true rfl) dX4_append_37 (fun H locs hP hD hS => ?_)
  have hP : va_P D vwCl [(h0, .inr (4, [.ref bb, .int 20])), (bb, .inl (T 1, 1600, .inl f_20))] H := hP
  have hD : va_D A [(h0, .inr (4, [.ref bb, .int 20])), (bb, .inl (T 1, 1600, .inl f_20))] := hD
  refine lv_iinc (v := (-8)) (lv' := [(2, .int (-8)), (0, .ref h0), (1, .int i1)]) hx hb dX4_append_40 hl (k := 0) rfl (by decide) (by decide) rfl (fun ls hl => ?_)
  refine lv_goto (tgt := 3) hx hb dX4_append_43 (by decide) ?_
  refine lv_iload_n hx hb dX4_append_3 rfl (lv_at hl 0 rfl) ?_
  refine lv_if_lt (tgt := 46) hx hb dX4_append_4 (by decide) (fun _ => ?_) (fun c_21 => absurd (by decide) c_21)
  have hP9 := hP.sub (ws' := [(h0, .inr (4, [.ref bb, .int 20])), (bb, .inl (T 1, 1600, .inl f_20))]) [0, 1] rfl
  have hD9 := hD.sub (ws' := [(h0, .inr (4, [.ref bb, .int 20])), (bb, .inl (T 1, 1600, .inl f_20))]) [0, 1] (by decide) rfl
  exact W.vret hx hb hr (fun t ht hW => ⟨⟨(fun k => [].getD k 0, fun k => [f_20].getD k (fun _ => 0), fun k => ([] : List (Nat → Int64)).getD k (fun _ => 0), fun k => ([] : List Int32).getD k 0), rfl, trivial, by rw [ht]; exact hP9, hD9⟩, hS.F ht⟩) hS.2.2 dX4_append_46

set_option maxHeartbeats 4000000 in
set_option maxRecDepth 100000 in
theorem c_X10_feed (l : Launch) (D : va_G) (T : Nat → ClassId) (x0 a0 a1 a2 a15 a38 a130 a131 a132 a141 a144 a150 a151 : Nat) (i1 : Int32) (i2 : Int32) (i3 : Int32) (i4 : Int32) (i5 : Int32) (sz : Nat) : Met l yX10_feed (wM yX10_feed cX10_feed 6 (some .int)) ({ frames := 1, cells := 0, slots := 0, locals := 22 }) (va_Pc [.ref x0, .int i1, .int i2, .int i3, .int i4, .int i5] (pwM D T [(x0, .inr (10, [.ref a0, .ref a2, .ref a15, .ref a38, .ref a130, .ref a131, .ref a132, .ref a141, .ref a144, .ref a150, .ref a151])), (a0, .inr (4, [.ref a1, .int 0])), (a1, .inl (T 1, 1600, .inl (fun _ => 0)))] sz)) (va_Qi (fun (r : Int32) (u : Unit) => r = 20) (fun _ _ => True) (va_A [(x0, .inr (10, [.ref a0, .ref a2, .ref a15, .ref a38, .ref a130, .ref a131, .ref a132, .ref a141, .ref a144, .ref a150, .ref a151])), (a0, .inr (4, [.ref a1, .int 0])), (a1, .inl (T 1, 1600, .inl (fun _ => 0)))] sz)) 0 0 (va_A [(x0, .inr (10, [.ref a0, .ref a2, .ref a15, .ref a38, .ref a130, .ref a131, .ref a132, .ref a141, .ref a144, .ref a150, .ref a151])), (a0, .inr (4, [.ref a1, .int 0])), (a1, .inl (T 1, 1600, .inl (fun _ => 0)))] sz) := by
  refine Met.ofW (cc := cX10_feed) (maxL := 6) (ret := (some .int)) (by decide) rfl ?_
  intro p e s m args below meth c s₁ B hml hv
  obtain ⟨rfl, hsz, hP, hC, hD0⟩ := hv
  have hx := B.exec
  have hb := B.bytes
  have hr := B.returns
  have hts : ∀ w ∈ gt, w.before _ s = true := fun w hw => atoms_spec (ws := (wM yX10_feed cX10_feed 6 (some .int))) B.pre w (List.mem_cons_of_mem _ hw)
  have hown : s.vm.findClass RX10 = some m.cls := findClass_of_methodNamed B.named
  have hlocks := B.notSynchronized
  have hK := hC.1
  subst hsz
  have hD := hD0.self (sz := s.heap.size)
  generalize hAe : va_A [(x0, .inr (10, [.ref a0, .ref a2, .ref a15, .ref a38, .ref a130, .ref a131, .ref a132, .ref a141, .ref a144, .ref a150, .ref a151])), (a0, .inr (4, [.ref a1, .int 0])), (a1, .inl (T 1, 1600, .inl (fun _ => 0)))] s.heap.size = A at hD ⊢
  have hA : ∀ q : Nat, s.heap.size ≤ q → A q := fun q h => by rw [← hAe]; exact Or.inr h
  have hS : va_S A s.heap s.heap [] := va_S.rf
  have hl := lv_entry ([.ref x0, .int i1, .int i2, .int i3, .int i4, .int i5]) (n := 6) (Nat.le_of_ble_eq_true rfl)
  rw [lg_entry_eq]
  generalize (lg_sl ([.ref x0, .int i1, .int i2, .int i3, .int i4, .int i5]) ++ List.replicate (6 - (lg_sl ([.ref x0, .int i1, .int i2, .int i3, .int i4, .int i5])).length) Slot.unset).toArray = ls at hl ⊢
  have hl : lv_has ls 6 [(0, .ref x0), (1, .int i1), (2, .int i2), (3, .int i3), (4, .int i4), (5, .int i5)] := hl
  refine lv_aload_n hx hb dX10_feed_0 rfl (lv_at hl 0 rfl) ?_
  refine va_get (D := D) (ci := 10) (C := RX10) (T := TX10) (N := 11) hx hb hts iX10 hown hK hP 0 rfl rfl 0 (by decide) (hts _ m525) (fun _ h9 => h9) rfl dX10_feed_1 ?_
  refine va_get (D := D) (ci := 4) (C := RX4) (T := TX4) (N := 2) hx hb hts iX4 hown hK hP 1 rfl rfl 1 (by decide) (hts _ m143) (fun _ h9 => h9) rfl dX10_feed_4 ?_
  refine lv_bipush (v := 20) hx hb dX10_feed_7 (by decide) ?_
  refine lv_iadd hx hb dX10_feed_9 ?_
  refine eqi (v := 20) (by decide) ?_
  refine lv_sipush (v := 1600) hx hb dX10_feed_10 (by decide) ?_
  refine lv_icmp_le (tgt := 18) hx hb dX10_feed_13 (by decide) (fun _ => ?_) (fun c_1 => absurd (by decide) c_1)
  refine lv_aload_n hx hb dX10_feed_18 rfl (lv_at hl 0 rfl) ?_
  refine va_get (D := D) (ci := 10) (C := RX10) (T := TX10) (N := 11) hx hb hts iX10 hown hK hP 0 rfl rfl 0 (by decide) (hts _ m525) (fun _ h9 => h9) rfl dX10_feed_19 ?_
  refine lv_iload_n hx hb dX10_feed_22 rfl (lv_at hl 1 rfl) ?_
  refine mtV (wr := [(x0, .inr (10, [.ref a0, .ref a2, .ref a15, .ref a38, .ref a130, .ref a131, .ref a132, .ref a141, .ref a144, .ref a150, .ref a151]))]) (cV (As := [.int i1]) (rest := []) ⟨hx, hb, hml, hown, hts⟩ (c_X4_append_0 l D T a0 a1 (fun _ => 0) i1 _) k_X4_append v_X4_append m563 rfl rfl ⟨(Nat.le_of_ble_eq_true rfl), (Nat.le_of_ble_eq_true rfl)⟩ (preM hC (hP.sub (ws' := [(a0, .inr (4, [.ref a1, .int 0])), (a1, .inl (T 1, 1600, .inl (fun _ => 0)))]) [1, 2] rfl) (hD.sub (ws' := [(a0, .inr (4, [.ref a1, .int 0])), (a1, .inl (T 1, 1600, .inl (fun _ => 0)))]) [1, 2] (by decide) rfl)) (va_recv hK hP (ci := 4) (q0 := 1) rfl rfl) rfl hl.1 rfl (Nat.le_of_ble_eq_true rfl) dX10_feed_23 ⟨(Nat.le_of_ble_eq_true rfl), (Nat.le_of_ble_eq_true rfl)⟩) hS hA hP hD [1, 2] [0] rfl rfl (by decide) (by decide) (fun u_3 H locs hw hP hD hS => ?_)
  have hP : va_P D vwCl [(x0, .inr (10, [.ref a0, .ref a2, .ref a15, .ref a38, .ref a130, .ref a131, .ref a132, .ref a141, .ref a144, .ref a150, .ref a151])), (a0, .inr (4, [.ref a1, .int 4])), (a1, .inl (T 1, 1600, .inl (u_3.2.1 0)))] H := hP
  have hD : va_D A [(x0, .inr (10, [.ref a0, .ref a2, .ref a15, .ref a38, .ref a130, .ref a131, .ref a132, .ref a141, .ref a144, .ref a150, .ref a151])), (a0, .inr (4, [.ref a1, .int 4])), (a1, .inl (T 1, 1600, .inl (u_3.2.1 0)))] := hD
  refine lv_aload_n hx hb dX10_feed_26 rfl (lv_at hl 0 rfl) ?_
  refine va_get (D := D) (ci := 10) (C := RX10) (T := TX10) (N := 11) hx hb hts iX10 hown hK hP 0 rfl rfl 0 (by decide) (hts _ m525) (fun _ h9 => h9) rfl dX10_feed_27 ?_
  refine lv_iload_n hx hb dX10_feed_30 rfl (lv_at hl 2 rfl) ?_
  refine mtV (wr := [(x0, .inr (10, [.ref a0, .ref a2, .ref a15, .ref a38, .ref a130, .ref a131, .ref a132, .ref a141, .ref a144, .ref a150, .ref a151]))]) (cV (As := [.int i2]) (rest := []) ⟨hx, hb, hml, hown, hts⟩ (c_X4_append_4 l D T a0 a1 (u_3.2.1 0) i2 _) k_X4_append v_X4_append m563 rfl rfl ⟨(Nat.le_of_ble_eq_true rfl), (Nat.le_of_ble_eq_true rfl)⟩ (preM hC (hP.sub (ws' := [(a0, .inr (4, [.ref a1, .int 4])), (a1, .inl (T 1, 1600, .inl (u_3.2.1 0)))]) [1, 2] rfl) (hD.sub (ws' := [(a0, .inr (4, [.ref a1, .int 4])), (a1, .inl (T 1, 1600, .inl (u_3.2.1 0)))]) [1, 2] (by decide) rfl)) (va_recv hK hP (ci := 4) (q0 := 1) rfl rfl) rfl hl.1 rfl (Nat.le_of_ble_eq_true rfl) dX10_feed_31 ⟨(Nat.le_of_ble_eq_true rfl), (Nat.le_of_ble_eq_true rfl)⟩) hS hA hP hD [1, 2] [0] rfl rfl (by decide) (by decide) (fun u_5 H locs hw hP hD hS => ?_)
  have hP : va_P D vwCl [(x0, .inr (10, [.ref a0, .ref a2, .ref a15, .ref a38, .ref a130, .ref a131, .ref a132, .ref a141, .ref a144, .ref a150, .ref a151])), (a0, .inr (4, [.ref a1, .int 8])), (a1, .inl (T 1, 1600, .inl (u_5.2.1 0)))] H := hP
  have hD : va_D A [(x0, .inr (10, [.ref a0, .ref a2, .ref a15, .ref a38, .ref a130, .ref a131, .ref a132, .ref a141, .ref a144, .ref a150, .ref a151])), (a0, .inr (4, [.ref a1, .int 8])), (a1, .inl (T 1, 1600, .inl (u_5.2.1 0)))] := hD
  refine lv_aload_n hx hb dX10_feed_34 rfl (lv_at hl 0 rfl) ?_
  refine va_get (D := D) (ci := 10) (C := RX10) (T := TX10) (N := 11) hx hb hts iX10 hown hK hP 0 rfl rfl 0 (by decide) (hts _ m525) (fun _ h9 => h9) rfl dX10_feed_35 ?_
  refine lv_iload_n hx hb dX10_feed_38 rfl (lv_at hl 3 rfl) ?_
  refine mtV (wr := [(x0, .inr (10, [.ref a0, .ref a2, .ref a15, .ref a38, .ref a130, .ref a131, .ref a132, .ref a141, .ref a144, .ref a150, .ref a151]))]) (cV (As := [.int i3]) (rest := []) ⟨hx, hb, hml, hown, hts⟩ (c_X4_append_8 l D T a0 a1 (u_5.2.1 0) i3 _) k_X4_append v_X4_append m563 rfl rfl ⟨(Nat.le_of_ble_eq_true rfl), (Nat.le_of_ble_eq_true rfl)⟩ (preM hC (hP.sub (ws' := [(a0, .inr (4, [.ref a1, .int 8])), (a1, .inl (T 1, 1600, .inl (u_5.2.1 0)))]) [1, 2] rfl) (hD.sub (ws' := [(a0, .inr (4, [.ref a1, .int 8])), (a1, .inl (T 1, 1600, .inl (u_5.2.1 0)))]) [1, 2] (by decide) rfl)) (va_recv hK hP (ci := 4) (q0 := 1) rfl rfl) rfl hl.1 rfl (Nat.le_of_ble_eq_true rfl) dX10_feed_39 ⟨(Nat.le_of_ble_eq_true rfl), (Nat.le_of_ble_eq_true rfl)⟩) hS hA hP hD [1, 2] [0] rfl rfl (by decide) (by decide) (fun u_7 H locs hw hP hD hS => ?_)
  have hP : va_P D vwCl [(x0, .inr (10, [.ref a0, .ref a2, .ref a15, .ref a38, .ref a130, .ref a131, .ref a132, .ref a141, .ref a144, .ref a150, .ref a151])), (a0, .inr (4, [.ref a1, .int 12])), (a1, .inl (T 1, 1600, .inl (u_7.2.1 0)))] H := hP
  have hD : va_D A [(x0, .inr (10, [.ref a0, .ref a2, .ref a15, .ref a38, .ref a130, .ref a131, .ref a132, .ref a141, .ref a144, .ref a150, .ref a151])), (a0, .inr (4, [.ref a1, .int 12])), (a1, .inl (T 1, 1600, .inl (u_7.2.1 0)))] := hD
  refine lv_aload_n hx hb dX10_feed_42 rfl (lv_at hl 0 rfl) ?_
  refine va_get (D := D) (ci := 10) (C := RX10) (T := TX10) (N := 11) hx hb hts iX10 hown hK hP 0 rfl rfl 0 (by decide) (hts _ m525) (fun _ h9 => h9) rfl dX10_feed_43 ?_
  refine lv_iload hx hb dX10_feed_46 (lv_at hl 4 rfl) ?_
  refine mtV (wr := [(x0, .inr (10, [.ref a0, .ref a2, .ref a15, .ref a38, .ref a130, .ref a131, .ref a132, .ref a141, .ref a144, .ref a150, .ref a151]))]) (cV (As := [.int i4]) (rest := []) ⟨hx, hb, hml, hown, hts⟩ (c_X4_append_12 l D T a0 a1 (u_7.2.1 0) i4 _) k_X4_append v_X4_append m563 rfl rfl ⟨(Nat.le_of_ble_eq_true rfl), (Nat.le_of_ble_eq_true rfl)⟩ (preM hC (hP.sub (ws' := [(a0, .inr (4, [.ref a1, .int 12])), (a1, .inl (T 1, 1600, .inl (u_7.2.1 0)))]) [1, 2] rfl) (hD.sub (ws' := [(a0, .inr (4, [.ref a1, .int 12])), (a1, .inl (T 1, 1600, .inl (u_7.2.1 0)))]) [1, 2] (by decide) rfl)) (va_recv hK hP (ci := 4) (q0 := 1) rfl rfl) rfl hl.1 rfl (Nat.le_of_ble_eq_true rfl) dX10_feed_48 ⟨(Nat.le_of_ble_eq_true rfl), (Nat.le_of_ble_eq_true rfl)⟩) hS hA hP hD [1, 2] [0] rfl rfl (by decide) (by decide) (fun u_9 H locs hw hP hD hS => ?_)
  have hP : va_P D vwCl [(x0, .inr (10, [.ref a0, .ref a2, .ref a15, .ref a38, .ref a130, .ref a131, .ref a132, .ref a141, .ref a144, .ref a150, .ref a151])), (a0, .inr (4, [.ref a1, .int 16])), (a1, .inl (T 1, 1600, .inl (u_9.2.1 0)))] H := hP
  have hD : va_D A [(x0, .inr (10, [.ref a0, .ref a2, .ref a15, .ref a38, .ref a130, .ref a131, .ref a132, .ref a141, .ref a144, .ref a150, .ref a151])), (a0, .inr (4, [.ref a1, .int 16])), (a1, .inl (T 1, 1600, .inl (u_9.2.1 0)))] := hD
  refine lv_aload_n hx hb dX10_feed_51 rfl (lv_at hl 0 rfl) ?_
  refine va_get (D := D) (ci := 10) (C := RX10) (T := TX10) (N := 11) hx hb hts iX10 hown hK hP 0 rfl rfl 0 (by decide) (hts _ m525) (fun _ h9 => h9) rfl dX10_feed_52 ?_
  refine lv_iload hx hb dX10_feed_55 (lv_at hl 5 rfl) ?_
  refine mtV (wr := [(x0, .inr (10, [.ref a0, .ref a2, .ref a15, .ref a38, .ref a130, .ref a131, .ref a132, .ref a141, .ref a144, .ref a150, .ref a151]))]) (cV (As := [.int i5]) (rest := []) ⟨hx, hb, hml, hown, hts⟩ (c_X4_append_16 l D T a0 a1 (u_9.2.1 0) i5 _) k_X4_append v_X4_append m563 rfl rfl ⟨(Nat.le_of_ble_eq_true rfl), (Nat.le_of_ble_eq_true rfl)⟩ (preM hC (hP.sub (ws' := [(a0, .inr (4, [.ref a1, .int 16])), (a1, .inl (T 1, 1600, .inl (u_9.2.1 0)))]) [1, 2] rfl) (hD.sub (ws' := [(a0, .inr (4, [.ref a1, .int 16])), (a1, .inl (T 1, 1600, .inl (u_9.2.1 0)))]) [1, 2] (by decide) rfl)) (va_recv hK hP (ci := 4) (q0 := 1) rfl rfl) rfl hl.1 rfl (Nat.le_of_ble_eq_true rfl) dX10_feed_57 ⟨(Nat.le_of_ble_eq_true rfl), (Nat.le_of_ble_eq_true rfl)⟩) hS hA hP hD [1, 2] [0] rfl rfl (by decide) (by decide) (fun u_11 H locs hw hP hD hS => ?_)
  have hP : va_P D vwCl [(x0, .inr (10, [.ref a0, .ref a2, .ref a15, .ref a38, .ref a130, .ref a131, .ref a132, .ref a141, .ref a144, .ref a150, .ref a151])), (a0, .inr (4, [.ref a1, .int 20])), (a1, .inl (T 1, 1600, .inl (u_11.2.1 0)))] H := hP
  have hD : va_D A [(x0, .inr (10, [.ref a0, .ref a2, .ref a15, .ref a38, .ref a130, .ref a131, .ref a132, .ref a141, .ref a144, .ref a150, .ref a151])), (a0, .inr (4, [.ref a1, .int 20])), (a1, .inl (T 1, 1600, .inl (u_11.2.1 0)))] := hD
  refine lv_aload_n hx hb dX10_feed_60 rfl (lv_at hl 0 rfl) ?_
  refine va_get (D := D) (ci := 10) (C := RX10) (T := TX10) (N := 11) hx hb hts iX10 hown hK hP 0 rfl rfl 0 (by decide) (hts _ m525) (fun _ h9 => h9) rfl dX10_feed_61 ?_
  refine va_get (D := D) (ci := 4) (C := RX4) (T := TX4) (N := 2) hx hb hts iX4 hown hK hP 1 rfl rfl 1 (by decide) (hts _ m143) (fun _ h9 => h9) rfl dX10_feed_64 ?_
  exact W.iret (v := 20) hx hb hr (fun t ht hW => ⟨⟨20, (), rfl, rfl, trivial⟩, hS.F ht⟩) hS.2.2 dX10_feed_67
