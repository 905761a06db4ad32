set_option maxHeartbeats 4000000 in
set_option maxRecDepth 100000 in
theorem c_X8_noted (l : Launch) (D : va_G) (T : Nat → ClassId) (h0 z0 z1 z2 z3 z5 : Nat) (i1 i2 y5 y6 y7 y8 y9 : Int32) (sz : Nat) (h_y5 : 0 ≤ y5.toInt ∧ y5.toInt ≤ 16) (h_y6 : (-1) ≤ y6.toInt ∧ y6.toInt ≤ 16) : Met l yX8_noted (wM yX8_noted cX8_noted 3 (some .int)) ({ frames := 0, cells := 0, slots := 0, locals := 0 }) (va_Pc [.ref h0, .int i1, .int i2] (pwM D T [(h0, .inr (8, [.ref z0, .ref z1, .ref z2, .ref z3, .ref z5, .int y5, .int y6, .int y7, .int y8, .int y9]))] sz)) (va_Qi (fun (r : Int32) (u : U5) => (r.toInt = i2.toInt)) (fun u t => pwE D (va_A [(h0, .inr (8, [.ref z0, .ref z1, .ref z2, .ref z3, .ref z5, .int y5, .int y6, .int y7, .int y8, .int y9]))] sz) [(h0, .inr (8, [.ref z0, .ref z1, .ref z2, .ref z3, .ref z5, .int y5, .int y6, .int y7, .int y8, .int (u.2.2.2.1 0)]))] t) (va_A [(h0, .inr (8, [.ref z0, .ref z1, .ref z2, .ref z3, .ref z5, .int y5, .int y6, .int y7, .int y8, .int y9]))] sz)) 0 0 (va_A [(h0, .inr (8, [.ref z0, .ref z1, .ref z2, .ref z3, .ref z5, .int y5, .int y6, .int y7, .int y8, .int y9]))] sz) := by
  refine Met.ofW (cc := cX8_noted) (maxL := 3) (ret := (some .int)) (by decide) rfl ?_
  intro p e s m args below meth c s₁ B hml hv
  obtain ⟨rfl, hsz, hP, hC, hD0⟩ := hv
  have hx := B.exec
  have hb := B.bytes
  have hr := B.returns
  have hts : ∀ w ∈ gt, w.before _ s = true := fun w hw => atoms_spec (ws := (wM yX8_noted cX8_noted 3 (some .int))) B.pre w (List.mem_cons_of_mem _ hw)
  have hown : s.vm.findClass RX8 = some m.cls := findClass_of_methodNamed B.named
  have hlocks := B.notSynchronized
  have hK := hC.1
  subst hsz
  have hD := hD0.self (sz := s.heap.size)
  generalize hAe : va_A [(h0, .inr (8, [.ref z0, .ref z1, .ref z2, .ref z3, .ref z5, .int y5, .int y6, .int y7, .int y8, .int y9]))] s.heap.size = A at hD ⊢
  have hA : ∀ q : Nat, s.heap.size ≤ q → A q := fun q h => by rw [← hAe]; exact Or.inr h
  have hS : va_S A s.heap s.heap [] := va_S.rf
  have hl := lv_entry ([.ref h0, .int i1, .int i2]) (n := 3) (Nat.le_of_ble_eq_true rfl)
  rw [lg_entry_eq]
  generalize (lg_sl ([.ref h0, .int i1, .int i2]) ++ List.replicate (3 - (lg_sl ([.ref h0, .int i1, .int i2])).length) Slot.unset).toArray = ls at hl ⊢
  have hl : lv_has ls 3 [(0, .ref h0), (1, .int i1), (2, .int i2)] := hl
  refine lv_aload_n hx hb dX8_noted_0 rfl (lv_at hl 0 rfl) ?_
  refine lv_aload_n hx hb dX8_noted_1 rfl (lv_at hl 0 rfl) ?_
  refine va_get (D := D) (ci := 8) (C := RX8) (T := TX8) (N := 10) hx hb hts iX8 hown hK hP 0 rfl rfl 9 (by decide) (hts _ m479) (fun _ h9 => h9) rfl dX8_noted_2 ?_
  refine lv_if_ne (tgt := 13) hx hb dX8_noted_5 (by decide) (fun c_1 => ?_) (fun c_1 => ?_)
  · have c_1 : ¬ y9.toInt = 0 := fun h => c_1 ((c_eq (x := y9.toInt) (y := 0) rfl rfl).mpr h)
    refine lv_iconst (v := 1) hx hb dX8_noted_13 (by decide) ?_
    refine lv_goto (tgt := 18) hx hb dX8_noted_14 (by decide) ?_
    refine va_put (D := D) (ci := 8) (v := .int 1) (ty := .boolean) (C := RX8) (T := TX8) (N := 10) hx hb hts iX8 tyX8 tyX8_ok nmX8 hown hK hP hD hS 0 rfl rfl 9 (by decide) (hts _ m479) (fun _ h9 => h9) rfl (by decide +kernel) rfl rfl (Nat.le_of_ble_eq_true rfl) dX8_noted_18 (fun H locs hP hD hS => ?_)
    have hP : va_P D vwCl [(h0, .inr (8, [.ref z0, .ref z1, .ref z2, .ref z3, .ref z5, .int y5, .int y6, .int y7, .int y8, .int 1]))] H := hP
    have hD : va_D A [(h0, .inr (8, [.ref z0, .ref z1, .ref z2, .ref z3, .ref z5, .int y5, .int y6, .int y7, .int y8, .int 1]))] := hD
    refine lv_iload_n hx hb dX8_noted_21 rfl (lv_at hl 2 rfl) ?_
    have hP9 := hP.sub (ws' := [(h0, .inr (8, [.ref z0, .ref z1, .ref z2, .ref z3, .ref z5, .int y5, .int y6, .int y7, .int y8, .int 1]))]) [0] rfl
    have hD9 := hD.sub (ws' := [(h0, .inr (8, [.ref z0, .ref z1, .ref z2, .ref z3, .ref z5, .int y5, .int y6, .int y7, .int y8, .int 1]))]) [0] (by decide) rfl
    exact W.iret (v := i2) hx hb hr (fun t ht hW => ⟨⟨i2, (fun k => ([] : List (Nat)).getD k 0, fun k => ([] : List (Nat → Int32)).getD k (fun _ => 0), fun k => ([] : List (Nat → Int64)).getD k (fun _ => 0), fun k => ([1] : List (Int32)).getD k 0, fun k => ([] : List (Int64)).getD k 0), rfl, (show i2.toInt = i2.toInt by omega), by rw [ht]; exact hP9, hD9⟩, hS.F ht⟩) hS.2.2 dX8_noted_22
  · have c_1 : y9.toInt = 0 := (c_eq (x := y9.toInt) (y := 0) rfl rfl).mp c_1
    refine lv_iload_n hx hb dX8_noted_8 rfl (lv_at hl 1 rfl) ?_
    refine lv_iload_n hx hb dX8_noted_9 rfl (lv_at hl 2 rfl) ?_
    refine lv_icmp_eq (tgt := 17) hx hb dX8_noted_10 (by decide) (fun c_2 => ?_) (fun c_2 => ?_)
    · have c_2 : i1.toInt = i2.toInt := (c_eq (x := i1.toInt) (y := i2.toInt) rfl rfl).mp c_2
      refine lv_iconst (v := 0) hx hb dX8_noted_17 (by decide) ?_
      refine va_put (D := D) (ci := 8) (v := .int 0) (ty := .boolean) (C := RX8) (T := TX8) (N := 10) hx hb hts iX8 tyX8 tyX8_ok nmX8 hown hK hP hD hS 0 rfl rfl 9 (by decide) (hts _ m479) (fun _ h9 => h9) rfl (by decide +kernel) rfl rfl (Nat.le_of_ble_eq_true rfl) dX8_noted_18 (fun H locs hP hD hS => ?_)
      have hP : va_P D vwCl [(h0, .inr (8, [.ref z0, .ref z1, .ref z2, .ref z3, .ref z5, .int y5, .int y6, .int y7, .int y8, .int 0]))] H := hP
      have hD : va_D A [(h0, .inr (8, [.ref z0, .ref z1, .ref z2, .ref z3, .ref z5, .int y5, .int y6, .int y7, .int y8, .int 0]))] := hD
      refine lv_iload_n hx hb dX8_noted_21 rfl (lv_at hl 2 rfl) ?_
      have hP9 := hP.sub (ws' := [(h0, .inr (8, [.ref z0, .ref z1, .ref z2, .ref z3, .ref z5, .int y5, .int y6, .int y7, .int y8, .int 0]))]) [0] rfl
      have hD9 := hD.sub (ws' := [(h0, .inr (8, [.ref z0, .ref z1, .ref z2, .ref z3, .ref z5, .int y5, .int y6, .int y7, .int y8, .int 0]))]) [0] (by decide) rfl
      exact W.iret (v := i2) hx hb hr (fun t ht hW => ⟨⟨i2, (fun k => ([] : List (Nat)).getD k 0, fun k => ([] : List (Nat → Int32)).getD k (fun _ => 0), fun k => ([] : List (Nat → Int64)).getD k (fun _ => 0), fun k => ([0] : List (Int32)).getD k 0, fun k => ([] : List (Int64)).getD k 0), rfl, (show i2.toInt = i2.toInt by omega), by rw [ht]; exact hP9, hD9⟩, hS.F ht⟩) hS.2.2 dX8_noted_22
    · have c_2 : ¬ i1.toInt = i2.toInt := fun h => c_2 ((c_eq (x := i1.toInt) (y := i2.toInt) rfl rfl).mpr h)
      refine lv_iconst (v := 1) hx hb dX8_noted_13 (by decide) ?_
      refine lv_goto (tgt := 18) hx hb dX8_noted_14 (by decide) ?_
      refine va_put (D := D) (ci := 8) (v := .int 1) (ty := .boolean) (C := RX8) (T := TX8) (N := 10) hx hb hts iX8 tyX8 tyX8_ok nmX8 hown hK hP hD hS 0 rfl rfl 9 (by decide) (hts _ m479) (fun _ h9 => h9) rfl (by decide +kernel) rfl rfl (Nat.le_of_ble_eq_true rfl) dX8_noted_18 (fun H locs hP hD hS => ?_)
      have hP : va_P D vwCl [(h0, .inr (8, [.ref z0, .ref z1, .ref z2, .ref z3, .ref z5, .int y5, .int y6, .int y7, .int y8, .int 1]))] H := hP
      have hD : va_D A [(h0, .inr (8, [.ref z0, .ref z1, .ref z2, .ref z3, .ref z5, .int y5, .int y6, .int y7, .int y8, .int 1]))] := hD
      refine lv_iload_n hx hb dX8_noted_21 rfl (lv_at hl 2 rfl) ?_
      have hP9 := hP.sub (ws' := [(h0, .inr (8, [.ref z0, .ref z1, .ref z2, .ref z3, .ref z5, .int y5, .int y6, .int y7, .int y8, .int 1]))]) [0] rfl
      have hD9 := hD.sub (ws' := [(h0, .inr (8, [.ref z0, .ref z1, .ref z2, .ref z3, .ref z5, .int y5, .int y6, .int y7, .int y8, .int 1]))]) [0] (by decide) rfl
      exact W.iret (v := i2) hx hb hr (fun t ht hW => ⟨⟨i2, (fun k => ([] : List (Nat)).getD k 0, fun k => ([] : List (Nat → Int32)).getD k (fun _ => 0), fun k => ([] : List (Nat → Int64)).getD k (fun _ => 0), fun k => ([1] : List (Int32)).getD k 0, fun k => ([] : List (Int64)).getD k 0), rfl, (show i2.toInt = i2.toInt by omega), by rw [ht]; exact hP9, hD9⟩, hS.F ht⟩) hS.2.2 dX8_noted_22

set_option maxHeartbeats 4000000 in
set_option maxRecDepth 100000 in
theorem c_X8_joined (l : Launch) (D : va_G) (T : Nat → ClassId) (h0 z0 z1 z2 z3 z5 : Nat) (i1 i2 y5 y6 y7 y8 y9 : Int32) (h_y5 : 0 ≤ y5.toInt ∧ y5.toInt ≤ 16) (h_y6 : (-1) ≤ y6.toInt ∧ y6.toInt ≤ 16) : Met l yX8_joined (wM yX8_joined cX8_joined 3 (some .int)) ({ frames := 1, cells := 0, slots := 0, locals := 13 }) (va_Pc [.ref h0, .int i1, .int i2] (pwP D T [(h0, .inr (8, [.ref z0, .ref z1, .ref z2, .ref z3, .ref z5, .int y5, .int y6, .int y7, .int y8, .int y9]))])) (va_Qi (fun (r : Int32) (u : Unit) => True) (fun _ _ => True) (fun _ => False)) 0 0 (fun _ => False) := by
  refine Met.ofW (cc := cX8_joined) (maxL := 3) (ret := (some .int)) (by decide) rfl ?_
  intro p e s m args below meth c s₁ B hml hv
  obtain ⟨rfl, hP, hC⟩ := hv
  have hx := B.exec
  have hb := B.bytes
  have hr := B.returns
  have hts : ∀ w ∈ gt, w.before _ s = true := fun w hw => atoms_spec (ws := (wM yX8_joined cX8_joined 3 (some .int))) B.pre w (List.mem_cons_of_mem _ hw)
  have hown : s.vm.findClass RX8 = some m.cls := findClass_of_methodNamed B.named
  have hlocks := B.notSynchronized
  have hK := hC.1
  have hS : va_S (fun _ => False) s.heap s.heap [] := va_S.rf
  have hl := lv_entry ([.ref h0, .int i1, .int i2]) (n := 3) (Nat.le_of_ble_eq_true rfl)
  rw [lg_entry_eq]
  generalize (lg_sl ([.ref h0, .int i1, .int i2]) ++ List.replicate (3 - (lg_sl ([.ref h0, .int i1, .int i2])).length) Slot.unset).toArray = ls at hl ⊢
  have hl : lv_has ls 3 [(0, .ref h0), (1, .int i1), (2, .int i2)] := hl
  refine lv_aload_n hx hb dX8_joined_0 rfl (lv_at hl 0 rfl) ?_
  refine va_get (D := D) (ci := 8) (C := RX8) (T := TX8) (N := 10) hx hb hts iX8 hown hK hP 0 rfl rfl 8 (by decide) (hts _ m478) (fun _ h9 => h9) rfl dX8_joined_1 ?_
  refine lv_iconst (v := 1) hx hb dX8_joined_4 (by decide) ?_
  refine lv_icmp_ne (tgt := 16) hx hb dX8_joined_5 (by decide) (fun c_1 => ?_) (fun c_1 => ?_)
  · have c_1 : ¬ y8.toInt = 1 := fun h => c_1 ((c_eq (x := y8.toInt) (y := 1) rfl rfl).mpr h)
    refine lv_iload_n hx hb dX8_joined_16 rfl (lv_at hl 1 rfl) ?_
    refine lv_iload_n hx hb dX8_joined_17 rfl (lv_at hl 2 rfl) ?_
    refine lv_iadd hx hb dX8_joined_18 ?_
    refine lv_topi (fun x_2 ex_2 => ?_)
    exact W.iret (v := x_2) hx hb hr (fun t ht hW => ⟨⟨x_2, (), rfl, trivial, trivial⟩, hS.F ht⟩) hS.2.2 dX8_joined_19
  · have c_1 : y8.toInt = 1 := (c_eq (x := y8.toInt) (y := 1) rfl rfl).mp c_1
    refine lv_iload_n hx hb dX8_joined_8 rfl (lv_at hl 1 rfl) ?_
    refine lv_iload_n hx hb dX8_joined_9 rfl (lv_at hl 2 rfl) ?_
    refine va_mmax hx hb (by rw [hml]; exact hl.1.symm) hown (hts _ m1145) (hts _ m826) (hts _ m123) (hts _ m827) (Nat.le_of_ble_eq_true rfl) (Nat.le_of_ble_eq_true rfl) (Nat.le_of_ble_eq_true rfl) (Nat.le_of_ble_eq_true rfl) dX8_joined_10 ?_
    refine lv_topi (fun x_3 ex_3 => ?_)
    refine lv_goto (tgt := 19) hx hb dX8_joined_13 (by decide) ?_
    exact W.iret (v := x_3) hx hb hr (fun t ht hW => ⟨⟨x_3, (), rfl, trivial, trivial⟩, hS.F ht⟩) hS.2.2 dX8_joined_19

set_option maxHeartbeats 4000000 in
set_option maxRecDepth 100000 in
theorem c_X8_settle (l : Launch) (D : va_G) (T : Nat → ClassId) (h0 z0 z1 z2 z3 z5 : Nat) (i2 i3 i4 y5 y6 y7 y8 y9 : Int32) (v1 : Int64) (j0 j1 j2 : Nat → Int64) (sz : Nat) (h_y5 : 0 ≤ y5.toInt ∧ y5.toInt ≤ 16) (h_y6 : (-1) ≤ y6.toInt ∧ y6.toInt ≤ 16) (h_i2 : 0 ≤ i2.toInt ∧ i2.toInt ≤ 16) : Met l yX8_settle (wM yX8_settle cX8_settle 7 none) ({ frames := 0, cells := 0, slots := 0, locals := 0 }) (va_Pc [.ref h0, .long v1, .int i2, .int i3, .int i4] (pwM D T [(h0, .inr (8, [.ref z0, .ref z1, .ref z2, .ref z3, .ref z5, .int y5, .int y6, .int y7, .int y8, .int y9])), (z0, .inl (T 2, 3, .inr (.inl j0))), (z1, .inl (T 2, 17, .inr (.inl j1))), (z2, .inl (T 2, 2, .inr (.inl j2)))] sz)) (va_Qv (fun (u : U5) => True) (fun u t => pwE D (va_A [(h0, .inr (8, [.ref z0, .ref z1, .ref z2, .ref z3, .ref z5, .int y5, .int y6, .int y7, .int y8, .int y9])), (z0, .inl (T 2, 3, .inr (.inl j0))), (z1, .inl (T 2, 17, .inr (.inl j1))), (z2, .inl (T 2, 2, .inr (.inl j2)))] sz) [(h0, .inr (8, [.ref z0, .ref z1, .ref z2, .ref z3, .ref z5, .int y5, .int y6, .int y7, .int y8, .int y9])), (z0, .inl (T 2, 3, .inr (.inl (u.2.2.1 0)))), (z1, .inl (T 2, 17, .inr (.inl (u.2.2.1 1)))), (z2, .inl (T 2, 2, .inr (.inl (u.2.2.1 2))))] t) (va_A [(h0, .inr (8, [.ref z0, .ref z1, .ref z2, .ref z3, .ref z5, .int y5, .int y6, .int y7, .int y8, .int y9])), (z0, .inl (T 2, 3, .inr (.inl j0))), (z1, .inl (T 2, 17, .inr (.inl j1))), (z2, .inl (T 2, 2, .inr (.inl j2)))] sz)) 0 0 (va_A [(h0, .inr (8, [.ref z0, .ref z1, .ref z2, .ref z3, .ref z5, .int y5, .int y6, .int y7, .int y8, .int y9])), (z0, .inl (T 2, 3, .inr (.inl j0))), (z1, .inl (T 2, 17, .inr (.inl j1))), (z2, .inl (T 2, 2, .inr (.inl j2)))] sz) := by
  refine Met.ofW (cc := cX8_settle) (maxL := 7) (ret := none) (by decide) rfl ?_
  intro p e s m args below meth c s₁ B hml hv
  obtain ⟨rfl, hsz, hP, hC, hD0⟩ := hv
  have hx := B.exec
  have hb := B.bytes
  have hr := B.returns
  have hts : ∀ w ∈ gt, w.before _ s = true := fun w hw => atoms_spec (ws := (wM yX8_settle cX8_settle 7 none)) B.pre w (List.mem_cons_of_mem _ hw)
  have hown : s.vm.findClass RX8 = some m.cls := findClass_of_methodNamed B.named
  have hlocks := B.notSynchronized
  have hK := hC.1
  subst hsz
  have hD := hD0.self (sz := s.heap.size)
  generalize hAe : va_A [(h0, .inr (8, [.ref z0, .ref z1, .ref z2, .ref z3, .ref z5, .int y5, .int y6, .int y7, .int y8, .int y9])), (z0, .inl (T 2, 3, .inr (.inl j0))), (z1, .inl (T 2, 17, .inr (.inl j1))), (z2, .inl (T 2, 2, .inr (.inl j2)))] s.heap.size = A at hD ⊢
  have hA : ∀ q : Nat, s.heap.size ≤ q → A q := fun q h => by rw [← hAe]; exact Or.inr h
  have hS : va_S A s.heap s.heap [] := va_S.rf
  have hl := lv_entry ([.ref h0, .long v1, .int i2, .int i3, .int i4]) (n := 7) (Nat.le_of_ble_eq_true rfl)
  rw [lg_entry_eq]
  generalize (lg_sl ([.ref h0, .long v1, .int i2, .int i3, .int i4]) ++ List.replicate (7 - (lg_sl ([.ref h0, .long v1, .int i2, .int i3, .int i4])).length) Slot.unset).toArray = ls at hl ⊢
  have hl : lv_has ls 7 [(0, .ref h0), (1, .long v1), (3, .int i2), (4, .int i3), (5, .int i4)] := hl
  refine lv_iload hx hb dX8_settle_0 (lv_at hl 3 rfl) ?_
  refine lv_iload hx hb dX8_settle_2 (lv_at hl 4 rfl) ?_
  refine lv_icmp_ne (tgt := 11) hx hb dX8_settle_4 (by decide) (fun c_1 => ?_) (fun c_1 => ?_)
  · have c_1 : ¬ i3.toInt = i4.toInt := fun h => c_1 ((c_eq (x := i3.toInt) (y := i4.toInt) rfl rfl).mpr h)
    refine lv_iload hx hb dX8_settle_11 (lv_at hl 3 rfl) ?_
    refine lv_iload hx hb dX8_settle_13 (lv_at hl 4 rfl) ?_
    refine lv_icmp_le (tgt := 22) hx hb dX8_settle_15 (by decide) (fun c_2 => ?_) (fun c_2 => ?_)
    · have c_2 : i3.toInt ≤ i4.toInt := (c_le (x := i3.toInt) (y := i4.toInt) rfl rfl).mp c_2
      refine lv_iconst (v := 1) hx hb dX8_settle_22 (by decide) ?_
      refine lv_istore (lv' := [(6, .int 1), (0, .ref h0), (1, .long v1), (3, .int i2), (4, .int i3), (5, .int i4)]) hx hb dX8_settle_23 hl (by decide) rfl (fun ls hl => ?_)
      refine lv_aload_n hx hb dX8_settle_25 rfl (lv_at hl 1 rfl) ?_
      refine va_get (D := D) (ci := 8) (C := RX8) (T := TX8) (N := 10) hx hb hts iX8 hown hK hP 0 rfl rfl 0 (by decide) (hts _ m467) (fun _ h9 => h9) rfl dX8_settle_26 ?_
      refine lv_iload hx hb dX8_settle_29 (lv_at hl 0 rfl) ?_
      refine lv_dup2_11 hx hb dX8_settle_31 rfl rfl ?_
      refine va_lald (D := D) hx hb hK hP 1 2 rfl rfl (by unfold vp_in; decide) dX8_settle_32 ?_
      refine lv_topl (fun x_3 ex_3 => ?_)
      refine lv_lload_n hx hb dX8_settle_33 rfl (lv_at hl 2 rfl) ?_
      refine lv_ladd hx hb dX8_settle_34 ?_
      refine lv_topl (fun x_4 ex_4 => ?_)
      refine va_last (D := D) hx hb hK hP hD hS 1 2 rfl rfl (by unfold vp_in; decide) dX8_settle_35 (fun H locs hP hD hS => ?_)
      obtain ⟨f_5, hf_5⟩ : ∃ g : Nat → Int64, g = vp_updL j0 (1 : Int32).toNatClampNeg x_4 := ⟨_, rfl⟩
      have hP : va_P D vwCl [(h0, .inr (8, [.ref z0, .ref z1, .ref z2, .ref z3, .ref z5, .int y5, .int y6, .int y7, .int y8, .int y9])), (z0, .inl (T 2, 3, .inr (.inl (vp_updL j0 (1 : Int32).toNatClampNeg x_4)))), (z1, .inl (T 2, 17, .inr (.inl j1))), (z2, .inl (T 2, 2, .inr (.inl j2)))] H := hP
      have hD : va_D A [(h0, .inr (8, [.ref z0, .ref z1, .ref z2, .ref z3, .ref z5, .int y5, .int y6, .int y7, .int y8, .int y9])), (z0, .inl (T 2, 3, .inr (.inl (vp_updL j0 (1 : Int32).toNatClampNeg x_4)))), (z1, .inl (T 2, 17, .inr (.inl j1))), (z2, .inl (T 2, 2, .inr (.inl j2)))] := hD
      rw [← hf_5] at hP hD
      refine lv_aload_n hx hb dX8_settle_36 rfl (lv_at hl 1 rfl) ?_
      refine va_get (D := D) (ci := 8) (C := RX8) (T := TX8) (N := 10) hx hb hts iX8 hown hK hP 0 rfl rfl 1 (by decide) (hts _ m469) (fun _ h9 => h9) rfl dX8_settle_37 ?_
      refine lv_iload_n hx hb dX8_settle_40 rfl (lv_at hl 3 rfl) ?_
      refine lv_dup2_11 hx hb dX8_settle_41 rfl rfl ?_
      refine va_lald (D := D) hx hb hK hP 2 2 rfl rfl (v_in (x := i2.toInt) rfl (by omega) (by omega)) dX8_settle_42 ?_
      refine lv_topl (fun x_6 ex_6 => ?_)
      refine lv_lload_n hx hb dX8_settle_43 rfl (lv_at hl 2 rfl) ?_
      refine lv_ladd hx hb dX8_settle_44 ?_
      refine lv_topl (fun x_7 ex_7 => ?_)
      refine va_last (D := D) hx hb hK hP hD hS 2 2 rfl rfl (v_in (x := i2.toInt) rfl (by omega) (by omega)) dX8_settle_45 (fun H locs hP hD hS => ?_)
      obtain ⟨f_8, hf_8⟩ : ∃ g : Nat → Int64, g = vp_updL j1 i2.toNatClampNeg x_7 := ⟨_, rfl⟩
      have hP : va_P D vwCl [(h0, .inr (8, [.ref z0, .ref z1, .ref z2, .ref z3, .ref z5, .int y5, .int y6, .int y7, .int y8, .int y9])), (z0, .inl (T 2, 3, .inr (.inl f_5))), (z1, .inl (T 2, 17, .inr (.inl (vp_updL j1 i2.toNatClampNeg x_7)))), (z2, .inl (T 2, 2, .inr (.inl j2)))] H := hP
      have hD : va_D A [(h0, .inr (8, [.ref z0, .ref z1, .ref z2, .ref z3, .ref z5, .int y5, .int y6, .int y7, .int y8, .int y9])), (z0, .inl (T 2, 3, .inr (.inl f_5))), (z1, .inl (T 2, 17, .inr (.inl (vp_updL j1 i2.toNatClampNeg x_7)))), (z2, .inl (T 2, 2, .inr (.inl j2)))] := hD
      rw [← hf_8] at hP hD
      refine lv_aload_n hx hb dX8_settle_46 rfl (lv_at hl 1 rfl) ?_
      refine va_get (D := D) (ci := 8) (C := RX8) (T := TX8) (N := 10) hx hb hts iX8 hown hK hP 0 rfl rfl 2 (by decide) (hts _ m471) (fun _ h9 => h9) rfl dX8_settle_47 ?_
      refine lv_iconst (v := 0) hx hb dX8_settle_50 (by decide) ?_
      refine lv_dup2_11 hx hb dX8_settle_51 rfl rfl ?_
      refine va_lald (D := D) hx hb hK hP 3 2 rfl rfl (by unfold vp_in; decide) dX8_settle_52 ?_
      refine lv_topl (fun x_9 ex_9 => ?_)
      refine lv_lload_n hx hb dX8_settle_53 rfl (lv_at hl 2 rfl) ?_
      refine lv_iload hx hb dX8_settle_54 (lv_at hl 4 rfl) ?_
      refine lv_i2l hx hb dX8_settle_56 rfl ?_
      refine lv_lmul hx hb dX8_settle_57 ?_
      refine lv_topl (fun x_10 ex_10 => ?_)
      refine lv_ladd hx hb dX8_settle_58 ?_
      refine lv_topl (fun x_11 ex_11 => ?_)
      refine va_last (D := D) hx hb hK hP hD hS 3 2 rfl rfl (by unfold vp_in; decide) dX8_settle_59 (fun H locs hP hD hS => ?_)
      obtain ⟨f_12, hf_12⟩ : ∃ g : Nat → Int64, g = vp_updL j2 (0 : Int32).toNatClampNeg x_11 := ⟨_, rfl⟩
      have hP : va_P D vwCl [(h0, .inr (8, [.ref z0, .ref z1, .ref z2, .ref z3, .ref z5, .int y5, .int y6, .int y7, .int y8, .int y9])), (z0, .inl (T 2, 3, .inr (.inl f_5))), (z1, .inl (T 2, 17, .inr (.inl f_8))), (z2, .inl (T 2, 2, .inr (.inl (vp_updL j2 (0 : Int32).toNatClampNeg x_11))))] H := hP
      have hD : va_D A [(h0, .inr (8, [.ref z0, .ref z1, .ref z2, .ref z3, .ref z5, .int y5, .int y6, .int y7, .int y8, .int y9])), (z0, .inl (T 2, 3, .inr (.inl f_5))), (z1, .inl (T 2, 17, .inr (.inl f_8))), (z2, .inl (T 2, 2, .inr (.inl (vp_updL j2 (0 : Int32).toNatClampNeg x_11))))] := hD
      rw [← hf_12] at hP hD
      refine lv_aload_n hx hb dX8_settle_60 rfl (lv_at hl 1 rfl) ?_
      refine va_get (D := D) (ci := 8) (C := RX8) (T := TX8) (N := 10) hx hb hts iX8 hown hK hP 0 rfl rfl 2 (by decide) (hts _ m471) (fun _ h9 => h9) rfl dX8_settle_61 ?_
      refine lv_iconst (v := 1) hx hb dX8_settle_64 (by decide) ?_
      refine lv_dup2_11 hx hb dX8_settle_65 rfl rfl ?_
      refine va_lald (D := D) hx hb hK hP 3 2 rfl rfl (by unfold vp_in; decide) dX8_settle_66 ?_
      refine lv_topl (fun x_13 ex_13 => ?_)
      refine lv_lload_n hx hb dX8_settle_67 rfl (lv_at hl 2 rfl) ?_
      refine lv_iload hx hb dX8_settle_68 (lv_at hl 5 rfl) ?_
      refine lv_i2l hx hb dX8_settle_70 rfl ?_
      refine lv_lmul hx hb dX8_settle_71 ?_
      refine lv_topl (fun x_14 ex_14 => ?_)
      refine lv_ladd hx hb dX8_settle_72 ?_
      refine lv_topl (fun x_15 ex_15 => ?_)
      refine va_last (D := D) hx hb hK hP hD hS 3 2 rfl rfl (by unfold vp_in; decide) dX8_settle_73 (fun H locs hP hD hS => ?_)
      obtain ⟨f_16, hf_16⟩ : ∃ g : Nat → Int64, g = vp_updL f_12 (1 : Int32).toNatClampNeg x_15 := ⟨_, rfl⟩
      have hP : va_P D vwCl [(h0, .inr (8, [.ref z0, .ref z1, .ref z2, .ref z3, .ref z5, .int y5, .int y6, .int y7, .int y8, .int y9])), (z0, .inl (T 2, 3, .inr (.inl f_5))), (z1, .inl (T 2, 17, .inr (.inl f_8))), (z2, .inl (T 2, 2, .inr (.inl (vp_updL f_12 (1 : Int32).toNatClampNeg x_15))))] H := hP
      have hD : va_D A [(h0, .inr (8, [.ref z0, .ref z1, .ref z2, .ref z3, .ref z5, .int y5, .int y6, .int y7, .int y8, .int y9])), (z0, .inl (T 2, 3, .inr (.inl f_5))), (z1, .inl (T 2, 17, .inr (.inl f_8))), (z2, .inl (T 2, 2, .inr (.inl (vp_updL f_12 (1 : Int32).toNatClampNeg x_15))))] := hD
      rw [← hf_16] at hP hD
      have hP9 := hP.sub (ws' := [(h0, .inr (8, [.ref z0, .ref z1, .ref z2, .ref z3, .ref z5, .int y5, .int y6, .int y7, .int y8, .int y9])), (z0, .inl (T 2, 3, .inr (.inl f_5))), (z1, .inl (T 2, 17, .inr (.inl f_8))), (z2, .inl (T 2, 2, .inr (.inl f_16)))]) [0, 1, 2, 3] rfl
      have hD9 := hD.sub (ws' := [(h0, .inr (8, [.ref z0, .ref z1, .ref z2, .ref z3, .ref z5, .int y5, .int y6, .int y7, .int y8, .int y9])), (z0, .inl (T 2, 3, .inr (.inl f_5))), (z1, .inl (T 2, 17, .inr (.inl f_8))), (z2, .inl (T 2, 2, .inr (.inl f_16)))]) [0, 1, 2, 3] (by decide) rfl
      exact W.vret hx hb hr (fun t ht hW => ⟨⟨(fun k => ([] : List (Nat)).getD k 0, fun k => ([] : List (Nat → Int32)).getD k (fun _ => 0), fun k => ([f_5, f_8, f_16] : List (Nat → Int64)).getD k (fun _ => 0), fun k => ([] : List (Int32)).getD k 0, fun k => ([] : List (Int64)).getD k 0), rfl, trivial, by rw [ht]; exact hP9, hD9⟩, hS.F ht⟩) hS.2.2 dX8_settle_74
    · have c_2 : i4.toInt < i3.toInt := by have h := mt (c_le (x := i3.toInt) (y := i4.toInt) rfl rfl).mpr c_2; omega
      refine lv_iconst (v := 0) hx hb dX8_settle_18 (by decide) ?_
      refine lv_goto (tgt := 23) hx hb dX8_settle_19 (by decide) ?_
      refine lv_istore (lv' := [(6, .int 0), (0, .ref h0), (1, .long v1), (3, .int i2), (4, .int i3), (5, .int i4)]) hx hb dX8_settle_23 hl (by decide) rfl (fun ls hl => ?_)
      refine lv_aload_n hx hb dX8_settle_25 rfl (lv_at hl 1 rfl) ?_
      refine va_get (D := D) (ci := 8) (C := RX8) (T := TX8) (N := 10) hx hb hts iX8 hown hK hP 0 rfl rfl 0 (by decide) (hts _ m467) (fun _ h9 => h9) rfl dX8_settle_26 ?_
      refine lv_iload hx hb dX8_settle_29 (lv_at hl 0 rfl) ?_
      refine lv_dup2_11 hx hb dX8_settle_31 rfl rfl ?_
      refine va_lald (D := D) hx hb hK hP 1 2 rfl rfl (by unfold vp_in; decide) dX8_settle_32 ?_
      refine lv_topl (fun x_17 ex_17 => ?_)
      refine lv_lload_n hx hb dX8_settle_33 rfl (lv_at hl 2 rfl) ?_
      refine lv_ladd hx hb dX8_settle_34 ?_
      refine lv_topl (fun x_18 ex_18 => ?_)
      refine va_last (D := D) hx hb hK hP hD hS 1 2 rfl rfl (by unfold vp_in; decide) dX8_settle_35 (fun H locs hP hD hS => ?_)
      obtain ⟨f_19, hf_19⟩ : ∃ g : Nat → Int64, g = vp_updL j0 (0 : Int32).toNatClampNeg x_18 := ⟨_, rfl⟩
      have hP : va_P D vwCl [(h0, .inr (8, [.ref z0, .ref z1, .ref z2, .ref z3, .ref z5, .int y5, .int y6, .int y7, .int y8, .int y9])), (z0, .inl (T 2, 3, .inr (.inl (vp_updL j0 (0 : Int32).toNatClampNeg x_18)))), (z1, .inl (T 2, 17, .inr (.inl j1))), (z2, .inl (T 2, 2, .inr (.inl j2)))] H := hP
      have hD : va_D A [(h0, .inr (8, [.ref z0, .ref z1, .ref z2, .ref z3, .ref z5, .int y5, .int y6, .int y7, .int y8, .int y9])), (z0, .inl (T 2, 3, .inr (.inl (vp_updL j0 (0 : Int32).toNatClampNeg x_18)))), (z1, .inl (T 2, 17, .inr (.inl j1))), (z2, .inl (T 2, 2, .inr (.inl j2)))] := hD
      rw [← hf_19] at hP hD
      refine lv_aload_n hx hb dX8_settle_36 rfl (lv_at hl 1 rfl) ?_
      refine va_get (D := D) (ci := 8) (C := RX8) (T := TX8) (N := 10) hx hb hts iX8 hown hK hP 0 rfl rfl 1 (by decide) (hts _ m469) (fun _ h9 => h9) rfl dX8_settle_37 ?_
      refine lv_iload_n hx hb dX8_settle_40 rfl (lv_at hl 3 rfl) ?_
      refine lv_dup2_11 hx hb dX8_settle_41 rfl rfl ?_
      refine va_lald (D := D) hx hb hK hP 2 2 rfl rfl (v_in (x := i2.toInt) rfl (by omega) (by omega)) dX8_settle_42 ?_
      refine lv_topl (fun x_20 ex_20 => ?_)
      refine lv_lload_n hx hb dX8_settle_43 rfl (lv_at hl 2 rfl) ?_
      refine lv_ladd hx hb dX8_settle_44 ?_
      refine lv_topl (fun x_21 ex_21 => ?_)
      refine va_last (D := D) hx hb hK hP hD hS 2 2 rfl rfl (v_in (x := i2.toInt) rfl (by omega) (by omega)) dX8_settle_45 (fun H locs hP hD hS => ?_)
      obtain ⟨f_22, hf_22⟩ : ∃ g : Nat → Int64, g = vp_updL j1 i2.toNatClampNeg x_21 := ⟨_, rfl⟩
      have hP : va_P D vwCl [(h0, .inr (8, [.ref z0, .ref z1, .ref z2, .ref z3, .ref z5, .int y5, .int y6, .int y7, .int y8, .int y9])), (z0, .inl (T 2, 3, .inr (.inl f_19))), (z1, .inl (T 2, 17, .inr (.inl (vp_updL j1 i2.toNatClampNeg x_21)))), (z2, .inl (T 2, 2, .inr (.inl j2)))] H := hP
      have hD : va_D A [(h0, .inr (8, [.ref z0, .ref z1, .ref z2, .ref z3, .ref z5, .int y5, .int y6, .int y7, .int y8, .int y9])), (z0, .inl (T 2, 3, .inr (.inl f_19))), (z1, .inl (T 2, 17, .inr (.inl (vp_updL j1 i2.toNatClampNeg x_21)))), (z2, .inl (T 2, 2, .inr (.inl j2)))] := hD
      rw [← hf_22] at hP hD
      refine lv_aload_n hx hb dX8_settle_46 rfl (lv_at hl 1 rfl) ?_
      refine va_get (D := D) (ci := 8) (C := RX8) (T := TX8) (N := 10) hx hb hts iX8 hown hK hP 0 rfl rfl 2 (by decide) (hts _ m471) (fun _ h9 => h9) rfl dX8_settle_47 ?_
      refine lv_iconst (v := 0) hx hb dX8_settle_50 (by decide) ?_
      refine lv_dup2_11 hx hb dX8_settle_51 rfl rfl ?_
      refine va_lald (D := D) hx hb hK hP 3 2 rfl rfl (by unfold vp_in; decide) dX8_settle_52 ?_
      refine lv_topl (fun x_23 ex_23 => ?_)
      refine lv_lload_n hx hb dX8_settle_53 rfl (lv_at hl 2 rfl) ?_
      refine lv_iload hx hb dX8_settle_54 (lv_at hl 4 rfl) ?_
      refine lv_i2l hx hb dX8_settle_56 rfl ?_
      refine lv_lmul hx hb dX8_settle_57 ?_
      refine lv_topl (fun x_24 ex_24 => ?_)
      refine lv_ladd hx hb dX8_settle_58 ?_
      refine lv_topl (fun x_25 ex_25 => ?_)
      refine va_last (D := D) hx hb hK hP hD hS 3 2 rfl rfl (by unfold vp_in; decide) dX8_settle_59 (fun H locs hP hD hS => ?_)
      obtain ⟨f_26, hf_26⟩ : ∃ g : Nat → Int64, g = vp_updL j2 (0 : Int32).toNatClampNeg x_25 := ⟨_, rfl⟩
      have hP : va_P D vwCl [(h0, .inr (8, [.ref z0, .ref z1, .ref z2, .ref z3, .ref z5, .int y5, .int y6, .int y7, .int y8, .int y9])), (z0, .inl (T 2, 3, .inr (.inl f_19))), (z1, .inl (T 2, 17, .inr (.inl f_22))), (z2, .inl (T 2, 2, .inr (.inl (vp_updL j2 (0 : Int32).toNatClampNeg x_25))))] H := hP
      have hD : va_D A [(h0, .inr (8, [.ref z0, .ref z1, .ref z2, .ref z3, .ref z5, .int y5, .int y6, .int y7, .int y8, .int y9])), (z0, .inl (T 2, 3, .inr (.inl f_19))), (z1, .inl (T 2, 17, .inr (.inl f_22))), (z2, .inl (T 2, 2, .inr (.inl (vp_updL j2 (0 : Int32).toNatClampNeg x_25))))] := hD
      rw [← hf_26] at hP hD
      refine lv_aload_n hx hb dX8_settle_60 rfl (lv_at hl 1 rfl) ?_
      refine va_get (D := D) (ci := 8) (C := RX8) (T := TX8) (N := 10) hx hb hts iX8 hown hK hP 0 rfl rfl 2 (by decide) (hts _ m471) (fun _ h9 => h9) rfl dX8_settle_61 ?_
      refine lv_iconst (v := 1) hx hb dX8_settle_64 (by decide) ?_
      refine lv_dup2_11 hx hb dX8_settle_65 rfl rfl ?_
      refine va_lald (D := D) hx hb hK hP 3 2 rfl rfl (by unfold vp_in; decide) dX8_settle_66 ?_
      refine lv_topl (fun x_27 ex_27 => ?_)
      refine lv_lload_n hx hb dX8_settle_67 rfl (lv_at hl 2 rfl) ?_
      refine lv_iload hx hb dX8_settle_68 (lv_at hl 5 rfl) ?_
      refine lv_i2l hx hb dX8_settle_70 rfl ?_
      refine lv_lmul hx hb dX8_settle_71 ?_
      refine lv_topl (fun x_28 ex_28 => ?_)
      refine lv_ladd hx hb dX8_settle_72 ?_
      refine lv_topl (fun x_29 ex_29 => ?_)
      refine va_last (D := D) hx hb hK hP hD hS 3 2 rfl rfl (by unfold vp_in; decide) dX8_settle_73 (fun H locs hP hD hS => ?_)
      obtain ⟨f_30, hf_30⟩ : ∃ g : Nat → Int64, g = vp_updL f_26 (1 : Int32).toNatClampNeg x_29 := ⟨_, rfl⟩
      have hP : va_P D vwCl [(h0, .inr (8, [.ref z0, .ref z1, .ref z2, .ref z3, .ref z5, .int y5, .int y6, .int y7, .int y8, .int y9])), (z0, .inl (T 2, 3, .inr (.inl f_19))), (z1, .inl (T 2, 17, .inr (.inl f_22))), (z2, .inl (T 2, 2, .inr (.inl (vp_updL f_26 (1 : Int32).toNatClampNeg x_29))))] H := hP
      have hD : va_D A [(h0, .inr (8, [.ref z0, .ref z1, .ref z2, .ref z3, .ref z5, .int y5, .int y6, .int y7, .int y8, .int y9])), (z0, .inl (T 2, 3, .inr (.inl f_19))), (z1, .inl (T 2, 17, .inr (.inl f_22))), (z2, .inl (T 2, 2, .inr (.inl (vp_updL f_26 (1 : Int32).toNatClampNeg x_29))))] := hD
      rw [← hf_30] at hP hD
      have hP9 := hP.sub (ws' := [(h0, .inr (8, [.ref z0, .ref z1, .ref z2, .ref z3, .ref z5, .int y5, .int y6, .int y7, .int y8, .int y9])), (z0, .inl (T 2, 3, .inr (.inl f_19))), (z1, .inl (T 2, 17, .inr (.inl f_22))), (z2, .inl (T 2, 2, .inr (.inl f_30)))]) [0, 1, 2, 3] rfl
      have hD9 := hD.sub (ws' := [(h0, .inr (8, [.ref z0, .ref z1, .ref z2, .ref z3, .ref z5, .int y5, .int y6, .int y7, .int y8, .int y9])), (z0, .inl (T 2, 3, .inr (.inl f_19))), (z1, .inl (T 2, 17, .inr (.inl f_22))), (z2, .inl (T 2, 2, .inr (.inl f_30)))]) [0, 1, 2, 3] (by decide) rfl
      exact W.vret hx hb hr (fun t ht hW => ⟨⟨(fun k => ([] : List (Nat)).getD k 0, fun k => ([] : List (Nat → Int32)).getD k (fun _ => 0), fun k => ([f_19, f_22, f_30] : List (Nat → Int64)).getD k (fun _ => 0), fun k => ([] : List (Int32)).getD k 0, fun k => ([] : List (Int64)).getD k 0), rfl, trivial, by rw [ht]; exact hP9, hD9⟩, hS.F ht⟩) hS.2.2 dX8_settle_74
  · have c_1 : i3.toInt = i4.toInt := (c_eq (x := i3.toInt) (y := i4.toInt) rfl rfl).mp c_1
    refine lv_iconst (v := 2) hx hb dX8_settle_7 (by decide) ?_
    refine lv_goto (tgt := 23) hx hb dX8_settle_8 (by decide) ?_
    refine lv_istore (lv' := [(6, .int 2), (0, .ref h0), (1, .long v1), (3, .int i2), (4, .int i3), (5, .int i4)]) hx hb dX8_settle_23 hl (by decide) rfl (fun ls hl => ?_)
    refine lv_aload_n hx hb dX8_settle_25 rfl (lv_at hl 1 rfl) ?_
    refine va_get (D := D) (ci := 8) (C := RX8) (T := TX8) (N := 10) hx hb hts iX8 hown hK hP 0 rfl rfl 0 (by decide) (hts _ m467) (fun _ h9 => h9) rfl dX8_settle_26 ?_
    refine lv_iload hx hb dX8_settle_29 (lv_at hl 0 rfl) ?_
    refine lv_dup2_11 hx hb dX8_settle_31 rfl rfl ?_
    refine va_lald (D := D) hx hb hK hP 1 2 rfl rfl (by unfold vp_in; decide) dX8_settle_32 ?_
    refine lv_topl (fun x_31 ex_31 => ?_)
    refine lv_lload_n hx hb dX8_settle_33 rfl (lv_at hl 2 rfl) ?_
    refine lv_ladd hx hb dX8_settle_34 ?_
    refine lv_topl (fun x_32 ex_32 => ?_)
    refine va_last (D := D) hx hb hK hP hD hS 1 2 rfl rfl (by unfold vp_in; decide) dX8_settle_35 (fun H locs hP hD hS => ?_)
    obtain ⟨f_33, hf_33⟩ : ∃ g : Nat → Int64, g = vp_updL j0 (2 : Int32).toNatClampNeg x_32 := ⟨_, rfl⟩
    have hP : va_P D vwCl [(h0, .inr (8, [.ref z0, .ref z1, .ref z2, .ref z3, .ref z5, .int y5, .int y6, .int y7, .int y8, .int y9])), (z0, .inl (T 2, 3, .inr (.inl (vp_updL j0 (2 : Int32).toNatClampNeg x_32)))), (z1, .inl (T 2, 17, .inr (.inl j1))), (z2, .inl (T 2, 2, .inr (.inl j2)))] H := hP
    have hD : va_D A [(h0, .inr (8, [.ref z0, .ref z1, .ref z2, .ref z3, .ref z5, .int y5, .int y6, .int y7, .int y8, .int y9])), (z0, .inl (T 2, 3, .inr (.inl (vp_updL j0 (2 : Int32).toNatClampNeg x_32)))), (z1, .inl (T 2, 17, .inr (.inl j1))), (z2, .inl (T 2, 2, .inr (.inl j2)))] := hD
    rw [← hf_33] at hP hD
    refine lv_aload_n hx hb dX8_settle_36 rfl (lv_at hl 1 rfl) ?_
    refine va_get (D := D) (ci := 8) (C := RX8) (T := TX8) (N := 10) hx hb hts iX8 hown hK hP 0 rfl rfl 1 (by decide) (hts _ m469) (fun _ h9 => h9) rfl dX8_settle_37 ?_
    refine lv_iload_n hx hb dX8_settle_40 rfl (lv_at hl 3 rfl) ?_
    refine lv_dup2_11 hx hb dX8_settle_41 rfl rfl ?_
    refine va_lald (D := D) hx hb hK hP 2 2 rfl rfl (v_in (x := i2.toInt) rfl (by omega) (by omega)) dX8_settle_42 ?_
    refine lv_topl (fun x_34 ex_34 => ?_)
    refine lv_lload_n hx hb dX8_settle_43 rfl (lv_at hl 2 rfl) ?_
    refine lv_ladd hx hb dX8_settle_44 ?_
    refine lv_topl (fun x_35 ex_35 => ?_)
    refine va_last (D := D) hx hb hK hP hD hS 2 2 rfl rfl (v_in (x := i2.toInt) rfl (by omega) (by omega)) dX8_settle_45 (fun H locs hP hD hS => ?_)
    obtain ⟨f_36, hf_36⟩ : ∃ g : Nat → Int64, g = vp_updL j1 i2.toNatClampNeg x_35 := ⟨_, rfl⟩
    have hP : va_P D vwCl [(h0, .inr (8, [.ref z0, .ref z1, .ref z2, .ref z3, .ref z5, .int y5, .int y6, .int y7, .int y8, .int y9])), (z0, .inl (T 2, 3, .inr (.inl f_33))), (z1, .inl (T 2, 17, .inr (.inl (vp_updL j1 i2.toNatClampNeg x_35)))), (z2, .inl (T 2, 2, .inr (.inl j2)))] H := hP
    have hD : va_D A [(h0, .inr (8, [.ref z0, .ref z1, .ref z2, .ref z3, .ref z5, .int y5, .int y6, .int y7, .int y8, .int y9])), (z0, .inl (T 2, 3, .inr (.inl f_33))), (z1, .inl (T 2, 17, .inr (.inl (vp_updL j1 i2.toNatClampNeg x_35)))), (z2, .inl (T 2, 2, .inr (.inl j2)))] := hD
    rw [← hf_36] at hP hD
    refine lv_aload_n hx hb dX8_settle_46 rfl (lv_at hl 1 rfl) ?_
    refine va_get (D := D) (ci := 8) (C := RX8) (T := TX8) (N := 10) hx hb hts iX8 hown hK hP 0 rfl rfl 2 (by decide) (hts _ m471) (fun _ h9 => h9) rfl dX8_settle_47 ?_
    refine lv_iconst (v := 0) hx hb dX8_settle_50 (by decide) ?_
    refine lv_dup2_11 hx hb dX8_settle_51 rfl rfl ?_
    refine va_lald (D := D) hx hb hK hP 3 2 rfl rfl (by unfold vp_in; decide) dX8_settle_52 ?_
    refine lv_topl (fun x_37 ex_37 => ?_)
    refine lv_lload_n hx hb dX8_settle_53 rfl (lv_at hl 2 rfl) ?_
    refine lv_iload hx hb dX8_settle_54 (lv_at hl 4 rfl) ?_
    refine lv_i2l hx hb dX8_settle_56 rfl ?_
    refine lv_lmul hx hb dX8_settle_57 ?_
    refine lv_topl (fun x_38 ex_38 => ?_)
    refine lv_ladd hx hb dX8_settle_58 ?_
    refine lv_topl (fun x_39 ex_39 => ?_)
    refine va_last (D := D) hx hb hK hP hD hS 3 2 rfl rfl (by unfold vp_in; decide) dX8_settle_59 (fun H locs hP hD hS => ?_)
    obtain ⟨f_40, hf_40⟩ : ∃ g : Nat → Int64, g = vp_updL j2 (0 : Int32).toNatClampNeg x_39 := ⟨_, rfl⟩
    have hP : va_P D vwCl [(h0, .inr (8, [.ref z0, .ref z1, .ref z2, .ref z3, .ref z5, .int y5, .int y6, .int y7, .int y8, .int y9])), (z0, .inl (T 2, 3, .inr (.inl f_33))), (z1, .inl (T 2, 17, .inr (.inl f_36))), (z2, .inl (T 2, 2, .inr (.inl (vp_updL j2 (0 : Int32).toNatClampNeg x_39))))] H := hP
    have hD : va_D A [(h0, .inr (8, [.ref z0, .ref z1, .ref z2, .ref z3, .ref z5, .int y5, .int y6, .int y7, .int y8, .int y9])), (z0, .inl (T 2, 3, .inr (.inl f_33))), (z1, .inl (T 2, 17, .inr (.inl f_36))), (z2, .inl (T 2, 2, .inr (.inl (vp_updL j2 (0 : Int32).toNatClampNeg x_39))))] := hD
    rw [← hf_40] at hP hD
    refine lv_aload_n hx hb dX8_settle_60 rfl (lv_at hl 1 rfl) ?_
    refine va_get (D := D) (ci := 8) (C := RX8) (T := TX8) (N := 10) hx hb hts iX8 hown hK hP 0 rfl rfl 2 (by decide) (hts _ m471) (fun _ h9 => h9) rfl dX8_settle_61 ?_
    refine lv_iconst (v := 1) hx hb dX8_settle_64 (by decide) ?_
    refine lv_dup2_11 hx hb dX8_settle_65 rfl rfl ?_
    refine va_lald (D := D) hx hb hK hP 3 2 rfl rfl (by unfold vp_in; decide) dX8_settle_66 ?_
    refine lv_topl (fun x_41 ex_41 => ?_)
    refine lv_lload_n hx hb dX8_settle_67 rfl (lv_at hl 2 rfl) ?_
    refine lv_iload hx hb dX8_settle_68 (lv_at hl 5 rfl) ?_
    refine lv_i2l hx hb dX8_settle_70 rfl ?_
    refine lv_lmul hx hb dX8_settle_71 ?_
    refine lv_topl (fun x_42 ex_42 => ?_)
    refine lv_ladd hx hb dX8_settle_72 ?_
    refine lv_topl (fun x_43 ex_43 => ?_)
    refine va_last (D := D) hx hb hK hP hD hS 3 2 rfl rfl (by unfold vp_in; decide) dX8_settle_73 (fun H locs hP hD hS => ?_)
    obtain ⟨f_44, hf_44⟩ : ∃ g : Nat → Int64, g = vp_updL f_40 (1 : Int32).toNatClampNeg x_43 := ⟨_, rfl⟩
    have hP : va_P D vwCl [(h0, .inr (8, [.ref z0, .ref z1, .ref z2, .ref z3, .ref z5, .int y5, .int y6, .int y7, .int y8, .int y9])), (z0, .inl (T 2, 3, .inr (.inl f_33))), (z1, .inl (T 2, 17, .inr (.inl f_36))), (z2, .inl (T 2, 2, .inr (.inl (vp_updL f_40 (1 : Int32).toNatClampNeg x_43))))] H := hP
    have hD : va_D A [(h0, .inr (8, [.ref z0, .ref z1, .ref z2, .ref z3, .ref z5, .int y5, .int y6, .int y7, .int y8, .int y9])), (z0, .inl (T 2, 3, .inr (.inl f_33))), (z1, .inl (T 2, 17, .inr (.inl f_36))), (z2, .inl (T 2, 2, .inr (.inl (vp_updL f_40 (1 : Int32).toNatClampNeg x_43))))] := hD
    rw [← hf_44] at hP hD
    have hP9 := hP.sub (ws' := [(h0, .inr (8, [.ref z0, .ref z1, .ref z2, .ref z3, .ref z5, .int y5, .int y6, .int y7, .int y8, .int y9])), (z0, .inl (T 2, 3, .inr (.inl f_33))), (z1, .inl (T 2, 17, .inr (.inl f_36))), (z2, .inl (T 2, 2, .inr (.inl f_44)))]) [0, 1, 2, 3] rfl
    have hD9 := hD.sub (ws' := [(h0, .inr (8, [.ref z0, .ref z1, .ref z2, .ref z3, .ref z5, .int y5, .int y6, .int y7, .int y8, .int y9])), (z0, .inl (T 2, 3, .inr (.inl f_33))), (z1, .inl (T 2, 17, .inr (.inl f_36))), (z2, .inl (T 2, 2, .inr (.inl f_44)))]) [0, 1, 2, 3] (by decide) rfl
    exact W.vret hx hb hr (fun t ht hW => ⟨⟨(fun k => ([] : List (Nat)).getD k 0, fun k => ([] : List (Nat → Int32)).getD k (fun _ => 0), fun k => ([f_33, f_36, f_44] : List (Nat → Int64)).getD k (fun _ => 0), fun k => ([] : List (Int32)).getD k 0, fun k => ([] : List (Int64)).getD k 0), rfl, trivial, by rw [ht]; exact hP9, hD9⟩, hS.F ht⟩) hS.2.2 dX8_settle_74

set_option maxHeartbeats 4000000 in
set_option maxRecDepth 100000 in
theorem c_X8_listColumns (l : Launch) (D : va_G) (T : Nat → ClassId) (b0 b1 b2 b3 b4 b5 b6 b7 b8 b9 bl e0 e1 e2 e3 e4 e5 e6 e7 h0 h1 sw tw wa z0 z1 z2 z3 z5 : Nat) (i2 i3 s2 s3 s4 s6 t0 t1 t2 t3 t4 t5 t6 t7 t8 y5 y6 y7 y8 y9 : Int32) (s5 : Int64) (f0 j3 j4 p0 p2 : Nat → Int32) (sz : Nat) (h_t1 : 0 ≤ t1.toInt ∧ t1.toInt ≤ 8) (h_t2 : 0 ≤ t2.toInt ∧ t2.toInt ≤ 12) (h_t4 : 0 ≤ t4.toInt ∧ t4.toInt ≤ 5) (h_t5 : 0 ≤ t5.toInt ∧ t5.toInt ≤ 10) (h_s2 : 0 ≤ s2.toInt ∧ s2.toInt ≤ 100) (h_y5 : 0 ≤ y5.toInt ∧ y5.toInt ≤ 16) (h_y6 : (-1) ≤ y6.toInt ∧ y6.toInt ≤ 16) (h_i2 : 0 ≤ i2.toInt ∧ i2.toInt ≤ 1) (h_i3 : 0 ≤ i3.toInt ∧ i3.toInt ≤ 8) (R_p0 : rg 0 12 p0) (R_p2 : rg 0 4 p2) : Met l yX8_listColumns (wM yX8_listColumns cX8_listColumns 11 (some .int)) ({ frames := 3, cells := 0, slots := 0, locals := 67 }) (va_Pc [.ref h0, .ref h1, .int i2, .int i3] (pwM D T [(h0, .inr (8, [.ref z0, .ref z1, .ref z2, .ref z3, .ref z5, .int y5, .int y6, .int y7, .int y8, .int y9])), (z3, .inl (T 0, 16, .inl j3)), (z5, .inl (T 0, 16, .inl j4)), (h1, .inr (3, [.ref tw, .ref wa, .int s2, .int s3, .int s4, .long s5, .int s6, .ref sw, .ref bl])), (tw, .inr (5, [.int t0, .int t1, .int t2, .int t3, .int t4, .int t5, .int t6, .int t7, .int t8, .ref b0, .ref b1, .ref b2, .ref b3, .ref b4, .ref b5, .ref b6, .ref b7, .ref b8, .ref b9])), (b0, .inl (T 0, 5, .inl f0)), (wa, .inr (7, [.ref tw, .ref e0, .ref e1, .ref e2, .ref e3, .ref e4, .ref e5, .ref e6, .ref e7])), (e0, .inl (T 0, 16, .inl p0)), (e2, .inl (T 0, 192, .inl p2))] sz)) (va_Qi (fun (r : Int32) (u : U5) => (0 ≤ r.toInt ∧ r.toInt ≤ i3.toInt + t1.toInt)) (fun u t => pwE D (va_A [(h0, .inr (8, [.ref z0, .ref z1, .ref z2, .ref z3, .ref z5, .int y5, .int y6, .int y7, .int y8, .int y9])), (z3, .inl (T 0, 16, .inl j3)), (z5, .inl (T 0, 16, .inl j4)), (h1, .inr (3, [.ref tw, .ref wa, .int s2, .int s3, .int s4, .long s5, .int s6, .ref sw, .ref bl])), (tw, .inr (5, [.int t0, .int t1, .int t2, .int t3, .int t4, .int t5, .int t6, .int t7, .int t8, .ref b0, .ref b1, .ref b2, .ref b3, .ref b4, .ref b5, .ref b6, .ref b7, .ref b8, .ref b9])), (b0, .inl (T 0, 5, .inl f0)), (wa, .inr (7, [.ref tw, .ref e0, .ref e1, .ref e2, .ref e3, .ref e4, .ref e5, .ref e6, .ref e7])), (e0, .inl (T 0, 16, .inl p0)), (e2, .inl (T 0, 192, .inl p2))] sz) [(h0, .inr (8, [.ref z0, .ref z1, .ref z2, .ref z3, .ref z5, .int y5, .int y6, .int y7, .int y8, .int (u.2.2.2.1 0)])), (z3, .inl (T 0, 16, .inl (u.2.1 0))), (z5, .inl (T 0, 16, .inl (u.2.1 1))), (h1, .inr (3, [.ref tw, .ref wa, .int s2, .int s3, .int s4, .long s5, .int s6, .ref sw, .ref bl])), (tw, .inr (5, [.int t0, .int t1, .int t2, .int t3, .int t4, .int t5, .int t6, .int t7, .int t8, .ref b0, .ref b1, .ref b2, .ref b3, .ref b4, .ref b5, .ref b6, .ref b7, .ref b8, .ref b9])), (b0, .inl (T 0, 5, .inl f0)), (wa, .inr (7, [.ref tw, .ref e0, .ref e1, .ref e2, .ref e3, .ref e4, .ref e5, .ref e6, .ref e7])), (e0, .inl (T 0, 16, .inl p0)), (e2, .inl (T 0, 192, .inl p2))] t) (va_A [(h0, .inr (8, [.ref z0, .ref z1, .ref z2, .ref z3, .ref z5, .int y5, .int y6, .int y7, .int y8, .int y9])), (z3, .inl (T 0, 16, .inl j3)), (z5, .inl (T 0, 16, .inl j4)), (h1, .inr (3, [.ref tw, .ref wa, .int s2, .int s3, .int s4, .long s5, .int s6, .ref sw, .ref bl])), (tw, .inr (5, [.int t0, .int t1, .int t2, .int t3, .int t4, .int t5, .int t6, .int t7, .int t8, .ref b0, .ref b1, .ref b2, .ref b3, .ref b4, .ref b5, .ref b6, .ref b7, .ref b8, .ref b9])), (b0, .inl (T 0, 5, .inl f0)), (wa, .inr (7, [.ref tw, .ref e0, .ref e1, .ref e2, .ref e3, .ref e4, .ref e5, .ref e6, .ref e7])), (e0, .inl (T 0, 16, .inl p0)), (e2, .inl (T 0, 192, .inl p2))] sz)) 0 0 (va_A [(h0, .inr (8, [.ref z0, .ref z1, .ref z2, .ref z3, .ref z5, .int y5, .int y6, .int y7, .int y8, .int y9])), (z3, .inl (T 0, 16, .inl j3)), (z5, .inl (T 0, 16, .inl j4)), (h1, .inr (3, [.ref tw, .ref wa, .int s2, .int s3, .int s4, .long s5, .int s6, .ref sw, .ref bl])), (tw, .inr (5, [.int t0, .int t1, .int t2, .int t3, .int t4, .int t5, .int t6, .int t7, .int t8, .ref b0, .ref b1, .ref b2, .ref b3, .ref b4, .ref b5, .ref b6, .ref b7, .ref b8, .ref b9])), (b0, .inl (T 0, 5, .inl f0)), (wa, .inr (7, [.ref tw, .ref e0, .ref e1, .ref e2, .ref e3, .ref e4, .ref e5, .ref e6, .ref e7])), (e0, .inl (T 0, 16, .inl p0)), (e2, .inl (T 0, 192, .inl p2))] sz) := by
  refine Met.ofW (cc := cX8_listColumns) (maxL := 11) (ret := (some .int)) (by decide) rfl ?_
  intro p e s m args below meth c s₁ B hml hv
  obtain ⟨rfl, hsz, hP, hC, hD0⟩ := hv
  have hx := B.exec
  have hb := B.bytes
  have hr := B.returns
  have hts : ∀ w ∈ gt, w.before _ s = true := fun w hw => atoms_spec (ws := (wM yX8_listColumns cX8_listColumns 11 (some .int))) B.pre w (List.mem_cons_of_mem _ hw)
  have hown : s.vm.findClass RX8 = some m.cls := findClass_of_methodNamed B.named
  have hlocks := B.notSynchronized
  have hK := hC.1
  subst hsz
  have hD := hD0.self (sz := s.heap.size)
  generalize hAe : va_A [(h0, .inr (8, [.ref z0, .ref z1, .ref z2, .ref z3, .ref z5, .int y5, .int y6, .int y7, .int y8, .int y9])), (z3, .inl (T 0, 16, .inl j3)), (z5, .inl (T 0, 16, .inl j4)), (h1, .inr (3, [.ref tw, .ref wa, .int s2, .int s3, .int s4, .long s5, .int s6, .ref sw, .ref bl])), (tw, .inr (5, [.int t0, .int t1, .int t2, .int t3, .int t4, .int t5, .int t6, .int t7, .int t8, .ref b0, .ref b1, .ref b2, .ref b3, .ref b4, .ref b5, .ref b6, .ref b7, .ref b8, .ref b9])), (b0, .inl (T 0, 5, .inl f0)), (wa, .inr (7, [.ref tw, .ref e0, .ref e1, .ref e2, .ref e3, .ref e4, .ref e5, .ref e6, .ref e7])), (e0, .inl (T 0, 16, .inl p0)), (e2, .inl (T 0, 192, .inl p2))] s.heap.size = A at hD ⊢
  have hA : ∀ q : Nat, s.heap.size ≤ q → A q := fun q h => by rw [← hAe]; exact Or.inr h
  have hS : va_S A s.heap s.heap [] := va_S.rf
  have hl := lv_entry ([.ref h0, .ref h1, .int i2, .int i3]) (n := 11) (Nat.le_of_ble_eq_true rfl)
  rw [lg_entry_eq]
  generalize (lg_sl ([.ref h0, .ref h1, .int i2, .int i3]) ++ List.replicate (11 - (lg_sl ([.ref h0, .ref h1, .int i2, .int i3])).length) Slot.unset).toArray = ls at hl ⊢
  have hl : lv_has ls 11 [(0, .ref h0), (1, .ref h1), (2, .int i2), (3, .int i3)] := hl
  refine lv_aload_n hx hb dX8_listColumns_0 rfl (lv_at hl 1 rfl) ?_
  refine va_get (D := D) (ci := 3) (C := RX3) (T := TX3) (N := 9) hx hb hts iX3 hown hK hP 3 rfl rfl 3 (by decide) (hts _ m383) (fun _ h9 => h9) rfl dX8_listColumns_1 ?_
  refine lv_iconst (v := 1) hx hb dX8_listColumns_4 (by decide) ?_
  refine lv_icmp_ne (tgt := 12) hx hb dX8_listColumns_5 (by decide) (fun c_1 => ?_) (fun c_1 => ?_)
  · have c_1 : ¬ s3.toInt = 1 := fun h => c_1 ((c_eq (x := s3.toInt) (y := 1) rfl rfl).mpr h)
    refine lv_iconst (v := 0) hx hb dX8_listColumns_12 (by decide) ?_
    refine lv_istore (lv' := [(4, .int 0), (0, .ref h0), (1, .ref h1), (2, .int i2), (3, .int i3)]) hx hb dX8_listColumns_13 hl (by decide) rfl (fun ls hl => ?_)
    refine lv_iload_n hx hb dX8_listColumns_15 rfl (lv_at hl 4 rfl) ?_
    refine lv_istore (lv' := [(5, .int i3), (4, .int 0), (0, .ref h0), (1, .ref h1), (2, .int i2), (3, .int i3)]) hx hb dX8_listColumns_16 hl (by decide) rfl (fun ls hl => ?_)
    refine lv_iconst (v := 0) hx hb dX8_listColumns_18 (by decide) ?_
    refine lv_istore (lv' := [(6, .int 0), (5, .int i3), (4, .int 0), (0, .ref h0), (1, .ref h1), (2, .int i2), (3, .int i3)]) hx hb dX8_listColumns_19 hl (by decide) rfl (fun ls hl => ?_)
    refine lp_ind (fun (a : Heap × List Loc × Array Slot × (Int32) × (Int32) × (Int32) × (Nat → Int32) × (Nat → Int32)) => match a with | (H, locs, ls, i_2, i_3, w_4, f_5, f_6) => W p l e _ s m _ below meth c H locs 0 0 _ (F0 m 21 ls [])) (fun (a : Heap × List Loc × Array Slot × (Int32) × (Int32) × (Int32) × (Nat → Int32) × (Nat → Int32)) => match a with | (H, locs, ls, i_2, i_3, w_4, f_5, f_6) => 0 ≤ i_2.toInt ∧ i_2.toInt ≤ 8 ∧ 0 ≤ i_3.toInt ∧ i_3.toInt ≤ 16 ∧ i_3.toInt ≤ i3.toInt + i_2.toInt ∧ i_2.toInt ≤ t1.toInt ∧ va_P D vwCl [(h0, .inr (8, [.ref z0, .ref z1, .ref z2, .ref z3, .ref z5, .int y5, .int y6, .int y7, .int y8, .int w_4])), (z3, .inl (T 0, 16, .inl f_5)), (z5, .inl (T 0, 16, .inl f_6)), (h1, .inr (3, [.ref tw, .ref wa, .int s2, .int s3, .int s4, .long s5, .int s6, .ref sw, .ref bl])), (tw, .inr (5, [.int t0, .int t1, .int t2, .int t3, .int t4, .int t5, .int t6, .int t7, .int t8, .ref b0, .ref b1, .ref b2, .ref b3, .ref b4, .ref b5, .ref b6, .ref b7, .ref b8, .ref b9])), (b0, .inl (T 0, 5, .inl f0)), (wa, .inr (7, [.ref tw, .ref e0, .ref e1, .ref e2, .ref e3, .ref e4, .ref e5, .ref e6, .ref e7])), (e0, .inl (T 0, 16, .inl p0)), (e2, .inl (T 0, 192, .inl p2))] H ∧ va_D A [(h0, .inr (8, [.ref z0, .ref z1, .ref z2, .ref z3, .ref z5, .int y5, .int y6, .int y7, .int y8, .int w_4])), (z3, .inl (T 0, 16, .inl f_5)), (z5, .inl (T 0, 16, .inl f_6)), (h1, .inr (3, [.ref tw, .ref wa, .int s2, .int s3, .int s4, .long s5, .int s6, .ref sw, .ref bl])), (tw, .inr (5, [.int t0, .int t1, .int t2, .int t3, .int t4, .int t5, .int t6, .int t7, .int t8, .ref b0, .ref b1, .ref b2, .ref b3, .ref b4, .ref b5, .ref b6, .ref b7, .ref b8, .ref b9])), (b0, .inl (T 0, 5, .inl f0)), (wa, .inr (7, [.ref tw, .ref e0, .ref e1, .ref e2, .ref e3, .ref e4, .ref e5, .ref e6, .ref e7])), (e0, .inl (T 0, 16, .inl p0)), (e2, .inl (T 0, 192, .inl p2))] ∧ va_S A s.heap H locs ∧ lv_has ls 11 [(6, .int i_2), (5, .int i_3), (4, .int 0), (0, .ref h0), (1, .ref h1), (2, .int i2), (3, .int i3)]) (fun (a : Heap × List Loc × Array Slot × (Int32) × (Int32) × (Int32) × (Nat → Int32) × (Nat → Int32)) => match a with | (H, locs, ls, i_2, i_3, w_4, f_5, f_6) => (8 - i_2.toInt).toNat) ?_ (_, _, ls, (0 : Int32), i3, y9, j3, j4) ⟨(show 0 ≤ 0 by omega), (show 0 ≤ 8 by omega), (show 0 ≤ i3.toInt by omega), (show i3.toInt ≤ 16 by omega), (show i3.toInt ≤ i3.toInt + 0 by omega), (show 0 ≤ t1.toInt by omega), hP, hD, hS, lv_sub hl [0, 1, 2, 3, 4, 5, 6] rfl⟩
    rintro ⟨H, locs, ls, i_2, i_3, w_4, f_5, f_6⟩ ⟨c_7, c_8, c_9, c_10, c_11, c_12, hP, hD, hS, hl⟩ ih_13
    refine lv_iload hx hb dX8_listColumns_21 (lv_at hl 0 rfl) ?_
    refine lv_aload_n hx hb dX8_listColumns_23 rfl (lv_at hl 4 rfl) ?_
    refine va_get (D := D) (ci := 3) (C := RX3) (T := TX3) (N := 9) hx hb hts iX3 hown hK hP 3 rfl rfl 0 (by decide) (hts _ m368) (fun _ h9 => h9) rfl dX8_listColumns_24 ?_
    refine va_get (D := D) (ci := 5) (C := RX5) (T := TX5) (N := 19) hx hb hts iX5 hown hK hP 4 rfl rfl 1 (by decide) (hts _ m170) (fun _ h9 => h9) rfl dX8_listColumns_27 ?_
    refine lv_icmp_ge (tgt := 156) hx hb dX8_listColumns_30 (by decide) (fun c_14 => ?_) (fun c_14 => ?_)
    · have c_14 : t1.toInt ≤ i_2.toInt := (c_le (x := t1.toInt) (y := i_2.toInt) rfl rfl).mp c_14
      refine lv_iload hx hb dX8_listColumns_156 (lv_at hl 1 rfl) ?_
      have hP9 := hP.sub (ws' := [(h0, .inr (8, [.ref z0, .ref z1, .ref z2, .ref z3, .ref z5, .int y5, .int y6, .int y7, .int y8, .int w_4])), (z3, .inl (T 0, 16, .inl f_5)), (z5, .inl (T 0, 16, .inl f_6)), (h1, .inr (3, [.ref tw, .ref wa, .int s2, .int s3, .int s4, .long s5, .int s6, .ref sw, .ref bl])), (tw, .inr (5, [.int t0, .int t1, .int t2, .int t3, .int t4, .int t5, .int t6, .int t7, .int t8, .ref b0, .ref b1, .ref b2, .ref b3, .ref b4, .ref b5, .ref b6, .ref b7, .ref b8, .ref b9])), (b0, .inl (T 0, 5, .inl f0)), (wa, .inr (7, [.ref tw, .ref e0, .ref e1, .ref e2, .ref e3, .ref e4, .ref e5, .ref e6, .ref e7])), (e0, .inl (T 0, 16, .inl p0)), (e2, .inl (T 0, 192, .inl p2))]) [0, 1, 2, 3, 4, 5, 6, 7, 8] rfl
      have hD9 := hD.sub (ws' := [(h0, .inr (8, [.ref z0, .ref z1, .ref z2, .ref z3, .ref z5, .int y5, .int y6, .int y7, .int y8, .int w_4])), (z3, .inl (T 0, 16, .inl f_5)), (z5, .inl (T 0, 16, .inl f_6)), (h1, .inr (3, [.ref tw, .ref wa, .int s2, .int s3, .int s4, .long s5, .int s6, .ref sw, .ref bl])), (tw, .inr (5, [.int t0, .int t1, .int t2, .int t3, .int t4, .int t5, .int t6, .int t7, .int t8, .ref b0, .ref b1, .ref b2, .ref b3, .ref b4, .ref b5, .ref b6, .ref b7, .ref b8, .ref b9])), (b0, .inl (T 0, 5, .inl f0)), (wa, .inr (7, [.ref tw, .ref e0, .ref e1, .ref e2, .ref e3, .ref e4, .ref e5, .ref e6, .ref e7])), (e0, .inl (T 0, 16, .inl p0)), (e2, .inl (T 0, 192, .inl p2))]) [0, 1, 2, 3, 4, 5, 6, 7, 8] (by decide) rfl
      exact W.iret (v := i_3) hx hb hr (fun t ht hW => ⟨⟨i_3, (fun k => ([] : List (Nat)).getD k 0, fun k => ([f_5, f_6] : List (Nat → Int32)).getD k (fun _ => 0), fun k => ([] : List (Nat → Int64)).getD k (fun _ => 0), fun k => ([w_4] : List (Int32)).getD k 0, fun k => ([] : List (Int64)).getD k 0), rfl, (⟨(show 0 ≤ i_3.toInt by omega), (show i_3.toInt ≤ i3.toInt + t1.toInt by omega)⟩), by rw [ht]; exact hP9, hD9⟩, hS.F ht⟩) hS.2.2 dX8_listColumns_158
    · have c_14 : i_2.toInt < t1.toInt := by have h := mt (c_le (x := t1.toInt) (y := i_2.toInt) rfl rfl).mpr c_14; omega
      refine lv_iload_n hx hb dX8_listColumns_33 rfl (lv_at hl 5 rfl) ?_
      refine lv_iload hx hb dX8_listColumns_34 (lv_at hl 0 rfl) ?_
      refine puI (cSN (As := [.int i2, .int i_2]) (rest := []) ⟨hx, hb, hml, hown, hts⟩ (c_X10_placeOf l D T i2 i_2 ⟨by omega, by omega⟩ ⟨by omega, by omega⟩) k_X10_placeOf m769 (hC.2.1 _ (List.mem_of_getElem? (i := 14) rfl)) rfl rfl ⟨(Nat.le_of_ble_eq_true rfl), (Nat.le_of_ble_eq_true rfl)⟩ (preP hC (hP.sub (ws' := []) [] rfl)) rfl hl.1 rfl (Nat.le_of_ble_eq_true rfl) dX8_listColumns_36 ⟨(Nat.le_of_ble_eq_true rfl), (Nat.le_of_ble_eq_true rfl)⟩) hS hP (fun r_15 H locs hw hP hS => ?_)
      have w_17 : (r_15.toInt = 8 * i2.toInt + i_2.toInt) := hw
      obtain c_18 := w_17
      refine lv_istore (lv' := [(7, .int r_15), (6, .int i_2), (5, .int i_3), (4, .int 0), (0, .ref h0), (1, .ref h1), (2, .int i2), (3, .int i3)]) hx hb dX8_listColumns_39 hl (by decide) rfl (fun ls hl => ?_)
      refine lv_aload_n hx hb dX8_listColumns_41 rfl (lv_at hl 5 rfl) ?_
      refine va_get (D := D) (ci := 3) (C := RX3) (T := TX3) (N := 9) hx hb hts iX3 hown hK hP 3 rfl rfl 1 (by decide) (hts _ m376) (fun _ h9 => h9) rfl dX8_listColumns_42 ?_
      refine va_get (D := D) (ci := 7) (C := RX7) (T := TX7) (N := 9) hx hb hts iX7 hown hK hP 6 rfl rfl 1 (by decide) (hts _ m327) (fun _ h9 => h9) rfl dX8_listColumns_45 ?_
      refine lv_iload hx hb dX8_listColumns_48 (lv_at hl 0 rfl) ?_
      refine va_iald (D := D) hx hb hK hP 7 0 rfl rfl (v_in (x := r_15.toInt) rfl (by omega) (by omega)) dX8_listColumns_50 ?_
      refine lv_topi (fun x_19 ex_19 => ?_)
      have tx_19 : 0 ≤ x_19.toInt ∧ x_19.toInt ≤ 12 := rg_at R_p0 ex_19
      have qx_19 : x_19.toInt = (p0 r_15.toNatClampNeg).toInt := by rw [ex_19]
      refine lv_istore (lv' := [(8, .int x_19), (7, .int r_15), (6, .int i_2), (5, .int i_3), (4, .int 0), (0, .ref h0), (1, .ref h1), (2, .int i2), (3, .int i3)]) hx hb dX8_listColumns_51 hl (by decide) rfl (fun ls hl => ?_)
      refine lv_iload hx hb dX8_listColumns_53 (lv_at hl 0 rfl) ?_
      refine lv_if_le (tgt := 150) hx hb dX8_listColumns_55 (by decide) (fun c_20 => ?_) (fun c_20 => ?_)
      · have c_20 : x_19.toInt ≤ 0 := (c_le (x := x_19.toInt) (y := 0) rfl rfl).mp c_20
        obtain ⟨x_21, ex_21⟩ : ∃ y : Int32, y = i_2 + 1 := ⟨_, rfl⟩
        have tx_21 : x_21.toInt = i_2.toInt + 1 := t_add (x := i_2.toInt) (y := 1) ex_21 rfl rfl (by omega) (by omega)
        refine lv_iinc (v := x_21) (lv' := [(6, .int x_21), (8, .int x_19), (7, .int r_15), (5, .int i_3), (4, .int 0), (0, .ref h0), (1, .ref h1), (2, .int i2), (3, .int i3)]) hx hb dX8_listColumns_150 hl (k := 2) rfl (by rw [ex_21]; rfl) (by decide) rfl (fun ls hl => ?_)
        refine lv_goto (tgt := 21) hx hb dX8_listColumns_153 (by decide) ?_
        exact ih_13 (_, _, _, x_21, i_3, w_4, f_5, f_6) ⟨(show 0 ≤ x_21.toInt by omega), (show x_21.toInt ≤ 8 by omega), (show 0 ≤ i_3.toInt by omega), (show i_3.toInt ≤ 16 by omega), (show i_3.toInt ≤ i3.toInt + x_21.toInt by omega), (show x_21.toInt ≤ t1.toInt by omega), hP, hD, hS, lv_sub hl [0, 3, 4, 5, 6, 7, 8] rfl⟩ (show (8 - x_21.toInt).toNat < (8 - i_2.toInt).toNat by omega)
      · have c_20 : 0 < x_19.toInt := by have h := mt (c_le (x := x_19.toInt) (y := 0) rfl rfl).mpr c_20; omega
        refine lv_iload hx hb dX8_listColumns_58 (lv_at hl 4 rfl) ?_
        refine lv_if_eq (tgt := 76) hx hb dX8_listColumns_60 (by decide) (fun _ => ?_) (fun c_22 => absurd (by decide) c_22)
        refine lv_iload hx hb dX8_listColumns_76 (lv_at hl 0 rfl) ?_
        refine lv_istore (lv' := [(9, .int x_19), (8, .int x_19), (7, .int r_15), (6, .int i_2), (5, .int i_3), (4, .int 0), (0, .ref h0), (1, .ref h1), (2, .int i2), (3, .int i3)]) hx hb dX8_listColumns_78 hl (by decide) rfl (fun ls hl => ?_)
        refine lv_iload hx hb dX8_listColumns_80 (lv_at hl 5 rfl) ?_
        refine lv_if_eq (tgt := 101) hx hb dX8_listColumns_82 (by decide) (fun _ => ?_) (fun c_23 => absurd (by decide) c_23)
        refine lv_iconst (v := 1) hx hb dX8_listColumns_101 (by decide) ?_
        refine lv_istore (lv' := [(10, .int 1), (9, .int x_19), (8, .int x_19), (7, .int r_15), (6, .int i_2), (5, .int i_3), (4, .int 0), (0, .ref h0), (1, .ref h1), (2, .int i2), (3, .int i3)]) hx hb dX8_listColumns_102 hl (by decide) rfl (fun ls hl => ?_)
        refine lv_aload_n hx hb dX8_listColumns_104 rfl (lv_at hl 7 rfl) ?_
        refine va_get (D := D) (ci := 8) (C := RX8) (T := TX8) (N := 10) hx hb hts iX8 hown hK hP 0 rfl rfl 3 (by decide) (hts _ m473) (fun _ h9 => h9) rfl dX8_listColumns_105 ?_
        refine lv_iload hx hb dX8_listColumns_108 (lv_at hl 5 rfl) ?_
        refine lv_aload_n hx hb dX8_listColumns_110 rfl (lv_at hl 7 rfl) ?_
        refine lv_aload_n hx hb dX8_listColumns_111 rfl (lv_at hl 7 rfl) ?_
        refine va_get (D := D) (ci := 8) (C := RX8) (T := TX8) (N := 10) hx hb hts iX8 hown hK hP 0 rfl rfl 3 (by decide) (hts _ m473) (fun _ h9 => h9) rfl dX8_listColumns_112 ?_
        refine lv_iload hx hb dX8_listColumns_115 (lv_at hl 5 rfl) ?_
        refine va_iald (D := D) hx hb hK hP 1 0 rfl rfl (v_in (x := i_3.toInt) rfl (by omega) (by omega)) dX8_listColumns_117 ?_
        refine lv_topi (fun x_24 ex_24 => ?_)
        refine lv_iload hx hb dX8_listColumns_118 (lv_at hl 1 rfl) ?_
        refine mtI (wr := [(z3, .inl (T 0, 16, .inl f_5)), (z5, .inl (T 0, 16, .inl f_6)), (h1, .inr (3, [.ref tw, .ref wa, .int s2, .int s3, .int s4, .long s5, .int s6, .ref sw, .ref bl])), (tw, .inr (5, [.int t0, .int t1, .int t2, .int t3, .int t4, .int t5, .int t6, .int t7, .int t8, .ref b0, .ref b1, .ref b2, .ref b3, .ref b4, .ref b5, .ref b6, .ref b7, .ref b8, .ref b9])), (b0, .inl (T 0, 5, .inl f0)), (wa, .inr (7, [.ref tw, .ref e0, .ref e1, .ref e2, .ref e3, .ref e4, .ref e5, .ref e6, .ref e7])), (e0, .inl (T 0, 16, .inl p0)), (e2, .inl (T 0, 192, .inl p2))]) (cV (As := [.int x_24, .int x_19]) (rest := [.int i_3, .ref z3]) ⟨hx, hb, hml, hown, hts⟩ (c_X8_noted l D T h0 z0 z1 z2 z3 z5 x_24 x_19 y5 y6 y7 y8 w_4 _ ⟨by omega, by omega⟩ ⟨by omega, by omega⟩) k_X8_noted v_X8_noted m1124 rfl rfl ⟨(Nat.le_of_ble_eq_true rfl), (Nat.le_of_ble_eq_true rfl)⟩ (preM hC (hP.sub (ws' := [(h0, .inr (8, [.ref z0, .ref z1, .ref z2, .ref z3, .ref z5, .int y5, .int y6, .int y7, .int y8, .int w_4]))]) [0] rfl) (hD.sub (ws' := [(h0, .inr (8, [.ref z0, .ref z1, .ref z2, .ref z3, .ref z5, .int y5, .int y6, .int y7, .int y8, .int w_4]))]) [0] (by decide) rfl)) (va_recv hK hP (ci := 8) (q0 := 0) rfl rfl) rfl hl.1 rfl (Nat.le_of_ble_eq_true rfl) dX8_listColumns_120 ⟨(Nat.le_of_ble_eq_true rfl), (Nat.le_of_ble_eq_true rfl)⟩) hS hA hP hD [0] [1, 2, 3, 4, 5, 6, 7, 8] rfl rfl (by decide) (by decide) (fun r_25 u_26 H locs hw hP hD hS => ?_)
        have hP : va_P D vwCl [(h0, .inr (8, [.ref z0, .ref z1, .ref z2, .ref z3, .ref z5, .int y5, .int y6, .int y7, .int y8, .int (u_26.2.2.2.1 0)])), (z3, .inl (T 0, 16, .inl f_5)), (z5, .inl (T 0, 16, .inl f_6)), (h1, .inr (3, [.ref tw, .ref wa, .int s2, .int s3, .int s4, .long s5, .int s6, .ref sw, .ref bl])), (tw, .inr (5, [.int t0, .int t1, .int t2, .int t3, .int t4, .int t5, .int t6, .int t7, .int t8, .ref b0, .ref b1, .ref b2, .ref b3, .ref b4, .ref b5, .ref b6, .ref b7, .ref b8, .ref b9])), (b0, .inl (T 0, 5, .inl f0)), (wa, .inr (7, [.ref tw, .ref e0, .ref e1, .ref e2, .ref e3, .ref e4, .ref e5, .ref e6, .ref e7])), (e0, .inl (T 0, 16, .inl p0)), (e2, .inl (T 0, 192, .inl p2))] H := hP.sub [8, 0, 1, 2, 3, 4, 5, 6, 7] rfl
        have hD : va_D A [(h0, .inr (8, [.ref z0, .ref z1, .ref z2, .ref z3, .ref z5, .int y5, .int y6, .int y7, .int y8, .int (u_26.2.2.2.1 0)])), (z3, .inl (T 0, 16, .inl f_5)), (z5, .inl (T 0, 16, .inl f_6)), (h1, .inr (3, [.ref tw, .ref wa, .int s2, .int s3, .int s4, .long s5, .int s6, .ref sw, .ref bl])), (tw, .inr (5, [.int t0, .int t1, .int t2, .int t3, .int t4, .int t5, .int t6, .int t7, .int t8, .ref b0, .ref b1, .ref b2, .ref b3, .ref b4, .ref b5, .ref b6, .ref b7, .ref b8, .ref b9])), (b0, .inl (T 0, 5, .inl f0)), (wa, .inr (7, [.ref tw, .ref e0, .ref e1, .ref e2, .ref e3, .ref e4, .ref e5, .ref e6, .ref e7])), (e0, .inl (T 0, 16, .inl p0)), (e2, .inl (T 0, 192, .inl p2))] := hD.sub [8, 0, 1, 2, 3, 4, 5, 6, 7] (by decide) rfl
        have w_27 : (r_25.toInt = x_19.toInt) := hw
        obtain c_28 := w_27
        refine va_iast (D := D) hx hb hK hP hD hS 1 0 rfl rfl (v_in (x := i_3.toInt) rfl (by omega) (by omega)) dX8_listColumns_123 (fun H locs hP hD hS => ?_)
        obtain ⟨f_29, hf_29⟩ : ∃ g : Nat → Int32, g = upd f_5 i_3.toNatClampNeg r_25 := ⟨_, rfl⟩
        have hP : va_P D vwCl [(h0, .inr (8, [.ref z0, .ref z1, .ref z2, .ref z3, .ref z5, .int y5, .int y6, .int y7, .int y8, .int (u_26.2.2.2.1 0)])), (z3, .inl (T 0, 16, .inl (upd f_5 i_3.toNatClampNeg r_25))), (z5, .inl (T 0, 16, .inl f_6)), (h1, .inr (3, [.ref tw, .ref wa, .int s2, .int s3, .int s4, .long s5, .int s6, .ref sw, .ref bl])), (tw, .inr (5, [.int t0, .int t1, .int t2, .int t3, .int t4, .int t5, .int t6, .int t7, .int t8, .ref b0, .ref b1, .ref b2, .ref b3, .ref b4, .ref b5, .ref b6, .ref b7, .ref b8, .ref b9])), (b0, .inl (T 0, 5, .inl f0)), (wa, .inr (7, [.ref tw, .ref e0, .ref e1, .ref e2, .ref e3, .ref e4, .ref e5, .ref e6, .ref e7])), (e0, .inl (T 0, 16, .inl p0)), (e2, .inl (T 0, 192, .inl p2))] H := hP
        have hD : va_D A [(h0, .inr (8, [.ref z0, .ref z1, .ref z2, .ref z3, .ref z5, .int y5, .int y6, .int y7, .int y8, .int (u_26.2.2.2.1 0)])), (z3, .inl (T 0, 16, .inl (upd f_5 i_3.toNatClampNeg r_25))), (z5, .inl (T 0, 16, .inl f_6)), (h1, .inr (3, [.ref tw, .ref wa, .int s2, .int s3, .int s4, .long s5, .int s6, .ref sw, .ref bl])), (tw, .inr (5, [.int t0, .int t1, .int t2, .int t3, .int t4, .int t5, .int t6, .int t7, .int t8, .ref b0, .ref b1, .ref b2, .ref b3, .ref b4, .ref b5, .ref b6, .ref b7, .ref b8, .ref b9])), (b0, .inl (T 0, 5, .inl f0)), (wa, .inr (7, [.ref tw, .ref e0, .ref e1, .ref e2, .ref e3, .ref e4, .ref e5, .ref e6, .ref e7])), (e0, .inl (T 0, 16, .inl p0)), (e2, .inl (T 0, 192, .inl p2))] := hD
        rw [← hf_29] at hP hD
        refine lv_aload_n hx hb dX8_listColumns_124 rfl (lv_at hl 7 rfl) ?_
        refine va_get (D := D) (ci := 8) (C := RX8) (T := TX8) (N := 10) hx hb hts iX8 hown hK hP 0 rfl rfl 4 (by decide) (hts _ m474) (fun _ h9 => h9) rfl dX8_listColumns_125 ?_
        refine lv_iload hx hb dX8_listColumns_128 (lv_at hl 5 rfl) ?_
        refine lv_aload_n hx hb dX8_listColumns_130 rfl (lv_at hl 7 rfl) ?_
        refine lv_aload_n hx hb dX8_listColumns_131 rfl (lv_at hl 7 rfl) ?_
        refine va_get (D := D) (ci := 8) (C := RX8) (T := TX8) (N := 10) hx hb hts iX8 hown hK hP 0 rfl rfl 4 (by decide) (hts _ m474) (fun _ h9 => h9) rfl dX8_listColumns_132 ?_
        refine lv_iload hx hb dX8_listColumns_135 (lv_at hl 5 rfl) ?_
        refine va_iald (D := D) hx hb hK hP 2 0 rfl rfl (v_in (x := i_3.toInt) rfl (by omega) (by omega)) dX8_listColumns_137 ?_
        refine lv_topi (fun x_30 ex_30 => ?_)
        refine lv_iload hx hb dX8_listColumns_138 (lv_at hl 1 rfl) ?_
        refine lv_iload hx hb dX8_listColumns_140 (lv_at hl 0 rfl) ?_
        refine lv_isub hx hb dX8_listColumns_142 ?_
        refine lv_topi (fun x_31 ex_31 => ?_)
        have tx_31 : x_31.toInt = x_19.toInt - 1 := t_sub (x := x_19.toInt) (y := 1) ex_31 rfl rfl (by omega) (by omega)
        refine mtI (wr := [(z3, .inl (T 0, 16, .inl f_29)), (z5, .inl (T 0, 16, .inl f_6)), (h1, .inr (3, [.ref tw, .ref wa, .int s2, .int s3, .int s4, .long s5, .int s6, .ref sw, .ref bl])), (tw, .inr (5, [.int t0, .int t1, .int t2, .int t3, .int t4, .int t5, .int t6, .int t7, .int t8, .ref b0, .ref b1, .ref b2, .ref b3, .ref b4, .ref b5, .ref b6, .ref b7, .ref b8, .ref b9])), (b0, .inl (T 0, 5, .inl f0)), (wa, .inr (7, [.ref tw, .ref e0, .ref e1, .ref e2, .ref e3, .ref e4, .ref e5, .ref e6, .ref e7])), (e0, .inl (T 0, 16, .inl p0)), (e2, .inl (T 0, 192, .inl p2))]) (cV (As := [.int x_30, .int x_31]) (rest := [.int i_3, .ref z5]) ⟨hx, hb, hml, hown, hts⟩ (c_X8_noted l D T h0 z0 z1 z2 z3 z5 x_30 x_31 y5 y6 y7 y8 (u_26.2.2.2.1 0) _ ⟨by omega, by omega⟩ ⟨by omega, by omega⟩) k_X8_noted v_X8_noted m1124 rfl rfl ⟨(Nat.le_of_ble_eq_true rfl), (Nat.le_of_ble_eq_true rfl)⟩ (preM hC (hP.sub (ws' := [(h0, .inr (8, [.ref z0, .ref z1, .ref z2, .ref z3, .ref z5, .int y5, .int y6, .int y7, .int y8, .int (u_26.2.2.2.1 0)]))]) [0] rfl) (hD.sub (ws' := [(h0, .inr (8, [.ref z0, .ref z1, .ref z2, .ref z3, .ref z5, .int y5, .int y6, .int y7, .int y8, .int (u_26.2.2.2.1 0)]))]) [0] (by decide) rfl)) (va_recv hK hP (ci := 8) (q0 := 0) rfl rfl) rfl hl.1 rfl (Nat.le_of_ble_eq_true rfl) dX8_listColumns_143 ⟨(Nat.le_of_ble_eq_true rfl), (Nat.le_of_ble_eq_true rfl)⟩) hS hA hP hD [0] [1, 2, 3, 4, 5, 6, 7, 8] rfl rfl (by decide) (by decide) (fun r_32 u_33 H locs hw hP hD hS => ?_)
        have hP : va_P D vwCl [(h0, .inr (8, [.ref z0, .ref z1, .ref z2, .ref z3, .ref z5, .int y5, .int y6, .int y7, .int y8, .int (u_33.2.2.2.1 0)])), (z3, .inl (T 0, 16, .inl f_29)), (z5, .inl (T 0, 16, .inl f_6)), (h1, .inr (3, [.ref tw, .ref wa, .int s2, .int s3, .int s4, .long s5, .int s6, .ref sw, .ref bl])), (tw, .inr (5, [.int t0, .int t1, .int t2, .int t3, .int t4, .int t5, .int t6, .int t7, .int t8, .ref b0, .ref b1, .ref b2, .ref b3, .ref b4, .ref b5, .ref b6, .ref b7, .ref b8, .ref b9])), (b0, .inl (T 0, 5, .inl f0)), (wa, .inr (7, [.ref tw, .ref e0, .ref e1, .ref e2, .ref e3, .ref e4, .ref e5, .ref e6, .ref e7])), (e0, .inl (T 0, 16, .inl p0)), (e2, .inl (T 0, 192, .inl p2))] H := hP.sub [8, 0, 1, 2, 3, 4, 5, 6, 7] rfl
        have hD : va_D A [(h0, .inr (8, [.ref z0, .ref z1, .ref z2, .ref z3, .ref z5, .int y5, .int y6, .int y7, .int y8, .int (u_33.2.2.2.1 0)])), (z3, .inl (T 0, 16, .inl f_29)), (z5, .inl (T 0, 16, .inl f_6)), (h1, .inr (3, [.ref tw, .ref wa, .int s2, .int s3, .int s4, .long s5, .int s6, .ref sw, .ref bl])), (tw, .inr (5, [.int t0, .int t1, .int t2, .int t3, .int t4, .int t5, .int t6, .int t7, .int t8, .ref b0, .ref b1, .ref b2, .ref b3, .ref b4, .ref b5, .ref b6, .ref b7, .ref b8, .ref b9])), (b0, .inl (T 0, 5, .inl f0)), (wa, .inr (7, [.ref tw, .ref e0, .ref e1, .ref e2, .ref e3, .ref e4, .ref e5, .ref e6, .ref e7])), (e0, .inl (T 0, 16, .inl p0)), (e2, .inl (T 0, 192, .inl p2))] := hD.sub [8, 0, 1, 2, 3, 4, 5, 6, 7] (by decide) rfl
        have w_34 : (r_32.toInt = x_31.toInt) := hw
        obtain c_35 := w_34
        refine va_iast (D := D) hx hb hK hP hD hS 2 0 rfl rfl (v_in (x := i_3.toInt) rfl (by omega) (by omega)) dX8_listColumns_146 (fun H locs hP hD hS => ?_)
        obtain ⟨f_36, hf_36⟩ : ∃ g : Nat → Int32, g = upd f_6 i_3.toNatClampNeg r_32 := ⟨_, rfl⟩
        have hP : va_P D vwCl [(h0, .inr (8, [.ref z0, .ref z1, .ref z2, .ref z3, .ref z5, .int y5, .int y6, .int y7, .int y8, .int (u_33.2.2.2.1 0)])), (z3, .inl (T 0, 16, .inl f_29)), (z5, .inl (T 0, 16, .inl (upd f_6 i_3.toNatClampNeg r_32))), (h1, .inr (3, [.ref tw, .ref wa, .int s2, .int s3, .int s4, .long s5, .int s6, .ref sw, .ref bl])), (tw, .inr (5, [.int t0, .int t1, .int t2, .int t3, .int t4, .int t5, .int t6, .int t7, .int t8, .ref b0, .ref b1, .ref b2, .ref b3, .ref b4, .ref b5, .ref b6, .ref b7, .ref b8, .ref b9])), (b0, .inl (T 0, 5, .inl f0)), (wa, .inr (7, [.ref tw, .ref e0, .ref e1, .ref e2, .ref e3, .ref e4, .ref e5, .ref e6, .ref e7])), (e0, .inl (T 0, 16, .inl p0)), (e2, .inl (T 0, 192, .inl p2))] H := hP
        have hD : va_D A [(h0, .inr (8, [.ref z0, .ref z1, .ref z2, .ref z3, .ref z5, .int y5, .int y6, .int y7, .int y8, .int (u_33.2.2.2.1 0)])), (z3, .inl (T 0, 16, .inl f_29)), (z5, .inl (T 0, 16, .inl (upd f_6 i_3.toNatClampNeg r_32))), (h1, .inr (3, [.ref tw, .ref wa, .int s2, .int s3, .int s4, .long s5, .int s6, .ref sw, .ref bl])), (tw, .inr (5, [.int t0, .int t1, .int t2, .int t3, .int t4, .int t5, .int t6, .int t7, .int t8, .ref b0, .ref b1, .ref b2, .ref b3, .ref b4, .ref b5, .ref b6, .ref b7, .ref b8, .ref b9])), (b0, .inl (T 0, 5, .inl f0)), (wa, .inr (7, [.ref tw, .ref e0, .ref e1, .ref e2, .ref e3, .ref e4, .ref e5, .ref e6, .ref e7])), (e0, .inl (T 0, 16, .inl p0)), (e2, .inl (T 0, 192, .inl p2))] := hD
        rw [← hf_36] at hP hD
        obtain ⟨x_37, ex_37⟩ : ∃ y : Int32, y = i_3 + 1 := ⟨_, rfl⟩
        have tx_37 : x_37.toInt = i_3.toInt + 1 := t_add (x := i_3.toInt) (y := 1) ex_37 rfl rfl (by omega) (by omega)
        refine lv_iinc (v := x_37) (lv' := [(5, .int x_37), (10, .int 1), (9, .int x_19), (8, .int x_19), (7, .int r_15), (6, .int i_2), (4, .int 0), (0, .ref h0), (1, .ref h1), (2, .int i2), (3, .int i3)]) hx hb dX8_listColumns_147 hl (k := 5) rfl (by rw [ex_37]; rfl) (by decide) rfl (fun ls hl => ?_)
        obtain ⟨x_38, ex_38⟩ : ∃ y : Int32, y = i_2 + 1 := ⟨_, rfl⟩
        have tx_38 : x_38.toInt = i_2.toInt + 1 := t_add (x := i_2.toInt) (y := 1) ex_38 rfl rfl (by omega) (by omega)
        refine lv_iinc (v := x_38) (lv' := [(6, .int x_38), (5, .int x_37), (10, .int 1), (9, .int x_19), (8, .int x_19), (7, .int r_15), (4, .int 0), (0, .ref h0), (1, .ref h1), (2, .int i2), (3, .int i3)]) hx hb dX8_listColumns_150 hl (k := 5) rfl (by rw [ex_38]; rfl) (by decide) rfl (fun ls hl => ?_)
        refine lv_goto (tgt := 21) hx hb dX8_listColumns_153 (by decide) ?_
        exact ih_13 (_, _, _, x_38, x_37, (u_33.2.2.2.1 0), f_29, f_36) ⟨(show 0 ≤ x_38.toInt by omega), (show x_38.toInt ≤ 8 by omega), (show 0 ≤ x_37.toInt by omega), (show x_37.toInt ≤ 16 by omega), (show x_37.toInt ≤ i3.toInt + x_38.toInt by omega), (show x_38.toInt ≤ t1.toInt by omega), hP, hD, hS, lv_sub hl [0, 1, 6, 7, 8, 9, 10] rfl⟩ (show (8 - x_38.toInt).toNat < (8 - i_2.toInt).toNat by omega)
  · have c_1 : s3.toInt = 1 := (c_eq (x := s3.toInt) (y := 1) rfl rfl).mp c_1
    refine lv_iconst (v := 1) hx hb dX8_listColumns_8 (by decide) ?_
    refine lv_goto (tgt := 13) hx hb dX8_listColumns_9 (by decide) ?_
    refine lv_istore (lv' := [(4, .int 1), (0, .ref h0), (1, .ref h1), (2, .int i2), (3, .int i3)]) hx hb dX8_listColumns_13 hl (by decide) rfl (fun ls hl => ?_)
    refine lv_iload_n hx hb dX8_listColumns_15 rfl (lv_at hl 4 rfl) ?_
    refine lv_istore (lv' := [(5, .int i3), (4, .int 1), (0, .ref h0), (1, .ref h1), (2, .int i2), (3, .int i3)]) hx hb dX8_listColumns_16 hl (by decide) rfl (fun ls hl => ?_)
    refine lv_iconst (v := 0) hx hb dX8_listColumns_18 (by decide) ?_
    refine lv_istore (lv' := [(6, .int 0), (5, .int i3), (4, .int 1), (0, .ref h0), (1, .ref h1), (2, .int i2), (3, .int i3)]) hx hb dX8_listColumns_19 hl (by decide) rfl (fun ls hl => ?_)
    refine lp_ind (fun (a : Heap × List Loc × Array Slot × (Int32) × (Int32) × (Int32) × (Nat → Int32) × (Nat → Int32)) => match a with | (H, locs, ls, i_39, i_40, w_41, f_42, f_43) => W p l e _ s m _ below meth c H locs 0 0 _ (F0 m 21 ls [])) (fun (a : Heap × List Loc × Array Slot × (Int32) × (Int32) × (Int32) × (Nat → Int32) × (Nat → Int32)) => match a with | (H, locs, ls, i_39, i_40, w_41, f_42, f_43) => 0 ≤ i_39.toInt ∧ i_39.toInt ≤ 8 ∧ 0 ≤ i_40.toInt ∧ i_40.toInt ≤ 16 ∧ i_40.toInt ≤ i3.toInt + i_39.toInt ∧ i_39.toInt ≤ t1.toInt ∧ va_P D vwCl [(h0, .inr (8, [.ref z0, .ref z1, .ref z2, .ref z3, .ref z5, .int y5, .int y6, .int y7, .int y8, .int w_41])), (z3, .inl (T 0, 16, .inl f_42)), (z5, .inl (T 0, 16, .inl f_43)), (h1, .inr (3, [.ref tw, .ref wa, .int s2, .int s3, .int s4, .long s5, .int s6, .ref sw, .ref bl])), (tw, .inr (5, [.int t0, .int t1, .int t2, .int t3, .int t4, .int t5, .int t6, .int t7, .int t8, .ref b0, .ref b1, .ref b2, .ref b3, .ref b4, .ref b5, .ref b6, .ref b7, .ref b8, .ref b9])), (b0, .inl (T 0, 5, .inl f0)), (wa, .inr (7, [.ref tw, .ref e0, .ref e1, .ref e2, .ref e3, .ref e4, .ref e5, .ref e6, .ref e7])), (e0, .inl (T 0, 16, .inl p0)), (e2, .inl (T 0, 192, .inl p2))] H ∧ va_D A [(h0, .inr (8, [.ref z0, .ref z1, .ref z2, .ref z3, .ref z5, .int y5, .int y6, .int y7, .int y8, .int w_41])), (z3, .inl (T 0, 16, .inl f_42)), (z5, .inl (T 0, 16, .inl f_43)), (h1, .inr (3, [.ref tw, .ref wa, .int s2, .int s3, .int s4, .long s5, .int s6, .ref sw, .ref bl])), (tw, .inr (5, [.int t0, .int t1, .int t2, .int t3, .int t4, .int t5, .int t6, .int t7, .int t8, .ref b0, .ref b1, .ref b2, .ref b3, .ref b4, .ref b5, .ref b6, .ref b7, .ref b8, .ref b9])), (b0, .inl (T 0, 5, .inl f0)), (wa, .inr (7, [.ref tw, .ref e0, .ref e1, .ref e2, .ref e3, .ref e4, .ref e5, .ref e6, .ref e7])), (e0, .inl (T 0, 16, .inl p0)), (e2, .inl (T 0, 192, .inl p2))] ∧ va_S A s.heap H locs ∧ lv_has ls 11 [(6, .int i_39), (5, .int i_40), (4, .int 1), (0, .ref h0), (1, .ref h1), (2, .int i2), (3, .int i3)]) (fun (a : Heap × List Loc × Array Slot × (Int32) × (Int32) × (Int32) × (Nat → Int32) × (Nat → Int32)) => match a with | (H, locs, ls, i_39, i_40, w_41, f_42, f_43) => (8 - i_39.toInt).toNat) ?_ (_, _, ls, (0 : Int32), i3, y9, j3, j4) ⟨(show 0 ≤ 0 by omega), (show 0 ≤ 8 by omega), (show 0 ≤ i3.toInt by omega), (show i3.toInt ≤ 16 by omega), (show i3.toInt ≤ i3.toInt + 0 by omega), (show 0 ≤ t1.toInt by omega), hP, hD, hS, lv_sub hl [0, 1, 2, 3, 4, 5, 6] rfl⟩
    rintro ⟨H, locs, ls, i_39, i_40, w_41, f_42, f_43⟩ ⟨c_44, c_45, c_46, c_47, c_48, c_49, hP, hD, hS, hl⟩ ih_50
    refine lv_iload hx hb dX8_listColumns_21 (lv_at hl 0 rfl) ?_
    refine lv_aload_n hx hb dX8_listColumns_23 rfl (lv_at hl 4 rfl) ?_
    refine va_get (D := D) (ci := 3) (C := RX3) (T := TX3) (N := 9) hx hb hts iX3 hown hK hP 3 rfl rfl 0 (by decide) (hts _ m368) (fun _ h9 => h9) rfl dX8_listColumns_24 ?_
    refine va_get (D := D) (ci := 5) (C := RX5) (T := TX5) (N := 19) hx hb hts iX5 hown hK hP 4 rfl rfl 1 (by decide) (hts _ m170) (fun _ h9 => h9) rfl dX8_listColumns_27 ?_
    refine lv_icmp_ge (tgt := 156) hx hb dX8_listColumns_30 (by decide) (fun c_51 => ?_) (fun c_51 => ?_)
    · have c_51 : t1.toInt ≤ i_39.toInt := (c_le (x := t1.toInt) (y := i_39.toInt) rfl rfl).mp c_51
      refine lv_iload hx hb dX8_listColumns_156 (lv_at hl 1 rfl) ?_
      have hP9 := hP.sub (ws' := [(h0, .inr (8, [.ref z0, .ref z1, .ref z2, .ref z3, .ref z5, .int y5, .int y6, .int y7, .int y8, .int w_41])), (z3, .inl (T 0, 16, .inl f_42)), (z5, .inl (T 0, 16, .inl f_43)), (h1, .inr (3, [.ref tw, .ref wa, .int s2, .int s3, .int s4, .long s5, .int s6, .ref sw, .ref bl])), (tw, .inr (5, [.int t0, .int t1, .int t2, .int t3, .int t4, .int t5, .int t6, .int t7, .int t8, .ref b0, .ref b1, .ref b2, .ref b3, .ref b4, .ref b5, .ref b6, .ref b7, .ref b8, .ref b9])), (b0, .inl (T 0, 5, .inl f0)), (wa, .inr (7, [.ref tw, .ref e0, .ref e1, .ref e2, .ref e3, .ref e4, .ref e5, .ref e6, .ref e7])), (e0, .inl (T 0, 16, .inl p0)), (e2, .inl (T 0, 192, .inl p2))]) [0, 1, 2, 3, 4, 5, 6, 7, 8] rfl
      have hD9 := hD.sub (ws' := [(h0, .inr (8, [.ref z0, .ref z1, .ref z2, .ref z3, .ref z5, .int y5, .int y6, .int y7, .int y8, .int w_41])), (z3, .inl (T 0, 16, .inl f_42)), (z5, .inl (T 0, 16, .inl f_43)), (h1, .inr (3, [.ref tw, .ref wa, .int s2, .int s3, .int s4, .long s5, .int s6, .ref sw, .ref bl])), (tw, .inr (5, [.int t0, .int t1, .int t2, .int t3, .int t4, .int t5, .int t6, .int t7, .int t8, .ref b0, .ref b1, .ref b2, .ref b3, .ref b4, .ref b5, .ref b6, .ref b7, .ref b8, .ref b9])), (b0, .inl (T 0, 5, .inl f0)), (wa, .inr (7, [.ref tw, .ref e0, .ref e1, .ref e2, .ref e3, .ref e4, .ref e5, .ref e6, .ref e7])), (e0, .inl (T 0, 16, .inl p0)), (e2, .inl (T 0, 192, .inl p2))]) [0, 1, 2, 3, 4, 5, 6, 7, 8] (by decide) rfl
      exact W.iret (v := i_40) hx hb hr (fun t ht hW => ⟨⟨i_40, (fun k => ([] : List (Nat)).getD k 0, fun k => ([f_42, f_43] : List (Nat → Int32)).getD k (fun _ => 0), fun k => ([] : List (Nat → Int64)).getD k (fun _ => 0), fun k => ([w_41] : List (Int32)).getD k 0, fun k => ([] : List (Int64)).getD k 0), rfl, (⟨(show 0 ≤ i_40.toInt by omega), (show i_40.toInt ≤ i3.toInt + t1.toInt by omega)⟩), by rw [ht]; exact hP9, hD9⟩, hS.F ht⟩) hS.2.2 dX8_listColumns_158
    · have c_51 : i_39.toInt < t1.toInt := by have h := mt (c_le (x := t1.toInt) (y := i_39.toInt) rfl rfl).mpr c_51; omega
      refine lv_iload_n hx hb dX8_listColumns_33 rfl (lv_at hl 5 rfl) ?_
      refine lv_iload hx hb dX8_listColumns_34 (lv_at hl 0 rfl) ?_
      refine puI (cSN (As := [.int i2, .int i_39]) (rest := []) ⟨hx, hb, hml, hown, hts⟩ (c_X10_placeOf l D T i2 i_39 ⟨by omega, by omega⟩ ⟨by omega, by omega⟩) k_X10_placeOf m769 (hC.2.1 _ (List.mem_of_getElem? (i := 14) rfl)) rfl rfl ⟨(Nat.le_of_ble_eq_true rfl), (Nat.le_of_ble_eq_true rfl)⟩ (preP hC (hP.sub (ws' := []) [] rfl)) rfl hl.1 rfl (Nat.le_of_ble_eq_true rfl) dX8_listColumns_36 ⟨(Nat.le_of_ble_eq_true rfl), (Nat.le_of_ble_eq_true rfl)⟩) hS hP (fun r_52 H locs hw hP hS => ?_)
      have w_54 : (r_52.toInt = 8 * i2.toInt + i_39.toInt) := hw
      obtain c_55 := w_54
      refine lv_istore (lv' := [(7, .int r_52), (6, .int i_39), (5, .int i_40), (4, .int 1), (0, .ref h0), (1, .ref h1), (2, .int i2), (3, .int i3)]) hx hb dX8_listColumns_39 hl (by decide) rfl (fun ls hl => ?_)
      refine lv_aload_n hx hb dX8_listColumns_41 rfl (lv_at hl 5 rfl) ?_
      refine va_get (D := D) (ci := 3) (C := RX3) (T := TX3) (N := 9) hx hb hts iX3 hown hK hP 3 rfl rfl 1 (by decide) (hts _ m376) (fun _ h9 => h9) rfl dX8_listColumns_42 ?_
      refine va_get (D := D) (ci := 7) (C := RX7) (T := TX7) (N := 9) hx hb hts iX7 hown hK hP 6 rfl rfl 1 (by decide) (hts _ m327) (fun _ h9 => h9) rfl dX8_listColumns_45 ?_
      refine lv_iload hx hb dX8_listColumns_48 (lv_at hl 0 rfl) ?_
      refine va_iald (D := D) hx hb hK hP 7 0 rfl rfl (v_in (x := r_52.toInt) rfl (by omega) (by omega)) dX8_listColumns_50 ?_
      refine lv_topi (fun x_56 ex_56 => ?_)
      have tx_56 : 0 ≤ x_56.toInt ∧ x_56.toInt ≤ 12 := rg_at R_p0 ex_56
      have qx_56 : x_56.toInt = (p0 r_52.toNatClampNeg).toInt := by rw [ex_56]
      refine lv_istore (lv' := [(8, .int x_56), (7, .int r_52), (6, .int i_39), (5, .int i_40), (4, .int 1), (0, .ref h0), (1, .ref h1), (2, .int i2), (3, .int i3)]) hx hb dX8_listColumns_51 hl (by decide) rfl (fun ls hl => ?_)
      refine lv_iload hx hb dX8_listColumns_53 (lv_at hl 0 rfl) ?_
      refine lv_if_le (tgt := 150) hx hb dX8_listColumns_55 (by decide) (fun c_57 => ?_) (fun c_57 => ?_)
      · have c_57 : x_56.toInt ≤ 0 := (c_le (x := x_56.toInt) (y := 0) rfl rfl).mp c_57
        obtain ⟨x_58, ex_58⟩ : ∃ y : Int32, y = i_39 + 1 := ⟨_, rfl⟩
        have tx_58 : x_58.toInt = i_39.toInt + 1 := t_add (x := i_39.toInt) (y := 1) ex_58 rfl rfl (by omega) (by omega)
        refine lv_iinc (v := x_58) (lv' := [(6, .int x_58), (8, .int x_56), (7, .int r_52), (5, .int i_40), (4, .int 1), (0, .ref h0), (1, .ref h1), (2, .int i2), (3, .int i3)]) hx hb dX8_listColumns_150 hl (k := 2) rfl (by rw [ex_58]; rfl) (by decide) rfl (fun ls hl => ?_)
        refine lv_goto (tgt := 21) hx hb dX8_listColumns_153 (by decide) ?_
        exact ih_50 (_, _, _, x_58, i_40, w_41, f_42, f_43) ⟨(show 0 ≤ x_58.toInt by omega), (show x_58.toInt ≤ 8 by omega), (show 0 ≤ i_40.toInt by omega), (show i_40.toInt ≤ 16 by omega), (show i_40.toInt ≤ i3.toInt + x_58.toInt by omega), (show x_58.toInt ≤ t1.toInt by omega), hP, hD, hS, lv_sub hl [0, 3, 4, 5, 6, 7, 8] rfl⟩ (show (8 - x_58.toInt).toNat < (8 - i_39.toInt).toNat by omega)
      · have c_57 : 0 < x_56.toInt := by have h := mt (c_le (x := x_56.toInt) (y := 0) rfl rfl).mpr c_57; omega
        refine lv_iload hx hb dX8_listColumns_58 (lv_at hl 4 rfl) ?_
        refine lv_if_eq (tgt := 76) hx hb dX8_listColumns_60 (by decide) (fun c_59 => absurd c_59 (by decide)) (fun _ => ?_)
        refine lv_aload_n hx hb dX8_listColumns_63 rfl (lv_at hl 6 rfl) ?_
        refine va_get (D := D) (ci := 3) (C := RX3) (T := TX3) (N := 9) hx hb hts iX3 hown hK hP 3 rfl rfl 1 (by decide) (hts _ m376) (fun _ h9 => h9) rfl dX8_listColumns_64 ?_
        refine lv_iload hx hb dX8_listColumns_67 (lv_at hl 1 rfl) ?_
        refine lv_iconst (v := 0) hx hb dX8_listColumns_69 (by decide) ?_
        refine puI (cV (As := [.int r_52, .int 0]) (rest := []) ⟨hx, hb, hml, hown, hts⟩ (c_X7_weightFrom l D T b0 b1 b2 b3 b4 b5 b6 b7 b8 b9 e0 e1 e2 e3 e4 e5 e6 e7 wa tw r_52 0 t0 t1 t2 t3 t4 t5 t6 t7 t8 f0 p0 p2 ⟨by omega, by omega⟩ ⟨by omega, by omega⟩ ⟨by omega, by omega⟩ ⟨by omega, by omega⟩ ⟨by omega, by omega⟩ (by decide) R_p0 R_p2) k_X7_weightFrom v_X7_weightFrom m1122 rfl rfl ⟨(Nat.le_of_ble_eq_true rfl), (Nat.le_of_ble_eq_true rfl)⟩ (preP hC (hP.sub (ws' := [(wa, .inr (7, [.ref tw, .ref e0, .ref e1, .ref e2, .ref e3, .ref e4, .ref e5, .ref e6, .ref e7])), (e0, .inl (T 0, 16, .inl p0)), (e2, .inl (T 0, 192, .inl p2)), (tw, .inr (5, [.int t0, .int t1, .int t2, .int t3, .int t4, .int t5, .int t6, .int t7, .int t8, .ref b0, .ref b1, .ref b2, .ref b3, .ref b4, .ref b5, .ref b6, .ref b7, .ref b8, .ref b9])), (b0, .inl (T 0, 5, .inl f0))]) [6, 7, 8, 4, 5] rfl)) (va_recv hK hP (ci := 7) (q0 := 6) rfl rfl) rfl hl.1 rfl (Nat.le_of_ble_eq_true rfl) dX8_listColumns_70 ⟨(Nat.le_of_ble_eq_true rfl), (Nat.le_of_ble_eq_true rfl)⟩) hS hP (fun r_60 H locs hw hP hS => ?_)
        refine lv_goto (tgt := 78) hx hb dX8_listColumns_73 (by decide) ?_
        refine lv_istore (lv' := [(9, .int r_60), (8, .int x_56), (7, .int r_52), (6, .int i_39), (5, .int i_40), (4, .int 1), (0, .ref h0), (1, .ref h1), (2, .int i2), (3, .int i3)]) hx hb dX8_listColumns_78 hl (by decide) rfl (fun ls hl => ?_)
        refine lv_iload hx hb dX8_listColumns_80 (lv_at hl 5 rfl) ?_
        refine lv_if_eq (tgt := 101) hx hb dX8_listColumns_82 (by decide) (fun c_62 => absurd c_62 (by decide)) (fun _ => ?_)
        refine lv_aload_n hx hb dX8_listColumns_85 rfl (lv_at hl 7 rfl) ?_
        refine va_get (D := D) (ci := 3) (C := RX3) (T := TX3) (N := 9) hx hb hts iX3 hown hK hP 3 rfl rfl 1 (by decide) (hts _ m376) (fun _ h9 => h9) rfl dX8_listColumns_86 ?_
        refine lv_iload hx hb dX8_listColumns_89 (lv_at hl 2 rfl) ?_
        refine lv_iload hx hb dX8_listColumns_91 (lv_at hl 1 rfl) ?_
        refine lv_iconst (v := 1) hx hb dX8_listColumns_93 (by decide) ?_
        refine lv_isub hx hb dX8_listColumns_94 ?_
        refine lv_topi (fun x_63 ex_63 => ?_)
        have tx_63 : x_63.toInt = x_56.toInt - 1 := t_sub (x := x_56.toInt) (y := 1) ex_63 rfl rfl (by omega) (by omega)
        refine puI (cV (As := [.int r_52, .int x_63]) (rest := []) ⟨hx, hb, hml, hown, hts⟩ (c_X7_weightOf l D T b0 b1 b2 b3 b4 b5 b6 b7 b8 b9 e0 e1 e2 e3 e4 e5 e6 e7 wa tw r_52 x_63 t0 t1 t2 t3 t4 t5 t6 t7 t8 f0 p2 ⟨by omega, by omega⟩ ⟨by omega, by omega⟩ ⟨by omega, by omega⟩ ⟨by omega, by omega⟩ ⟨by omega, by omega⟩ ⟨by omega, by omega⟩ R_p2) k_X7_weightOf v_X7_weightOf m1123 rfl rfl ⟨(Nat.le_of_ble_eq_true rfl), (Nat.le_of_ble_eq_true rfl)⟩ (preP hC (hP.sub (ws' := [(wa, .inr (7, [.ref tw, .ref e0, .ref e1, .ref e2, .ref e3, .ref e4, .ref e5, .ref e6, .ref e7])), (e2, .inl (T 0, 192, .inl p2)), (tw, .inr (5, [.int t0, .int t1, .int t2, .int t3, .int t4, .int t5, .int t6, .int t7, .int t8, .ref b0, .ref b1, .ref b2, .ref b3, .ref b4, .ref b5, .ref b6, .ref b7, .ref b8, .ref b9])), (b0, .inl (T 0, 5, .inl f0))]) [6, 8, 4, 5] rfl)) (va_recv hK hP (ci := 7) (q0 := 6) rfl rfl) rfl hl.1 rfl (Nat.le_of_ble_eq_true rfl) dX8_listColumns_95 ⟨(Nat.le_of_ble_eq_true rfl), (Nat.le_of_ble_eq_true rfl)⟩) hS hP (fun r_64 H locs hw hP hS => ?_)
        refine lv_goto (tgt := 102) hx hb dX8_listColumns_98 (by decide) ?_
        refine lv_istore (lv' := [(10, .int r_64), (9, .int r_60), (8, .int x_56), (7, .int r_52), (6, .int i_39), (5, .int i_40), (4, .int 1), (0, .ref h0), (1, .ref h1), (2, .int i2), (3, .int i3)]) hx hb dX8_listColumns_102 hl (by decide) rfl (fun ls hl => ?_)
        refine lv_aload_n hx hb dX8_listColumns_104 rfl (lv_at hl 7 rfl) ?_
        refine va_get (D := D) (ci := 8) (C := RX8) (T := TX8) (N := 10) hx hb hts iX8 hown hK hP 0 rfl rfl 3 (by decide) (hts _ m473) (fun _ h9 => h9) rfl dX8_listColumns_105 ?_
        refine lv_iload hx hb dX8_listColumns_108 (lv_at hl 5 rfl) ?_
        refine lv_aload_n hx hb dX8_listColumns_110 rfl (lv_at hl 7 rfl) ?_
        refine lv_aload_n hx hb dX8_listColumns_111 rfl (lv_at hl 7 rfl) ?_
        refine va_get (D := D) (ci := 8) (C := RX8) (T := TX8) (N := 10) hx hb hts iX8 hown hK hP 0 rfl rfl 3 (by decide) (hts _ m473) (fun _ h9 => h9) rfl dX8_listColumns_112 ?_
        refine lv_iload hx hb dX8_listColumns_115 (lv_at hl 5 rfl) ?_
        refine va_iald (D := D) hx hb hK hP 1 0 rfl rfl (v_in (x := i_40.toInt) rfl (by omega) (by omega)) dX8_listColumns_117 ?_
        refine lv_topi (fun x_66 ex_66 => ?_)
        refine lv_iload hx hb dX8_listColumns_118 (lv_at hl 1 rfl) ?_
        refine mtI (wr := [(z3, .inl (T 0, 16, .inl f_42)), (z5, .inl (T 0, 16, .inl f_43)), (h1, .inr (3, [.ref tw, .ref wa, .int s2, .int s3, .int s4, .long s5, .int s6, .ref sw, .ref bl])), (tw, .inr (5, [.int t0, .int t1, .int t2, .int t3, .int t4, .int t5, .int t6, .int t7, .int t8, .ref b0, .ref b1, .ref b2, .ref b3, .ref b4, .ref b5, .ref b6, .ref b7, .ref b8, .ref b9])), (b0, .inl (T 0, 5, .inl f0)), (wa, .inr (7, [.ref tw, .ref e0, .ref e1, .ref e2, .ref e3, .ref e4, .ref e5, .ref e6, .ref e7])), (e0, .inl (T 0, 16, .inl p0)), (e2, .inl (T 0, 192, .inl p2))]) (cV (As := [.int x_66, .int r_60]) (rest := [.int i_40, .ref z3]) ⟨hx, hb, hml, hown, hts⟩ (c_X8_noted l D T h0 z0 z1 z2 z3 z5 x_66 r_60 y5 y6 y7 y8 w_41 _ ⟨by omega, by omega⟩ ⟨by omega, by omega⟩) k_X8_noted v_X8_noted m1124 rfl rfl ⟨(Nat.le_of_ble_eq_true rfl), (Nat.le_of_ble_eq_true rfl)⟩ (preM hC (hP.sub (ws' := [(h0, .inr (8, [.ref z0, .ref z1, .ref z2, .ref z3, .ref z5, .int y5, .int y6, .int y7, .int y8, .int w_41]))]) [0] rfl) (hD.sub (ws' := [(h0, .inr (8, [.ref z0, .ref z1, .ref z2, .ref z3, .ref z5, .int y5, .int y6, .int y7, .int y8, .int w_41]))]) [0] (by decide) rfl)) (va_recv hK hP (ci := 8) (q0 := 0) rfl rfl) rfl hl.1 rfl (Nat.le_of_ble_eq_true rfl) dX8_listColumns_120 ⟨(Nat.le_of_ble_eq_true rfl), (Nat.le_of_ble_eq_true rfl)⟩) hS hA hP hD [0] [1, 2, 3, 4, 5, 6, 7, 8] rfl rfl (by decide) (by decide) (fun r_67 u_68 H locs hw hP hD hS => ?_)
        have hP : va_P D vwCl [(h0, .inr (8, [.ref z0, .ref z1, .ref z2, .ref z3, .ref z5, .int y5, .int y6, .int y7, .int y8, .int (u_68.2.2.2.1 0)])), (z3, .inl (T 0, 16, .inl f_42)), (z5, .inl (T 0, 16, .inl f_43)), (h1, .inr (3, [.ref tw, .ref wa, .int s2, .int s3, .int s4, .long s5, .int s6, .ref sw, .ref bl])), (tw, .inr (5, [.int t0, .int t1, .int t2, .int t3, .int t4, .int t5, .int t6, .int t7, .int t8, .ref b0, .ref b1, .ref b2, .ref b3, .ref b4, .ref b5, .ref b6, .ref b7, .ref b8, .ref b9])), (b0, .inl (T 0, 5, .inl f0)), (wa, .inr (7, [.ref tw, .ref e0, .ref e1, .ref e2, .ref e3, .ref e4, .ref e5, .ref e6, .ref e7])), (e0, .inl (T 0, 16, .inl p0)), (e2, .inl (T 0, 192, .inl p2))] H := hP.sub [8, 0, 1, 2, 3, 4, 5, 6, 7] rfl
        have hD : va_D A [(h0, .inr (8, [.ref z0, .ref z1, .ref z2, .ref z3, .ref z5, .int y5, .int y6, .int y7, .int y8, .int (u_68.2.2.2.1 0)])), (z3, .inl (T 0, 16, .inl f_42)), (z5, .inl (T 0, 16, .inl f_43)), (h1, .inr (3, [.ref tw, .ref wa, .int s2, .int s3, .int s4, .long s5, .int s6, .ref sw, .ref bl])), (tw, .inr (5, [.int t0, .int t1, .int t2, .int t3, .int t4, .int t5, .int t6, .int t7, .int t8, .ref b0, .ref b1, .ref b2, .ref b3, .ref b4, .ref b5, .ref b6, .ref b7, .ref b8, .ref b9])), (b0, .inl (T 0, 5, .inl f0)), (wa, .inr (7, [.ref tw, .ref e0, .ref e1, .ref e2, .ref e3, .ref e4, .ref e5, .ref e6, .ref e7])), (e0, .inl (T 0, 16, .inl p0)), (e2, .inl (T 0, 192, .inl p2))] := hD.sub [8, 0, 1, 2, 3, 4, 5, 6, 7] (by decide) rfl
        have w_69 : (r_67.toInt = r_60.toInt) := hw
        obtain c_70 := w_69
        refine va_iast (D := D) hx hb hK hP hD hS 1 0 rfl rfl (v_in (x := i_40.toInt) rfl (by omega) (by omega)) dX8_listColumns_123 (fun H locs hP hD hS => ?_)
        obtain ⟨f_71, hf_71⟩ : ∃ g : Nat → Int32, g = upd f_42 i_40.toNatClampNeg r_67 := ⟨_, rfl⟩
        have hP : va_P D vwCl [(h0, .inr (8, [.ref z0, .ref z1, .ref z2, .ref z3, .ref z5, .int y5, .int y6, .int y7, .int y8, .int (u_68.2.2.2.1 0)])), (z3, .inl (T 0, 16, .inl (upd f_42 i_40.toNatClampNeg r_67))), (z5, .inl (T 0, 16, .inl f_43)), (h1, .inr (3, [.ref tw, .ref wa, .int s2, .int s3, .int s4, .long s5, .int s6, .ref sw, .ref bl])), (tw, .inr (5, [.int t0, .int t1, .int t2, .int t3, .int t4, .int t5, .int t6, .int t7, .int t8, .ref b0, .ref b1, .ref b2, .ref b3, .ref b4, .ref b5, .ref b6, .ref b7, .ref b8, .ref b9])), (b0, .inl (T 0, 5, .inl f0)), (wa, .inr (7, [.ref tw, .ref e0, .ref e1, .ref e2, .ref e3, .ref e4, .ref e5, .ref e6, .ref e7])), (e0, .inl (T 0, 16, .inl p0)), (e2, .inl (T 0, 192, .inl p2))] H := hP
        have hD : va_D A [(h0, .inr (8, [.ref z0, .ref z1, .ref z2, .ref z3, .ref z5, .int y5, .int y6, .int y7, .int y8, .int (u_68.2.2.2.1 0)])), (z3, .inl (T 0, 16, .inl (upd f_42 i_40.toNatClampNeg r_67))), (z5, .inl (T 0, 16, .inl f_43)), (h1, .inr (3, [.ref tw, .ref wa, .int s2, .int s3, .int s4, .long s5, .int s6, .ref sw, .ref bl])), (tw, .inr (5, [.int t0, .int t1, .int t2, .int t3, .int t4, .int t5, .int t6, .int t7, .int t8, .ref b0, .ref b1, .ref b2, .ref b3, .ref b4, .ref b5, .ref b6, .ref b7, .ref b8, .ref b9])), (b0, .inl (T 0, 5, .inl f0)), (wa, .inr (7, [.ref tw, .ref e0, .ref e1, .ref e2, .ref e3, .ref e4, .ref e5, .ref e6, .ref e7])), (e0, .inl (T 0, 16, .inl p0)), (e2, .inl (T 0, 192, .inl p2))] := hD
        rw [← hf_71] at hP hD
        refine lv_aload_n hx hb dX8_listColumns_124 rfl (lv_at hl 7 rfl) ?_
        refine va_get (D := D) (ci := 8) (C := RX8) (T := TX8) (N := 10) hx hb hts iX8 hown hK hP 0 rfl rfl 4 (by decide) (hts _ m474) (fun _ h9 => h9) rfl dX8_listColumns_125 ?_
        refine lv_iload hx hb dX8_listColumns_128 (lv_at hl 5 rfl) ?_
        refine lv_aload_n hx hb dX8_listColumns_130 rfl (lv_at hl 7 rfl) ?_
        refine lv_aload_n hx hb dX8_listColumns_131 rfl (lv_at hl 7 rfl) ?_
        refine va_get (D := D) (ci := 8) (C := RX8) (T := TX8) (N := 10) hx hb hts iX8 hown hK hP 0 rfl rfl 4 (by decide) (hts _ m474) (fun _ h9 => h9) rfl dX8_listColumns_132 ?_
        refine lv_iload hx hb dX8_listColumns_135 (lv_at hl 5 rfl) ?_
        refine va_iald (D := D) hx hb hK hP 2 0 rfl rfl (v_in (x := i_40.toInt) rfl (by omega) (by omega)) dX8_listColumns_137 ?_
        refine lv_topi (fun x_72 ex_72 => ?_)
        refine lv_iload hx hb dX8_listColumns_138 (lv_at hl 1 rfl) ?_
        refine lv_iload hx hb dX8_listColumns_140 (lv_at hl 0 rfl) ?_
        refine lv_isub hx hb dX8_listColumns_142 ?_
        refine lv_topi (fun x_73 ex_73 => ?_)
        refine mtI (wr := [(z3, .inl (T 0, 16, .inl f_71)), (z5, .inl (T 0, 16, .inl f_43)), (h1, .inr (3, [.ref tw, .ref wa, .int s2, .int s3, .int s4, .long s5, .int s6, .ref sw, .ref bl])), (tw, .inr (5, [.int t0, .int t1, .int t2, .int t3, .int t4, .int t5, .int t6, .int t7, .int t8, .ref b0, .ref b1, .ref b2, .ref b3, .ref b4, .ref b5, .ref b6, .ref b7, .ref b8, .ref b9])), (b0, .inl (T 0, 5, .inl f0)), (wa, .inr (7, [.ref tw, .ref e0, .ref e1, .ref e2, .ref e3, .ref e4, .ref e5, .ref e6, .ref e7])), (e0, .inl (T 0, 16, .inl p0)), (e2, .inl (T 0, 192, .inl p2))]) (cV (As := [.int x_72, .int x_73]) (rest := [.int i_40, .ref z5]) ⟨hx, hb, hml, hown, hts⟩ (c_X8_noted l D T h0 z0 z1 z2 z3 z5 x_72 x_73 y5 y6 y7 y8 (u_68.2.2.2.1 0) _ ⟨by omega, by omega⟩ ⟨by omega, by omega⟩) k_X8_noted v_X8_noted m1124 rfl rfl ⟨(Nat.le_of_ble_eq_true rfl), (Nat.le_of_ble_eq_true rfl)⟩ (preM hC (hP.sub (ws' := [(h0, .inr (8, [.ref z0, .ref z1, .ref z2, .ref z3, .ref z5, .int y5, .int y6, .int y7, .int y8, .int (u_68.2.2.2.1 0)]))]) [0] rfl) (hD.sub (ws' := [(h0, .inr (8, [.ref z0, .ref z1, .ref z2, .ref z3, .ref z5, .int y5, .int y6, .int y7, .int y8, .int (u_68.2.2.2.1 0)]))]) [0] (by decide) rfl)) (va_recv hK hP (ci := 8) (q0 := 0) rfl rfl) rfl hl.1 rfl (Nat.le_of_ble_eq_true rfl) dX8_listColumns_143 ⟨(Nat.le_of_ble_eq_true rfl), (Nat.le_of_ble_eq_true rfl)⟩) hS hA hP hD [0] [1, 2, 3, 4, 5, 6, 7, 8] rfl rfl (by decide) (by decide) (fun r_74 u_75 H locs hw hP hD hS => ?_)
        have hP : va_P D vwCl [(h0, .inr (8, [.ref z0, .ref z1, .ref z2, .ref z3, .ref z5, .int y5, .int y6, .int y7, .int y8, .int (u_75.2.2.2.1 0)])), (z3, .inl (T 0, 16, .inl f_71)), (z5, .inl (T 0, 16, .inl f_43)), (h1, .inr (3, [.ref tw, .ref wa, .int s2, .int s3, .int s4, .long s5, .int s6, .ref sw, .ref bl])), (tw, .inr (5, [.int t0, .int t1, .int t2, .int t3, .int t4, .int t5, .int t6, .int t7, .int t8, .ref b0, .ref b1, .ref b2, .ref b3, .ref b4, .ref b5, .ref b6, .ref b7, .ref b8, .ref b9])), (b0, .inl (T 0, 5, .inl f0)), (wa, .inr (7, [.ref tw, .ref e0, .ref e1, .ref e2, .ref e3, .ref e4, .ref e5, .ref e6, .ref e7])), (e0, .inl (T 0, 16, .inl p0)), (e2, .inl (T 0, 192, .inl p2))] H := hP.sub [8, 0, 1, 2, 3, 4, 5, 6, 7] rfl
        have hD : va_D A [(h0, .inr (8, [.ref z0, .ref z1, .ref z2, .ref z3, .ref z5, .int y5, .int y6, .int y7, .int y8, .int (u_75.2.2.2.1 0)])), (z3, .inl (T 0, 16, .inl f_71)), (z5, .inl (T 0, 16, .inl f_43)), (h1, .inr (3, [.ref tw, .ref wa, .int s2, .int s3, .int s4, .long s5, .int s6, .ref sw, .ref bl])), (tw, .inr (5, [.int t0, .int t1, .int t2, .int t3, .int t4, .int t5, .int t6, .int t7, .int t8, .ref b0, .ref b1, .ref b2, .ref b3, .ref b4, .ref b5, .ref b6, .ref b7, .ref b8, .ref b9])), (b0, .inl (T 0, 5, .inl f0)), (wa, .inr (7, [.ref tw, .ref e0, .ref e1, .ref e2, .ref e3, .ref e4, .ref e5, .ref e6, .ref e7])), (e0, .inl (T 0, 16, .inl p0)), (e2, .inl (T 0, 192, .inl p2))] := hD.sub [8, 0, 1, 2, 3, 4, 5, 6, 7] (by decide) rfl
        have w_76 : (r_74.toInt = x_73.toInt) := hw
        obtain c_77 := w_76
        refine va_iast (D := D) hx hb hK hP hD hS 2 0 rfl rfl (v_in (x := i_40.toInt) rfl (by omega) (by omega)) dX8_listColumns_146 (fun H locs hP hD hS => ?_)
        obtain ⟨f_78, hf_78⟩ : ∃ g : Nat → Int32, g = upd f_43 i_40.toNatClampNeg r_74 := ⟨_, rfl⟩
        have hP : va_P D vwCl [(h0, .inr (8, [.ref z0, .ref z1, .ref z2, .ref z3, .ref z5, .int y5, .int y6, .int y7, .int y8, .int (u_75.2.2.2.1 0)])), (z3, .inl (T 0, 16, .inl f_71)), (z5, .inl (T 0, 16, .inl (upd f_43 i_40.toNatClampNeg r_74))), (h1, .inr (3, [.ref tw, .ref wa, .int s2, .int s3, .int s4, .long s5, .int s6, .ref sw, .ref bl])), (tw, .inr (5, [.int t0, .int t1, .int t2, .int t3, .int t4, .int t5, .int t6, .int t7, .int t8, .ref b0, .ref b1, .ref b2, .ref b3, .ref b4, .ref b5, .ref b6, .ref b7, .ref b8, .ref b9])), (b0, .inl (T 0, 5, .inl f0)), (wa, .inr (7, [.ref tw, .ref e0, .ref e1, .ref e2, .ref e3, .ref e4, .ref e5, .ref e6, .ref e7])), (e0, .inl (T 0, 16, .inl p0)), (e2, .inl (T 0, 192, .inl p2))] H := hP
        have hD : va_D A [(h0, .inr (8, [.ref z0, .ref z1, .ref z2, .ref z3, .ref z5, .int y5, .int y6, .int y7, .int y8, .int (u_75.2.2.2.1 0)])), (z3, .inl (T 0, 16, .inl f_71)), (z5, .inl (T 0, 16, .inl (upd f_43 i_40.toNatClampNeg r_74))), (h1, .inr (3, [.ref tw, .ref wa, .int s2, .int s3, .int s4, .long s5, .int s6, .ref sw, .ref bl])), (tw, .inr (5, [.int t0, .int t1, .int t2, .int t3, .int t4, .int t5, .int t6, .int t7, .int t8, .ref b0, .ref b1, .ref b2, .ref b3, .ref b4, .ref b5, .ref b6, .ref b7, .ref b8, .ref b9])), (b0, .inl (T 0, 5, .inl f0)), (wa, .inr (7, [.ref tw, .ref e0, .ref e1, .ref e2, .ref e3, .ref e4, .ref e5, .ref e6, .ref e7])), (e0, .inl (T 0, 16, .inl p0)), (e2, .inl (T 0, 192, .inl p2))] := hD
        rw [← hf_78] at hP hD
        obtain ⟨x_79, ex_79⟩ : ∃ y : Int32, y = i_40 + 1 := ⟨_, rfl⟩
        have tx_79 : x_79.toInt = i_40.toInt + 1 := t_add (x := i_40.toInt) (y := 1) ex_79 rfl rfl (by omega) (by omega)
        refine lv_iinc (v := x_79) (lv' := [(5, .int x_79), (10, .int r_64), (9, .int r_60), (8, .int x_56), (7, .int r_52), (6, .int i_39), (4, .int 1), (0, .ref h0), (1, .ref h1), (2, .int i2), (3, .int i3)]) hx hb dX8_listColumns_147 hl (k := 5) rfl (by rw [ex_79]; rfl) (by decide) rfl (fun ls hl => ?_)
        obtain ⟨x_80, ex_80⟩ : ∃ y : Int32, y = i_39 + 1 := ⟨_, rfl⟩
        have tx_80 : x_80.toInt = i_39.toInt + 1 := t_add (x := i_39.toInt) (y := 1) ex_80 rfl rfl (by omega) (by omega)
        refine lv_iinc (v := x_80) (lv' := [(6, .int x_80), (5, .int x_79), (10, .int r_64), (9, .int r_60), (8, .int x_56), (7, .int r_52), (4, .int 1), (0, .ref h0), (1, .ref h1), (2, .int i2), (3, .int i3)]) hx hb dX8_listColumns_150 hl (k := 5) rfl (by rw [ex_80]; rfl) (by decide) rfl (fun ls hl => ?_)
        refine lv_goto (tgt := 21) hx hb dX8_listColumns_153 (by decide) ?_
        exact ih_50 (_, _, _, x_80, x_79, (u_75.2.2.2.1 0), f_71, f_78) ⟨(show 0 ≤ x_80.toInt by omega), (show x_80.toInt ≤ 8 by omega), (show 0 ≤ x_79.toInt by omega), (show x_79.toInt ≤ 16 by omega), (show x_79.toInt ≤ i3.toInt + x_80.toInt by omega), (show x_80.toInt ≤ t1.toInt by omega), hP, hD, hS, lv_sub hl [0, 1, 6, 7, 8, 9, 10] rfl⟩ (show (8 - x_80.toInt).toNat < (8 - i_39.toInt).toNat by omega)
