set_option maxHeartbeats 4000000 in
set_option maxRecDepth 100000 in
theorem c_X10_placeOf (l : Launch) (D : va_G) (T : Nat → ClassId) (i1 i2 : Int32) (h_i1 : 0 ≤ i1.toInt ∧ i1.toInt ≤ 1) (h_i2 : 0 ≤ i2.toInt ∧ i2.toInt ≤ 7) : Met l yX10_placeOf (wM yX10_placeOf cX10_placeOf 2 (some .int)) ({ frames := 0, cells := 0, slots := 0, locals := 0 }) (va_Pc [.int i1, .int i2] (pwP D T [])) (va_Qi (fun (r : Int32) (u : Unit) => (r.toInt = 8 * i1.toInt + i2.toInt)) (fun _ _ => True) (fun _ => False)) 0 0 (fun _ => False) := by
  refine Met.ofW (cc := cX10_placeOf) (maxL := 2) (ret := (some .int)) (by decide) rfl ?_
  intro p e s m args below meth c s₁ B hml hv
  obtain ⟨rfl, hP, hC⟩ := hv
  have hx := B.exec
  have hb := B.bytes
  have hr := B.returns
  have hts : ∀ w ∈ gt, w.before _ s = true := fun w hw => atoms_spec (ws := (wM yX10_placeOf cX10_placeOf 2 (some .int))) B.pre w (List.mem_cons_of_mem _ hw)
  have hown : s.vm.findClass RX10 = some m.cls := findClass_of_methodNamed B.named
  have hlocks := B.notSynchronized
  have hK := hC.1
  have hS : va_S (fun _ => False) s.heap s.heap [] := va_S.rf
  have hl := lv_entry ([.int i1, .int i2]) (n := 2) (Nat.le_of_ble_eq_true rfl)
  rw [lg_entry_eq]
  generalize (lg_sl ([.int i1, .int i2]) ++ List.replicate (2 - (lg_sl ([.int i1, .int i2])).length) Slot.unset).toArray = ls at hl ⊢
  have hl : lv_has ls 2 [(0, .int i1), (1, .int i2)] := hl
  refine lv_iload_n hx hb dX10_placeOf_0 rfl (lv_at hl 0 rfl) ?_
  refine lv_bipush (v := 8) hx hb dX10_placeOf_1 (by decide) ?_
  refine lv_imul hx hb dX10_placeOf_3 ?_
  refine lv_topi (fun x_1 ex_1 => ?_)
  have tx_1 : x_1.toInt = i1.toInt * 8 := t_mul (x := i1.toInt) (y := 8) ex_1 rfl rfl (by omega) (by omega)
  refine lv_iload_n hx hb dX10_placeOf_4 rfl (lv_at hl 1 rfl) ?_
  refine lv_iadd hx hb dX10_placeOf_5 ?_
  refine lv_topi (fun x_2 ex_2 => ?_)
  have tx_2 : x_2.toInt = x_1.toInt + i2.toInt := t_add (x := x_1.toInt) (y := i2.toInt) ex_2 rfl rfl (by omega) (by omega)
  exact W.iret (v := x_2) hx hb hr (fun t ht hW => ⟨⟨x_2, (), rfl, (show x_2.toInt = 8 * i1.toInt + i2.toInt by omega), trivial⟩, hS.F ht⟩) hS.2.2 dX10_placeOf_6

set_option maxHeartbeats 4000000 in
set_option maxRecDepth 100000 in
theorem c_X10_indexOf (l : Launch) (D : va_G) (T : Nat → ClassId) (i1 i2 : Int32) (h_i1 : 0 ≤ i1.toInt ∧ i1.toInt ≤ 15) (h_i2 : 0 ≤ i2.toInt ∧ i2.toInt ≤ 11) : Met l yX10_indexOf (wM yX10_indexOf cX10_indexOf 2 (some .int)) ({ frames := 0, cells := 0, slots := 0, locals := 0 }) (va_Pc [.int i1, .int i2] (pwP D T [])) (va_Qi (fun (r : Int32) (u : Unit) => (r.toInt = 12 * i1.toInt + i2.toInt)) (fun _ _ => True) (fun _ => False)) 0 0 (fun _ => False) := by
  refine Met.ofW (cc := cX10_indexOf) (maxL := 2) (ret := (some .int)) (by decide) rfl ?_
  intro p e s m args below meth c s₁ B hml hv
  obtain ⟨rfl, hP, hC⟩ := hv
  have hx := B.exec
  have hb := B.bytes
  have hr := B.returns
  have hts : ∀ w ∈ gt, w.before _ s = true := fun w hw => atoms_spec (ws := (wM yX10_indexOf cX10_indexOf 2 (some .int))) B.pre w (List.mem_cons_of_mem _ hw)
  have hown : s.vm.findClass RX10 = some m.cls := findClass_of_methodNamed B.named
  have hlocks := B.notSynchronized
  have hK := hC.1
  have hS : va_S (fun _ => False) s.heap s.heap [] := va_S.rf
  have hl := lv_entry ([.int i1, .int i2]) (n := 2) (Nat.le_of_ble_eq_true rfl)
  rw [lg_entry_eq]
  generalize (lg_sl ([.int i1, .int i2]) ++ List.replicate (2 - (lg_sl ([.int i1, .int i2])).length) Slot.unset).toArray = ls at hl ⊢
  have hl : lv_has ls 2 [(0, .int i1), (1, .int i2)] := hl
  refine lv_iload_n hx hb dX10_indexOf_0 rfl (lv_at hl 0 rfl) ?_
  refine lv_bipush (v := 12) hx hb dX10_indexOf_1 (by decide) ?_
  refine lv_imul hx hb dX10_indexOf_3 ?_
  refine lv_topi (fun x_1 ex_1 => ?_)
  have tx_1 : x_1.toInt = i1.toInt * 12 := t_mul (x := i1.toInt) (y := 12) ex_1 rfl rfl (by omega) (by omega)
  refine lv_iload_n hx hb dX10_indexOf_4 rfl (lv_at hl 1 rfl) ?_
  refine lv_iadd hx hb dX10_indexOf_5 ?_
  refine lv_topi (fun x_2 ex_2 => ?_)
  have tx_2 : x_2.toInt = x_1.toInt + i2.toInt := t_add (x := x_1.toInt) (y := i2.toInt) ex_2 rfl rfl (by omega) (by omega)
  exact W.iret (v := x_2) hx hb hr (fun t ht hW => ⟨⟨x_2, (), rfl, (show x_2.toInt = 12 * i1.toInt + i2.toInt by omega), trivial⟩, hS.F ht⟩) hS.2.2 dX10_indexOf_6

set_option maxHeartbeats 4000000 in
set_option maxRecDepth 100000 in
theorem c_X7_roomOn (l : Launch) (D : va_G) (T : Nat → ClassId) (e0 e1 e2 e3 e4 e5 e6 e7 h0 tw : Nat) (i1 : Int32) (p0 p7 : Nat → Int32) (h_i1 : 0 ≤ i1.toInt ∧ i1.toInt ≤ 15) (R_p0 : rg 0 12 p0) : Met l yX7_roomOn (wM yX7_roomOn cX7_roomOn 2 (some .int)) ({ frames := 0, cells := 0, slots := 0, locals := 0 }) (va_Pc [.ref h0, .int i1] (pwP D T [(h0, .inr (7, [.ref tw, .ref e0, .ref e1, .ref e2, .ref e3, .ref e4, .ref e5, .ref e6, .ref e7])), (e0, .inl (T 0, 16, .inl p0)), (e7, .inl (T 0, 208, .inl p7))])) (va_Qi (fun (r : Int32) (u : Unit) => True) (fun _ _ => True) (fun _ => False)) 0 0 (fun _ => False) := by
  refine Met.ofW (cc := cX7_roomOn) (maxL := 2) (ret := (some .int)) (by decide) rfl ?_
  intro p e s m args below meth c s₁ B hml hv
  obtain ⟨rfl, hP, hC⟩ := hv
  have hx := B.exec
  have hb := B.bytes
  have hr := B.returns
  have hts : ∀ w ∈ gt, w.before _ s = true := fun w hw => atoms_spec (ws := (wM yX7_roomOn cX7_roomOn 2 (some .int))) B.pre w (List.mem_cons_of_mem _ hw)
  have hown : s.vm.findClass RX7 = some m.cls := findClass_of_methodNamed B.named
  have hlocks := B.notSynchronized
  have hK := hC.1
  have hS : va_S (fun _ => False) s.heap s.heap [] := va_S.rf
  have hl := lv_entry ([.ref h0, .int i1]) (n := 2) (Nat.le_of_ble_eq_true rfl)
  rw [lg_entry_eq]
  generalize (lg_sl ([.ref h0, .int i1]) ++ List.replicate (2 - (lg_sl ([.ref h0, .int i1])).length) Slot.unset).toArray = ls at hl ⊢
  have hl : lv_has ls 2 [(0, .ref h0), (1, .int i1)] := hl
  refine lv_aload_n hx hb dX7_roomOn_0 rfl (lv_at hl 0 rfl) ?_
  refine va_get (D := D) (ci := 7) (C := RX7) (T := TX7) (N := 9) hx hb hts iX7 hown hK hP 0 rfl rfl 8 (by decide) (hts _ m342) (fun _ h9 => h9) rfl dX7_roomOn_1 ?_
  refine lv_iload_n hx hb dX7_roomOn_4 rfl (lv_at hl 1 rfl) ?_
  refine lv_bipush (v := 13) hx hb dX7_roomOn_5 (by decide) ?_
  refine lv_imul hx hb dX7_roomOn_7 ?_
  refine lv_topi (fun x_1 ex_1 => ?_)
  have tx_1 : x_1.toInt = i1.toInt * 13 := t_mul (x := i1.toInt) (y := 13) ex_1 rfl rfl (by omega) (by omega)
  refine lv_aload_n hx hb dX7_roomOn_8 rfl (lv_at hl 0 rfl) ?_
  refine va_get (D := D) (ci := 7) (C := RX7) (T := TX7) (N := 9) hx hb hts iX7 hown hK hP 0 rfl rfl 1 (by decide) (hts _ m325) (fun _ h9 => h9) rfl dX7_roomOn_9 ?_
  refine lv_iload_n hx hb dX7_roomOn_12 rfl (lv_at hl 1 rfl) ?_
  refine va_iald (D := D) hx hb hK hP 1 0 rfl rfl (v_in (x := i1.toInt) rfl (by omega) (by omega)) dX7_roomOn_13 ?_
  refine lv_topi (fun x_2 ex_2 => ?_)
  have tx_2 : 0 ≤ x_2.toInt ∧ x_2.toInt ≤ 12 := rg_at R_p0 ex_2
  refine lv_iadd hx hb dX7_roomOn_14 ?_
  refine lv_topi (fun x_3 ex_3 => ?_)
  have tx_3 : x_3.toInt = x_1.toInt + x_2.toInt := t_add (x := x_1.toInt) (y := x_2.toInt) ex_3 rfl rfl (by omega) (by omega)
  refine va_iald (D := D) hx hb hK hP 2 0 rfl rfl (v_in (x := x_3.toInt) rfl (by omega) (by omega)) dX7_roomOn_15 ?_
  refine lv_topi (fun x_4 ex_4 => ?_)
  exact W.iret (v := x_4) hx hb hr (fun t ht hW => ⟨⟨x_4, (), rfl, trivial, trivial⟩, hS.F ht⟩) hS.2.2 dX7_roomOn_16

set_option maxHeartbeats 4000000 in
set_option maxRecDepth 100000 in
theorem c_X7_fits (l : Launch) (D : va_G) (T : Nat → ClassId) (b0 b1 b2 b3 b4 b5 b6 b7 b8 b9 e0 e1 e2 e3 e4 e5 e6 e7 h0 tw : Nat) (i1 i2 t0 t1 t2 t3 t4 t5 t6 t7 t8 : Int32) (p0 p7 : Nat → Int32) (h_t1 : 0 ≤ t1.toInt ∧ t1.toInt ≤ 8) (h_t2 : 0 ≤ t2.toInt ∧ t2.toInt ≤ 12) (h_t4 : 0 ≤ t4.toInt ∧ t4.toInt ≤ 5) (h_t5 : 0 ≤ t5.toInt ∧ t5.toInt ≤ 10) (h_i1 : 0 ≤ i1.toInt ∧ i1.toInt ≤ 15) (R_p0 : rg 0 12 p0) : Met l yX7_fits (wM yX7_fits cX7_fits 6 (some .boolean)) ({ frames := 0, cells := 0, slots := 0, locals := 0 }) (va_Pc [.ref h0, .int i1, .int i2] (pwP D T [(h0, .inr (7, [.ref tw, .ref e0, .ref e1, .ref e2, .ref e3, .ref e4, .ref e5, .ref e6, .ref e7])), (e0, .inl (T 0, 16, .inl p0)), (e7, .inl (T 0, 208, .inl p7)), (tw, .inr (5, [.int t0, .int t1, .int t2, .int t3, .int t4, .int t5, .int t6, .int t7, .int t8, .ref b0, .ref b1, .ref b2, .ref b3, .ref b4, .ref b5, .ref b6, .ref b7, .ref b8, .ref b9]))])) (va_Qi (fun (r : Int32) (u : Unit) => (r = 1 ∧ (p0 i1.toNatClampNeg).toInt < t2.toInt) ∨ (r = 0)) (fun _ _ => True) (fun _ => False)) 0 0 (fun _ => False) := by
  refine Met.ofW (cc := cX7_fits) (maxL := 6) (ret := (some .boolean)) (by decide) rfl ?_
  intro p e s m args below meth c s₁ B hml hv
  obtain ⟨rfl, hP, hC⟩ := hv
  have hx := B.exec
  have hb := B.bytes
  have hr := B.returns
  have hts : ∀ w ∈ gt, w.before _ s = true := fun w hw => atoms_spec (ws := (wM yX7_fits cX7_fits 6 (some .boolean))) B.pre w (List.mem_cons_of_mem _ hw)
  have hown : s.vm.findClass RX7 = some m.cls := findClass_of_methodNamed B.named
  have hlocks := B.notSynchronized
  have hK := hC.1
  have hS : va_S (fun _ => False) s.heap s.heap [] := va_S.rf
  have hl := lv_entry ([.ref h0, .int i1, .int i2]) (n := 6) (Nat.le_of_ble_eq_true rfl)
  rw [lg_entry_eq]
  generalize (lg_sl ([.ref h0, .int i1, .int i2]) ++ List.replicate (6 - (lg_sl ([.ref h0, .int i1, .int i2])).length) Slot.unset).toArray = ls at hl ⊢
  have hl : lv_has ls 6 [(0, .ref h0), (1, .int i1), (2, .int i2)] := hl
  refine lv_aload_n hx hb dX7_fits_0 rfl (lv_at hl 0 rfl) ?_
  refine va_get (D := D) (ci := 7) (C := RX7) (T := TX7) (N := 9) hx hb hts iX7 hown hK hP 0 rfl rfl 1 (by decide) (hts _ m325) (fun _ h9 => h9) rfl dX7_fits_1 ?_
  refine lv_iload_n hx hb dX7_fits_4 rfl (lv_at hl 1 rfl) ?_
  refine va_iald (D := D) hx hb hK hP 1 0 rfl rfl (v_in (x := i1.toInt) rfl (by omega) (by omega)) dX7_fits_5 ?_
  refine lv_topi (fun x_1 ex_1 => ?_)
  have tx_1 : 0 ≤ x_1.toInt ∧ x_1.toInt ≤ 12 := rg_at R_p0 ex_1
  refine lv_istore_n (lv' := [(3, .int x_1), (0, .ref h0), (1, .int i1), (2, .int i2)]) hx hb dX7_fits_6 rfl hl (by decide) rfl (fun ls hl => ?_)
  refine lv_iload_n hx hb dX7_fits_7 rfl (lv_at hl 0 rfl) ?_
  refine lv_aload_n hx hb dX7_fits_8 rfl (lv_at hl 1 rfl) ?_
  refine va_get (D := D) (ci := 7) (C := RX7) (T := TX7) (N := 9) hx hb hts iX7 hown hK hP 0 rfl rfl 0 (by decide) (hts _ m324) (fun _ h9 => h9) rfl dX7_fits_9 ?_
  refine va_get (D := D) (ci := 5) (C := RX5) (T := TX5) (N := 19) hx hb hts iX5 hown hK hP 3 rfl rfl 2 (by decide) (hts _ m175) (fun _ h9 => h9) rfl dX7_fits_12 ?_
  refine lv_icmp_ge (tgt := 33) hx hb dX7_fits_15 (by decide) (fun c_2 => ?_) (fun c_2 => ?_)
  · have c_2 : t2.toInt ≤ x_1.toInt := (c_le (x := t2.toInt) (y := x_1.toInt) rfl rfl).mp c_2
    refine lv_iconst (v := 0) hx hb dX7_fits_33 (by decide) ?_
    exact W.zret (v := 0) hx hb hr rfl (fun t ht hW => ⟨⟨0, (), rfl, (Or.inr rfl), trivial⟩, hS.F ht⟩) hS.2.2 dX7_fits_34
  · have c_2 : x_1.toInt < t2.toInt := by have h := mt (c_le (x := t2.toInt) (y := x_1.toInt) rfl rfl).mpr c_2; omega
    refine lv_iload_n hx hb dX7_fits_18 rfl (lv_at hl 3 rfl) ?_
    refine lv_aload_n hx hb dX7_fits_19 rfl (lv_at hl 1 rfl) ?_
    refine va_get (D := D) (ci := 7) (C := RX7) (T := TX7) (N := 9) hx hb hts iX7 hown hK hP 0 rfl rfl 8 (by decide) (hts _ m342) (fun _ h9 => h9) rfl dX7_fits_20 ?_
    refine lv_iload_n hx hb dX7_fits_23 rfl (lv_at hl 2 rfl) ?_
    refine lv_bipush (v := 13) hx hb dX7_fits_24 (by decide) ?_
    refine lv_imul hx hb dX7_fits_26 ?_
    refine lv_topi (fun x_3 ex_3 => ?_)
    have tx_3 : x_3.toInt = i1.toInt * 13 := t_mul (x := i1.toInt) (y := 13) ex_3 rfl rfl (by omega) (by omega)
    refine lv_iload_n hx hb dX7_fits_27 rfl (lv_at hl 0 rfl) ?_
    refine lv_iadd hx hb dX7_fits_28 ?_
    refine lv_topi (fun x_4 ex_4 => ?_)
    have tx_4 : x_4.toInt = x_3.toInt + x_1.toInt := t_add (x := x_3.toInt) (y := x_1.toInt) ex_4 rfl rfl (by omega) (by omega)
    refine va_iald (D := D) hx hb hK hP 2 0 rfl rfl (v_in (x := x_4.toInt) rfl (by omega) (by omega)) dX7_fits_29 ?_
    refine lv_topi (fun x_5 ex_5 => ?_)
    refine lv_icmp_le (tgt := 35) hx hb dX7_fits_30 (by decide) (fun c_6 => ?_) (fun c_6 => ?_)
    · have c_6 : i2.toInt ≤ x_5.toInt := (c_le (x := i2.toInt) (y := x_5.toInt) rfl rfl).mp c_6
      refine lv_iload_n hx hb dX7_fits_35 rfl (lv_at hl 2 rfl) ?_
      refine lv_bipush (v := 8) hx hb dX7_fits_36 (by decide) ?_
      refine lv_irem hx hb dX7_fits_38 (by decide) ?_
      refine lv_topi (fun x_7 ex_7 => ?_)
      have tx_7 : x_7.toInt = i1.toInt % 8 := t_rem (x := i1.toInt) (y := 8) ex_7 rfl rfl (by omega) (by omega) (by omega)
      refine lv_istore (lv' := [(4, .int x_7), (3, .int x_1), (0, .ref h0), (1, .int i1), (2, .int i2)]) hx hb dX7_fits_39 hl (by decide) rfl (fun ls hl => ?_)
      refine lv_iload_n hx hb dX7_fits_41 rfl (lv_at hl 1 rfl) ?_
      refine lv_iconst (v := 1) hx hb dX7_fits_42 (by decide) ?_
      refine lv_iadd hx hb dX7_fits_43 ?_
      refine lv_topi (fun x_8 ex_8 => ?_)
      have tx_8 : x_8.toInt = x_1.toInt + 1 := t_add (x := x_1.toInt) (y := 1) ex_8 rfl rfl (by omega) (by omega)
      refine lv_aload_n hx hb dX7_fits_44 rfl (lv_at hl 2 rfl) ?_
      refine va_get (D := D) (ci := 7) (C := RX7) (T := TX7) (N := 9) hx hb hts iX7 hown hK hP 0 rfl rfl 0 (by decide) (hts _ m324) (fun _ h9 => h9) rfl dX7_fits_45 ?_
      refine va_get (D := D) (ci := 5) (C := RX5) (T := TX5) (N := 19) hx hb hts iX5 hown hK hP 3 rfl rfl 3 (by decide) (hts _ m179) (fun _ h9 => h9) rfl dX7_fits_48 ?_
      refine lv_isub hx hb dX7_fits_51 ?_
      refine lv_topi (fun x_9 ex_9 => ?_)
      refine lv_istore (lv' := [(5, .int x_9), (4, .int x_7), (3, .int x_1), (0, .ref h0), (1, .int i1), (2, .int i2)]) hx hb dX7_fits_52 hl (by decide) rfl (fun ls hl => ?_)
      refine lv_iload hx hb dX7_fits_54 (lv_at hl 1 rfl) ?_
      refine lv_if_le (tgt := 74) hx hb dX7_fits_56 (by decide) (fun c_10 => ?_) (fun c_10 => ?_)
      · have c_10 : x_7.toInt ≤ 0 := (c_le (x := x_7.toInt) (y := 0) rfl rfl).mp c_10
        refine lv_iload hx hb dX7_fits_74 (lv_at hl 1 rfl) ?_
        refine lv_iconst (v := 1) hx hb dX7_fits_76 (by decide) ?_
        refine lv_iadd hx hb dX7_fits_77 ?_
        refine lv_topi (fun x_11 ex_11 => ?_)
        have tx_11 : x_11.toInt = x_7.toInt + 1 := t_add (x := x_7.toInt) (y := 1) ex_11 rfl rfl (by omega) (by omega)
        refine lv_aload_n hx hb dX7_fits_78 rfl (lv_at hl 3 rfl) ?_
        refine va_get (D := D) (ci := 7) (C := RX7) (T := TX7) (N := 9) hx hb hts iX7 hown hK hP 0 rfl rfl 0 (by decide) (hts _ m324) (fun _ h9 => h9) rfl dX7_fits_79 ?_
        refine va_get (D := D) (ci := 5) (C := RX5) (T := TX5) (N := 19) hx hb hts iX5 hown hK hP 3 rfl rfl 1 (by decide) (hts _ m172) (fun _ h9 => h9) rfl dX7_fits_82 ?_
        refine lv_icmp_ge (tgt := 101) hx hb dX7_fits_85 (by decide) (fun c_12 => ?_) (fun c_12 => ?_)
        · have c_12 : t1.toInt ≤ x_11.toInt := (c_le (x := t1.toInt) (y := x_11.toInt) rfl rfl).mp c_12
          refine lv_iconst (v := 1) hx hb dX7_fits_101 (by decide) ?_
          refine lv_goto (tgt := 106) hx hb dX7_fits_102 (by decide) ?_
          exact W.zret (v := 1) hx hb hr rfl (fun t ht hW => ⟨⟨1, (), rfl, (Or.inl (⟨rfl, (show (p0 i1.toNatClampNeg).toInt < t2.toInt by rw [← ex_1]; omega)⟩)), trivial⟩, hS.F ht⟩) hS.2.2 dX7_fits_106
        · have c_12 : x_11.toInt < t1.toInt := by have h := mt (c_le (x := t1.toInt) (y := x_11.toInt) rfl rfl).mpr c_12; omega
          refine lv_aload_n hx hb dX7_fits_88 rfl (lv_at hl 3 rfl) ?_
          refine va_get (D := D) (ci := 7) (C := RX7) (T := TX7) (N := 9) hx hb hts iX7 hown hK hP 0 rfl rfl 1 (by decide) (hts _ m325) (fun _ h9 => h9) rfl dX7_fits_89 ?_
          refine lv_iload_n hx hb dX7_fits_92 rfl (lv_at hl 4 rfl) ?_
          refine lv_iconst (v := 1) hx hb dX7_fits_93 (by decide) ?_
          refine lv_iadd hx hb dX7_fits_94 ?_
          refine lv_topi (fun x_13 ex_13 => ?_)
          have tx_13 : x_13.toInt = i1.toInt + 1 := t_add (x := i1.toInt) (y := 1) ex_13 rfl rfl (by omega) (by omega)
          refine va_iald (D := D) hx hb hK hP 1 0 rfl rfl (v_in (x := x_13.toInt) rfl (by omega) (by omega)) dX7_fits_95 ?_
          refine lv_topi (fun x_14 ex_14 => ?_)
          have tx_14 : 0 ≤ x_14.toInt ∧ x_14.toInt ≤ 12 := rg_at R_p0 ex_14
          refine lv_iload hx hb dX7_fits_96 (lv_at hl 0 rfl) ?_
          refine lv_icmp_lt (tgt := 105) hx hb dX7_fits_98 (by decide) (fun c_15 => ?_) (fun c_15 => ?_)
          · have c_15 : x_14.toInt < x_9.toInt := (c_lt (x := x_14.toInt) (y := x_9.toInt) rfl rfl).mp c_15
            refine lv_iconst (v := 0) hx hb dX7_fits_105 (by decide) ?_
            exact W.zret (v := 0) hx hb hr rfl (fun t ht hW => ⟨⟨0, (), rfl, (Or.inr rfl), trivial⟩, hS.F ht⟩) hS.2.2 dX7_fits_106
          · have c_15 : x_9.toInt ≤ x_14.toInt := by have h := mt (c_lt (x := x_14.toInt) (y := x_9.toInt) rfl rfl).mpr c_15; omega
            refine lv_iconst (v := 1) hx hb dX7_fits_101 (by decide) ?_
            refine lv_goto (tgt := 106) hx hb dX7_fits_102 (by decide) ?_
            exact W.zret (v := 1) hx hb hr rfl (fun t ht hW => ⟨⟨1, (), rfl, (Or.inl (⟨rfl, (show (p0 i1.toNatClampNeg).toInt < t2.toInt by rw [← ex_1]; omega)⟩)), trivial⟩, hS.F ht⟩) hS.2.2 dX7_fits_106
      · have c_10 : 0 < x_7.toInt := by have h := mt (c_le (x := x_7.toInt) (y := 0) rfl rfl).mpr c_10; omega
        refine lv_aload_n hx hb dX7_fits_59 rfl (lv_at hl 3 rfl) ?_
        refine va_get (D := D) (ci := 7) (C := RX7) (T := TX7) (N := 9) hx hb hts iX7 hown hK hP 0 rfl rfl 1 (by decide) (hts _ m325) (fun _ h9 => h9) rfl dX7_fits_60 ?_
        refine lv_iload_n hx hb dX7_fits_63 rfl (lv_at hl 4 rfl) ?_
        refine lv_iconst (v := 1) hx hb dX7_fits_64 (by decide) ?_
        refine lv_isub hx hb dX7_fits_65 ?_
        refine lv_topi (fun x_16 ex_16 => ?_)
        have tx_16 : x_16.toInt = i1.toInt - 1 := t_sub (x := i1.toInt) (y := 1) ex_16 rfl rfl (by omega) (by omega)
        refine va_iald (D := D) hx hb hK hP 1 0 rfl rfl (v_in (x := x_16.toInt) rfl (by omega) (by omega)) dX7_fits_66 ?_
        refine lv_topi (fun x_17 ex_17 => ?_)
        have tx_17 : 0 ≤ x_17.toInt ∧ x_17.toInt ≤ 12 := rg_at R_p0 ex_17
        refine lv_iload hx hb dX7_fits_67 (lv_at hl 0 rfl) ?_
        refine lv_icmp_ge (tgt := 74) hx hb dX7_fits_69 (by decide) (fun c_18 => ?_) (fun c_18 => ?_)
        · have c_18 : x_9.toInt ≤ x_17.toInt := (c_le (x := x_9.toInt) (y := x_17.toInt) rfl rfl).mp c_18
          refine lv_iload hx hb dX7_fits_74 (lv_at hl 1 rfl) ?_
          refine lv_iconst (v := 1) hx hb dX7_fits_76 (by decide) ?_
          refine lv_iadd hx hb dX7_fits_77 ?_
          refine lv_topi (fun x_19 ex_19 => ?_)
          have tx_19 : x_19.toInt = x_7.toInt + 1 := t_add (x := x_7.toInt) (y := 1) ex_19 rfl rfl (by omega) (by omega)
          refine lv_aload_n hx hb dX7_fits_78 rfl (lv_at hl 3 rfl) ?_
          refine va_get (D := D) (ci := 7) (C := RX7) (T := TX7) (N := 9) hx hb hts iX7 hown hK hP 0 rfl rfl 0 (by decide) (hts _ m324) (fun _ h9 => h9) rfl dX7_fits_79 ?_
          refine va_get (D := D) (ci := 5) (C := RX5) (T := TX5) (N := 19) hx hb hts iX5 hown hK hP 3 rfl rfl 1 (by decide) (hts _ m172) (fun _ h9 => h9) rfl dX7_fits_82 ?_
          refine lv_icmp_ge (tgt := 101) hx hb dX7_fits_85 (by decide) (fun c_20 => ?_) (fun c_20 => ?_)
          · have c_20 : t1.toInt ≤ x_19.toInt := (c_le (x := t1.toInt) (y := x_19.toInt) rfl rfl).mp c_20
            refine lv_iconst (v := 1) hx hb dX7_fits_101 (by decide) ?_
            refine lv_goto (tgt := 106) hx hb dX7_fits_102 (by decide) ?_
            exact W.zret (v := 1) hx hb hr rfl (fun t ht hW => ⟨⟨1, (), rfl, (Or.inl (⟨rfl, (show (p0 i1.toNatClampNeg).toInt < t2.toInt by rw [← ex_1]; omega)⟩)), trivial⟩, hS.F ht⟩) hS.2.2 dX7_fits_106
          · have c_20 : x_19.toInt < t1.toInt := by have h := mt (c_le (x := t1.toInt) (y := x_19.toInt) rfl rfl).mpr c_20; omega
            refine lv_aload_n hx hb dX7_fits_88 rfl (lv_at hl 3 rfl) ?_
            refine va_get (D := D) (ci := 7) (C := RX7) (T := TX7) (N := 9) hx hb hts iX7 hown hK hP 0 rfl rfl 1 (by decide) (hts _ m325) (fun _ h9 => h9) rfl dX7_fits_89 ?_
            refine lv_iload_n hx hb dX7_fits_92 rfl (lv_at hl 4 rfl) ?_
            refine lv_iconst (v := 1) hx hb dX7_fits_93 (by decide) ?_
            refine lv_iadd hx hb dX7_fits_94 ?_
            refine lv_topi (fun x_21 ex_21 => ?_)
            have tx_21 : x_21.toInt = i1.toInt + 1 := t_add (x := i1.toInt) (y := 1) ex_21 rfl rfl (by omega) (by omega)
            refine va_iald (D := D) hx hb hK hP 1 0 rfl rfl (v_in (x := x_21.toInt) rfl (by omega) (by omega)) dX7_fits_95 ?_
            refine lv_topi (fun x_22 ex_22 => ?_)
            have tx_22 : 0 ≤ x_22.toInt ∧ x_22.toInt ≤ 12 := rg_at R_p0 ex_22
            refine lv_iload hx hb dX7_fits_96 (lv_at hl 0 rfl) ?_
            refine lv_icmp_lt (tgt := 105) hx hb dX7_fits_98 (by decide) (fun c_23 => ?_) (fun c_23 => ?_)
            · have c_23 : x_22.toInt < x_9.toInt := (c_lt (x := x_22.toInt) (y := x_9.toInt) rfl rfl).mp c_23
              refine lv_iconst (v := 0) hx hb dX7_fits_105 (by decide) ?_
              exact W.zret (v := 0) hx hb hr rfl (fun t ht hW => ⟨⟨0, (), rfl, (Or.inr rfl), trivial⟩, hS.F ht⟩) hS.2.2 dX7_fits_106
            · have c_23 : x_9.toInt ≤ x_22.toInt := by have h := mt (c_lt (x := x_22.toInt) (y := x_9.toInt) rfl rfl).mpr c_23; omega
              refine lv_iconst (v := 1) hx hb dX7_fits_101 (by decide) ?_
              refine lv_goto (tgt := 106) hx hb dX7_fits_102 (by decide) ?_
              exact W.zret (v := 1) hx hb hr rfl (fun t ht hW => ⟨⟨1, (), rfl, (Or.inl (⟨rfl, (show (p0 i1.toNatClampNeg).toInt < t2.toInt by rw [← ex_1]; omega)⟩)), trivial⟩, hS.F ht⟩) hS.2.2 dX7_fits_106
        · have c_18 : x_17.toInt < x_9.toInt := by have h := mt (c_le (x := x_9.toInt) (y := x_17.toInt) rfl rfl).mpr c_18; omega
          refine lv_iconst (v := 0) hx hb dX7_fits_72 (by decide) ?_
          exact W.zret (v := 0) hx hb hr rfl (fun t ht hW => ⟨⟨0, (), rfl, (Or.inr rfl), trivial⟩, hS.F ht⟩) hS.2.2 dX7_fits_73
    · have c_6 : x_5.toInt < i2.toInt := by have h := mt (c_le (x := i2.toInt) (y := x_5.toInt) rfl rfl).mpr c_6; omega
      refine lv_iconst (v := 0) hx hb dX7_fits_33 (by decide) ?_
      exact W.zret (v := 0) hx hb hr rfl (fun t ht hW => ⟨⟨0, (), rfl, (Or.inr rfl), trivial⟩, hS.F ht⟩) hS.2.2 dX7_fits_34
