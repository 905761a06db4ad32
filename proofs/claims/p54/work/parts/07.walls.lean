set_option maxHeartbeats 4000000 in
set_option maxRecDepth 100000 in
theorem c_X10_placeOf (l : Launch) (D : va_G) (T : Nat → ClassId) (i1 i2 : Int32) (h_i1 : 0 ≤ i1.toInt ∧ i1.toInt ≤ 1) (h_i2 : 0 ≤ i2.toInt ∧ i2.toInt ≤ 7) : Met l yX10_placeOf (wM yX10_placeOf cX10_placeOf 2 (some .int)) ({ frames := 0, cells := 0, slots := 0, locals := 0 }) (va_Pc [.int i1, .int i2] (pwP D T [])) (va_Qi (fun (r : Int32) (u : Unit) => (r.toInt = 8 * i1.toInt + i2.toInt)) (fun _ _ => True) (fun _ => False)) 0 0 (fun _ => False) := by
  refine Met.ofW (cc := cX10_placeOf) (maxL := 2) (ret := (some .int)) (by decide) rfl ?_
  intro p e s m args below meth c s₁ B hml hv
  obtain ⟨rfl, hP, hC⟩ := hv
  have hx := B.exec
  have hb := B.bytes
  have hr := B.returns
  have hts : ∀ w ∈ gt, w.before _ s = true := fun w hw => atoms_spec (ws := (wM yX10_placeOf cX10_placeOf 2 (some .int))) B.pre w (List.mem_cons_of_mem _ hw)
  have hown : s.vm.findClass RX10 = some m.cls := findClass_of_methodNamed B.named
  have hlocks := B.notSynchronized
  have hK := hC.1
  have hS : va_S (fun _ => False) s.heap s.heap [] := va_S.rf
  have hl := lv_entry ([.int i1, .int i2]) (n := 2) (Nat.le_of_ble_eq_true rfl)
  rw [lg_entry_eq]
  generalize (lg_sl ([.int i1, .int i2]) ++ List.replicate (2 - (lg_sl ([.int i1, .int i2])).length) Slot.unset).toArray = ls at hl ⊢
  have hl : lv_has ls 2 [(0, .int i1), (1, .int i2)] := hl
  refine lv_iload_n hx hb dX10_placeOf_0 rfl (lv_at hl 0 rfl) ?_
  refine lv_bipush (v := 8) hx hb dX10_placeOf_1 (by decide) ?_
  refine lv_imul hx hb dX10_placeOf_3 ?_
  refine lv_topi (fun x_1 ex_1 => ?_)
  have tx_1 : x_1.toInt = i1.toInt * 8 := t_mul (x := i1.toInt) (y := 8) ex_1 rfl rfl (by omega) (by omega)
  refine lv_iload_n hx hb dX10_placeOf_4 rfl (lv_at hl 1 rfl) ?_
  refine lv_iadd hx hb dX10_placeOf_5 ?_
  refine lv_topi (fun x_2 ex_2 => ?_)
  have tx_2 : x_2.toInt = x_1.toInt + i2.toInt := t_add (x := x_1.toInt) (y := i2.toInt) ex_2 rfl rfl (by omega) (by omega)
  exact W.iret (v := x_2) hx hb hr (fun t ht hW => ⟨⟨x_2, (), rfl, (show x_2.toInt = 8 * i1.toInt + i2.toInt by omega), trivial⟩, hS.F ht⟩) hS.2.2 dX10_placeOf_6

set_option maxHeartbeats 4000000 in
set_option maxRecDepth 100000 in
theorem c_X10_indexOf (l : Launch) (D : va_G) (T : Nat → ClassId) (i1 i2 : Int32) (h_i1 : 0 ≤ i1.toInt ∧ i1.toInt ≤ 15) (h_i2 : 0 ≤ i2.toInt ∧ i2.toInt ≤ 11) : Met l yX10_indexOf (wM yX10_indexOf cX10_indexOf 2 (some .int)) ({ frames := 0, cells := 0, slots := 0, locals := 0 }) (va_Pc [.int i1, .int i2] (pwP D T [])) (va_Qi (fun (r : Int32) (u : Unit) => (r.toInt = 12 * i1.toInt + i2.toInt)) (fun _ _ => True) (fun _ => False)) 0 0 (fun _ => False) := by
  refine Met.ofW (cc := cX10_indexOf) (maxL := 2) (ret := (some .int)) (by decide) rfl ?_
  intro p e s m args below meth c s₁ B hml hv
  obtain ⟨rfl, hP, hC⟩ := hv
  have hx := B.exec
  have hb := B.bytes
  have hr := B.returns
  have hts : ∀ w ∈ gt, w.before _ s = true := fun w hw => atoms_spec (ws := (wM yX10_indexOf cX10_indexOf 2 (some .int))) B.pre w (List.mem_cons_of_mem _ hw)
  have hown : s.vm.findClass RX10 = some m.cls := findClass_of_methodNamed B.named
  have hlocks := B.notSynchronized
  have hK := hC.1
  have hS : va_S (fun _ => False) s.heap s.heap [] := va_S.rf
  have hl := lv_entry ([.int i1, .int i2]) (n := 2) (Nat.le_of_ble_eq_true rfl)
  rw [lg_entry_eq]
  generalize (lg_sl ([.int i1, .int i2]) ++ List.replicate (2 - (lg_sl ([.int i1, .int i2])).length) Slot.unset).toArray = ls at hl ⊢
  have hl : lv_has ls 2 [(0, .int i1), (1, .int i2)] := hl
  refine lv_iload_n hx hb dX10_indexOf_0 rfl (lv_at hl 0 rfl) ?_
  refine lv_bipush (v := 12) hx hb dX10_indexOf_1 (by decide) ?_
  refine lv_imul hx hb dX10_indexOf_3 ?_
  refine lv_topi (fun x_1 ex_1 => ?_)
  have tx_1 : x_1.toInt = i1.toInt * 12 := t_mul (x := i1.toInt) (y := 12) ex_1 rfl rfl (by omega) (by omega)
  refine lv_iload_n hx hb dX10_indexOf_4 rfl (lv_at hl 1 rfl) ?_
  refine lv_iadd hx hb dX10_indexOf_5 ?_
  refine lv_topi (fun x_2 ex_2 => ?_)
  have tx_2 : x_2.toInt = x_1.toInt + i2.toInt := t_add (x := x_1.toInt) (y := i2.toInt) ex_2 rfl rfl (by omega) (by omega)
  exact W.iret (v := x_2) hx hb hr (fun t ht hW => ⟨⟨x_2, (), rfl, (show x_2.toInt = 12 * i1.toInt + i2.toInt by omega), trivial⟩, hS.F ht⟩) hS.2.2 dX10_indexOf_6

set_option maxHeartbeats 4000000 in
set_option maxRecDepth 100000 in
theorem c_X7_roomOn (l : Launch) (D : va_G) (T : Nat → ClassId) (e0 e1 e2 e3 e4 e5 e6 e7 h0 tw : Nat) (i1 : Int32) (p0 p7 : Nat → Int32) (h_i1 : 0 ≤ i1.toInt ∧ i1.toInt ≤ 15) (R_p0 : rg 0 12 p0) : Met l yX7_roomOn (wM yX7_roomOn cX7_roomOn 2 (some .int)) ({ frames := 0, cells := 0, slots := 0, locals := 0 }) (va_Pc [.ref h0, .int i1] (pwP D T [(h0, .inr (7, [.ref tw, .ref e0, .ref e1, .ref e2, .ref e3, .ref e4, .ref e5, .ref e6, .ref e7])), (e0, .inl (T 0, 16, .inl p0)), (e7, .inl (T 0, 208, .inl p7))])) (va_Qi (fun (r : Int32) (u : Unit) => True) (fun _ _ => True) (fun _ => False)) 0 0 (fun _ => False) := by
  refine Met.ofW (cc := cX7_roomOn) (maxL := 2) (ret := (some .int)) (by decide) rfl ?_
  intro p e s m args below meth c s₁ B hml hv
  obtain ⟨rfl, hP, hC⟩ := hv
  have hx := B.exec
  have hb := B.bytes
  have hr := B.returns
  have hts : ∀ w ∈ gt, w.before _ s = true := fun w hw => atoms_spec (ws := (wM yX7_roomOn cX7_roomOn 2 (some .int))) B.pre w (List.mem_cons_of_mem _ hw)
  have hown : s.vm.findClass RX7 = some m.cls := findClass_of_methodNamed B.named
  have hlocks := B.notSynchronized
  have hK := hC.1
  have hS : va_S (fun _ => False) s.heap s.heap [] := va_S.rf
  have hl := lv_entry ([.ref h0, .int i1]) (n := 2) (Nat.le_of_ble_eq_true rfl)
  rw [lg_entry_eq]
  generalize (lg_sl ([.ref h0, .int i1]) ++ List.replicate (2 - (lg_sl ([.ref h0, .int i1])).length) Slot.unset).toArray = ls at hl ⊢
  have hl : lv_has ls 2 [(0, .ref h0), (1, .int i1)] := hl
  refine lv_aload_n hx hb dX7_roomOn_0 rfl (lv_at hl 0 rfl) ?_
  refine va_get (D := D) (ci := 7) (C := RX7) (T := TX7) (N := 9) hx hb hts iX7 hown hK hP 0 rfl rfl 8 (by decide) (hts _ m342) (fun _ h9 => h9) rfl dX7_roomOn_1 ?_
  refine lv_iload_n hx hb dX7_roomOn_4 rfl (lv_at hl 1 rfl) ?_
  refine lv_bipush (v := 13) hx hb dX7_roomOn_5 (by decide) ?_
  refine lv_imul hx hb dX7_roomOn_7 ?_
  refine lv_topi (fun x_1 ex_1 => ?_)
  have tx_1 : x_1.toInt = i1.toInt * 13 := t_mul (x := i1.toInt) (y := 13) ex_1 rfl rfl (by omega) (by omega)
  refine lv_aload_n hx hb dX7_roomOn_8 rfl (lv_at hl 0 rfl) ?_
  refine va_get (D := D) (ci := 7) (C := RX7) (T := TX7) (N := 9) hx hb hts iX7 hown hK hP 0 rfl rfl 1 (by decide) (hts _ m325) (fun _ h9 => h9) rfl dX7_roomOn_9 ?_
  refine lv_iload_n hx hb dX7_roomOn_12 rfl (lv_at hl 1 rfl) ?_
  refine va_iald (D := D) hx hb hK hP 1 0 rfl rfl (v_in (x := i1.toInt) rfl (by omega) (by omega)) dX7_roomOn_13 ?_
  refine lv_topi (fun x_2 ex_2 => ?_)
  have tx_2 : 0 ≤ x_2.toInt ∧ x_2.toInt ≤ 12 := rg_at R_p0 ex_2
  refine lv_iadd hx hb dX7_roomOn_14 ?_
  refine lv_topi (fun x_3 ex_3 => ?_)
  have tx_3 : x_3.toInt = x_1.toInt + x_2.toInt := t_add (x := x_1.toInt) (y := x_2.toInt) ex_3 rfl rfl (by omega) (by omega)
  refine va_iald (D := D) hx hb hK hP 2 0 rfl rfl (v_in (x := x_3.toInt) rfl (by omega) (by omega)) dX7_roomOn_15 ?_
  refine lv_topi (fun x_4 ex_4 => ?_)
  exact W.iret (v := x_4) hx hb hr (fun t ht hW => ⟨⟨x_4, (), rfl, trivial, trivial⟩, hS.F ht⟩) hS.2.2 dX7_roomOn_16

set_option maxHeartbeats 4000000 in
set_option maxRecDepth 100000 in
theorem c_X7_fits (l : Launch) (D : va_G) (T : Nat → ClassId) (b0 b1 b2 b3 b4 b5 b6 b7 b8 b9 e0 e1 e2 e3 e4 e5 e6 e7 h0 tw : Nat) (i1 i2 t0 t1 t2 t3 t4 t5 t6 t7 t8 : Int32) (p0 p7 : Nat → Int32) (h_t1 : 0 ≤ t1.toInt ∧ t1.toInt ≤ 8) (h_t2 : 0 ≤ t2.toInt ∧ t2.toInt ≤ 12) (h_t4 : 0 ≤ t4.toInt ∧ t4.toInt ≤ 5) (h_t5 : 0 ≤ t5.toInt ∧ t5.toInt ≤ 10) (h_i1 : 0 ≤ i1.toInt ∧ i1.toInt ≤ 15) (R_p0 : rg 0 12 p0) : Met l yX7_fits (wM yX7_fits cX7_fits 6 (some .boolean)) ({ frames := 0, cells := 0, slots := 0, locals := 0 }) (va_Pc [.ref h0, .int i1, .int i2] (pwP D T [(h0, .inr (7, [.ref tw, .ref e0, .ref e1, .ref e2, .ref e3, .ref e4, .ref e5, .ref e6, .ref e7])), (e0, .inl (T 0, 16, .inl p0)), (e7, .inl (T 0, 208, .inl p7)), (tw, .inr (5, [.int t0, .int t1, .int t2, .int t3, .int t4, .int t5, .int t6, .int t7, .int t8, .ref b0, .ref b1, .ref b2, .ref b3, .ref b4, .ref b5, .ref b6, .ref b7, .ref b8, .ref b9]))])) (va_Qi (fun (r : Int32) (u : Unit) => (r = 1 ∧ (p0 i1.toNatClampNeg).toInt < t2.toInt) ∨ (r = 0)) (fun _ _ => True) (fun _ => False)) 0 0 (fun _ => False) := by
  refine Met.ofW (cc := cX7_fits) (maxL := 6) (ret := (some .boolean)) (by decide) rfl ?_
  intro p e s m args below meth c s₁ B hml hv
  obtain ⟨rfl, hP, hC⟩ := hv
  have hx := B.exec
  have hb := B.bytes
  have hr := B.returns
  have hts : ∀ w ∈ gt, w.before _ s = true := fun w hw => atoms_spec (ws := (wM yX7_fits cX7_fits 6 (some .boolean))) B.pre w (List.mem_cons_of_mem _ hw)
  have hown : s.vm.findClass RX7 = some m.cls := findClass_of_methodNamed B.named
  have hlocks := B.notSynchronized
  have hK := hC.1
  have hS : va_S (fun _ => False) s.heap s.heap [] := va_S.rf
  have hl := lv_entry ([.ref h0, .int i1, .int i2]) (n := 6) (Nat.le_of_ble_eq_true rfl)
  rw [lg_entry_eq]
  generalize (lg_sl ([.ref h0, .int i1, .int i2]) ++ List.replicate (6 - (lg_sl ([.ref h0, .int i1, .int i2])).length) Slot.unset).toArray = ls at hl ⊢
  have hl : lv_has ls 6 [(0, .ref h0), (1, .int i1), (2, .int i2)] := hl
  refine lv_aload_n hx hb dX7_fits_0 rfl (lv_at hl 0 rfl) ?_
  refine va_get (D := D) (ci := 7) (C := RX7) (T := TX7) (N := 9) hx hb hts iX7 hown hK hP 0 rfl rfl 1 (by decide) (hts _ m325) (fun _ h9 => h9) rfl dX7_fits_1 ?_
  refine lv_iload_n hx hb dX7_fits_4 rfl (lv_at hl 1 rfl) ?_
  refine va_iald (D := D) hx hb hK hP 1 0 rfl rfl (v_in (x := i1.toInt) rfl (by omega) (by omega)) dX7_fits_5 ?_
  refine lv_topi (fun x_1 ex_1 => ?_)
  have tx_1 : 0 ≤ x_1.toInt ∧ x_1.toInt ≤ 12 := rg_at R_p0 ex_1
  have qx_1 : x_1.toInt = (p0 i1.toNatClampNeg).toInt := by rw [ex_1]
  refine lv_istore_n (lv' := [(3, .int x_1), (0, .ref h0), (1, .int i1), (2, .int i2)]) hx hb dX7_fits_6 rfl hl (by decide) rfl (fun ls hl => ?_)
  refine lv_iload_n hx hb dX7_fits_7 rfl (lv_at hl 0 rfl) ?_
  refine lv_aload_n hx hb dX7_fits_8 rfl (lv_at hl 1 rfl) ?_
  refine va_get (D := D) (ci := 7) (C := RX7) (T := TX7) (N := 9) hx hb hts iX7 hown hK hP 0 rfl rfl 0 (by decide) (hts _ m324) (fun _ h9 => h9) rfl dX7_fits_9 ?_
  refine va_get (D := D) (ci := 5) (C := RX5) (T := TX5) (N := 19) hx hb hts iX5 hown hK hP 3 rfl rfl 2 (by decide) (hts _ m175) (fun _ h9 => h9) rfl dX7_fits_12 ?_
  refine lv_icmp_ge (tgt := 33) hx hb dX7_fits_15 (by decide) (fun c_2 => ?_) (fun c_2 => ?_)
  · have c_2 : t2.toInt ≤ x_1.toInt := (c_le (x := t2.toInt) (y := x_1.toInt) rfl rfl).mp c_2
    refine lv_iconst (v := 0) hx hb dX7_fits_33 (by decide) ?_
    exact W.zret (v := 0) hx hb hr rfl (fun t ht hW => ⟨⟨0, (), rfl, (Or.inr rfl), trivial⟩, hS.F ht⟩) hS.2.2 dX7_fits_34
  · have c_2 : x_1.toInt < t2.toInt := by have h := mt (c_le (x := t2.toInt) (y := x_1.toInt) rfl rfl).mpr c_2; omega
    refine lv_iload_n hx hb dX7_fits_18 rfl (lv_at hl 3 rfl) ?_
    refine lv_aload_n hx hb dX7_fits_19 rfl (lv_at hl 1 rfl) ?_
    refine va_get (D := D) (ci := 7) (C := RX7) (T := TX7) (N := 9) hx hb hts iX7 hown hK hP 0 rfl rfl 8 (by decide) (hts _ m342) (fun _ h9 => h9) rfl dX7_fits_20 ?_
    refine lv_iload_n hx hb dX7_fits_23 rfl (lv_at hl 2 rfl) ?_
    refine lv_bipush (v := 13) hx hb dX7_fits_24 (by decide) ?_
    refine lv_imul hx hb dX7_fits_26 ?_
    refine lv_topi (fun x_3 ex_3 => ?_)
    have tx_3 : x_3.toInt = i1.toInt * 13 := t_mul (x := i1.toInt) (y := 13) ex_3 rfl rfl (by omega) (by omega)
    refine lv_iload_n hx hb dX7_fits_27 rfl (lv_at hl 0 rfl) ?_
    refine lv_iadd hx hb dX7_fits_28 ?_
    refine lv_topi (fun x_4 ex_4 => ?_)
    have tx_4 : x_4.toInt = x_3.toInt + x_1.toInt := t_add (x := x_3.toInt) (y := x_1.toInt) ex_4 rfl rfl (by omega) (by omega)
    refine va_iald (D := D) hx hb hK hP 2 0 rfl rfl (v_in (x := x_4.toInt) rfl (by omega) (by omega)) dX7_fits_29 ?_
    refine lv_topi (fun x_5 ex_5 => ?_)
    refine lv_icmp_le (tgt := 35) hx hb dX7_fits_30 (by decide) (fun c_6 => ?_) (fun c_6 => ?_)
    · have c_6 : i2.toInt ≤ x_5.toInt := (c_le (x := i2.toInt) (y := x_5.toInt) rfl rfl).mp c_6
      refine lv_iload_n hx hb dX7_fits_35 rfl (lv_at hl 2 rfl) ?_
      refine lv_bipush (v := 8) hx hb dX7_fits_36 (by decide) ?_
      refine lv_irem hx hb dX7_fits_38 (by decide) ?_
      refine lv_topi (fun x_7 ex_7 => ?_)
      have tx_7 : x_7.toInt = i1.toInt % 8 := t_rem (x := i1.toInt) (y := 8) ex_7 rfl rfl (by omega) (by omega) (by omega)
      refine lv_istore (lv' := [(4, .int x_7), (3, .int x_1), (0, .ref h0), (1, .int i1), (2, .int i2)]) hx hb dX7_fits_39 hl (by decide) rfl (fun ls hl => ?_)
      refine lv_iload_n hx hb dX7_fits_41 rfl (lv_at hl 1 rfl) ?_
      refine lv_iconst (v := 1) hx hb dX7_fits_42 (by decide) ?_
      refine lv_iadd hx hb dX7_fits_43 ?_
      refine lv_topi (fun x_8 ex_8 => ?_)
      have tx_8 : x_8.toInt = x_1.toInt + 1 := t_add (x := x_1.toInt) (y := 1) ex_8 rfl rfl (by omega) (by omega)
      refine lv_aload_n hx hb dX7_fits_44 rfl (lv_at hl 2 rfl) ?_
      refine va_get (D := D) (ci := 7) (C := RX7) (T := TX7) (N := 9) hx hb hts iX7 hown hK hP 0 rfl rfl 0 (by decide) (hts _ m324) (fun _ h9 => h9) rfl dX7_fits_45 ?_
      refine va_get (D := D) (ci := 5) (C := RX5) (T := TX5) (N := 19) hx hb hts iX5 hown hK hP 3 rfl rfl 3 (by decide) (hts _ m179) (fun _ h9 => h9) rfl dX7_fits_48 ?_
      refine lv_isub hx hb dX7_fits_51 ?_
      refine lv_topi (fun x_9 ex_9 => ?_)
      refine lv_istore (lv' := [(5, .int x_9), (4, .int x_7), (3, .int x_1), (0, .ref h0), (1, .int i1), (2, .int i2)]) hx hb dX7_fits_52 hl (by decide) rfl (fun ls hl => ?_)
      refine lv_iload hx hb dX7_fits_54 (lv_at hl 1 rfl) ?_
      refine lv_if_le (tgt := 74) hx hb dX7_fits_56 (by decide) (fun c_10 => ?_) (fun c_10 => ?_)
      · have c_10 : x_7.toInt ≤ 0 := (c_le (x := x_7.toInt) (y := 0) rfl rfl).mp c_10
        refine lv_iload hx hb dX7_fits_74 (lv_at hl 1 rfl) ?_
        refine lv_iconst (v := 1) hx hb dX7_fits_76 (by decide) ?_
        refine lv_iadd hx hb dX7_fits_77 ?_
        refine lv_topi (fun x_11 ex_11 => ?_)
        have tx_11 : x_11.toInt = x_7.toInt + 1 := t_add (x := x_7.toInt) (y := 1) ex_11 rfl rfl (by omega) (by omega)
        refine lv_aload_n hx hb dX7_fits_78 rfl (lv_at hl 3 rfl) ?_
        refine va_get (D := D) (ci := 7) (C := RX7) (T := TX7) (N := 9) hx hb hts iX7 hown hK hP 0 rfl rfl 0 (by decide) (hts _ m324) (fun _ h9 => h9) rfl dX7_fits_79 ?_
        refine va_get (D := D) (ci := 5) (C := RX5) (T := TX5) (N := 19) hx hb hts iX5 hown hK hP 3 rfl rfl 1 (by decide) (hts _ m172) (fun _ h9 => h9) rfl dX7_fits_82 ?_
        refine lv_icmp_ge (tgt := 101) hx hb dX7_fits_85 (by decide) (fun c_12 => ?_) (fun c_12 => ?_)
        · have c_12 : t1.toInt ≤ x_11.toInt := (c_le (x := t1.toInt) (y := x_11.toInt) rfl rfl).mp c_12
          refine lv_iconst (v := 1) hx hb dX7_fits_101 (by decide) ?_
          refine lv_goto (tgt := 106) hx hb dX7_fits_102 (by decide) ?_
          exact W.zret (v := 1) hx hb hr rfl (fun t ht hW => ⟨⟨1, (), rfl, (Or.inl (⟨rfl, (show (p0 i1.toNatClampNeg).toInt < t2.toInt by omega)⟩)), trivial⟩, hS.F ht⟩) hS.2.2 dX7_fits_106
        · have c_12 : x_11.toInt < t1.toInt := by have h := mt (c_le (x := t1.toInt) (y := x_11.toInt) rfl rfl).mpr c_12; omega
          refine lv_aload_n hx hb dX7_fits_88 rfl (lv_at hl 3 rfl) ?_
          refine va_get (D := D) (ci := 7) (C := RX7) (T := TX7) (N := 9) hx hb hts iX7 hown hK hP 0 rfl rfl 1 (by decide) (hts _ m325) (fun _ h9 => h9) rfl dX7_fits_89 ?_
          refine lv_iload_n hx hb dX7_fits_92 rfl (lv_at hl 4 rfl) ?_
          refine lv_iconst (v := 1) hx hb dX7_fits_93 (by decide) ?_
          refine lv_iadd hx hb dX7_fits_94 ?_
          refine lv_topi (fun x_13 ex_13 => ?_)
          have tx_13 : x_13.toInt = i1.toInt + 1 := t_add (x := i1.toInt) (y := 1) ex_13 rfl rfl (by omega) (by omega)
          refine va_iald (D := D) hx hb hK hP 1 0 rfl rfl (v_in (x := x_13.toInt) rfl (by omega) (by omega)) dX7_fits_95 ?_
          refine lv_topi (fun x_14 ex_14 => ?_)
          have tx_14 : 0 ≤ x_14.toInt ∧ x_14.toInt ≤ 12 := rg_at R_p0 ex_14
          have qx_14 : x_14.toInt = (p0 x_13.toNatClampNeg).toInt := by rw [ex_14]
          refine lv_iload hx hb dX7_fits_96 (lv_at hl 0 rfl) ?_
          refine lv_icmp_lt (tgt := 105) hx hb dX7_fits_98 (by decide) (fun c_15 => ?_) (fun c_15 => ?_)
          · have c_15 : x_14.toInt < x_9.toInt := (c_lt (x := x_14.toInt) (y := x_9.toInt) rfl rfl).mp c_15
            refine lv_iconst (v := 0) hx hb dX7_fits_105 (by decide) ?_
            exact W.zret (v := 0) hx hb hr rfl (fun t ht hW => ⟨⟨0, (), rfl, (Or.inr rfl), trivial⟩, hS.F ht⟩) hS.2.2 dX7_fits_106
          · have c_15 : x_9.toInt ≤ x_14.toInt := by have h := mt (c_lt (x := x_14.toInt) (y := x_9.toInt) rfl rfl).mpr c_15; omega
            refine lv_iconst (v := 1) hx hb dX7_fits_101 (by decide) ?_
            refine lv_goto (tgt := 106) hx hb dX7_fits_102 (by decide) ?_
            exact W.zret (v := 1) hx hb hr rfl (fun t ht hW => ⟨⟨1, (), rfl, (Or.inl (⟨rfl, (show (p0 i1.toNatClampNeg).toInt < t2.toInt by omega)⟩)), trivial⟩, hS.F ht⟩) hS.2.2 dX7_fits_106
      · have c_10 : 0 < x_7.toInt := by have h := mt (c_le (x := x_7.toInt) (y := 0) rfl rfl).mpr c_10; omega
        refine lv_aload_n hx hb dX7_fits_59 rfl (lv_at hl 3 rfl) ?_
        refine va_get (D := D) (ci := 7) (C := RX7) (T := TX7) (N := 9) hx hb hts iX7 hown hK hP 0 rfl rfl 1 (by decide) (hts _ m325) (fun _ h9 => h9) rfl dX7_fits_60 ?_
        refine lv_iload_n hx hb dX7_fits_63 rfl (lv_at hl 4 rfl) ?_
        refine lv_iconst (v := 1) hx hb dX7_fits_64 (by decide) ?_
        refine lv_isub hx hb dX7_fits_65 ?_
        refine lv_topi (fun x_16 ex_16 => ?_)
        have tx_16 : x_16.toInt = i1.toInt - 1 := t_sub (x := i1.toInt) (y := 1) ex_16 rfl rfl (by omega) (by omega)
        refine va_iald (D := D) hx hb hK hP 1 0 rfl rfl (v_in (x := x_16.toInt) rfl (by omega) (by omega)) dX7_fits_66 ?_
        refine lv_topi (fun x_17 ex_17 => ?_)
        have tx_17 : 0 ≤ x_17.toInt ∧ x_17.toInt ≤ 12 := rg_at R_p0 ex_17
        have qx_17 : x_17.toInt = (p0 x_16.toNatClampNeg).toInt := by rw [ex_17]
        refine lv_iload hx hb dX7_fits_67 (lv_at hl 0 rfl) ?_
        refine lv_icmp_ge (tgt := 74) hx hb dX7_fits_69 (by decide) (fun c_18 => ?_) (fun c_18 => ?_)
        · have c_18 : x_9.toInt ≤ x_17.toInt := (c_le (x := x_9.toInt) (y := x_17.toInt) rfl rfl).mp c_18
          refine lv_iload hx hb dX7_fits_74 (lv_at hl 1 rfl) ?_
          refine lv_iconst (v := 1) hx hb dX7_fits_76 (by decide) ?_
          refine lv_iadd hx hb dX7_fits_77 ?_
          refine lv_topi (fun x_19 ex_19 => ?_)
          have tx_19 : x_19.toInt = x_7.toInt + 1 := t_add (x := x_7.toInt) (y := 1) ex_19 rfl rfl (by omega) (by omega)
          refine lv_aload_n hx hb dX7_fits_78 rfl (lv_at hl 3 rfl) ?_
          refine va_get (D := D) (ci := 7) (C := RX7) (T := TX7) (N := 9) hx hb hts iX7 hown hK hP 0 rfl rfl 0 (by decide) (hts _ m324) (fun _ h9 => h9) rfl dX7_fits_79 ?_
          refine va_get (D := D) (ci := 5) (C := RX5) (T := TX5) (N := 19) hx hb hts iX5 hown hK hP 3 rfl rfl 1 (by decide) (hts _ m172) (fun _ h9 => h9) rfl dX7_fits_82 ?_
          refine lv_icmp_ge (tgt := 101) hx hb dX7_fits_85 (by decide) (fun c_20 => ?_) (fun c_20 => ?_)
          · have c_20 : t1.toInt ≤ x_19.toInt := (c_le (x := t1.toInt) (y := x_19.toInt) rfl rfl).mp c_20
            refine lv_iconst (v := 1) hx hb dX7_fits_101 (by decide) ?_
            refine lv_goto (tgt := 106) hx hb dX7_fits_102 (by decide) ?_
            exact W.zret (v := 1) hx hb hr rfl (fun t ht hW => ⟨⟨1, (), rfl, (Or.inl (⟨rfl, (show (p0 i1.toNatClampNeg).toInt < t2.toInt by omega)⟩)), trivial⟩, hS.F ht⟩) hS.2.2 dX7_fits_106
          · have c_20 : x_19.toInt < t1.toInt := by have h := mt (c_le (x := t1.toInt) (y := x_19.toInt) rfl rfl).mpr c_20; omega
            refine lv_aload_n hx hb dX7_fits_88 rfl (lv_at hl 3 rfl) ?_
            refine va_get (D := D) (ci := 7) (C := RX7) (T := TX7) (N := 9) hx hb hts iX7 hown hK hP 0 rfl rfl 1 (by decide) (hts _ m325) (fun _ h9 => h9) rfl dX7_fits_89 ?_
            refine lv_iload_n hx hb dX7_fits_92 rfl (lv_at hl 4 rfl) ?_
            refine lv_iconst (v := 1) hx hb dX7_fits_93 (by decide) ?_
            refine lv_iadd hx hb dX7_fits_94 ?_
            refine lv_topi (fun x_21 ex_21 => ?_)
            have tx_21 : x_21.toInt = i1.toInt + 1 := t_add (x := i1.toInt) (y := 1) ex_21 rfl rfl (by omega) (by omega)
            refine va_iald (D := D) hx hb hK hP 1 0 rfl rfl (v_in (x := x_21.toInt) rfl (by omega) (by omega)) dX7_fits_95 ?_
            refine lv_topi (fun x_22 ex_22 => ?_)
            have tx_22 : 0 ≤ x_22.toInt ∧ x_22.toInt ≤ 12 := rg_at R_p0 ex_22
            have qx_22 : x_22.toInt = (p0 x_21.toNatClampNeg).toInt := by rw [ex_22]
            refine lv_iload hx hb dX7_fits_96 (lv_at hl 0 rfl) ?_
            refine lv_icmp_lt (tgt := 105) hx hb dX7_fits_98 (by decide) (fun c_23 => ?_) (fun c_23 => ?_)
            · have c_23 : x_22.toInt < x_9.toInt := (c_lt (x := x_22.toInt) (y := x_9.toInt) rfl rfl).mp c_23
              refine lv_iconst (v := 0) hx hb dX7_fits_105 (by decide) ?_
              exact W.zret (v := 0) hx hb hr rfl (fun t ht hW => ⟨⟨0, (), rfl, (Or.inr rfl), trivial⟩, hS.F ht⟩) hS.2.2 dX7_fits_106
            · have c_23 : x_9.toInt ≤ x_22.toInt := by have h := mt (c_lt (x := x_22.toInt) (y := x_9.toInt) rfl rfl).mpr c_23; omega
              refine lv_iconst (v := 1) hx hb dX7_fits_101 (by decide) ?_
              refine lv_goto (tgt := 106) hx hb dX7_fits_102 (by decide) ?_
              exact W.zret (v := 1) hx hb hr rfl (fun t ht hW => ⟨⟨1, (), rfl, (Or.inl (⟨rfl, (show (p0 i1.toNatClampNeg).toInt < t2.toInt by omega)⟩)), trivial⟩, hS.F ht⟩) hS.2.2 dX7_fits_106
        · have c_18 : x_17.toInt < x_9.toInt := by have h := mt (c_le (x := x_9.toInt) (y := x_17.toInt) rfl rfl).mpr c_18; omega
          refine lv_iconst (v := 0) hx hb dX7_fits_72 (by decide) ?_
          exact W.zret (v := 0) hx hb hr rfl (fun t ht hW => ⟨⟨0, (), rfl, (Or.inr rfl), trivial⟩, hS.F ht⟩) hS.2.2 dX7_fits_73
    · have c_6 : x_5.toInt < i2.toInt := by have h := mt (c_le (x := i2.toInt) (y := x_5.toInt) rfl rfl).mpr c_6; omega
      refine lv_iconst (v := 0) hx hb dX7_fits_33 (by decide) ?_
      exact W.zret (v := 0) hx hb hr rfl (fun t ht hW => ⟨⟨0, (), rfl, (Or.inr rfl), trivial⟩, hS.F ht⟩) hS.2.2 dX7_fits_34

set_option maxHeartbeats 4000000 in
set_option maxRecDepth 100000 in
theorem c_X7_canTake (l : Launch) (D : va_G) (T : Nat → ClassId) (b0 b1 b2 b3 b4 b5 b6 b7 b8 b9 e0 e1 e2 e3 e4 e5 e6 e7 h0 tw : Nat) (i1 i2 t0 t1 t2 t3 t4 t5 t6 t7 t8 : Int32) (f0 p0 p1 p7 : Nat → Int32) (h_t1 : 0 ≤ t1.toInt ∧ t1.toInt ≤ 8) (h_t2 : 0 ≤ t2.toInt ∧ t2.toInt ≤ 12) (h_t4 : 0 ≤ t4.toInt ∧ t4.toInt ≤ 5) (h_t5 : 0 ≤ t5.toInt ∧ t5.toInt ≤ 10) (h_i1 : 0 ≤ i1.toInt ∧ i1.toInt ≤ 15) (h_i2 : 0 ≤ i2.toInt ∧ i2.toInt ≤ 4) (R_p0 : rg 0 12 p0) : Met l yX7_canTake (wM yX7_canTake cX7_canTake 3 (some .boolean)) ({ frames := 1, cells := 0, slots := 0, locals := 25 }) (va_Pc [.ref h0, .int i1, .int i2] (pwP D T [(h0, .inr (7, [.ref tw, .ref e0, .ref e1, .ref e2, .ref e3, .ref e4, .ref e5, .ref e6, .ref e7])), (e0, .inl (T 0, 16, .inl p0)), (e1, .inl (T 0, 5, .inl p1)), (e7, .inl (T 0, 208, .inl p7)), (tw, .inr (5, [.int t0, .int t1, .int t2, .int t3, .int t4, .int t5, .int t6, .int t7, .int t8, .ref b0, .ref b1, .ref b2, .ref b3, .ref b4, .ref b5, .ref b6, .ref b7, .ref b8, .ref b9])), (b0, .inl (T 0, 5, .inl f0))])) (va_Qi (fun (r : Int32) (u : Unit) => (r = 1 ∧ (p0 i1.toNatClampNeg).toInt < t2.toInt) ∨ (r = 0)) (fun _ _ => True) (fun _ => False)) 0 0 (fun _ => False) := by
  refine Met.ofW (cc := cX7_canTake) (maxL := 3) (ret := (some .boolean)) (by decide) rfl ?_
  intro p e s m args below meth c s₁ B hml hv
  obtain ⟨rfl, hP, hC⟩ := hv
  have hx := B.exec
  have hb := B.bytes
  have hr := B.returns
  have hts : ∀ w ∈ gt, w.before _ s = true := fun w hw => atoms_spec (ws := (wM yX7_canTake cX7_canTake 3 (some .boolean))) B.pre w (List.mem_cons_of_mem _ hw)
  have hown : s.vm.findClass RX7 = some m.cls := findClass_of_methodNamed B.named
  have hlocks := B.notSynchronized
  have hK := hC.1
  have hS : va_S (fun _ => False) s.heap s.heap [] := va_S.rf
  have hl := lv_entry ([.ref h0, .int i1, .int i2]) (n := 3) (Nat.le_of_ble_eq_true rfl)
  rw [lg_entry_eq]
  generalize (lg_sl ([.ref h0, .int i1, .int i2]) ++ List.replicate (3 - (lg_sl ([.ref h0, .int i1, .int i2])).length) Slot.unset).toArray = ls at hl ⊢
  have hl : lv_has ls 3 [(0, .ref h0), (1, .int i1), (2, .int i2)] := hl
  refine lv_aload_n hx hb dX7_canTake_0 rfl (lv_at hl 0 rfl) ?_
  refine va_get (D := D) (ci := 7) (C := RX7) (T := TX7) (N := 9) hx hb hts iX7 hown hK hP 0 rfl rfl 2 (by decide) (hts _ m330) (fun _ h9 => h9) rfl dX7_canTake_1 ?_
  refine lv_iload_n hx hb dX7_canTake_4 rfl (lv_at hl 2 rfl) ?_
  refine va_iald (D := D) hx hb hK hP 2 0 rfl rfl (v_in (x := i2.toInt) rfl (by omega) (by omega)) dX7_canTake_5 ?_
  refine lv_topi (fun x_1 ex_1 => ?_)
  refine lv_if_le (tgt := 30) hx hb dX7_canTake_6 (by decide) (fun c_2 => ?_) (fun c_2 => ?_)
  · have c_2 : x_1.toInt ≤ 0 := (c_le (x := x_1.toInt) (y := 0) rfl rfl).mp c_2
    refine lv_iconst (v := 0) hx hb dX7_canTake_30 (by decide) ?_
    exact W.zret (v := 0) hx hb hr rfl (fun t ht hW => ⟨⟨0, (), rfl, (Or.inr rfl), trivial⟩, hS.F ht⟩) hS.2.2 dX7_canTake_31
  · have c_2 : 0 < x_1.toInt := by have h := mt (c_le (x := x_1.toInt) (y := 0) rfl rfl).mpr c_2; omega
    refine lv_aload_n hx hb dX7_canTake_9 rfl (lv_at hl 0 rfl) ?_
    refine lv_iload_n hx hb dX7_canTake_10 rfl (lv_at hl 1 rfl) ?_
    refine lv_aload_n hx hb dX7_canTake_11 rfl (lv_at hl 0 rfl) ?_
    refine va_get (D := D) (ci := 7) (C := RX7) (T := TX7) (N := 9) hx hb hts iX7 hown hK hP 0 rfl rfl 0 (by decide) (hts _ m324) (fun _ h9 => h9) rfl dX7_canTake_12 ?_
    refine va_get (D := D) (ci := 5) (C := RX5) (T := TX5) (N := 19) hx hb hts iX5 hown hK hP 4 rfl rfl 9 (by decide) (hts _ m205) (fun _ h9 => h9) rfl dX7_canTake_15 ?_
    refine lv_iload_n hx hb dX7_canTake_18 rfl (lv_at hl 2 rfl) ?_
    refine va_iald (D := D) hx hb hK hP 5 0 rfl rfl (v_in (x := i2.toInt) rfl (by omega) (by omega)) dX7_canTake_19 ?_
    refine lv_topi (fun x_3 ex_3 => ?_)
    refine puI (cV (As := [.int i1, .int x_3]) (rest := []) ⟨hx, hb, hml, hown, hts⟩ (c_X7_fits l D T b0 b1 b2 b3 b4 b5 b6 b7 b8 b9 e0 e1 e2 e3 e4 e5 e6 e7 h0 tw i1 x_3 t0 t1 t2 t3 t4 t5 t6 t7 t8 p0 p7 ⟨by omega, by omega⟩ ⟨by omega, by omega⟩ ⟨by omega, by omega⟩ ⟨by omega, by omega⟩ ⟨by omega, by omega⟩ R_p0) k_X7_fits v_X7_fits m868 rfl rfl ⟨(Nat.le_of_ble_eq_true rfl), (Nat.le_of_ble_eq_true rfl)⟩ (preP hC (hP.sub (ws' := [(h0, .inr (7, [.ref tw, .ref e0, .ref e1, .ref e2, .ref e3, .ref e4, .ref e5, .ref e6, .ref e7])), (e0, .inl (T 0, 16, .inl p0)), (e7, .inl (T 0, 208, .inl p7)), (tw, .inr (5, [.int t0, .int t1, .int t2, .int t3, .int t4, .int t5, .int t6, .int t7, .int t8, .ref b0, .ref b1, .ref b2, .ref b3, .ref b4, .ref b5, .ref b6, .ref b7, .ref b8, .ref b9]))]) [0, 1, 3, 4] rfl)) (va_recv hK hP (ci := 7) (q0 := 0) rfl rfl) rfl hl.1 rfl (Nat.le_of_ble_eq_true rfl) dX7_canTake_20 ⟨(Nat.le_of_ble_eq_true rfl), (Nat.le_of_ble_eq_true rfl)⟩) hS hP (fun r_4 H locs hw hP hS => ?_)
    have w_6 : (r_4 = 1 ∧ (p0 i1.toNatClampNeg).toInt < t2.toInt) ∨ (r_4 = 0) := hw
    rcases w_6 with ⟨rfl, c_7⟩ | rfl
    · refine lv_if_eq (tgt := 30) hx hb dX7_canTake_23 (by decide) (fun c_8 => absurd c_8 (by decide)) (fun _ => ?_)
      refine lv_iconst (v := 1) hx hb dX7_canTake_26 (by decide) ?_
      refine lv_goto (tgt := 31) hx hb dX7_canTake_27 (by decide) ?_
      exact W.zret (v := 1) hx hb hr rfl (fun t ht hW => ⟨⟨1, (), rfl, (Or.inl (⟨rfl, (show (p0 i1.toNatClampNeg).toInt < t2.toInt by omega)⟩)), trivial⟩, hS.F ht⟩) hS.2.2 dX7_canTake_31
    · refine lv_if_eq (tgt := 30) hx hb dX7_canTake_23 (by decide) (fun _ => ?_) (fun c_9 => absurd (by decide) c_9)
      refine lv_iconst (v := 0) hx hb dX7_canTake_30 (by decide) ?_
      exact W.zret (v := 0) hx hb hr rfl (fun t ht hW => ⟨⟨0, (), rfl, (Or.inr rfl), trivial⟩, hS.F ht⟩) hS.2.2 dX7_canTake_31

set_option maxHeartbeats 4000000 in
set_option maxRecDepth 100000 in
theorem c_X7_put (l : Launch) (D : va_G) (T : Nat → ClassId) (b0 b1 b2 b3 b4 b5 b6 b7 b8 b9 e0 e1 e2 e3 e4 e5 e6 e7 h0 tw : Nat) (i1 i2 i3 i4 t0 t1 t2 t3 t4 t5 t6 t7 t8 : Int32) (f0 f1 p0 p1 p2 p3 p4 p5 p6 p7 : Nat → Int32) (sz : Nat) (h_t1 : 0 ≤ t1.toInt ∧ t1.toInt ≤ 8) (h_t2 : 0 ≤ t2.toInt ∧ t2.toInt ≤ 12) (h_t4 : 0 ≤ t4.toInt ∧ t4.toInt ≤ 5) (h_t5 : 0 ≤ t5.toInt ∧ t5.toInt ≤ 10) (h_i1 : 0 ≤ i1.toInt ∧ i1.toInt ≤ 15) (h_i2 : 0 ≤ i2.toInt ∧ i2.toInt ≤ 4) (R_p0 : rg 0 12 p0) (R_p2 : rg 0 4 p2) (hh : (p0 i1.toNatClampNeg).toInt < 12) : Met l yX7_put (wM yX7_put cX7_put 7 (some .int)) ({ frames := 1, cells := 0, slots := 0, locals := 21 }) (va_Pc [.ref h0, .int i1, .int i2, .int i3, .int i4] (pwM D T [(h0, .inr (7, [.ref tw, .ref e0, .ref e1, .ref e2, .ref e3, .ref e4, .ref e5, .ref e6, .ref e7])), (e0, .inl (T 0, 16, .inl p0)), (e1, .inl (T 0, 5, .inl p1)), (e2, .inl (T 0, 192, .inl p2)), (e3, .inl (T 0, 192, .inl p3)), (e4, .inl (T 0, 192, .inl p4)), (e5, .inl (T 0, 2, .inl p5)), (e6, .inl (T 0, 2, .inl p6)), (e7, .inl (T 0, 208, .inl p7)), (tw, .inr (5, [.int t0, .int t1, .int t2, .int t3, .int t4, .int t5, .int t6, .int t7, .int t8, .ref b0, .ref b1, .ref b2, .ref b3, .ref b4, .ref b5, .ref b6, .ref b7, .ref b8, .ref b9])), (b0, .inl (T 0, 5, .inl f0)), (b1, .inl (T 0, 5, .inl f1))] sz)) (va_Qi (fun (r : Int32) (u : U5) => (1 ≤ r.toInt ∧ r.toInt ≤ 12) ∧ rg 0 12 (u.2.1 0) ∧ ((u.2.1 0) = upd p0 i1.toNatClampNeg ((p0 i1.toNatClampNeg) + 1)) ∧ rg 0 4 (u.2.1 2)) (fun u t => pwE D (va_A [(h0, .inr (7, [.ref tw, .ref e0, .ref e1, .ref e2, .ref e3, .ref e4, .ref e5, .ref e6, .ref e7])), (e0, .inl (T 0, 16, .inl p0)), (e1, .inl (T 0, 5, .inl p1)), (e2, .inl (T 0, 192, .inl p2)), (e3, .inl (T 0, 192, .inl p3)), (e4, .inl (T 0, 192, .inl p4)), (e5, .inl (T 0, 2, .inl p5)), (e6, .inl (T 0, 2, .inl p6)), (e7, .inl (T 0, 208, .inl p7)), (tw, .inr (5, [.int t0, .int t1, .int t2, .int t3, .int t4, .int t5, .int t6, .int t7, .int t8, .ref b0, .ref b1, .ref b2, .ref b3, .ref b4, .ref b5, .ref b6, .ref b7, .ref b8, .ref b9])), (b0, .inl (T 0, 5, .inl f0)), (b1, .inl (T 0, 5, .inl f1))] sz) [(h0, .inr (7, [.ref tw, .ref e0, .ref e1, .ref e2, .ref e3, .ref e4, .ref e5, .ref e6, .ref e7])), (e0, .inl (T 0, 16, .inl (u.2.1 0))), (e1, .inl (T 0, 5, .inl (u.2.1 1))), (e2, .inl (T 0, 192, .inl (u.2.1 2))), (e3, .inl (T 0, 192, .inl (u.2.1 3))), (e4, .inl (T 0, 192, .inl (u.2.1 4))), (e5, .inl (T 0, 2, .inl (u.2.1 5))), (e6, .inl (T 0, 2, .inl (u.2.1 6))), (e7, .inl (T 0, 208, .inl (u.2.1 7))), (tw, .inr (5, [.int t0, .int t1, .int t2, .int t3, .int t4, .int t5, .int t6, .int t7, .int t8, .ref b0, .ref b1, .ref b2, .ref b3, .ref b4, .ref b5, .ref b6, .ref b7, .ref b8, .ref b9])), (b0, .inl (T 0, 5, .inl f0)), (b1, .inl (T 0, 5, .inl f1))] t) (va_A [(h0, .inr (7, [.ref tw, .ref e0, .ref e1, .ref e2, .ref e3, .ref e4, .ref e5, .ref e6, .ref e7])), (e0, .inl (T 0, 16, .inl p0)), (e1, .inl (T 0, 5, .inl p1)), (e2, .inl (T 0, 192, .inl p2)), (e3, .inl (T 0, 192, .inl p3)), (e4, .inl (T 0, 192, .inl p4)), (e5, .inl (T 0, 2, .inl p5)), (e6, .inl (T 0, 2, .inl p6)), (e7, .inl (T 0, 208, .inl p7)), (tw, .inr (5, [.int t0, .int t1, .int t2, .int t3, .int t4, .int t5, .int t6, .int t7, .int t8, .ref b0, .ref b1, .ref b2, .ref b3, .ref b4, .ref b5, .ref b6, .ref b7, .ref b8, .ref b9])), (b0, .inl (T 0, 5, .inl f0)), (b1, .inl (T 0, 5, .inl f1))] sz)) 0 0 (va_A [(h0, .inr (7, [.ref tw, .ref e0, .ref e1, .ref e2, .ref e3, .ref e4, .ref e5, .ref e6, .ref e7])), (e0, .inl (T 0, 16, .inl p0)), (e1, .inl (T 0, 5, .inl p1)), (e2, .inl (T 0, 192, .inl p2)), (e3, .inl (T 0, 192, .inl p3)), (e4, .inl (T 0, 192, .inl p4)), (e5, .inl (T 0, 2, .inl p5)), (e6, .inl (T 0, 2, .inl p6)), (e7, .inl (T 0, 208, .inl p7)), (tw, .inr (5, [.int t0, .int t1, .int t2, .int t3, .int t4, .int t5, .int t6, .int t7, .int t8, .ref b0, .ref b1, .ref b2, .ref b3, .ref b4, .ref b5, .ref b6, .ref b7, .ref b8, .ref b9])), (b0, .inl (T 0, 5, .inl f0)), (b1, .inl (T 0, 5, .inl f1))] sz) := by
  refine Met.ofW (cc := cX7_put) (maxL := 7) (ret := (some .int)) (by decide) rfl ?_
  intro p e s m args below meth c s₁ B hml hv
  obtain ⟨rfl, hsz, hP, hC, hD0⟩ := hv
  have hx := B.exec
  have hb := B.bytes
  have hr := B.returns
  have hts : ∀ w ∈ gt, w.before _ s = true := fun w hw => atoms_spec (ws := (wM yX7_put cX7_put 7 (some .int))) B.pre w (List.mem_cons_of_mem _ hw)
  have hown : s.vm.findClass RX7 = some m.cls := findClass_of_methodNamed B.named
  have hlocks := B.notSynchronized
  have hK := hC.1
  subst hsz
  have hD := hD0.self (sz := s.heap.size)
  generalize hAe : va_A [(h0, .inr (7, [.ref tw, .ref e0, .ref e1, .ref e2, .ref e3, .ref e4, .ref e5, .ref e6, .ref e7])), (e0, .inl (T 0, 16, .inl p0)), (e1, .inl (T 0, 5, .inl p1)), (e2, .inl (T 0, 192, .inl p2)), (e3, .inl (T 0, 192, .inl p3)), (e4, .inl (T 0, 192, .inl p4)), (e5, .inl (T 0, 2, .inl p5)), (e6, .inl (T 0, 2, .inl p6)), (e7, .inl (T 0, 208, .inl p7)), (tw, .inr (5, [.int t0, .int t1, .int t2, .int t3, .int t4, .int t5, .int t6, .int t7, .int t8, .ref b0, .ref b1, .ref b2, .ref b3, .ref b4, .ref b5, .ref b6, .ref b7, .ref b8, .ref b9])), (b0, .inl (T 0, 5, .inl f0)), (b1, .inl (T 0, 5, .inl f1))] s.heap.size = A at hD ⊢
  have hA : ∀ q : Nat, s.heap.size ≤ q → A q := fun q h => by rw [← hAe]; exact Or.inr h
  have hS : va_S A s.heap s.heap [] := va_S.rf
  have hl := lv_entry ([.ref h0, .int i1, .int i2, .int i3, .int i4]) (n := 7) (Nat.le_of_ble_eq_true rfl)
  rw [lg_entry_eq]
  generalize (lg_sl ([.ref h0, .int i1, .int i2, .int i3, .int i4]) ++ List.replicate (7 - (lg_sl ([.ref h0, .int i1, .int i2, .int i3, .int i4])).length) Slot.unset).toArray = ls at hl ⊢
  have hl : lv_has ls 7 [(0, .ref h0), (1, .int i1), (2, .int i2), (3, .int i3), (4, .int i4)] := hl
  refine lv_aload_n hx hb dX7_put_0 rfl (lv_at hl 0 rfl) ?_
  refine va_get (D := D) (ci := 7) (C := RX7) (T := TX7) (N := 9) hx hb hts iX7 hown hK hP 0 rfl rfl 1 (by decide) (hts _ m325) (fun _ h9 => h9) rfl dX7_put_1 ?_
  refine lv_iload_n hx hb dX7_put_4 rfl (lv_at hl 1 rfl) ?_
  refine va_iald (D := D) hx hb hK hP 1 0 rfl rfl (v_in (x := i1.toInt) rfl (by omega) (by omega)) dX7_put_5 ?_
  refine lv_topi (fun x_1 ex_1 => ?_)
  have tx_1 : 0 ≤ x_1.toInt ∧ x_1.toInt ≤ 12 := rg_at R_p0 ex_1
  have qx_1 : x_1.toInt = (p0 i1.toNatClampNeg).toInt := by rw [ex_1]
  refine lv_istore (lv' := [(5, .int x_1), (0, .ref h0), (1, .int i1), (2, .int i2), (3, .int i3), (4, .int i4)]) hx hb dX7_put_6 hl (by decide) rfl (fun ls hl => ?_)
  refine lv_iload_n hx hb dX7_put_8 rfl (lv_at hl 2 rfl) ?_
  refine lv_iload hx hb dX7_put_9 (lv_at hl 0 rfl) ?_
  refine puI (cSN (As := [.int i1, .int x_1]) (rest := []) ⟨hx, hb, hml, hown, hts⟩ (c_X10_indexOf l D T i1 x_1 ⟨by omega, by omega⟩ ⟨by omega, by omega⟩) k_X10_indexOf m784 (hC.2.1 _ (List.mem_of_getElem? (i := 9) rfl)) rfl rfl ⟨(Nat.le_of_ble_eq_true rfl), (Nat.le_of_ble_eq_true rfl)⟩ (preP hC (hP.sub (ws' := []) [] rfl)) rfl hl.1 rfl (Nat.le_of_ble_eq_true rfl) dX7_put_11 ⟨(Nat.le_of_ble_eq_true rfl), (Nat.le_of_ble_eq_true rfl)⟩) hS hP (fun r_2 H locs hw hP hS => ?_)
  have w_4 : (r_2.toInt = 12 * i1.toInt + x_1.toInt) := hw
  obtain c_5 := w_4
  refine lv_istore (lv' := [(6, .int r_2), (5, .int x_1), (0, .ref h0), (1, .int i1), (2, .int i2), (3, .int i3), (4, .int i4)]) hx hb dX7_put_14 hl (by decide) rfl (fun ls hl => ?_)
  refine lv_aload_n hx hb dX7_put_16 rfl (lv_at hl 2 rfl) ?_
  refine va_get (D := D) (ci := 7) (C := RX7) (T := TX7) (N := 9) hx hb hts iX7 hown hK hP 0 rfl rfl 3 (by decide) (hts _ m334) (fun _ h9 => h9) rfl dX7_put_17 ?_
  refine lv_iload hx hb dX7_put_20 (lv_at hl 0 rfl) ?_
  refine lv_iload_n hx hb dX7_put_22 rfl (lv_at hl 4 rfl) ?_
  refine va_iast (D := D) hx hb hK hP hD hS 3 0 rfl rfl (v_in (x := r_2.toInt) rfl (by omega) (by omega)) dX7_put_23 (fun H locs hP hD hS => ?_)
  obtain ⟨f_6, hf_6⟩ : ∃ g : Nat → Int32, g = upd p2 r_2.toNatClampNeg i2 := ⟨_, rfl⟩
  have hP : va_P D vwCl [(h0, .inr (7, [.ref tw, .ref e0, .ref e1, .ref e2, .ref e3, .ref e4, .ref e5, .ref e6, .ref e7])), (e0, .inl (T 0, 16, .inl p0)), (e1, .inl (T 0, 5, .inl p1)), (e2, .inl (T 0, 192, .inl (upd p2 r_2.toNatClampNeg i2))), (e3, .inl (T 0, 192, .inl p3)), (e4, .inl (T 0, 192, .inl p4)), (e5, .inl (T 0, 2, .inl p5)), (e6, .inl (T 0, 2, .inl p6)), (e7, .inl (T 0, 208, .inl p7)), (tw, .inr (5, [.int t0, .int t1, .int t2, .int t3, .int t4, .int t5, .int t6, .int t7, .int t8, .ref b0, .ref b1, .ref b2, .ref b3, .ref b4, .ref b5, .ref b6, .ref b7, .ref b8, .ref b9])), (b0, .inl (T 0, 5, .inl f0)), (b1, .inl (T 0, 5, .inl f1))] H := hP
  have hD : va_D A [(h0, .inr (7, [.ref tw, .ref e0, .ref e1, .ref e2, .ref e3, .ref e4, .ref e5, .ref e6, .ref e7])), (e0, .inl (T 0, 16, .inl p0)), (e1, .inl (T 0, 5, .inl p1)), (e2, .inl (T 0, 192, .inl (upd p2 r_2.toNatClampNeg i2))), (e3, .inl (T 0, 192, .inl p3)), (e4, .inl (T 0, 192, .inl p4)), (e5, .inl (T 0, 2, .inl p5)), (e6, .inl (T 0, 2, .inl p6)), (e7, .inl (T 0, 208, .inl p7)), (tw, .inr (5, [.int t0, .int t1, .int t2, .int t3, .int t4, .int t5, .int t6, .int t7, .int t8, .ref b0, .ref b1, .ref b2, .ref b3, .ref b4, .ref b5, .ref b6, .ref b7, .ref b8, .ref b9])), (b0, .inl (T 0, 5, .inl f0)), (b1, .inl (T 0, 5, .inl f1))] := hD
  rw [← hf_6] at hP hD
  have Rf_6 : rg 0 4 f_6 := by rw [hf_6]; exact rg_upd R_p2 (by constructor <;> omega)
  refine lv_aload_n hx hb dX7_put_24 rfl (lv_at hl 2 rfl) ?_
  refine va_get (D := D) (ci := 7) (C := RX7) (T := TX7) (N := 9) hx hb hts iX7 hown hK hP 0 rfl rfl 4 (by decide) (hts _ m336) (fun _ h9 => h9) rfl dX7_put_25 ?_
  refine lv_iload hx hb dX7_put_28 (lv_at hl 0 rfl) ?_
  refine lv_iload_n hx hb dX7_put_30 rfl (lv_at hl 5 rfl) ?_
  refine va_iast (D := D) hx hb hK hP hD hS 4 0 rfl rfl (v_in (x := r_2.toInt) rfl (by omega) (by omega)) dX7_put_31 (fun H locs hP hD hS => ?_)
  obtain ⟨f_7, hf_7⟩ : ∃ g : Nat → Int32, g = upd p3 r_2.toNatClampNeg i3 := ⟨_, rfl⟩
  have hP : va_P D vwCl [(h0, .inr (7, [.ref tw, .ref e0, .ref e1, .ref e2, .ref e3, .ref e4, .ref e5, .ref e6, .ref e7])), (e0, .inl (T 0, 16, .inl p0)), (e1, .inl (T 0, 5, .inl p1)), (e2, .inl (T 0, 192, .inl f_6)), (e3, .inl (T 0, 192, .inl (upd p3 r_2.toNatClampNeg i3))), (e4, .inl (T 0, 192, .inl p4)), (e5, .inl (T 0, 2, .inl p5)), (e6, .inl (T 0, 2, .inl p6)), (e7, .inl (T 0, 208, .inl p7)), (tw, .inr (5, [.int t0, .int t1, .int t2, .int t3, .int t4, .int t5, .int t6, .int t7, .int t8, .ref b0, .ref b1, .ref b2, .ref b3, .ref b4, .ref b5, .ref b6, .ref b7, .ref b8, .ref b9])), (b0, .inl (T 0, 5, .inl f0)), (b1, .inl (T 0, 5, .inl f1))] H := hP
  have hD : va_D A [(h0, .inr (7, [.ref tw, .ref e0, .ref e1, .ref e2, .ref e3, .ref e4, .ref e5, .ref e6, .ref e7])), (e0, .inl (T 0, 16, .inl p0)), (e1, .inl (T 0, 5, .inl p1)), (e2, .inl (T 0, 192, .inl f_6)), (e3, .inl (T 0, 192, .inl (upd p3 r_2.toNatClampNeg i3))), (e4, .inl (T 0, 192, .inl p4)), (e5, .inl (T 0, 2, .inl p5)), (e6, .inl (T 0, 2, .inl p6)), (e7, .inl (T 0, 208, .inl p7)), (tw, .inr (5, [.int t0, .int t1, .int t2, .int t3, .int t4, .int t5, .int t6, .int t7, .int t8, .ref b0, .ref b1, .ref b2, .ref b3, .ref b4, .ref b5, .ref b6, .ref b7, .ref b8, .ref b9])), (b0, .inl (T 0, 5, .inl f0)), (b1, .inl (T 0, 5, .inl f1))] := hD
  rw [← hf_7] at hP hD
  refine lv_aload_n hx hb dX7_put_32 rfl (lv_at hl 2 rfl) ?_
  refine va_get (D := D) (ci := 7) (C := RX7) (T := TX7) (N := 9) hx hb hts iX7 hown hK hP 0 rfl rfl 5 (by decide) (hts _ m338) (fun _ h9 => h9) rfl dX7_put_33 ?_
  refine lv_iload hx hb dX7_put_36 (lv_at hl 0 rfl) ?_
  refine lv_iload hx hb dX7_put_38 (lv_at hl 6 rfl) ?_
  refine va_iast (D := D) hx hb hK hP hD hS 5 0 rfl rfl (v_in (x := r_2.toInt) rfl (by omega) (by omega)) dX7_put_40 (fun H locs hP hD hS => ?_)
  obtain ⟨f_8, hf_8⟩ : ∃ g : Nat → Int32, g = upd p4 r_2.toNatClampNeg i4 := ⟨_, rfl⟩
  have hP : va_P D vwCl [(h0, .inr (7, [.ref tw, .ref e0, .ref e1, .ref e2, .ref e3, .ref e4, .ref e5, .ref e6, .ref e7])), (e0, .inl (T 0, 16, .inl p0)), (e1, .inl (T 0, 5, .inl p1)), (e2, .inl (T 0, 192, .inl f_6)), (e3, .inl (T 0, 192, .inl f_7)), (e4, .inl (T 0, 192, .inl (upd p4 r_2.toNatClampNeg i4))), (e5, .inl (T 0, 2, .inl p5)), (e6, .inl (T 0, 2, .inl p6)), (e7, .inl (T 0, 208, .inl p7)), (tw, .inr (5, [.int t0, .int t1, .int t2, .int t3, .int t4, .int t5, .int t6, .int t7, .int t8, .ref b0, .ref b1, .ref b2, .ref b3, .ref b4, .ref b5, .ref b6, .ref b7, .ref b8, .ref b9])), (b0, .inl (T 0, 5, .inl f0)), (b1, .inl (T 0, 5, .inl f1))] H := hP
  have hD : va_D A [(h0, .inr (7, [.ref tw, .ref e0, .ref e1, .ref e2, .ref e3, .ref e4, .ref e5, .ref e6, .ref e7])), (e0, .inl (T 0, 16, .inl p0)), (e1, .inl (T 0, 5, .inl p1)), (e2, .inl (T 0, 192, .inl f_6)), (e3, .inl (T 0, 192, .inl f_7)), (e4, .inl (T 0, 192, .inl (upd p4 r_2.toNatClampNeg i4))), (e5, .inl (T 0, 2, .inl p5)), (e6, .inl (T 0, 2, .inl p6)), (e7, .inl (T 0, 208, .inl p7)), (tw, .inr (5, [.int t0, .int t1, .int t2, .int t3, .int t4, .int t5, .int t6, .int t7, .int t8, .ref b0, .ref b1, .ref b2, .ref b3, .ref b4, .ref b5, .ref b6, .ref b7, .ref b8, .ref b9])), (b0, .inl (T 0, 5, .inl f0)), (b1, .inl (T 0, 5, .inl f1))] := hD
  rw [← hf_8] at hP hD
  refine lv_aload_n hx hb dX7_put_41 rfl (lv_at hl 2 rfl) ?_
  refine va_get (D := D) (ci := 7) (C := RX7) (T := TX7) (N := 9) hx hb hts iX7 hown hK hP 0 rfl rfl 8 (by decide) (hts _ m342) (fun _ h9 => h9) rfl dX7_put_42 ?_
  refine lv_iload_n hx hb dX7_put_45 rfl (lv_at hl 3 rfl) ?_
  refine lv_bipush (v := 13) hx hb dX7_put_46 (by decide) ?_
  refine lv_imul hx hb dX7_put_48 ?_
  refine lv_topi (fun x_9 ex_9 => ?_)
  have tx_9 : x_9.toInt = i1.toInt * 13 := t_mul (x := i1.toInt) (y := 13) ex_9 rfl rfl (by omega) (by omega)
  refine lv_iload hx hb dX7_put_49 (lv_at hl 1 rfl) ?_
  refine lv_iadd hx hb dX7_put_51 ?_
  refine lv_topi (fun x_10 ex_10 => ?_)
  have tx_10 : x_10.toInt = x_9.toInt + x_1.toInt := t_add (x := x_9.toInt) (y := x_1.toInt) ex_10 rfl rfl (by omega) (by omega)
  refine lv_iconst (v := 1) hx hb dX7_put_52 (by decide) ?_
  refine lv_iadd hx hb dX7_put_53 ?_
  refine lv_topi (fun x_11 ex_11 => ?_)
  have tx_11 : x_11.toInt = x_10.toInt + 1 := t_add (x := x_10.toInt) (y := 1) ex_11 rfl rfl (by omega) (by omega)
  refine lv_aload_n hx hb dX7_put_54 rfl (lv_at hl 2 rfl) ?_
  refine lv_iload_n hx hb dX7_put_55 rfl (lv_at hl 3 rfl) ?_
  refine puI (cV (As := [.int i1]) (rest := [.int x_11, .ref e7]) ⟨hx, hb, hml, hown, hts⟩ (c_X7_roomOn l D T e0 e1 e2 e3 e4 e5 e6 e7 h0 tw i1 p0 p7 ⟨by omega, by omega⟩ R_p0) k_X7_roomOn v_X7_roomOn m786 rfl rfl ⟨(Nat.le_of_ble_eq_true rfl), (Nat.le_of_ble_eq_true rfl)⟩ (preP hC (hP.sub (ws' := [(h0, .inr (7, [.ref tw, .ref e0, .ref e1, .ref e2, .ref e3, .ref e4, .ref e5, .ref e6, .ref e7])), (e0, .inl (T 0, 16, .inl p0)), (e7, .inl (T 0, 208, .inl p7))]) [0, 1, 8] rfl)) (va_recv hK hP (ci := 7) (q0 := 0) rfl rfl) rfl hl.1 rfl (Nat.le_of_ble_eq_true rfl) dX7_put_56 ⟨(Nat.le_of_ble_eq_true rfl), (Nat.le_of_ble_eq_true rfl)⟩) hS hP (fun r_12 H locs hw hP hS => ?_)
  refine lv_aload_n hx hb dX7_put_59 rfl (lv_at hl 2 rfl) ?_
  refine va_get (D := D) (ci := 7) (C := RX7) (T := TX7) (N := 9) hx hb hts iX7 hown hK hP 0 rfl rfl 0 (by decide) (hts _ m324) (fun _ h9 => h9) rfl dX7_put_60 ?_
  refine va_get (D := D) (ci := 5) (C := RX5) (T := TX5) (N := 19) hx hb hts iX5 hown hK hP 9 rfl rfl 9 (by decide) (hts _ m205) (fun _ h9 => h9) rfl dX7_put_63 ?_
  refine lv_iload_n hx hb dX7_put_66 rfl (lv_at hl 4 rfl) ?_
  refine va_iald (D := D) hx hb hK hP 10 0 rfl rfl (v_in (x := i2.toInt) rfl (by omega) (by omega)) dX7_put_67 ?_
  refine lv_topi (fun x_14 ex_14 => ?_)
  refine lv_isub hx hb dX7_put_68 ?_
  refine lv_topi (fun x_15 ex_15 => ?_)
  refine lv_aload_n hx hb dX7_put_69 rfl (lv_at hl 2 rfl) ?_
  refine va_get (D := D) (ci := 7) (C := RX7) (T := TX7) (N := 9) hx hb hts iX7 hown hK hP 0 rfl rfl 0 (by decide) (hts _ m324) (fun _ h9 => h9) rfl dX7_put_70 ?_
  refine va_get (D := D) (ci := 5) (C := RX5) (T := TX5) (N := 19) hx hb hts iX5 hown hK hP 9 rfl rfl 10 (by decide) (hts _ m211) (fun _ h9 => h9) rfl dX7_put_73 ?_
  refine lv_iload_n hx hb dX7_put_76 rfl (lv_at hl 4 rfl) ?_
  refine va_iald (D := D) hx hb hK hP 11 0 rfl rfl (v_in (x := i2.toInt) rfl (by omega) (by omega)) dX7_put_77 ?_
  refine lv_topi (fun x_16 ex_16 => ?_)
  refine va_mmin hx hb (by rw [hml]; exact hl.1.symm) hown (hts _ m790) (hts _ m671) (hts _ m123) (hts _ m672) (Nat.le_of_ble_eq_true rfl) (Nat.le_of_ble_eq_true rfl) (Nat.le_of_ble_eq_true rfl) (Nat.le_of_ble_eq_true rfl) dX7_put_78 ?_
  refine lv_topi (fun x_17 ex_17 => ?_)
  refine va_iast (D := D) hx hb hK hP hD hS 8 0 rfl rfl (v_in (x := x_11.toInt) rfl (by omega) (by omega)) dX7_put_81 (fun H locs hP hD hS => ?_)
  obtain ⟨f_18, hf_18⟩ : ∃ g : Nat → Int32, g = upd p7 x_11.toNatClampNeg x_17 := ⟨_, rfl⟩
  have hP : va_P D vwCl [(h0, .inr (7, [.ref tw, .ref e0, .ref e1, .ref e2, .ref e3, .ref e4, .ref e5, .ref e6, .ref e7])), (e0, .inl (T 0, 16, .inl p0)), (e1, .inl (T 0, 5, .inl p1)), (e2, .inl (T 0, 192, .inl f_6)), (e3, .inl (T 0, 192, .inl f_7)), (e4, .inl (T 0, 192, .inl f_8)), (e5, .inl (T 0, 2, .inl p5)), (e6, .inl (T 0, 2, .inl p6)), (e7, .inl (T 0, 208, .inl (upd p7 x_11.toNatClampNeg x_17))), (tw, .inr (5, [.int t0, .int t1, .int t2, .int t3, .int t4, .int t5, .int t6, .int t7, .int t8, .ref b0, .ref b1, .ref b2, .ref b3, .ref b4, .ref b5, .ref b6, .ref b7, .ref b8, .ref b9])), (b0, .inl (T 0, 5, .inl f0)), (b1, .inl (T 0, 5, .inl f1))] H := hP
  have hD : va_D A [(h0, .inr (7, [.ref tw, .ref e0, .ref e1, .ref e2, .ref e3, .ref e4, .ref e5, .ref e6, .ref e7])), (e0, .inl (T 0, 16, .inl p0)), (e1, .inl (T 0, 5, .inl p1)), (e2, .inl (T 0, 192, .inl f_6)), (e3, .inl (T 0, 192, .inl f_7)), (e4, .inl (T 0, 192, .inl f_8)), (e5, .inl (T 0, 2, .inl p5)), (e6, .inl (T 0, 2, .inl p6)), (e7, .inl (T 0, 208, .inl (upd p7 x_11.toNatClampNeg x_17))), (tw, .inr (5, [.int t0, .int t1, .int t2, .int t3, .int t4, .int t5, .int t6, .int t7, .int t8, .ref b0, .ref b1, .ref b2, .ref b3, .ref b4, .ref b5, .ref b6, .ref b7, .ref b8, .ref b9])), (b0, .inl (T 0, 5, .inl f0)), (b1, .inl (T 0, 5, .inl f1))] := hD
  rw [← hf_18] at hP hD
  refine lv_aload_n hx hb dX7_put_82 rfl (lv_at hl 2 rfl) ?_
  refine va_get (D := D) (ci := 7) (C := RX7) (T := TX7) (N := 9) hx hb hts iX7 hown hK hP 0 rfl rfl 1 (by decide) (hts _ m325) (fun _ h9 => h9) rfl dX7_put_83 ?_
  refine lv_iload_n hx hb dX7_put_86 rfl (lv_at hl 3 rfl) ?_
  refine lv_iload hx hb dX7_put_87 (lv_at hl 1 rfl) ?_
  refine lv_iconst (v := 1) hx hb dX7_put_89 (by decide) ?_
  refine lv_iadd hx hb dX7_put_90 ?_
  refine lv_topi (fun x_19 ex_19 => ?_)
  have tx_19 : x_19.toInt = x_1.toInt + 1 := t_add (x := x_1.toInt) (y := 1) ex_19 rfl rfl (by omega) (by omega)
  refine va_iast (D := D) hx hb hK hP hD hS 1 0 rfl rfl (v_in (x := i1.toInt) rfl (by omega) (by omega)) dX7_put_91 (fun H locs hP hD hS => ?_)
  obtain ⟨f_20, hf_20⟩ : ∃ g : Nat → Int32, g = upd p0 i1.toNatClampNeg x_19 := ⟨_, rfl⟩
  have hP : va_P D vwCl [(h0, .inr (7, [.ref tw, .ref e0, .ref e1, .ref e2, .ref e3, .ref e4, .ref e5, .ref e6, .ref e7])), (e0, .inl (T 0, 16, .inl (upd p0 i1.toNatClampNeg x_19))), (e1, .inl (T 0, 5, .inl p1)), (e2, .inl (T 0, 192, .inl f_6)), (e3, .inl (T 0, 192, .inl f_7)), (e4, .inl (T 0, 192, .inl f_8)), (e5, .inl (T 0, 2, .inl p5)), (e6, .inl (T 0, 2, .inl p6)), (e7, .inl (T 0, 208, .inl f_18)), (tw, .inr (5, [.int t0, .int t1, .int t2, .int t3, .int t4, .int t5, .int t6, .int t7, .int t8, .ref b0, .ref b1, .ref b2, .ref b3, .ref b4, .ref b5, .ref b6, .ref b7, .ref b8, .ref b9])), (b0, .inl (T 0, 5, .inl f0)), (b1, .inl (T 0, 5, .inl f1))] H := hP
  have hD : va_D A [(h0, .inr (7, [.ref tw, .ref e0, .ref e1, .ref e2, .ref e3, .ref e4, .ref e5, .ref e6, .ref e7])), (e0, .inl (T 0, 16, .inl (upd p0 i1.toNatClampNeg x_19))), (e1, .inl (T 0, 5, .inl p1)), (e2, .inl (T 0, 192, .inl f_6)), (e3, .inl (T 0, 192, .inl f_7)), (e4, .inl (T 0, 192, .inl f_8)), (e5, .inl (T 0, 2, .inl p5)), (e6, .inl (T 0, 2, .inl p6)), (e7, .inl (T 0, 208, .inl f_18)), (tw, .inr (5, [.int t0, .int t1, .int t2, .int t3, .int t4, .int t5, .int t6, .int t7, .int t8, .ref b0, .ref b1, .ref b2, .ref b3, .ref b4, .ref b5, .ref b6, .ref b7, .ref b8, .ref b9])), (b0, .inl (T 0, 5, .inl f0)), (b1, .inl (T 0, 5, .inl f1))] := hD
  rw [← hf_20] at hP hD
  have Rf_20 : rg 0 12 f_20 := by rw [hf_20]; exact rg_upd R_p0 (by constructor <;> omega)
  refine lv_aload_n hx hb dX7_put_92 rfl (lv_at hl 2 rfl) ?_
  refine va_get (D := D) (ci := 7) (C := RX7) (T := TX7) (N := 9) hx hb hts iX7 hown hK hP 0 rfl rfl 6 (by decide) (hts _ m340) (fun _ h9 => h9) rfl dX7_put_93 ?_
  refine lv_iload_n hx hb dX7_put_96 rfl (lv_at hl 3 rfl) ?_
  refine lv_bipush (v := 8) hx hb dX7_put_97 (by decide) ?_
  refine lv_idiv hx hb dX7_put_99 (by decide) ?_
  refine lv_topi (fun x_21 ex_21 => ?_)
  have tx_21 : x_21.toInt = i1.toInt / 8 := t_div (x := i1.toInt) (y := 8) ex_21 rfl rfl (by omega) (by omega)
  refine lv_dup2_11 hx hb dX7_put_100 rfl rfl ?_
  refine va_iald (D := D) hx hb hK hP 6 0 rfl rfl (v_in (x := x_21.toInt) rfl (by omega) (by omega)) dX7_put_101 ?_
  refine lv_topi (fun x_22 ex_22 => ?_)
  refine lv_iconst (v := 1) hx hb dX7_put_102 (by decide) ?_
  refine lv_iadd hx hb dX7_put_103 ?_
  refine lv_topi (fun x_23 ex_23 => ?_)
  refine va_iast (D := D) hx hb hK hP hD hS 6 0 rfl rfl (v_in (x := x_21.toInt) rfl (by omega) (by omega)) dX7_put_104 (fun H locs hP hD hS => ?_)
  obtain ⟨f_24, hf_24⟩ : ∃ g : Nat → Int32, g = upd p5 x_21.toNatClampNeg x_23 := ⟨_, rfl⟩
  have hP : va_P D vwCl [(h0, .inr (7, [.ref tw, .ref e0, .ref e1, .ref e2, .ref e3, .ref e4, .ref e5, .ref e6, .ref e7])), (e0, .inl (T 0, 16, .inl f_20)), (e1, .inl (T 0, 5, .inl p1)), (e2, .inl (T 0, 192, .inl f_6)), (e3, .inl (T 0, 192, .inl f_7)), (e4, .inl (T 0, 192, .inl f_8)), (e5, .inl (T 0, 2, .inl (upd p5 x_21.toNatClampNeg x_23))), (e6, .inl (T 0, 2, .inl p6)), (e7, .inl (T 0, 208, .inl f_18)), (tw, .inr (5, [.int t0, .int t1, .int t2, .int t3, .int t4, .int t5, .int t6, .int t7, .int t8, .ref b0, .ref b1, .ref b2, .ref b3, .ref b4, .ref b5, .ref b6, .ref b7, .ref b8, .ref b9])), (b0, .inl (T 0, 5, .inl f0)), (b1, .inl (T 0, 5, .inl f1))] H := hP
  have hD : va_D A [(h0, .inr (7, [.ref tw, .ref e0, .ref e1, .ref e2, .ref e3, .ref e4, .ref e5, .ref e6, .ref e7])), (e0, .inl (T 0, 16, .inl f_20)), (e1, .inl (T 0, 5, .inl p1)), (e2, .inl (T 0, 192, .inl f_6)), (e3, .inl (T 0, 192, .inl f_7)), (e4, .inl (T 0, 192, .inl f_8)), (e5, .inl (T 0, 2, .inl (upd p5 x_21.toNatClampNeg x_23))), (e6, .inl (T 0, 2, .inl p6)), (e7, .inl (T 0, 208, .inl f_18)), (tw, .inr (5, [.int t0, .int t1, .int t2, .int t3, .int t4, .int t5, .int t6, .int t7, .int t8, .ref b0, .ref b1, .ref b2, .ref b3, .ref b4, .ref b5, .ref b6, .ref b7, .ref b8, .ref b9])), (b0, .inl (T 0, 5, .inl f0)), (b1, .inl (T 0, 5, .inl f1))] := hD
  rw [← hf_24] at hP hD
  refine lv_aload_n hx hb dX7_put_105 rfl (lv_at hl 2 rfl) ?_
  refine va_get (D := D) (ci := 7) (C := RX7) (T := TX7) (N := 9) hx hb hts iX7 hown hK hP 0 rfl rfl 7 (by decide) (hts _ m341) (fun _ h9 => h9) rfl dX7_put_106 ?_
  refine lv_iload_n hx hb dX7_put_109 rfl (lv_at hl 3 rfl) ?_
  refine lv_bipush (v := 8) hx hb dX7_put_110 (by decide) ?_
  refine lv_idiv hx hb dX7_put_112 (by decide) ?_
  refine lv_topi (fun x_25 ex_25 => ?_)
  have tx_25 : x_25.toInt = i1.toInt / 8 := t_div (x := i1.toInt) (y := 8) ex_25 rfl rfl (by omega) (by omega)
  refine lv_dup2_11 hx hb dX7_put_113 rfl rfl ?_
  refine va_iald (D := D) hx hb hK hP 7 0 rfl rfl (v_in (x := x_25.toInt) rfl (by omega) (by omega)) dX7_put_114 ?_
  refine lv_topi (fun x_26 ex_26 => ?_)
  refine lv_aload_n hx hb dX7_put_115 rfl (lv_at hl 2 rfl) ?_
  refine va_get (D := D) (ci := 7) (C := RX7) (T := TX7) (N := 9) hx hb hts iX7 hown hK hP 0 rfl rfl 0 (by decide) (hts _ m324) (fun _ h9 => h9) rfl dX7_put_116 ?_
  refine va_get (D := D) (ci := 5) (C := RX5) (T := TX5) (N := 19) hx hb hts iX5 hown hK hP 9 rfl rfl 9 (by decide) (hts _ m205) (fun _ h9 => h9) rfl dX7_put_119 ?_
  refine lv_iload_n hx hb dX7_put_122 rfl (lv_at hl 4 rfl) ?_
  refine va_iald (D := D) hx hb hK hP 10 0 rfl rfl (v_in (x := i2.toInt) rfl (by omega) (by omega)) dX7_put_123 ?_
  refine lv_topi (fun x_27 ex_27 => ?_)
  refine lv_iadd hx hb dX7_put_124 ?_
  refine lv_topi (fun x_28 ex_28 => ?_)
  refine va_iast (D := D) hx hb hK hP hD hS 7 0 rfl rfl (v_in (x := x_25.toInt) rfl (by omega) (by omega)) dX7_put_125 (fun H locs hP hD hS => ?_)
  obtain ⟨f_29, hf_29⟩ : ∃ g : Nat → Int32, g = upd p6 x_25.toNatClampNeg x_28 := ⟨_, rfl⟩
  have hP : va_P D vwCl [(h0, .inr (7, [.ref tw, .ref e0, .ref e1, .ref e2, .ref e3, .ref e4, .ref e5, .ref e6, .ref e7])), (e0, .inl (T 0, 16, .inl f_20)), (e1, .inl (T 0, 5, .inl p1)), (e2, .inl (T 0, 192, .inl f_6)), (e3, .inl (T 0, 192, .inl f_7)), (e4, .inl (T 0, 192, .inl f_8)), (e5, .inl (T 0, 2, .inl f_24)), (e6, .inl (T 0, 2, .inl (upd p6 x_25.toNatClampNeg x_28))), (e7, .inl (T 0, 208, .inl f_18)), (tw, .inr (5, [.int t0, .int t1, .int t2, .int t3, .int t4, .int t5, .int t6, .int t7, .int t8, .ref b0, .ref b1, .ref b2, .ref b3, .ref b4, .ref b5, .ref b6, .ref b7, .ref b8, .ref b9])), (b0, .inl (T 0, 5, .inl f0)), (b1, .inl (T 0, 5, .inl f1))] H := hP
  have hD : va_D A [(h0, .inr (7, [.ref tw, .ref e0, .ref e1, .ref e2, .ref e3, .ref e4, .ref e5, .ref e6, .ref e7])), (e0, .inl (T 0, 16, .inl f_20)), (e1, .inl (T 0, 5, .inl p1)), (e2, .inl (T 0, 192, .inl f_6)), (e3, .inl (T 0, 192, .inl f_7)), (e4, .inl (T 0, 192, .inl f_8)), (e5, .inl (T 0, 2, .inl f_24)), (e6, .inl (T 0, 2, .inl (upd p6 x_25.toNatClampNeg x_28))), (e7, .inl (T 0, 208, .inl f_18)), (tw, .inr (5, [.int t0, .int t1, .int t2, .int t3, .int t4, .int t5, .int t6, .int t7, .int t8, .ref b0, .ref b1, .ref b2, .ref b3, .ref b4, .ref b5, .ref b6, .ref b7, .ref b8, .ref b9])), (b0, .inl (T 0, 5, .inl f0)), (b1, .inl (T 0, 5, .inl f1))] := hD
  rw [← hf_29] at hP hD
  refine lv_aload_n hx hb dX7_put_126 rfl (lv_at hl 2 rfl) ?_
  refine va_get (D := D) (ci := 7) (C := RX7) (T := TX7) (N := 9) hx hb hts iX7 hown hK hP 0 rfl rfl 2 (by decide) (hts _ m330) (fun _ h9 => h9) rfl dX7_put_127 ?_
  refine lv_iload_n hx hb dX7_put_130 rfl (lv_at hl 4 rfl) ?_
  refine lv_dup2_11 hx hb dX7_put_131 rfl rfl ?_
  refine va_iald (D := D) hx hb hK hP 2 0 rfl rfl (v_in (x := i2.toInt) rfl (by omega) (by omega)) dX7_put_132 ?_
  refine lv_topi (fun x_30 ex_30 => ?_)
  refine lv_iconst (v := 1) hx hb dX7_put_133 (by decide) ?_
  refine lv_isub hx hb dX7_put_134 ?_
  refine lv_topi (fun x_31 ex_31 => ?_)
  refine va_iast (D := D) hx hb hK hP hD hS 2 0 rfl rfl (v_in (x := i2.toInt) rfl (by omega) (by omega)) dX7_put_135 (fun H locs hP hD hS => ?_)
  obtain ⟨f_32, hf_32⟩ : ∃ g : Nat → Int32, g = upd p1 i2.toNatClampNeg x_31 := ⟨_, rfl⟩
  have hP : va_P D vwCl [(h0, .inr (7, [.ref tw, .ref e0, .ref e1, .ref e2, .ref e3, .ref e4, .ref e5, .ref e6, .ref e7])), (e0, .inl (T 0, 16, .inl f_20)), (e1, .inl (T 0, 5, .inl (upd p1 i2.toNatClampNeg x_31))), (e2, .inl (T 0, 192, .inl f_6)), (e3, .inl (T 0, 192, .inl f_7)), (e4, .inl (T 0, 192, .inl f_8)), (e5, .inl (T 0, 2, .inl f_24)), (e6, .inl (T 0, 2, .inl f_29)), (e7, .inl (T 0, 208, .inl f_18)), (tw, .inr (5, [.int t0, .int t1, .int t2, .int t3, .int t4, .int t5, .int t6, .int t7, .int t8, .ref b0, .ref b1, .ref b2, .ref b3, .ref b4, .ref b5, .ref b6, .ref b7, .ref b8, .ref b9])), (b0, .inl (T 0, 5, .inl f0)), (b1, .inl (T 0, 5, .inl f1))] H := hP
  have hD : va_D A [(h0, .inr (7, [.ref tw, .ref e0, .ref e1, .ref e2, .ref e3, .ref e4, .ref e5, .ref e6, .ref e7])), (e0, .inl (T 0, 16, .inl f_20)), (e1, .inl (T 0, 5, .inl (upd p1 i2.toNatClampNeg x_31))), (e2, .inl (T 0, 192, .inl f_6)), (e3, .inl (T 0, 192, .inl f_7)), (e4, .inl (T 0, 192, .inl f_8)), (e5, .inl (T 0, 2, .inl f_24)), (e6, .inl (T 0, 2, .inl f_29)), (e7, .inl (T 0, 208, .inl f_18)), (tw, .inr (5, [.int t0, .int t1, .int t2, .int t3, .int t4, .int t5, .int t6, .int t7, .int t8, .ref b0, .ref b1, .ref b2, .ref b3, .ref b4, .ref b5, .ref b6, .ref b7, .ref b8, .ref b9])), (b0, .inl (T 0, 5, .inl f0)), (b1, .inl (T 0, 5, .inl f1))] := hD
  rw [← hf_32] at hP hD
  refine lv_iload hx hb dX7_put_136 (lv_at hl 1 rfl) ?_
  refine lv_iconst (v := 1) hx hb dX7_put_138 (by decide) ?_
  refine lv_iadd hx hb dX7_put_139 ?_
  refine lv_topi (fun x_33 ex_33 => ?_)
  have tx_33 : x_33.toInt = x_1.toInt + 1 := t_add (x := x_1.toInt) (y := 1) ex_33 rfl rfl (by omega) (by omega)
  have hP9 := hP.sub (ws' := [(h0, .inr (7, [.ref tw, .ref e0, .ref e1, .ref e2, .ref e3, .ref e4, .ref e5, .ref e6, .ref e7])), (e0, .inl (T 0, 16, .inl f_20)), (e1, .inl (T 0, 5, .inl f_32)), (e2, .inl (T 0, 192, .inl f_6)), (e3, .inl (T 0, 192, .inl f_7)), (e4, .inl (T 0, 192, .inl f_8)), (e5, .inl (T 0, 2, .inl f_24)), (e6, .inl (T 0, 2, .inl f_29)), (e7, .inl (T 0, 208, .inl f_18)), (tw, .inr (5, [.int t0, .int t1, .int t2, .int t3, .int t4, .int t5, .int t6, .int t7, .int t8, .ref b0, .ref b1, .ref b2, .ref b3, .ref b4, .ref b5, .ref b6, .ref b7, .ref b8, .ref b9])), (b0, .inl (T 0, 5, .inl f0)), (b1, .inl (T 0, 5, .inl f1))]) [0, 1, 2, 3, 4, 5, 6, 7, 8, 9, 10, 11] rfl
  have hD9 := hD.sub (ws' := [(h0, .inr (7, [.ref tw, .ref e0, .ref e1, .ref e2, .ref e3, .ref e4, .ref e5, .ref e6, .ref e7])), (e0, .inl (T 0, 16, .inl f_20)), (e1, .inl (T 0, 5, .inl f_32)), (e2, .inl (T 0, 192, .inl f_6)), (e3, .inl (T 0, 192, .inl f_7)), (e4, .inl (T 0, 192, .inl f_8)), (e5, .inl (T 0, 2, .inl f_24)), (e6, .inl (T 0, 2, .inl f_29)), (e7, .inl (T 0, 208, .inl f_18)), (tw, .inr (5, [.int t0, .int t1, .int t2, .int t3, .int t4, .int t5, .int t6, .int t7, .int t8, .ref b0, .ref b1, .ref b2, .ref b3, .ref b4, .ref b5, .ref b6, .ref b7, .ref b8, .ref b9])), (b0, .inl (T 0, 5, .inl f0)), (b1, .inl (T 0, 5, .inl f1))]) [0, 1, 2, 3, 4, 5, 6, 7, 8, 9, 10, 11] (by decide) rfl
  exact W.iret (v := x_33) hx hb hr (fun t ht hW => ⟨⟨x_33, (fun k => ([] : List (Nat)).getD k 0, fun k => ([f_20, f_32, f_6, f_7, f_8, f_24, f_29, f_18] : List (Nat → Int32)).getD k (fun _ => 0), fun k => ([] : List (Nat → Int64)).getD k (fun _ => 0), fun k => ([] : List (Int32)).getD k 0, fun k => ([] : List (Int64)).getD k 0), rfl, ⟨(show 1 ≤ x_33.toInt ∧ x_33.toInt ≤ 12 by omega), (show rg 0 12 f_20 from Rf_20), (show f_20 = upd p0 i1.toNatClampNeg ((p0 i1.toNatClampNeg) + 1) by simp only [ex_1, hf_6, hf_7, hf_8, ex_9, ex_10, ex_11, ex_14, ex_15, ex_16, hf_18, ex_19, hf_20, ex_21, ex_22, ex_23, hf_24, ex_25, ex_26, ex_27, ex_28, hf_29, ex_30, ex_31, hf_32, ex_33]), (show rg 0 4 f_6 from Rf_6)⟩, by rw [ht]; exact hP9, hD9⟩, hS.F ht⟩) hS.2.2 dX7_put_140

set_option maxHeartbeats 4000000 in
set_option maxRecDepth 100000 in
theorem c_X7_remove (l : Launch) (D : va_G) (T : Nat → ClassId) (b0 b1 b2 b3 b4 b5 b6 b7 b8 b9 e0 e1 e2 e3 e4 e5 e6 e7 h0 tw : Nat) (i1 t0 t1 t2 t3 t4 t5 t6 t7 t8 : Int32) (f0 p0 p1 p2 p5 p6 : Nat → Int32) (sz : Nat) (h_t1 : 0 ≤ t1.toInt ∧ t1.toInt ≤ 8) (h_t2 : 0 ≤ t2.toInt ∧ t2.toInt ≤ 12) (h_t4 : 0 ≤ t4.toInt ∧ t4.toInt ≤ 5) (h_t5 : 0 ≤ t5.toInt ∧ t5.toInt ≤ 10) (h_i1 : 0 ≤ i1.toInt ∧ i1.toInt ≤ 15) (R_p0 : rg 0 12 p0) (R_p2 : rg 0 4 p2) (hh : 0 < (p0 i1.toNatClampNeg).toInt) : Met l yX7_remove (wM yX7_remove cX7_remove 3 (some .int)) ({ frames := 1, cells := 0, slots := 0, locals := 21 }) (va_Pc [.ref h0, .int i1] (pwM D T [(h0, .inr (7, [.ref tw, .ref e0, .ref e1, .ref e2, .ref e3, .ref e4, .ref e5, .ref e6, .ref e7])), (e0, .inl (T 0, 16, .inl p0)), (e1, .inl (T 0, 5, .inl p1)), (e2, .inl (T 0, 192, .inl p2)), (e5, .inl (T 0, 2, .inl p5)), (e6, .inl (T 0, 2, .inl p6)), (tw, .inr (5, [.int t0, .int t1, .int t2, .int t3, .int t4, .int t5, .int t6, .int t7, .int t8, .ref b0, .ref b1, .ref b2, .ref b3, .ref b4, .ref b5, .ref b6, .ref b7, .ref b8, .ref b9])), (b0, .inl (T 0, 5, .inl f0))] sz)) (va_Qi (fun (r : Int32) (u : U5) => rg 0 12 (u.2.1 0) ∧ ((u.2.1 0) = upd p0 i1.toNatClampNeg ((p0 i1.toNatClampNeg) - 1))) (fun u t => pwE D (va_A [(h0, .inr (7, [.ref tw, .ref e0, .ref e1, .ref e2, .ref e3, .ref e4, .ref e5, .ref e6, .ref e7])), (e0, .inl (T 0, 16, .inl p0)), (e1, .inl (T 0, 5, .inl p1)), (e2, .inl (T 0, 192, .inl p2)), (e5, .inl (T 0, 2, .inl p5)), (e6, .inl (T 0, 2, .inl p6)), (tw, .inr (5, [.int t0, .int t1, .int t2, .int t3, .int t4, .int t5, .int t6, .int t7, .int t8, .ref b0, .ref b1, .ref b2, .ref b3, .ref b4, .ref b5, .ref b6, .ref b7, .ref b8, .ref b9])), (b0, .inl (T 0, 5, .inl f0))] sz) [(h0, .inr (7, [.ref tw, .ref e0, .ref e1, .ref e2, .ref e3, .ref e4, .ref e5, .ref e6, .ref e7])), (e0, .inl (T 0, 16, .inl (u.2.1 0))), (e1, .inl (T 0, 5, .inl (u.2.1 1))), (e2, .inl (T 0, 192, .inl p2)), (e5, .inl (T 0, 2, .inl (u.2.1 2))), (e6, .inl (T 0, 2, .inl (u.2.1 3))), (tw, .inr (5, [.int t0, .int t1, .int t2, .int t3, .int t4, .int t5, .int t6, .int t7, .int t8, .ref b0, .ref b1, .ref b2, .ref b3, .ref b4, .ref b5, .ref b6, .ref b7, .ref b8, .ref b9])), (b0, .inl (T 0, 5, .inl f0))] t) (va_A [(h0, .inr (7, [.ref tw, .ref e0, .ref e1, .ref e2, .ref e3, .ref e4, .ref e5, .ref e6, .ref e7])), (e0, .inl (T 0, 16, .inl p0)), (e1, .inl (T 0, 5, .inl p1)), (e2, .inl (T 0, 192, .inl p2)), (e5, .inl (T 0, 2, .inl p5)), (e6, .inl (T 0, 2, .inl p6)), (tw, .inr (5, [.int t0, .int t1, .int t2, .int t3, .int t4, .int t5, .int t6, .int t7, .int t8, .ref b0, .ref b1, .ref b2, .ref b3, .ref b4, .ref b5, .ref b6, .ref b7, .ref b8, .ref b9])), (b0, .inl (T 0, 5, .inl f0))] sz)) 0 0 (va_A [(h0, .inr (7, [.ref tw, .ref e0, .ref e1, .ref e2, .ref e3, .ref e4, .ref e5, .ref e6, .ref e7])), (e0, .inl (T 0, 16, .inl p0)), (e1, .inl (T 0, 5, .inl p1)), (e2, .inl (T 0, 192, .inl p2)), (e5, .inl (T 0, 2, .inl p5)), (e6, .inl (T 0, 2, .inl p6)), (tw, .inr (5, [.int t0, .int t1, .int t2, .int t3, .int t4, .int t5, .int t6, .int t7, .int t8, .ref b0, .ref b1, .ref b2, .ref b3, .ref b4, .ref b5, .ref b6, .ref b7, .ref b8, .ref b9])), (b0, .inl (T 0, 5, .inl f0))] sz) := by
  refine Met.ofW (cc := cX7_remove) (maxL := 3) (ret := (some .int)) (by decide) rfl ?_
  intro p e s m args below meth c s₁ B hml hv
  obtain ⟨rfl, hsz, hP, hC, hD0⟩ := hv
  have hx := B.exec
  have hb := B.bytes
  have hr := B.returns
  have hts : ∀ w ∈ gt, w.before _ s = true := fun w hw => atoms_spec (ws := (wM yX7_remove cX7_remove 3 (some .int))) B.pre w (List.mem_cons_of_mem _ hw)
  have hown : s.vm.findClass RX7 = some m.cls := findClass_of_methodNamed B.named
  have hlocks := B.notSynchronized
  have hK := hC.1
  subst hsz
  have hD := hD0.self (sz := s.heap.size)
  generalize hAe : va_A [(h0, .inr (7, [.ref tw, .ref e0, .ref e1, .ref e2, .ref e3, .ref e4, .ref e5, .ref e6, .ref e7])), (e0, .inl (T 0, 16, .inl p0)), (e1, .inl (T 0, 5, .inl p1)), (e2, .inl (T 0, 192, .inl p2)), (e5, .inl (T 0, 2, .inl p5)), (e6, .inl (T 0, 2, .inl p6)), (tw, .inr (5, [.int t0, .int t1, .int t2, .int t3, .int t4, .int t5, .int t6, .int t7, .int t8, .ref b0, .ref b1, .ref b2, .ref b3, .ref b4, .ref b5, .ref b6, .ref b7, .ref b8, .ref b9])), (b0, .inl (T 0, 5, .inl f0))] s.heap.size = A at hD ⊢
  have hA : ∀ q : Nat, s.heap.size ≤ q → A q := fun q h => by rw [← hAe]; exact Or.inr h
  have hS : va_S A s.heap s.heap [] := va_S.rf
  have hl := lv_entry ([.ref h0, .int i1]) (n := 3) (Nat.le_of_ble_eq_true rfl)
  rw [lg_entry_eq]
  generalize (lg_sl ([.ref h0, .int i1]) ++ List.replicate (3 - (lg_sl ([.ref h0, .int i1])).length) Slot.unset).toArray = ls at hl ⊢
  have hl : lv_has ls 3 [(0, .ref h0), (1, .int i1)] := hl
  refine lv_aload_n hx hb dX7_remove_0 rfl (lv_at hl 0 rfl) ?_
  refine va_get (D := D) (ci := 7) (C := RX7) (T := TX7) (N := 9) hx hb hts iX7 hown hK hP 0 rfl rfl 1 (by decide) (hts _ m325) (fun _ h9 => h9) rfl dX7_remove_1 ?_
  refine lv_iload_n hx hb dX7_remove_4 rfl (lv_at hl 1 rfl) ?_
  refine lv_dup2_11 hx hb dX7_remove_5 rfl rfl ?_
  refine va_iald (D := D) hx hb hK hP 1 0 rfl rfl (v_in (x := i1.toInt) rfl (by omega) (by omega)) dX7_remove_6 ?_
  refine lv_topi (fun x_1 ex_1 => ?_)
  have tx_1 : 0 ≤ x_1.toInt ∧ x_1.toInt ≤ 12 := rg_at R_p0 ex_1
  have qx_1 : x_1.toInt = (p0 i1.toNatClampNeg).toInt := by rw [ex_1]
  refine lv_iconst (v := 1) hx hb dX7_remove_7 (by decide) ?_
  refine lv_isub hx hb dX7_remove_8 ?_
  refine lv_topi (fun x_2 ex_2 => ?_)
  have tx_2 : x_2.toInt = x_1.toInt - 1 := t_sub (x := x_1.toInt) (y := 1) ex_2 rfl rfl (by omega) (by omega)
  refine va_iast (D := D) hx hb hK hP hD hS 1 0 rfl rfl (v_in (x := i1.toInt) rfl (by omega) (by omega)) dX7_remove_9 (fun H locs hP hD hS => ?_)
  obtain ⟨f_3, hf_3⟩ : ∃ g : Nat → Int32, g = upd p0 i1.toNatClampNeg x_2 := ⟨_, rfl⟩
  have hP : va_P D vwCl [(h0, .inr (7, [.ref tw, .ref e0, .ref e1, .ref e2, .ref e3, .ref e4, .ref e5, .ref e6, .ref e7])), (e0, .inl (T 0, 16, .inl (upd p0 i1.toNatClampNeg x_2))), (e1, .inl (T 0, 5, .inl p1)), (e2, .inl (T 0, 192, .inl p2)), (e5, .inl (T 0, 2, .inl p5)), (e6, .inl (T 0, 2, .inl p6)), (tw, .inr (5, [.int t0, .int t1, .int t2, .int t3, .int t4, .int t5, .int t6, .int t7, .int t8, .ref b0, .ref b1, .ref b2, .ref b3, .ref b4, .ref b5, .ref b6, .ref b7, .ref b8, .ref b9])), (b0, .inl (T 0, 5, .inl f0))] H := hP
  have hD : va_D A [(h0, .inr (7, [.ref tw, .ref e0, .ref e1, .ref e2, .ref e3, .ref e4, .ref e5, .ref e6, .ref e7])), (e0, .inl (T 0, 16, .inl (upd p0 i1.toNatClampNeg x_2))), (e1, .inl (T 0, 5, .inl p1)), (e2, .inl (T 0, 192, .inl p2)), (e5, .inl (T 0, 2, .inl p5)), (e6, .inl (T 0, 2, .inl p6)), (tw, .inr (5, [.int t0, .int t1, .int t2, .int t3, .int t4, .int t5, .int t6, .int t7, .int t8, .ref b0, .ref b1, .ref b2, .ref b3, .ref b4, .ref b5, .ref b6, .ref b7, .ref b8, .ref b9])), (b0, .inl (T 0, 5, .inl f0))] := hD
  rw [← hf_3] at hP hD
  have Rf_3 : rg 0 12 f_3 := by rw [hf_3]; exact rg_upd R_p0 (by constructor <;> omega)
  refine lv_aload_n hx hb dX7_remove_10 rfl (lv_at hl 0 rfl) ?_
  refine va_get (D := D) (ci := 7) (C := RX7) (T := TX7) (N := 9) hx hb hts iX7 hown hK hP 0 rfl rfl 3 (by decide) (hts _ m334) (fun _ h9 => h9) rfl dX7_remove_11 ?_
  refine lv_iload_n hx hb dX7_remove_14 rfl (lv_at hl 1 rfl) ?_
  refine lv_aload_n hx hb dX7_remove_15 rfl (lv_at hl 0 rfl) ?_
  refine va_get (D := D) (ci := 7) (C := RX7) (T := TX7) (N := 9) hx hb hts iX7 hown hK hP 0 rfl rfl 1 (by decide) (hts _ m325) (fun _ h9 => h9) rfl dX7_remove_16 ?_
  refine lv_iload_n hx hb dX7_remove_19 rfl (lv_at hl 1 rfl) ?_
  refine va_iald (D := D) hx hb hK hP 1 0 rfl rfl (v_in (x := i1.toInt) rfl (by omega) (by omega)) dX7_remove_20 ?_
  refine lv_topi (fun x_4 ex_4 => ?_)
  have tx_4 : 0 ≤ x_4.toInt ∧ x_4.toInt ≤ 12 := rg_at Rf_3 ex_4
  have dx_4 : x_4 = x_2 := by rw [ex_4, hf_3]; exact pk_us
  have ux_4 : x_4.toInt = x_2.toInt := by rw [dx_4]
  refine puI (cSN (As := [.int i1, .int x_4]) (rest := [.ref e2]) ⟨hx, hb, hml, hown, hts⟩ (c_X10_indexOf l D T i1 x_4 ⟨by omega, by omega⟩ ⟨by omega, by omega⟩) k_X10_indexOf m784 (hC.2.1 _ (List.mem_of_getElem? (i := 9) rfl)) rfl rfl ⟨(Nat.le_of_ble_eq_true rfl), (Nat.le_of_ble_eq_true rfl)⟩ (preP hC (hP.sub (ws' := []) [] rfl)) rfl hl.1 rfl (Nat.le_of_ble_eq_true rfl) dX7_remove_21 ⟨(Nat.le_of_ble_eq_true rfl), (Nat.le_of_ble_eq_true rfl)⟩) hS hP (fun r_5 H locs hw hP hS => ?_)
  have w_7 : (r_5.toInt = 12 * i1.toInt + x_4.toInt) := hw
  obtain c_8 := w_7
  refine va_iald (D := D) hx hb hK hP 3 0 rfl rfl (v_in (x := r_5.toInt) rfl (by omega) (by omega)) dX7_remove_24 ?_
  refine lv_topi (fun x_9 ex_9 => ?_)
  have tx_9 : 0 ≤ x_9.toInt ∧ x_9.toInt ≤ 4 := rg_at R_p2 ex_9
  refine lv_istore_n (lv' := [(2, .int x_9), (0, .ref h0), (1, .int i1)]) hx hb dX7_remove_25 rfl hl (by decide) rfl (fun ls hl => ?_)
  refine lv_aload_n hx hb dX7_remove_26 rfl (lv_at hl 1 rfl) ?_
  refine va_get (D := D) (ci := 7) (C := RX7) (T := TX7) (N := 9) hx hb hts iX7 hown hK hP 0 rfl rfl 6 (by decide) (hts _ m340) (fun _ h9 => h9) rfl dX7_remove_27 ?_
  refine lv_iload_n hx hb dX7_remove_30 rfl (lv_at hl 2 rfl) ?_
  refine lv_bipush (v := 8) hx hb dX7_remove_31 (by decide) ?_
  refine lv_idiv hx hb dX7_remove_33 (by decide) ?_
  refine lv_topi (fun x_10 ex_10 => ?_)
  have tx_10 : x_10.toInt = i1.toInt / 8 := t_div (x := i1.toInt) (y := 8) ex_10 rfl rfl (by omega) (by omega)
  refine lv_dup2_11 hx hb dX7_remove_34 rfl rfl ?_
  refine va_iald (D := D) hx hb hK hP 4 0 rfl rfl (v_in (x := x_10.toInt) rfl (by omega) (by omega)) dX7_remove_35 ?_
  refine lv_topi (fun x_11 ex_11 => ?_)
  refine lv_iconst (v := 1) hx hb dX7_remove_36 (by decide) ?_
  refine lv_isub hx hb dX7_remove_37 ?_
  refine lv_topi (fun x_12 ex_12 => ?_)
  refine va_iast (D := D) hx hb hK hP hD hS 4 0 rfl rfl (v_in (x := x_10.toInt) rfl (by omega) (by omega)) dX7_remove_38 (fun H locs hP hD hS => ?_)
  obtain ⟨f_13, hf_13⟩ : ∃ g : Nat → Int32, g = upd p5 x_10.toNatClampNeg x_12 := ⟨_, rfl⟩
  have hP : va_P D vwCl [(h0, .inr (7, [.ref tw, .ref e0, .ref e1, .ref e2, .ref e3, .ref e4, .ref e5, .ref e6, .ref e7])), (e0, .inl (T 0, 16, .inl f_3)), (e1, .inl (T 0, 5, .inl p1)), (e2, .inl (T 0, 192, .inl p2)), (e5, .inl (T 0, 2, .inl (upd p5 x_10.toNatClampNeg x_12))), (e6, .inl (T 0, 2, .inl p6)), (tw, .inr (5, [.int t0, .int t1, .int t2, .int t3, .int t4, .int t5, .int t6, .int t7, .int t8, .ref b0, .ref b1, .ref b2, .ref b3, .ref b4, .ref b5, .ref b6, .ref b7, .ref b8, .ref b9])), (b0, .inl (T 0, 5, .inl f0))] H := hP
  have hD : va_D A [(h0, .inr (7, [.ref tw, .ref e0, .ref e1, .ref e2, .ref e3, .ref e4, .ref e5, .ref e6, .ref e7])), (e0, .inl (T 0, 16, .inl f_3)), (e1, .inl (T 0, 5, .inl p1)), (e2, .inl (T 0, 192, .inl p2)), (e5, .inl (T 0, 2, .inl (upd p5 x_10.toNatClampNeg x_12))), (e6, .inl (T 0, 2, .inl p6)), (tw, .inr (5, [.int t0, .int t1, .int t2, .int t3, .int t4, .int t5, .int t6, .int t7, .int t8, .ref b0, .ref b1, .ref b2, .ref b3, .ref b4, .ref b5, .ref b6, .ref b7, .ref b8, .ref b9])), (b0, .inl (T 0, 5, .inl f0))] := hD
  rw [← hf_13] at hP hD
  refine lv_aload_n hx hb dX7_remove_39 rfl (lv_at hl 1 rfl) ?_
  refine va_get (D := D) (ci := 7) (C := RX7) (T := TX7) (N := 9) hx hb hts iX7 hown hK hP 0 rfl rfl 7 (by decide) (hts _ m341) (fun _ h9 => h9) rfl dX7_remove_40 ?_
  refine lv_iload_n hx hb dX7_remove_43 rfl (lv_at hl 2 rfl) ?_
  refine lv_bipush (v := 8) hx hb dX7_remove_44 (by decide) ?_
  refine lv_idiv hx hb dX7_remove_46 (by decide) ?_
  refine lv_topi (fun x_14 ex_14 => ?_)
  have tx_14 : x_14.toInt = i1.toInt / 8 := t_div (x := i1.toInt) (y := 8) ex_14 rfl rfl (by omega) (by omega)
  refine lv_dup2_11 hx hb dX7_remove_47 rfl rfl ?_
  refine va_iald (D := D) hx hb hK hP 5 0 rfl rfl (v_in (x := x_14.toInt) rfl (by omega) (by omega)) dX7_remove_48 ?_
  refine lv_topi (fun x_15 ex_15 => ?_)
  refine lv_aload_n hx hb dX7_remove_49 rfl (lv_at hl 1 rfl) ?_
  refine va_get (D := D) (ci := 7) (C := RX7) (T := TX7) (N := 9) hx hb hts iX7 hown hK hP 0 rfl rfl 0 (by decide) (hts _ m324) (fun _ h9 => h9) rfl dX7_remove_50 ?_
  refine va_get (D := D) (ci := 5) (C := RX5) (T := TX5) (N := 19) hx hb hts iX5 hown hK hP 6 rfl rfl 9 (by decide) (hts _ m205) (fun _ h9 => h9) rfl dX7_remove_53 ?_
  refine lv_iload_n hx hb dX7_remove_56 rfl (lv_at hl 0 rfl) ?_
  refine va_iald (D := D) hx hb hK hP 7 0 rfl rfl (v_in (x := x_9.toInt) rfl (by omega) (by omega)) dX7_remove_57 ?_
  refine lv_topi (fun x_16 ex_16 => ?_)
  refine lv_isub hx hb dX7_remove_58 ?_
  refine lv_topi (fun x_17 ex_17 => ?_)
  refine va_iast (D := D) hx hb hK hP hD hS 5 0 rfl rfl (v_in (x := x_14.toInt) rfl (by omega) (by omega)) dX7_remove_59 (fun H locs hP hD hS => ?_)
  obtain ⟨f_18, hf_18⟩ : ∃ g : Nat → Int32, g = upd p6 x_14.toNatClampNeg x_17 := ⟨_, rfl⟩
  have hP : va_P D vwCl [(h0, .inr (7, [.ref tw, .ref e0, .ref e1, .ref e2, .ref e3, .ref e4, .ref e5, .ref e6, .ref e7])), (e0, .inl (T 0, 16, .inl f_3)), (e1, .inl (T 0, 5, .inl p1)), (e2, .inl (T 0, 192, .inl p2)), (e5, .inl (T 0, 2, .inl f_13)), (e6, .inl (T 0, 2, .inl (upd p6 x_14.toNatClampNeg x_17))), (tw, .inr (5, [.int t0, .int t1, .int t2, .int t3, .int t4, .int t5, .int t6, .int t7, .int t8, .ref b0, .ref b1, .ref b2, .ref b3, .ref b4, .ref b5, .ref b6, .ref b7, .ref b8, .ref b9])), (b0, .inl (T 0, 5, .inl f0))] H := hP
  have hD : va_D A [(h0, .inr (7, [.ref tw, .ref e0, .ref e1, .ref e2, .ref e3, .ref e4, .ref e5, .ref e6, .ref e7])), (e0, .inl (T 0, 16, .inl f_3)), (e1, .inl (T 0, 5, .inl p1)), (e2, .inl (T 0, 192, .inl p2)), (e5, .inl (T 0, 2, .inl f_13)), (e6, .inl (T 0, 2, .inl (upd p6 x_14.toNatClampNeg x_17))), (tw, .inr (5, [.int t0, .int t1, .int t2, .int t3, .int t4, .int t5, .int t6, .int t7, .int t8, .ref b0, .ref b1, .ref b2, .ref b3, .ref b4, .ref b5, .ref b6, .ref b7, .ref b8, .ref b9])), (b0, .inl (T 0, 5, .inl f0))] := hD
  rw [← hf_18] at hP hD
  refine lv_aload_n hx hb dX7_remove_60 rfl (lv_at hl 1 rfl) ?_
  refine va_get (D := D) (ci := 7) (C := RX7) (T := TX7) (N := 9) hx hb hts iX7 hown hK hP 0 rfl rfl 2 (by decide) (hts _ m330) (fun _ h9 => h9) rfl dX7_remove_61 ?_
  refine lv_iload_n hx hb dX7_remove_64 rfl (lv_at hl 0 rfl) ?_
  refine lv_dup2_11 hx hb dX7_remove_65 rfl rfl ?_
  refine va_iald (D := D) hx hb hK hP 2 0 rfl rfl (v_in (x := x_9.toInt) rfl (by omega) (by omega)) dX7_remove_66 ?_
  refine lv_topi (fun x_19 ex_19 => ?_)
  refine lv_iconst (v := 1) hx hb dX7_remove_67 (by decide) ?_
  refine lv_iadd hx hb dX7_remove_68 ?_
  refine lv_topi (fun x_20 ex_20 => ?_)
  refine va_iast (D := D) hx hb hK hP hD hS 2 0 rfl rfl (v_in (x := x_9.toInt) rfl (by omega) (by omega)) dX7_remove_69 (fun H locs hP hD hS => ?_)
  obtain ⟨f_21, hf_21⟩ : ∃ g : Nat → Int32, g = upd p1 x_9.toNatClampNeg x_20 := ⟨_, rfl⟩
  have hP : va_P D vwCl [(h0, .inr (7, [.ref tw, .ref e0, .ref e1, .ref e2, .ref e3, .ref e4, .ref e5, .ref e6, .ref e7])), (e0, .inl (T 0, 16, .inl f_3)), (e1, .inl (T 0, 5, .inl (upd p1 x_9.toNatClampNeg x_20))), (e2, .inl (T 0, 192, .inl p2)), (e5, .inl (T 0, 2, .inl f_13)), (e6, .inl (T 0, 2, .inl f_18)), (tw, .inr (5, [.int t0, .int t1, .int t2, .int t3, .int t4, .int t5, .int t6, .int t7, .int t8, .ref b0, .ref b1, .ref b2, .ref b3, .ref b4, .ref b5, .ref b6, .ref b7, .ref b8, .ref b9])), (b0, .inl (T 0, 5, .inl f0))] H := hP
  have hD : va_D A [(h0, .inr (7, [.ref tw, .ref e0, .ref e1, .ref e2, .ref e3, .ref e4, .ref e5, .ref e6, .ref e7])), (e0, .inl (T 0, 16, .inl f_3)), (e1, .inl (T 0, 5, .inl (upd p1 x_9.toNatClampNeg x_20))), (e2, .inl (T 0, 192, .inl p2)), (e5, .inl (T 0, 2, .inl f_13)), (e6, .inl (T 0, 2, .inl f_18)), (tw, .inr (5, [.int t0, .int t1, .int t2, .int t3, .int t4, .int t5, .int t6, .int t7, .int t8, .ref b0, .ref b1, .ref b2, .ref b3, .ref b4, .ref b5, .ref b6, .ref b7, .ref b8, .ref b9])), (b0, .inl (T 0, 5, .inl f0))] := hD
  rw [← hf_21] at hP hD
  refine lv_iload_n hx hb dX7_remove_70 rfl (lv_at hl 0 rfl) ?_
  have hP9 := hP.sub (ws' := [(h0, .inr (7, [.ref tw, .ref e0, .ref e1, .ref e2, .ref e3, .ref e4, .ref e5, .ref e6, .ref e7])), (e0, .inl (T 0, 16, .inl f_3)), (e1, .inl (T 0, 5, .inl f_21)), (e2, .inl (T 0, 192, .inl p2)), (e5, .inl (T 0, 2, .inl f_13)), (e6, .inl (T 0, 2, .inl f_18)), (tw, .inr (5, [.int t0, .int t1, .int t2, .int t3, .int t4, .int t5, .int t6, .int t7, .int t8, .ref b0, .ref b1, .ref b2, .ref b3, .ref b4, .ref b5, .ref b6, .ref b7, .ref b8, .ref b9])), (b0, .inl (T 0, 5, .inl f0))]) [0, 1, 2, 3, 4, 5, 6, 7] rfl
  have hD9 := hD.sub (ws' := [(h0, .inr (7, [.ref tw, .ref e0, .ref e1, .ref e2, .ref e3, .ref e4, .ref e5, .ref e6, .ref e7])), (e0, .inl (T 0, 16, .inl f_3)), (e1, .inl (T 0, 5, .inl f_21)), (e2, .inl (T 0, 192, .inl p2)), (e5, .inl (T 0, 2, .inl f_13)), (e6, .inl (T 0, 2, .inl f_18)), (tw, .inr (5, [.int t0, .int t1, .int t2, .int t3, .int t4, .int t5, .int t6, .int t7, .int t8, .ref b0, .ref b1, .ref b2, .ref b3, .ref b4, .ref b5, .ref b6, .ref b7, .ref b8, .ref b9])), (b0, .inl (T 0, 5, .inl f0))]) [0, 1, 2, 3, 4, 5, 6, 7] (by decide) rfl
  exact W.iret (v := x_9) hx hb hr (fun t ht hW => ⟨⟨x_9, (fun k => ([] : List (Nat)).getD k 0, fun k => ([f_3, f_21, f_13, f_18] : List (Nat → Int32)).getD k (fun _ => 0), fun k => ([] : List (Nat → Int64)).getD k (fun _ => 0), fun k => ([] : List (Int32)).getD k 0, fun k => ([] : List (Int64)).getD k 0), rfl, ⟨(show rg 0 12 f_3 from Rf_3), (show f_3 = upd p0 i1.toNatClampNeg ((p0 i1.toNatClampNeg) - 1) by simp only [ex_1, ex_2, hf_3, dx_4, ex_4, ex_9, ex_10, ex_11, ex_12, hf_13, ex_14, ex_15, ex_16, ex_17, hf_18, ex_19, ex_20, hf_21])⟩, by rw [ht]; exact hP9, hD9⟩, hS.F ht⟩) hS.2.2 dX7_remove_71

set_option maxHeartbeats 4000000 in
set_option maxRecDepth 100000 in
theorem c_X7_tallest (l : Launch) (D : va_G) (T : Nat → ClassId) (b0 b1 b2 b3 b4 b5 b6 b7 b8 b9 e0 e1 e2 e3 e4 e5 e6 e7 h0 tw : Nat) (i1 t0 t1 t2 t3 t4 t5 t6 t7 t8 : Int32) (p0 : Nat → Int32) (h_t1 : 0 ≤ t1.toInt ∧ t1.toInt ≤ 8) (h_t2 : 0 ≤ t2.toInt ∧ t2.toInt ≤ 12) (h_t4 : 0 ≤ t4.toInt ∧ t4.toInt ≤ 5) (h_t5 : 0 ≤ t5.toInt ∧ t5.toInt ≤ 10) (h_i1 : 0 ≤ i1.toInt ∧ i1.toInt ≤ 1) (R_p0 : rg 0 12 p0) : Met l yX7_tallest (wM yX7_tallest cX7_tallest 4 (some .int)) ({ frames := 1, cells := 0, slots := 0, locals := 21 }) (va_Pc [.ref h0, .int i1] (pwP D T [(h0, .inr (7, [.ref tw, .ref e0, .ref e1, .ref e2, .ref e3, .ref e4, .ref e5, .ref e6, .ref e7])), (e0, .inl (T 0, 16, .inl p0)), (tw, .inr (5, [.int t0, .int t1, .int t2, .int t3, .int t4, .int t5, .int t6, .int t7, .int t8, .ref b0, .ref b1, .ref b2, .ref b3, .ref b4, .ref b5, .ref b6, .ref b7, .ref b8, .ref b9]))])) (va_Qi (fun (r : Int32) (u : Unit) => True) (fun _ _ => True) (fun _ => False)) 0 0 (fun _ => False) := by
  refine Met.ofW (cc := cX7_tallest) (maxL := 4) (ret := (some .int)) (by decide) rfl ?_
  intro p e s m args below meth c s₁ B hml hv
  obtain ⟨rfl, hP, hC⟩ := hv
  have hx := B.exec
  have hb := B.bytes
  have hr := B.returns
  have hts : ∀ w ∈ gt, w.before _ s = true := fun w hw => atoms_spec (ws := (wM yX7_tallest cX7_tallest 4 (some .int))) B.pre w (List.mem_cons_of_mem _ hw)
  have hown : s.vm.findClass RX7 = some m.cls := findClass_of_methodNamed B.named
  have hlocks := B.notSynchronized
  have hK := hC.1
  have hS : va_S (fun _ => False) s.heap s.heap [] := va_S.rf
  have hl := lv_entry ([.ref h0, .int i1]) (n := 4) (Nat.le_of_ble_eq_true rfl)
  rw [lg_entry_eq]
  generalize (lg_sl ([.ref h0, .int i1]) ++ List.replicate (4 - (lg_sl ([.ref h0, .int i1])).length) Slot.unset).toArray = ls at hl ⊢
  have hl : lv_has ls 4 [(0, .ref h0), (1, .int i1)] := hl
  refine lv_iconst (v := 0) hx hb dX7_tallest_0 (by decide) ?_
  refine lv_istore_n (lv' := [(2, .int 0), (0, .ref h0), (1, .int i1)]) hx hb dX7_tallest_1 rfl hl (by decide) rfl (fun ls hl => ?_)
  refine lv_iconst (v := 0) hx hb dX7_tallest_2 (by decide) ?_
  refine lv_istore_n (lv' := [(3, .int 0), (2, .int 0), (0, .ref h0), (1, .int i1)]) hx hb dX7_tallest_3 rfl hl (by decide) rfl (fun ls hl => ?_)
  refine lp_ind (fun (a : Heap × List Loc × Array Slot × (Int32) × (Int32)) => match a with | (H, locs, ls, i_1, i_2) => W p l e _ s m _ below meth c H locs 0 0 _ (F0 m 4 ls [])) (fun (a : Heap × List Loc × Array Slot × (Int32) × (Int32)) => match a with | (H, locs, ls, i_1, i_2) => 0 ≤ i_1.toInt ∧ i_1.toInt ≤ 8 ∧ va_P D vwCl [(h0, .inr (7, [.ref tw, .ref e0, .ref e1, .ref e2, .ref e3, .ref e4, .ref e5, .ref e6, .ref e7])), (e0, .inl (T 0, 16, .inl p0)), (tw, .inr (5, [.int t0, .int t1, .int t2, .int t3, .int t4, .int t5, .int t6, .int t7, .int t8, .ref b0, .ref b1, .ref b2, .ref b3, .ref b4, .ref b5, .ref b6, .ref b7, .ref b8, .ref b9]))] H ∧ va_S (fun _ => False) s.heap H locs ∧ lv_has ls 4 [(3, .int i_1), (2, .int i_2), (0, .ref h0), (1, .int i1)]) (fun (a : Heap × List Loc × Array Slot × (Int32) × (Int32)) => match a with | (H, locs, ls, i_1, i_2) => (8 - i_1.toInt).toNat) ?_ (_, _, ls, (0 : Int32), (0 : Int32)) ⟨(show 0 ≤ 0 by omega), (show 0 ≤ 8 by omega), hP, hS, lv_sub hl [0, 1, 2, 3] rfl⟩
  rintro ⟨H, locs, ls, i_1, i_2⟩ ⟨c_3, c_4, hP, hS, hl⟩ ih_5
  refine lv_iload_n hx hb dX7_tallest_4 rfl (lv_at hl 0 rfl) ?_
  refine lv_aload_n hx hb dX7_tallest_5 rfl (lv_at hl 2 rfl) ?_
  refine va_get (D := D) (ci := 7) (C := RX7) (T := TX7) (N := 9) hx hb hts iX7 hown hK hP 0 rfl rfl 0 (by decide) (hts _ m324) (fun _ h9 => h9) rfl dX7_tallest_6 ?_
  refine va_get (D := D) (ci := 5) (C := RX5) (T := TX5) (N := 19) hx hb hts iX5 hown hK hP 2 rfl rfl 1 (by decide) (hts _ m172) (fun _ h9 => h9) rfl dX7_tallest_9 ?_
  refine lv_icmp_ge (tgt := 36) hx hb dX7_tallest_12 (by decide) (fun c_6 => ?_) (fun c_6 => ?_)
  · have c_6 : t1.toInt ≤ i_1.toInt := (c_le (x := t1.toInt) (y := i_1.toInt) rfl rfl).mp c_6
    refine lv_iload_n hx hb dX7_tallest_36 rfl (lv_at hl 1 rfl) ?_
    exact W.iret (v := i_2) hx hb hr (fun t ht hW => ⟨⟨i_2, (), rfl, trivial, trivial⟩, hS.F ht⟩) hS.2.2 dX7_tallest_37
  · have c_6 : i_1.toInt < t1.toInt := by have h := mt (c_le (x := t1.toInt) (y := i_1.toInt) rfl rfl).mpr c_6; omega
    refine lv_iload_n hx hb dX7_tallest_15 rfl (lv_at hl 1 rfl) ?_
    refine lv_aload_n hx hb dX7_tallest_16 rfl (lv_at hl 2 rfl) ?_
    refine va_get (D := D) (ci := 7) (C := RX7) (T := TX7) (N := 9) hx hb hts iX7 hown hK hP 0 rfl rfl 1 (by decide) (hts _ m325) (fun _ h9 => h9) rfl dX7_tallest_17 ?_
    refine lv_iload_n hx hb dX7_tallest_20 rfl (lv_at hl 3 rfl) ?_
    refine lv_iload_n hx hb dX7_tallest_21 rfl (lv_at hl 0 rfl) ?_
    refine puI (cSN (As := [.int i1, .int i_1]) (rest := [.ref e0, .int i_2]) ⟨hx, hb, hml, hown, hts⟩ (c_X10_placeOf l D T i1 i_1 ⟨by omega, by omega⟩ ⟨by omega, by omega⟩) k_X10_placeOf m769 (hC.2.1 _ (List.mem_of_getElem? (i := 10) rfl)) rfl rfl ⟨(Nat.le_of_ble_eq_true rfl), (Nat.le_of_ble_eq_true rfl)⟩ (preP hC (hP.sub (ws' := []) [] rfl)) rfl hl.1 rfl (Nat.le_of_ble_eq_true rfl) dX7_tallest_22 ⟨(Nat.le_of_ble_eq_true rfl), (Nat.le_of_ble_eq_true rfl)⟩) hS hP (fun r_7 H locs hw hP hS => ?_)
    have w_9 : (r_7.toInt = 8 * i1.toInt + i_1.toInt) := hw
    obtain c_10 := w_9
    refine va_iald (D := D) hx hb hK hP 1 0 rfl rfl (v_in (x := r_7.toInt) rfl (by omega) (by omega)) dX7_tallest_25 ?_
    refine lv_topi (fun x_11 ex_11 => ?_)
    have tx_11 : 0 ≤ x_11.toInt ∧ x_11.toInt ≤ 12 := rg_at R_p0 ex_11
    have qx_11 : x_11.toInt = (p0 r_7.toNatClampNeg).toInt := by rw [ex_11]
    refine va_mmax hx hb (by rw [hml]; exact hl.1.symm) hown (hts _ m825) (hts _ m826) (hts _ m123) (hts _ m827) (Nat.le_of_ble_eq_true rfl) (Nat.le_of_ble_eq_true rfl) (Nat.le_of_ble_eq_true rfl) (Nat.le_of_ble_eq_true rfl) dX7_tallest_26 ?_
    refine lv_topi (fun x_12 ex_12 => ?_)
    refine lv_istore_n (lv' := [(2, .int x_12), (3, .int i_1), (0, .ref h0), (1, .int i1)]) hx hb dX7_tallest_29 rfl hl (by decide) rfl (fun ls hl => ?_)
    obtain ⟨x_13, ex_13⟩ : ∃ y : Int32, y = i_1 + 1 := ⟨_, rfl⟩
    have tx_13 : x_13.toInt = i_1.toInt + 1 := t_add (x := i_1.toInt) (y := 1) ex_13 rfl rfl (by omega) (by omega)
    refine lv_iinc (v := x_13) (lv' := [(3, .int x_13), (2, .int x_12), (0, .ref h0), (1, .int i1)]) hx hb dX7_tallest_30 hl (k := 1) rfl (by rw [ex_13]; rfl) (by decide) rfl (fun ls hl => ?_)
    refine lv_goto (tgt := 4) hx hb dX7_tallest_33 (by decide) ?_
    exact ih_5 (_, _, _, x_13, x_12) ⟨(show 0 ≤ x_13.toInt by omega), (show x_13.toInt ≤ 8 by omega), hP, hS, lv_sub hl [0, 1, 2, 3] rfl⟩ (show (8 - x_13.toInt).toNat < (8 - i_1.toInt).toNat by omega)

set_option maxHeartbeats 4000000 in
set_option maxRecDepth 100000 in
theorem c_X7_tally (l : Launch) (D : va_G) (T : Nat → ClassId) (b0 b1 b2 b3 b4 b5 b6 b7 b8 b9 e0 e1 e2 e3 e4 e5 e6 e7 h0 tw : Nat) (i1 i2 t0 t1 t2 t3 t4 t5 t6 t7 t8 : Int32) (p0 p5 p6 : Nat → Int32) (h_t1 : 0 ≤ t1.toInt ∧ t1.toInt ≤ 8) (h_t2 : 0 ≤ t2.toInt ∧ t2.toInt ≤ 12) (h_t4 : 0 ≤ t4.toInt ∧ t4.toInt ≤ 5) (h_t5 : 0 ≤ t5.toInt ∧ t5.toInt ≤ 10) (h_i1 : 0 ≤ i1.toInt ∧ i1.toInt ≤ 1) (R_p0 : rg 0 12 p0) : Met l yX7_tally (wM yX7_tally cX7_tally 3 (some .int)) ({ frames := 2, cells := 0, slots := 0, locals := 44 }) (va_Pc [.ref h0, .int i1, .int i2] (pwP D T [(h0, .inr (7, [.ref tw, .ref e0, .ref e1, .ref e2, .ref e3, .ref e4, .ref e5, .ref e6, .ref e7])), (e0, .inl (T 0, 16, .inl p0)), (e5, .inl (T 0, 2, .inl p5)), (e6, .inl (T 0, 2, .inl p6)), (tw, .inr (5, [.int t0, .int t1, .int t2, .int t3, .int t4, .int t5, .int t6, .int t7, .int t8, .ref b0, .ref b1, .ref b2, .ref b3, .ref b4, .ref b5, .ref b6, .ref b7, .ref b8, .ref b9]))])) (va_Qi (fun (r : Int32) (u : Unit) => True) (fun _ _ => True) (fun _ => False)) 0 0 (fun _ => False) := by
  refine Met.ofW (cc := cX7_tally) (maxL := 3) (ret := (some .int)) (by decide) rfl ?_
  intro p e s m args below meth c s₁ B hml hv
  obtain ⟨rfl, hP, hC⟩ := hv
  have hx := B.exec
  have hb := B.bytes
  have hr := B.returns
  have hts : ∀ w ∈ gt, w.before _ s = true := fun w hw => atoms_spec (ws := (wM yX7_tally cX7_tally 3 (some .int))) B.pre w (List.mem_cons_of_mem _ hw)
  have hown : s.vm.findClass RX7 = some m.cls := findClass_of_methodNamed B.named
  have hlocks := B.notSynchronized
  have hK := hC.1
  have hS : va_S (fun _ => False) s.heap s.heap [] := va_S.rf
  have hl := lv_entry ([.ref h0, .int i1, .int i2]) (n := 3) (Nat.le_of_ble_eq_true rfl)
  rw [lg_entry_eq]
  generalize (lg_sl ([.ref h0, .int i1, .int i2]) ++ List.replicate (3 - (lg_sl ([.ref h0, .int i1, .int i2])).length) Slot.unset).toArray = ls at hl ⊢
  have hl : lv_has ls 3 [(0, .ref h0), (1, .int i1), (2, .int i2)] := hl
  refine lv_iload_n hx hb dX7_tally_0 rfl (lv_at hl 2 rfl) ?_
  rcases (show (i2.toInt = 1) ∨ (i2.toInt = 2) ∨ (¬ i2.toInt = 1 ∧ ¬ i2.toInt = 2) by omega) with c_1 | c_1 | c_1
  · refine lv_lookup (off := 27) (tgt := 28) hx hb dX7_tally_1 (by decide) (by rw [c_1]; decide) (by decide) ?_
    refine lv_aload_n hx hb dX7_tally_28 rfl (lv_at hl 0 rfl) ?_
    refine va_get (D := D) (ci := 7) (C := RX7) (T := TX7) (N := 9) hx hb hts iX7 hown hK hP 0 rfl rfl 7 (by decide) (hts _ m341) (fun _ h9 => h9) rfl dX7_tally_29 ?_
    refine lv_iload_n hx hb dX7_tally_32 rfl (lv_at hl 1 rfl) ?_
    refine va_iald (D := D) hx hb hK hP 3 0 rfl rfl (v_in (x := i1.toInt) rfl (by omega) (by omega)) dX7_tally_33 ?_
    refine lv_topi (fun x_2 ex_2 => ?_)
    exact W.iret (v := x_2) hx hb hr (fun t ht hW => ⟨⟨x_2, (), rfl, trivial, trivial⟩, hS.F ht⟩) hS.2.2 dX7_tally_34
  · refine lv_lookup (off := 34) (tgt := 35) hx hb dX7_tally_1 (by decide) (by rw [c_1]; decide) (by decide) ?_
    refine lv_aload_n hx hb dX7_tally_35 rfl (lv_at hl 0 rfl) ?_
    refine lv_iload_n hx hb dX7_tally_36 rfl (lv_at hl 1 rfl) ?_
    refine puI (cV (As := [.int i1]) (rest := []) ⟨hx, hb, hml, hown, hts⟩ (c_X7_tallest l D T b0 b1 b2 b3 b4 b5 b6 b7 b8 b9 e0 e1 e2 e3 e4 e5 e6 e7 h0 tw i1 t0 t1 t2 t3 t4 t5 t6 t7 t8 p0 ⟨by omega, by omega⟩ ⟨by omega, by omega⟩ ⟨by omega, by omega⟩ ⟨by omega, by omega⟩ ⟨by omega, by omega⟩ R_p0) k_X7_tallest v_X7_tallest m820 rfl rfl ⟨(Nat.le_of_ble_eq_true rfl), (Nat.le_of_ble_eq_true rfl)⟩ (preP hC (hP.sub (ws' := [(h0, .inr (7, [.ref tw, .ref e0, .ref e1, .ref e2, .ref e3, .ref e4, .ref e5, .ref e6, .ref e7])), (e0, .inl (T 0, 16, .inl p0)), (tw, .inr (5, [.int t0, .int t1, .int t2, .int t3, .int t4, .int t5, .int t6, .int t7, .int t8, .ref b0, .ref b1, .ref b2, .ref b3, .ref b4, .ref b5, .ref b6, .ref b7, .ref b8, .ref b9]))]) [0, 1, 4] rfl)) (va_recv hK hP (ci := 7) (q0 := 0) rfl rfl) rfl hl.1 rfl (Nat.le_of_ble_eq_true rfl) dX7_tally_37 ⟨(Nat.le_of_ble_eq_true rfl), (Nat.le_of_ble_eq_true rfl)⟩) hS hP (fun r_3 H locs hw hP hS => ?_)
    exact W.iret (v := r_3) hx hb hr (fun t ht hW => ⟨⟨r_3, (), rfl, trivial, trivial⟩, hS.F ht⟩) hS.2.2 dX7_tally_40
  · refine lv_lookup (off := 40) (tgt := 41) hx hb dX7_tally_1 (by decide) (by rw [Op.lookupswitch.offset_cons, if_neg (by omega)]; rw [Op.lookupswitch.offset_cons, if_neg (by omega)]; rfl) (by decide) ?_
    refine lv_aload_n hx hb dX7_tally_41 rfl (lv_at hl 0 rfl) ?_
    refine va_get (D := D) (ci := 7) (C := RX7) (T := TX7) (N := 9) hx hb hts iX7 hown hK hP 0 rfl rfl 6 (by decide) (hts _ m340) (fun _ h9 => h9) rfl dX7_tally_42 ?_
    refine lv_iload_n hx hb dX7_tally_45 rfl (lv_at hl 1 rfl) ?_
    refine va_iald (D := D) hx hb hK hP 2 0 rfl rfl (v_in (x := i1.toInt) rfl (by omega) (by omega)) dX7_tally_46 ?_
    refine lv_topi (fun x_5 ex_5 => ?_)
    exact W.iret (v := x_5) hx hb hr (fun t ht hW => ⟨⟨x_5, (), rfl, trivial, trivial⟩, hS.F ht⟩) hS.2.2 dX7_tally_47

set_option maxHeartbeats 4000000 in
set_option maxRecDepth 100000 in
theorem c_X7_stonesLying (l : Launch) (D : va_G) (T : Nat → ClassId) (e0 e1 e2 e3 e4 e5 e6 e7 h0 tw : Nat) (p5 : Nat → Int32) : Met l yX7_stonesLying (wM yX7_stonesLying cX7_stonesLying 1 (some .int)) ({ frames := 0, cells := 0, slots := 0, locals := 0 }) (va_Pc [.ref h0] (pwP D T [(h0, .inr (7, [.ref tw, .ref e0, .ref e1, .ref e2, .ref e3, .ref e4, .ref e5, .ref e6, .ref e7])), (e5, .inl (T 0, 2, .inl p5))])) (va_Qi (fun (r : Int32) (u : Unit) => True) (fun _ _ => True) (fun _ => False)) 0 0 (fun _ => False) := by
  refine Met.ofW (cc := cX7_stonesLying) (maxL := 1) (ret := (some .int)) (by decide) rfl ?_
  intro p e s m args below meth c s₁ B hml hv
  obtain ⟨rfl, hP, hC⟩ := hv
  have hx := B.exec
  have hb := B.bytes
  have hr := B.returns
  have hts : ∀ w ∈ gt, w.before _ s = true := fun w hw => atoms_spec (ws := (wM yX7_stonesLying cX7_stonesLying 1 (some .int))) B.pre w (List.mem_cons_of_mem _ hw)
  have hown : s.vm.findClass RX7 = some m.cls := findClass_of_methodNamed B.named
  have hlocks := B.notSynchronized
  have hK := hC.1
  have hS : va_S (fun _ => False) s.heap s.heap [] := va_S.rf
  have hl := lv_entry ([.ref h0]) (n := 1) (Nat.le_of_ble_eq_true rfl)
  rw [lg_entry_eq]
  generalize (lg_sl ([.ref h0]) ++ List.replicate (1 - (lg_sl ([.ref h0])).length) Slot.unset).toArray = ls at hl ⊢
  have hl : lv_has ls 1 [(0, .ref h0)] := hl
  refine lv_aload_n hx hb dX7_stonesLying_0 rfl (lv_at hl 0 rfl) ?_
  refine va_get (D := D) (ci := 7) (C := RX7) (T := TX7) (N := 9) hx hb hts iX7 hown hK hP 0 rfl rfl 6 (by decide) (hts _ m340) (fun _ h9 => h9) rfl dX7_stonesLying_1 ?_
  refine lv_iconst (v := 0) hx hb dX7_stonesLying_4 (by decide) ?_
  refine va_iald (D := D) hx hb hK hP 1 0 rfl rfl (by unfold vp_in; decide) dX7_stonesLying_5 ?_
  refine lv_topi (fun x_1 ex_1 => ?_)
  refine lv_aload_n hx hb dX7_stonesLying_6 rfl (lv_at hl 0 rfl) ?_
  refine va_get (D := D) (ci := 7) (C := RX7) (T := TX7) (N := 9) hx hb hts iX7 hown hK hP 0 rfl rfl 6 (by decide) (hts _ m340) (fun _ h9 => h9) rfl dX7_stonesLying_7 ?_
  refine lv_iconst (v := 1) hx hb dX7_stonesLying_10 (by decide) ?_
  refine va_iald (D := D) hx hb hK hP 1 0 rfl rfl (by unfold vp_in; decide) dX7_stonesLying_11 ?_
  refine lv_topi (fun x_2 ex_2 => ?_)
  refine lv_iadd hx hb dX7_stonesLying_12 ?_
  refine lv_topi (fun x_3 ex_3 => ?_)
  exact W.iret (v := x_3) hx hb hr (fun t ht hW => ⟨⟨x_3, (), rfl, trivial, trivial⟩, hS.F ht⟩) hS.2.2 dX7_stonesLying_13

set_option maxHeartbeats 4000000 in
set_option maxRecDepth 100000 in
theorem c_X7_weightOf (l : Launch) (D : va_G) (T : Nat → ClassId) (b0 b1 b2 b3 b4 b5 b6 b7 b8 b9 e0 e1 e2 e3 e4 e5 e6 e7 h0 tw : Nat) (i1 i2 t0 t1 t2 t3 t4 t5 t6 t7 t8 : Int32) (f0 p2 : Nat → Int32) (h_t1 : 0 ≤ t1.toInt ∧ t1.toInt ≤ 8) (h_t2 : 0 ≤ t2.toInt ∧ t2.toInt ≤ 12) (h_t4 : 0 ≤ t4.toInt ∧ t4.toInt ≤ 5) (h_t5 : 0 ≤ t5.toInt ∧ t5.toInt ≤ 10) (h_i1 : 0 ≤ i1.toInt ∧ i1.toInt ≤ 15) (h_i2 : 0 ≤ i2.toInt ∧ i2.toInt ≤ 11) (R_p2 : rg 0 4 p2) : Met l yX7_weightOf (wM yX7_weightOf cX7_weightOf 3 (some .int)) ({ frames := 1, cells := 0, slots := 0, locals := 21 }) (va_Pc [.ref h0, .int i1, .int i2] (pwP D T [(h0, .inr (7, [.ref tw, .ref e0, .ref e1, .ref e2, .ref e3, .ref e4, .ref e5, .ref e6, .ref e7])), (e2, .inl (T 0, 192, .inl p2)), (tw, .inr (5, [.int t0, .int t1, .int t2, .int t3, .int t4, .int t5, .int t6, .int t7, .int t8, .ref b0, .ref b1, .ref b2, .ref b3, .ref b4, .ref b5, .ref b6, .ref b7, .ref b8, .ref b9])), (b0, .inl (T 0, 5, .inl f0))])) (va_Qi (fun (r : Int32) (u : Unit) => True) (fun _ _ => True) (fun _ => False)) 0 0 (fun _ => False) := by
  refine Met.ofW (cc := cX7_weightOf) (maxL := 3) (ret := (some .int)) (by decide) rfl ?_
  intro p e s m args below meth c s₁ B hml hv
  obtain ⟨rfl, hP, hC⟩ := hv
  have hx := B.exec
  have hb := B.bytes
  have hr := B.returns
  have hts : ∀ w ∈ gt, w.before _ s = true := fun w hw => atoms_spec (ws := (wM yX7_weightOf cX7_weightOf 3 (some .int))) B.pre w (List.mem_cons_of_mem _ hw)
  have hown : s.vm.findClass RX7 = some m.cls := findClass_of_methodNamed B.named
  have hlocks := B.notSynchronized
  have hK := hC.1
  have hS : va_S (fun _ => False) s.heap s.heap [] := va_S.rf
  have hl := lv_entry ([.ref h0, .int i1, .int i2]) (n := 3) (Nat.le_of_ble_eq_true rfl)
  rw [lg_entry_eq]
  generalize (lg_sl ([.ref h0, .int i1, .int i2]) ++ List.replicate (3 - (lg_sl ([.ref h0, .int i1, .int i2])).length) Slot.unset).toArray = ls at hl ⊢
  have hl : lv_has ls 3 [(0, .ref h0), (1, .int i1), (2, .int i2)] := hl
  refine lv_aload_n hx hb dX7_weightOf_0 rfl (lv_at hl 0 rfl) ?_
  refine va_get (D := D) (ci := 7) (C := RX7) (T := TX7) (N := 9) hx hb hts iX7 hown hK hP 0 rfl rfl 0 (by decide) (hts _ m324) (fun _ h9 => h9) rfl dX7_weightOf_1 ?_
  refine va_get (D := D) (ci := 5) (C := RX5) (T := TX5) (N := 19) hx hb hts iX5 hown hK hP 2 rfl rfl 9 (by decide) (hts _ m205) (fun _ h9 => h9) rfl dX7_weightOf_4 ?_
  refine lv_aload_n hx hb dX7_weightOf_7 rfl (lv_at hl 0 rfl) ?_
  refine va_get (D := D) (ci := 7) (C := RX7) (T := TX7) (N := 9) hx hb hts iX7 hown hK hP 0 rfl rfl 3 (by decide) (hts _ m334) (fun _ h9 => h9) rfl dX7_weightOf_8 ?_
  refine lv_iload_n hx hb dX7_weightOf_11 rfl (lv_at hl 1 rfl) ?_
  refine lv_iload_n hx hb dX7_weightOf_12 rfl (lv_at hl 2 rfl) ?_
  refine puI (cSN (As := [.int i1, .int i2]) (rest := [.ref e2, .ref b0]) ⟨hx, hb, hml, hown, hts⟩ (c_X10_indexOf l D T i1 i2 ⟨by omega, by omega⟩ ⟨by omega, by omega⟩) k_X10_indexOf m784 (hC.2.1 _ (List.mem_of_getElem? (i := 9) rfl)) rfl rfl ⟨(Nat.le_of_ble_eq_true rfl), (Nat.le_of_ble_eq_true rfl)⟩ (preP hC (hP.sub (ws' := []) [] rfl)) rfl hl.1 rfl (Nat.le_of_ble_eq_true rfl) dX7_weightOf_13 ⟨(Nat.le_of_ble_eq_true rfl), (Nat.le_of_ble_eq_true rfl)⟩) hS hP (fun r_1 H locs hw hP hS => ?_)
  have w_3 : (r_1.toInt = 12 * i1.toInt + i2.toInt) := hw
  obtain c_4 := w_3
  refine va_iald (D := D) hx hb hK hP 1 0 rfl rfl (v_in (x := r_1.toInt) rfl (by omega) (by omega)) dX7_weightOf_16 ?_
  refine lv_topi (fun x_5 ex_5 => ?_)
  have tx_5 : 0 ≤ x_5.toInt ∧ x_5.toInt ≤ 4 := rg_at R_p2 ex_5
  refine va_iald (D := D) hx hb hK hP 3 0 rfl rfl (v_in (x := x_5.toInt) rfl (by omega) (by omega)) dX7_weightOf_17 ?_
  refine lv_topi (fun x_6 ex_6 => ?_)
  exact W.iret (v := x_6) hx hb hr (fun t ht hW => ⟨⟨x_6, (), rfl, trivial, trivial⟩, hS.F ht⟩) hS.2.2 dX7_weightOf_18

set_option maxHeartbeats 4000000 in
set_option maxRecDepth 100000 in
theorem c_X7_weightFrom (l : Launch) (D : va_G) (T : Nat → ClassId) (b0 b1 b2 b3 b4 b5 b6 b7 b8 b9 e0 e1 e2 e3 e4 e5 e6 e7 h0 tw : Nat) (i1 i2 t0 t1 t2 t3 t4 t5 t6 t7 t8 : Int32) (f0 p0 p2 : Nat → Int32) (h_t1 : 0 ≤ t1.toInt ∧ t1.toInt ≤ 8) (h_t2 : 0 ≤ t2.toInt ∧ t2.toInt ≤ 12) (h_t4 : 0 ≤ t4.toInt ∧ t4.toInt ≤ 5) (h_t5 : 0 ≤ t5.toInt ∧ t5.toInt ≤ 10) (h_i1 : 0 ≤ i1.toInt ∧ i1.toInt ≤ 15) (h_i2 : 0 ≤ i2.toInt ∧ i2.toInt ≤ 12) (R_p0 : rg 0 12 p0) (R_p2 : rg 0 4 p2) : Met l yX7_weightFrom (wM yX7_weightFrom cX7_weightFrom 5 (some .int)) ({ frames := 2, cells := 0, slots := 0, locals := 43 }) (va_Pc [.ref h0, .int i1, .int i2] (pwP D T [(h0, .inr (7, [.ref tw, .ref e0, .ref e1, .ref e2, .ref e3, .ref e4, .ref e5, .ref e6, .ref e7])), (e0, .inl (T 0, 16, .inl p0)), (e2, .inl (T 0, 192, .inl p2)), (tw, .inr (5, [.int t0, .int t1, .int t2, .int t3, .int t4, .int t5, .int t6, .int t7, .int t8, .ref b0, .ref b1, .ref b2, .ref b3, .ref b4, .ref b5, .ref b6, .ref b7, .ref b8, .ref b9])), (b0, .inl (T 0, 5, .inl f0))])) (va_Qi (fun (r : Int32) (u : Unit) => True) (fun _ _ => True) (fun _ => False)) 0 0 (fun _ => False) := by
  refine Met.ofW (cc := cX7_weightFrom) (maxL := 5) (ret := (some .int)) (by decide) rfl ?_
  intro p e s m args below meth c s₁ B hml hv
  obtain ⟨rfl, hP, hC⟩ := hv
  have hx := B.exec
  have hb := B.bytes
  have hr := B.returns
  have hts : ∀ w ∈ gt, w.before _ s = true := fun w hw => atoms_spec (ws := (wM yX7_weightFrom cX7_weightFrom 5 (some .int))) B.pre w (List.mem_cons_of_mem _ hw)
  have hown : s.vm.findClass RX7 = some m.cls := findClass_of_methodNamed B.named
  have hlocks := B.notSynchronized
  have hK := hC.1
  have hS : va_S (fun _ => False) s.heap s.heap [] := va_S.rf
  have hl := lv_entry ([.ref h0, .int i1, .int i2]) (n := 5) (Nat.le_of_ble_eq_true rfl)
  rw [lg_entry_eq]
  generalize (lg_sl ([.ref h0, .int i1, .int i2]) ++ List.replicate (5 - (lg_sl ([.ref h0, .int i1, .int i2])).length) Slot.unset).toArray = ls at hl ⊢
  have hl : lv_has ls 5 [(0, .ref h0), (1, .int i1), (2, .int i2)] := hl
  refine lv_iconst (v := 0) hx hb dX7_weightFrom_0 (by decide) ?_
  refine lv_istore_n (lv' := [(3, .int 0), (0, .ref h0), (1, .int i1), (2, .int i2)]) hx hb dX7_weightFrom_1 rfl hl (by decide) rfl (fun ls hl => ?_)
  refine lv_iload_n hx hb dX7_weightFrom_2 rfl (lv_at hl 3 rfl) ?_
  refine lv_istore (lv' := [(4, .int i2), (3, .int 0), (0, .ref h0), (1, .int i1), (2, .int i2)]) hx hb dX7_weightFrom_3 hl (by decide) rfl (fun ls hl => ?_)
  refine lp_ind (fun (a : Heap × List Loc × Array Slot × (Int32) × (Int32)) => match a with | (H, locs, ls, i_1, i_2) => W p l e _ s m _ below meth c H locs 0 0 _ (F0 m 5 ls [])) (fun (a : Heap × List Loc × Array Slot × (Int32) × (Int32)) => match a with | (H, locs, ls, i_1, i_2) => 0 ≤ i_1.toInt ∧ i_1.toInt ≤ 12 ∧ va_P D vwCl [(h0, .inr (7, [.ref tw, .ref e0, .ref e1, .ref e2, .ref e3, .ref e4, .ref e5, .ref e6, .ref e7])), (e0, .inl (T 0, 16, .inl p0)), (e2, .inl (T 0, 192, .inl p2)), (tw, .inr (5, [.int t0, .int t1, .int t2, .int t3, .int t4, .int t5, .int t6, .int t7, .int t8, .ref b0, .ref b1, .ref b2, .ref b3, .ref b4, .ref b5, .ref b6, .ref b7, .ref b8, .ref b9])), (b0, .inl (T 0, 5, .inl f0))] H ∧ va_S (fun _ => False) s.heap H locs ∧ lv_has ls 5 [(4, .int i_1), (3, .int i_2), (0, .ref h0), (1, .int i1), (2, .int i2)]) (fun (a : Heap × List Loc × Array Slot × (Int32) × (Int32)) => match a with | (H, locs, ls, i_1, i_2) => (12 - i_1.toInt).toNat) ?_ (_, _, ls, i2, (0 : Int32)) ⟨(show 0 ≤ i2.toInt by omega), (show i2.toInt ≤ 12 by omega), hP, hS, lv_sub hl [0, 1, 2, 3, 4] rfl⟩
  rintro ⟨H, locs, ls, i_1, i_2⟩ ⟨c_3, c_4, hP, hS, hl⟩ ih_5
  refine lv_iload hx hb dX7_weightFrom_5 (lv_at hl 0 rfl) ?_
  refine lv_aload_n hx hb dX7_weightFrom_7 rfl (lv_at hl 2 rfl) ?_
  refine va_get (D := D) (ci := 7) (C := RX7) (T := TX7) (N := 9) hx hb hts iX7 hown hK hP 0 rfl rfl 1 (by decide) (hts _ m325) (fun _ h9 => h9) rfl dX7_weightFrom_8 ?_
  refine lv_iload_n hx hb dX7_weightFrom_11 rfl (lv_at hl 3 rfl) ?_
  refine va_iald (D := D) hx hb hK hP 1 0 rfl rfl (v_in (x := i1.toInt) rfl (by omega) (by omega)) dX7_weightFrom_12 ?_
  refine lv_topi (fun x_6 ex_6 => ?_)
  have tx_6 : 0 ≤ x_6.toInt ∧ x_6.toInt ≤ 12 := rg_at R_p0 ex_6
  have qx_6 : x_6.toInt = (p0 i1.toNatClampNeg).toInt := by rw [ex_6]
  refine lv_icmp_ge (tgt := 32) hx hb dX7_weightFrom_13 (by decide) (fun c_7 => ?_) (fun c_7 => ?_)
  · have c_7 : x_6.toInt ≤ i_1.toInt := (c_le (x := x_6.toInt) (y := i_1.toInt) rfl rfl).mp c_7
    refine lv_iload_n hx hb dX7_weightFrom_32 rfl (lv_at hl 1 rfl) ?_
    exact W.iret (v := i_2) hx hb hr (fun t ht hW => ⟨⟨i_2, (), rfl, trivial, trivial⟩, hS.F ht⟩) hS.2.2 dX7_weightFrom_33
  · have c_7 : i_1.toInt < x_6.toInt := by have h := mt (c_le (x := x_6.toInt) (y := i_1.toInt) rfl rfl).mpr c_7; omega
    refine lv_iload_n hx hb dX7_weightFrom_16 rfl (lv_at hl 1 rfl) ?_
    refine lv_aload_n hx hb dX7_weightFrom_17 rfl (lv_at hl 2 rfl) ?_
    refine lv_iload_n hx hb dX7_weightFrom_18 rfl (lv_at hl 3 rfl) ?_
    refine lv_iload hx hb dX7_weightFrom_19 (lv_at hl 0 rfl) ?_
    refine puI (cV (As := [.int i1, .int i_1]) (rest := [.int i_2]) ⟨hx, hb, hml, hown, hts⟩ (c_X7_weightOf l D T b0 b1 b2 b3 b4 b5 b6 b7 b8 b9 e0 e1 e2 e3 e4 e5 e6 e7 h0 tw i1 i_1 t0 t1 t2 t3 t4 t5 t6 t7 t8 f0 p2 ⟨by omega, by omega⟩ ⟨by omega, by omega⟩ ⟨by omega, by omega⟩ ⟨by omega, by omega⟩ ⟨by omega, by omega⟩ ⟨by omega, by omega⟩ R_p2) k_X7_weightOf v_X7_weightOf m808 rfl rfl ⟨(Nat.le_of_ble_eq_true rfl), (Nat.le_of_ble_eq_true rfl)⟩ (preP hC (hP.sub (ws' := [(h0, .inr (7, [.ref tw, .ref e0, .ref e1, .ref e2, .ref e3, .ref e4, .ref e5, .ref e6, .ref e7])), (e2, .inl (T 0, 192, .inl p2)), (tw, .inr (5, [.int t0, .int t1, .int t2, .int t3, .int t4, .int t5, .int t6, .int t7, .int t8, .ref b0, .ref b1, .ref b2, .ref b3, .ref b4, .ref b5, .ref b6, .ref b7, .ref b8, .ref b9])), (b0, .inl (T 0, 5, .inl f0))]) [0, 2, 3, 4] rfl)) (va_recv hK hP (ci := 7) (q0 := 0) rfl rfl) rfl hl.1 rfl (Nat.le_of_ble_eq_true rfl) dX7_weightFrom_21 ⟨(Nat.le_of_ble_eq_true rfl), (Nat.le_of_ble_eq_true rfl)⟩) hS hP (fun r_8 H locs hw hP hS => ?_)
    refine lv_iadd hx hb dX7_weightFrom_24 ?_
    refine lv_topi (fun x_10 ex_10 => ?_)
    refine lv_istore_n (lv' := [(3, .int x_10), (4, .int i_1), (0, .ref h0), (1, .int i1), (2, .int i2)]) hx hb dX7_weightFrom_25 rfl hl (by decide) rfl (fun ls hl => ?_)
    obtain ⟨x_11, ex_11⟩ : ∃ y : Int32, y = i_1 + 1 := ⟨_, rfl⟩
    have tx_11 : x_11.toInt = i_1.toInt + 1 := t_add (x := i_1.toInt) (y := 1) ex_11 rfl rfl (by omega) (by omega)
    refine lv_iinc (v := x_11) (lv' := [(4, .int x_11), (3, .int x_10), (0, .ref h0), (1, .int i1), (2, .int i2)]) hx hb dX7_weightFrom_26 hl (k := 1) rfl (by rw [ex_11]; rfl) (by decide) rfl (fun ls hl => ?_)
    refine lv_goto (tgt := 5) hx hb dX7_weightFrom_29 (by decide) ?_
    exact ih_5 (_, _, _, x_11, x_10) ⟨(show 0 ≤ x_11.toInt by omega), (show x_11.toInt ≤ 12 by omega), hP, hS, lv_sub hl [0, 1, 2, 3, 4] rfl⟩ (show (12 - x_11.toInt).toNat < (12 - i_1.toInt).toNat by omega)

set_option maxHeartbeats 4000000 in
set_option maxRecDepth 100000 in
theorem c_X7_openJoints (l : Launch) (D : va_G) (T : Nat → ClassId) (b0 b1 b2 b3 b4 b5 b6 b7 b8 b9 e0 e1 e2 e3 e4 e5 e6 e7 h0 tw : Nat) (i1 t0 t1 t2 t3 t4 t5 t6 t7 t8 : Int32) (p0 : Nat → Int32) (h_t1 : 0 ≤ t1.toInt ∧ t1.toInt ≤ 8) (h_t2 : 0 ≤ t2.toInt ∧ t2.toInt ≤ 12) (h_t4 : 0 ≤ t4.toInt ∧ t4.toInt ≤ 5) (h_t5 : 0 ≤ t5.toInt ∧ t5.toInt ≤ 10) (h_i1 : 0 ≤ i1.toInt ∧ i1.toInt ≤ 1) (R_p0 : rg 0 12 p0) : Met l yX7_openJoints (wM yX7_openJoints cX7_openJoints 5 (some .int)) ({ frames := 1, cells := 0, slots := 0, locals := 21 }) (va_Pc [.ref h0, .int i1] (pwP D T [(h0, .inr (7, [.ref tw, .ref e0, .ref e1, .ref e2, .ref e3, .ref e4, .ref e5, .ref e6, .ref e7])), (e0, .inl (T 0, 16, .inl p0)), (tw, .inr (5, [.int t0, .int t1, .int t2, .int t3, .int t4, .int t5, .int t6, .int t7, .int t8, .ref b0, .ref b1, .ref b2, .ref b3, .ref b4, .ref b5, .ref b6, .ref b7, .ref b8, .ref b9]))])) (va_Qi (fun (r : Int32) (u : Unit) => True) (fun _ _ => True) (fun _ => False)) 0 0 (fun _ => False) := by
  refine Met.ofW (cc := cX7_openJoints) (maxL := 5) (ret := (some .int)) (by decide) rfl ?_
  intro p e s m args below meth c s₁ B hml hv
  obtain ⟨rfl, hP, hC⟩ := hv
  have hx := B.exec
  have hb := B.bytes
  have hr := B.returns
  have hts : ∀ w ∈ gt, w.before _ s = true := fun w hw => atoms_spec (ws := (wM yX7_openJoints cX7_openJoints 5 (some .int))) B.pre w (List.mem_cons_of_mem _ hw)
  have hown : s.vm.findClass RX7 = some m.cls := findClass_of_methodNamed B.named
  have hlocks := B.notSynchronized
  have hK := hC.1
  have hS : va_S (fun _ => False) s.heap s.heap [] := va_S.rf
  have hl := lv_entry ([.ref h0, .int i1]) (n := 5) (Nat.le_of_ble_eq_true rfl)
  rw [lg_entry_eq]
  generalize (lg_sl ([.ref h0, .int i1]) ++ List.replicate (5 - (lg_sl ([.ref h0, .int i1])).length) Slot.unset).toArray = ls at hl ⊢
  have hl : lv_has ls 5 [(0, .ref h0), (1, .int i1)] := hl
  refine lv_iconst (v := 0) hx hb dX7_openJoints_0 (by decide) ?_
  refine lv_istore_n (lv' := [(2, .int 0), (0, .ref h0), (1, .int i1)]) hx hb dX7_openJoints_1 rfl hl (by decide) rfl (fun ls hl => ?_)
  refine lv_iconst (v := 1) hx hb dX7_openJoints_2 (by decide) ?_
  refine lv_istore_n (lv' := [(3, .int 1), (2, .int 0), (0, .ref h0), (1, .int i1)]) hx hb dX7_openJoints_3 rfl hl (by decide) rfl (fun ls hl => ?_)
  refine lp_ind (fun (a : Heap × List Loc × Array Slot × (Int32) × (Int32)) => match a with | (H, locs, ls, i_1, i_2) => W p l e _ s m _ below meth c H locs 0 0 _ (F0 m 4 ls [])) (fun (a : Heap × List Loc × Array Slot × (Int32) × (Int32)) => match a with | (H, locs, ls, i_1, i_2) => 1 ≤ i_1.toInt ∧ i_1.toInt ≤ 8 ∧ va_P D vwCl [(h0, .inr (7, [.ref tw, .ref e0, .ref e1, .ref e2, .ref e3, .ref e4, .ref e5, .ref e6, .ref e7])), (e0, .inl (T 0, 16, .inl p0)), (tw, .inr (5, [.int t0, .int t1, .int t2, .int t3, .int t4, .int t5, .int t6, .int t7, .int t8, .ref b0, .ref b1, .ref b2, .ref b3, .ref b4, .ref b5, .ref b6, .ref b7, .ref b8, .ref b9]))] H ∧ va_S (fun _ => False) s.heap H locs ∧ lv_has ls 5 [(3, .int i_1), (2, .int i_2), (0, .ref h0), (1, .int i1)]) (fun (a : Heap × List Loc × Array Slot × (Int32) × (Int32)) => match a with | (H, locs, ls, i_1, i_2) => (8 - i_1.toInt).toNat) ?_ (_, _, ls, (1 : Int32), (0 : Int32)) ⟨(show 1 ≤ 1 by omega), (show 1 ≤ 8 by omega), hP, hS, lv_sub hl [0, 1, 2, 3] rfl⟩
  rintro ⟨H, locs, ls, i_1, i_2⟩ ⟨c_3, c_4, hP, hS, hl⟩ ih_5
  refine lv_iload_n hx hb dX7_openJoints_4 rfl (lv_at hl 0 rfl) ?_
  refine lv_aload_n hx hb dX7_openJoints_5 rfl (lv_at hl 2 rfl) ?_
  refine va_get (D := D) (ci := 7) (C := RX7) (T := TX7) (N := 9) hx hb hts iX7 hown hK hP 0 rfl rfl 0 (by decide) (hts _ m324) (fun _ h9 => h9) rfl dX7_openJoints_6 ?_
  refine va_get (D := D) (ci := 5) (C := RX5) (T := TX5) (N := 19) hx hb hts iX5 hown hK hP 2 rfl rfl 1 (by decide) (hts _ m172) (fun _ h9 => h9) rfl dX7_openJoints_9 ?_
  refine lv_icmp_ge (tgt := 61) hx hb dX7_openJoints_12 (by decide) (fun c_6 => ?_) (fun c_6 => ?_)
  · have c_6 : t1.toInt ≤ i_1.toInt := (c_le (x := t1.toInt) (y := i_1.toInt) rfl rfl).mp c_6
    refine lv_iload_n hx hb dX7_openJoints_61 rfl (lv_at hl 1 rfl) ?_
    exact W.iret (v := i_2) hx hb hr (fun t ht hW => ⟨⟨i_2, (), rfl, trivial, trivial⟩, hS.F ht⟩) hS.2.2 dX7_openJoints_62
  · have c_6 : i_1.toInt < t1.toInt := by have h := mt (c_le (x := t1.toInt) (y := i_1.toInt) rfl rfl).mpr c_6; omega
    refine lv_iload_n hx hb dX7_openJoints_15 rfl (lv_at hl 3 rfl) ?_
    refine lv_iload_n hx hb dX7_openJoints_16 rfl (lv_at hl 0 rfl) ?_
    refine puI (cSN (As := [.int i1, .int i_1]) (rest := []) ⟨hx, hb, hml, hown, hts⟩ (c_X10_placeOf l D T i1 i_1 ⟨by omega, by omega⟩ ⟨by omega, by omega⟩) k_X10_placeOf m769 (hC.2.1 _ (List.mem_of_getElem? (i := 10) rfl)) rfl rfl ⟨(Nat.le_of_ble_eq_true rfl), (Nat.le_of_ble_eq_true rfl)⟩ (preP hC (hP.sub (ws' := []) [] rfl)) rfl hl.1 rfl (Nat.le_of_ble_eq_true rfl) dX7_openJoints_17 ⟨(Nat.le_of_ble_eq_true rfl), (Nat.le_of_ble_eq_true rfl)⟩) hS hP (fun r_7 H locs hw hP hS => ?_)
    have w_9 : (r_7.toInt = 8 * i1.toInt + i_1.toInt) := hw
    obtain c_10 := w_9
    refine lv_istore (lv' := [(4, .int r_7), (3, .int i_1), (2, .int i_2), (0, .ref h0), (1, .int i1)]) hx hb dX7_openJoints_20 hl (by decide) rfl (fun ls hl => ?_)
    refine lv_aload_n hx hb dX7_openJoints_22 rfl (lv_at hl 3 rfl) ?_
    refine va_get (D := D) (ci := 7) (C := RX7) (T := TX7) (N := 9) hx hb hts iX7 hown hK hP 0 rfl rfl 1 (by decide) (hts _ m325) (fun _ h9 => h9) rfl dX7_openJoints_23 ?_
    refine lv_iload hx hb dX7_openJoints_26 (lv_at hl 0 rfl) ?_
    refine va_iald (D := D) hx hb hK hP 1 0 rfl rfl (v_in (x := r_7.toInt) rfl (by omega) (by omega)) dX7_openJoints_28 ?_
    refine lv_topi (fun x_11 ex_11 => ?_)
    have tx_11 : 0 ≤ x_11.toInt ∧ x_11.toInt ≤ 12 := rg_at R_p0 ex_11
    have qx_11 : x_11.toInt = (p0 r_7.toNatClampNeg).toInt := by rw [ex_11]
    refine lv_aload_n hx hb dX7_openJoints_29 rfl (lv_at hl 3 rfl) ?_
    refine va_get (D := D) (ci := 7) (C := RX7) (T := TX7) (N := 9) hx hb hts iX7 hown hK hP 0 rfl rfl 1 (by decide) (hts _ m325) (fun _ h9 => h9) rfl dX7_openJoints_30 ?_
    refine lv_iload hx hb dX7_openJoints_33 (lv_at hl 0 rfl) ?_
    refine lv_iconst (v := 1) hx hb dX7_openJoints_35 (by decide) ?_
    refine lv_isub hx hb dX7_openJoints_36 ?_
    refine lv_topi (fun x_12 ex_12 => ?_)
    have tx_12 : x_12.toInt = r_7.toInt - 1 := t_sub (x := r_7.toInt) (y := 1) ex_12 rfl rfl (by omega) (by omega)
    refine va_iald (D := D) hx hb hK hP 1 0 rfl rfl (v_in (x := x_12.toInt) rfl (by omega) (by omega)) dX7_openJoints_37 ?_
    refine lv_topi (fun x_13 ex_13 => ?_)
    have tx_13 : 0 ≤ x_13.toInt ∧ x_13.toInt ≤ 12 := rg_at R_p0 ex_13
    have qx_13 : x_13.toInt = (p0 x_12.toNatClampNeg).toInt := by rw [ex_13]
    refine lv_isub hx hb dX7_openJoints_38 ?_
    refine lv_topi (fun x_14 ex_14 => ?_)
    have tx_14 : x_14.toInt = x_11.toInt - x_13.toInt := t_sub (x := x_11.toInt) (y := x_13.toInt) ex_14 rfl rfl (by omega) (by omega)
    refine va_mabs hx hb (by rw [hml]; exact hl.1.symm) hown (hts _ m832) (hts _ m833) (hts _ m123) (hts _ m834) (Nat.le_of_ble_eq_true rfl) (Nat.le_of_ble_eq_true rfl) (Nat.le_of_ble_eq_true rfl) (Nat.le_of_ble_eq_true rfl) dX7_openJoints_39 ?_
    refine lv_topi (fun x_15 ex_15 => ?_)
    refine lv_aload_n hx hb dX7_openJoints_42 rfl (lv_at hl 3 rfl) ?_
    refine va_get (D := D) (ci := 7) (C := RX7) (T := TX7) (N := 9) hx hb hts iX7 hown hK hP 0 rfl rfl 0 (by decide) (hts _ m324) (fun _ h9 => h9) rfl dX7_openJoints_43 ?_
    refine va_get (D := D) (ci := 5) (C := RX5) (T := TX5) (N := 19) hx hb hts iX5 hown hK hP 2 rfl rfl 3 (by decide) (hts _ m179) (fun _ h9 => h9) rfl dX7_openJoints_46 ?_
    refine lv_icmp_le (tgt := 55) hx hb dX7_openJoints_49 (by decide) (fun c_16 => ?_) (fun c_16 => ?_)
    · have c_16 : x_15.toInt ≤ t3.toInt := (c_le (x := x_15.toInt) (y := t3.toInt) rfl rfl).mp c_16
      obtain ⟨x_17, ex_17⟩ : ∃ y : Int32, y = i_1 + 1 := ⟨_, rfl⟩
      have tx_17 : x_17.toInt = i_1.toInt + 1 := t_add (x := i_1.toInt) (y := 1) ex_17 rfl rfl (by omega) (by omega)
      refine lv_iinc (v := x_17) (lv' := [(3, .int x_17), (4, .int r_7), (2, .int i_2), (0, .ref h0), (1, .int i1)]) hx hb dX7_openJoints_55 hl (k := 1) rfl (by rw [ex_17]; rfl) (by decide) rfl (fun ls hl => ?_)
      refine lv_goto (tgt := 4) hx hb dX7_openJoints_58 (by decide) ?_
      exact ih_5 (_, _, _, x_17, i_2) ⟨(show 1 ≤ x_17.toInt by omega), (show x_17.toInt ≤ 8 by omega), hP, hS, lv_sub hl [0, 2, 3, 4] rfl⟩ (show (8 - x_17.toInt).toNat < (8 - i_1.toInt).toNat by omega)
    · have c_16 : t3.toInt < x_15.toInt := by have h := mt (c_le (x := x_15.toInt) (y := t3.toInt) rfl rfl).mpr c_16; omega
      obtain ⟨x_18, ex_18⟩ : ∃ y : Int32, y = i_2 + 1 := ⟨_, rfl⟩
      refine lv_iinc (v := x_18) (lv' := [(2, .int x_18), (4, .int r_7), (3, .int i_1), (0, .ref h0), (1, .int i1)]) hx hb dX7_openJoints_52 hl (k := 2) rfl (by rw [ex_18]; rfl) (by decide) rfl (fun ls hl => ?_)
      obtain ⟨x_19, ex_19⟩ : ∃ y : Int32, y = i_1 + 1 := ⟨_, rfl⟩
      have tx_19 : x_19.toInt = i_1.toInt + 1 := t_add (x := i_1.toInt) (y := 1) ex_19 rfl rfl (by omega) (by omega)
      refine lv_iinc (v := x_19) (lv' := [(3, .int x_19), (2, .int x_18), (4, .int r_7), (0, .ref h0), (1, .int i1)]) hx hb dX7_openJoints_55 hl (k := 2) rfl (by rw [ex_19]; rfl) (by decide) rfl (fun ls hl => ?_)
      refine lv_goto (tgt := 4) hx hb dX7_openJoints_58 (by decide) ?_
      exact ih_5 (_, _, _, x_19, x_18) ⟨(show 1 ≤ x_19.toInt by omega), (show x_19.toInt ≤ 8 by omega), hP, hS, lv_sub hl [0, 1, 3, 4] rfl⟩ (show (8 - x_19.toInt).toNat < (8 - i_1.toInt).toNat by omega)

set_option maxHeartbeats 4000000 in
set_option maxRecDepth 100000 in
theorem c_X7_grade (l : Launch) (D : va_G) (T : Nat → ClassId) (i1 i2 i3 : Int32) : Met l yX7_grade (wM yX7_grade cX7_grade 3 (some .int)) ({ frames := 1, cells := 0, slots := 0, locals := 13 }) (va_Pc [.int i1, .int i2, .int i3] (pwP D T [])) (va_Qi (fun (r : Int32) (u : Unit) => True) (fun _ _ => True) (fun _ => False)) 0 0 (fun _ => False) := by
  refine Met.ofW (cc := cX7_grade) (maxL := 3) (ret := (some .int)) (by decide) rfl ?_
  intro p e s m args below meth c s₁ B hml hv
  obtain ⟨rfl, hP, hC⟩ := hv
  have hx := B.exec
  have hb := B.bytes
  have hr := B.returns
  have hts : ∀ w ∈ gt, w.before _ s = true := fun w hw => atoms_spec (ws := (wM yX7_grade cX7_grade 3 (some .int))) B.pre w (List.mem_cons_of_mem _ hw)
  have hown : s.vm.findClass RX7 = some m.cls := findClass_of_methodNamed B.named
  have hlocks := B.notSynchronized
  have hK := hC.1
  have hS : va_S (fun _ => False) s.heap s.heap [] := va_S.rf
  have hl := lv_entry ([.int i1, .int i2, .int i3]) (n := 3) (Nat.le_of_ble_eq_true rfl)
  rw [lg_entry_eq]
  generalize (lg_sl ([.int i1, .int i2, .int i3]) ++ List.replicate (3 - (lg_sl ([.int i1, .int i2, .int i3])).length) Slot.unset).toArray = ls at hl ⊢
  have hl : lv_has ls 3 [(0, .int i1), (1, .int i2), (2, .int i3)] := hl
  refine lv_iload_n hx hb dX7_grade_0 rfl (lv_at hl 0 rfl) ?_
  rcases (show (i1.toInt = 8) ∨ (i1.toInt = 9) ∨ (¬ i1.toInt = 8 ∧ ¬ i1.toInt = 9) by omega) with c_1 | c_1 | c_1
  · refine lv_lookup (off := 27) (tgt := 28) hx hb dX7_grade_1 (by decide) (by rw [c_1]; decide) (by decide) ?_
    refine lv_iload_n hx hb dX7_grade_28 rfl (lv_at hl 2 rfl) ?_
    exact W.iret (v := i3) hx hb hr (fun t ht hW => ⟨⟨i3, (), rfl, trivial, trivial⟩, hS.F ht⟩) hS.2.2 dX7_grade_29
  · refine lv_lookup (off := 29) (tgt := 30) hx hb dX7_grade_1 (by decide) (by rw [c_1]; decide) (by decide) ?_
    refine lv_iload_n hx hb dX7_grade_30 rfl (lv_at hl 2 rfl) ?_
    refine lv_ineg hx hb dX7_grade_31 ?_
    refine lv_topi (fun x_2 ex_2 => ?_)
    exact W.iret (v := x_2) hx hb hr (fun t ht hW => ⟨⟨x_2, (), rfl, trivial, trivial⟩, hS.F ht⟩) hS.2.2 dX7_grade_32
  · refine lv_lookup (off := 32) (tgt := 33) hx hb dX7_grade_1 (by decide) (by rw [Op.lookupswitch.offset_cons, if_neg (by omega)]; rw [Op.lookupswitch.offset_cons, if_neg (by omega)]; rfl) (by decide) ?_
    refine lv_iload_n hx hb dX7_grade_33 rfl (lv_at hl 1 rfl) ?_
    refine lv_iload_n hx hb dX7_grade_34 rfl (lv_at hl 0 rfl) ?_
    refine lv_isub hx hb dX7_grade_35 ?_
    refine lv_topi (fun x_3 ex_3 => ?_)
    refine va_mabs hx hb (by rw [hml]; exact hl.1.symm) hown (hts _ m832) (hts _ m833) (hts _ m123) (hts _ m834) (Nat.le_of_ble_eq_true rfl) (Nat.le_of_ble_eq_true rfl) (Nat.le_of_ble_eq_true rfl) (Nat.le_of_ble_eq_true rfl) dX7_grade_36 ?_
    refine lv_topi (fun x_4 ex_4 => ?_)
    exact W.iret (v := x_4) hx hb hr (fun t ht hW => ⟨⟨x_4, (), rfl, trivial, trivial⟩, hS.F ht⟩) hS.2.2 dX7_grade_39

set_option maxHeartbeats 4000000 in
set_option maxRecDepth 100000 in
theorem c_X7_chooseColumn (l : Launch) (D : va_G) (T : Nat → ClassId) (b0 b1 b2 b3 b4 b5 b6 b7 b8 b9 e0 e1 e2 e3 e4 e5 e6 e7 h0 tw : Nat) (i1 i2 i3 t0 t1 t2 t3 t4 t5 t6 t7 t8 : Int32) (p0 p7 : Nat → Int32) (h_t1 : 0 ≤ t1.toInt ∧ t1.toInt ≤ 8) (h_t2 : 0 ≤ t2.toInt ∧ t2.toInt ≤ 12) (h_t4 : 0 ≤ t4.toInt ∧ t4.toInt ≤ 5) (h_t5 : 0 ≤ t5.toInt ∧ t5.toInt ≤ 10) (h_i1 : 0 ≤ i1.toInt ∧ i1.toInt ≤ 1) (R_p0 : rg 0 12 p0) : Met l yX7_chooseColumn (wM yX7_chooseColumn cX7_chooseColumn 9 (some .int)) ({ frames := 2, cells := 0, slots := 0, locals := 35 }) (va_Pc [.ref h0, .int i1, .int i2, .int i3] (pwP D T [(h0, .inr (7, [.ref tw, .ref e0, .ref e1, .ref e2, .ref e3, .ref e4, .ref e5, .ref e6, .ref e7])), (e0, .inl (T 0, 16, .inl p0)), (e7, .inl (T 0, 208, .inl p7)), (tw, .inr (5, [.int t0, .int t1, .int t2, .int t3, .int t4, .int t5, .int t6, .int t7, .int t8, .ref b0, .ref b1, .ref b2, .ref b3, .ref b4, .ref b5, .ref b6, .ref b7, .ref b8, .ref b9]))])) (va_Qi (fun (r : Int32) (u : Unit) => ((r.toInt = -1 ∨ (0 ≤ r.toInt ∧ r.toInt < t1.toInt ∧ (p0 (8 * i1.toInt + r.toInt).toNat).toInt < t2.toInt)))) (fun _ _ => True) (fun _ => False)) 0 0 (fun _ => False) := by
  refine Met.ofW (cc := cX7_chooseColumn) (maxL := 9) (ret := (some .int)) (by decide) rfl ?_
  intro p e s m args below meth c s₁ B hml hv
  obtain ⟨rfl, hP, hC⟩ := hv
  have hx := B.exec
  have hb := B.bytes
  have hr := B.returns
  have hts : ∀ w ∈ gt, w.before _ s = true := fun w hw => atoms_spec (ws := (wM yX7_chooseColumn cX7_chooseColumn 9 (some .int))) B.pre w (List.mem_cons_of_mem _ hw)
  have hown : s.vm.findClass RX7 = some m.cls := findClass_of_methodNamed B.named
  have hlocks := B.notSynchronized
  have hK := hC.1
  have hS : va_S (fun _ => False) s.heap s.heap [] := va_S.rf
  have hl := lv_entry ([.ref h0, .int i1, .int i2, .int i3]) (n := 9) (Nat.le_of_ble_eq_true rfl)
  rw [lg_entry_eq]
  generalize (lg_sl ([.ref h0, .int i1, .int i2, .int i3]) ++ List.replicate (9 - (lg_sl ([.ref h0, .int i1, .int i2, .int i3])).length) Slot.unset).toArray = ls at hl ⊢
  have hl : lv_has ls 9 [(0, .ref h0), (1, .int i1), (2, .int i2), (3, .int i3)] := hl
  refine lv_iconst (v := (-1)) hx hb dX7_chooseColumn_0 (by decide) ?_
  refine lv_istore (lv' := [(4, .int (-1)), (0, .ref h0), (1, .int i1), (2, .int i2), (3, .int i3)]) hx hb dX7_chooseColumn_1 hl (by decide) rfl (fun ls hl => ?_)
  refine lv_iconst (v := 0) hx hb dX7_chooseColumn_3 (by decide) ?_
  refine lv_istore (lv' := [(5, .int 0), (4, .int (-1)), (0, .ref h0), (1, .int i1), (2, .int i2), (3, .int i3)]) hx hb dX7_chooseColumn_4 hl (by decide) rfl (fun ls hl => ?_)
  refine lv_iconst (v := 0) hx hb dX7_chooseColumn_6 (by decide) ?_
  refine lv_istore (lv' := [(6, .int 0), (5, .int 0), (4, .int (-1)), (0, .ref h0), (1, .int i1), (2, .int i2), (3, .int i3)]) hx hb dX7_chooseColumn_7 hl (by decide) rfl (fun ls hl => ?_)
  refine lp_ind (fun (a : Heap × List Loc × Array Slot × (Int32) × (Int32) × (Int32)) => match a with | (H, locs, ls, i_1, i_2, i_3) => W p l e _ s m _ below meth c H locs 0 0 _ (F0 m 9 ls [])) (fun (a : Heap × List Loc × Array Slot × (Int32) × (Int32) × (Int32)) => match a with | (H, locs, ls, i_1, i_2, i_3) => 0 ≤ i_1.toInt ∧ i_1.toInt ≤ 8 ∧ (-1) ≤ i_3.toInt ∧ i_3.toInt ≤ 7 ∧ (i_3.toInt = -1 ∨ (0 ≤ i_3.toInt ∧ i_3.toInt < t1.toInt ∧ (p0 (8 * i1.toInt + i_3.toInt).toNat).toInt < t2.toInt)) ∧ va_P D vwCl [(h0, .inr (7, [.ref tw, .ref e0, .ref e1, .ref e2, .ref e3, .ref e4, .ref e5, .ref e6, .ref e7])), (e0, .inl (T 0, 16, .inl p0)), (e7, .inl (T 0, 208, .inl p7)), (tw, .inr (5, [.int t0, .int t1, .int t2, .int t3, .int t4, .int t5, .int t6, .int t7, .int t8, .ref b0, .ref b1, .ref b2, .ref b3, .ref b4, .ref b5, .ref b6, .ref b7, .ref b8, .ref b9]))] H ∧ va_S (fun _ => False) s.heap H locs ∧ lv_has ls 9 [(6, .int i_1), (5, .int i_2), (4, .int i_3), (0, .ref h0), (1, .int i1), (2, .int i2), (3, .int i3)]) (fun (a : Heap × List Loc × Array Slot × (Int32) × (Int32) × (Int32)) => match a with | (H, locs, ls, i_1, i_2, i_3) => (8 - i_1.toInt).toNat) ?_ (_, _, ls, (0 : Int32), (0 : Int32), ((-1) : Int32)) ⟨(show 0 ≤ 0 by omega), (show 0 ≤ 8 by omega), (show (-1) ≤ (-1) by omega), (show (-1) ≤ 7 by omega), (show ((-1) = -1 ∨ (0 ≤ (-1) ∧ (-1) < t1.toInt ∧ (p0 (8 * i1.toInt + (-1)).toNat).toInt < t2.toInt)) by omega), hP, hS, lv_sub hl [0, 1, 2, 3, 4, 5, 6] rfl⟩
  rintro ⟨H, locs, ls, i_1, i_2, i_3⟩ ⟨c_4, c_5, c_6, c_7, c_8, hP, hS, hl⟩ ih_9
  refine lv_iload hx hb dX7_chooseColumn_9 (lv_at hl 0 rfl) ?_
  refine lv_aload_n hx hb dX7_chooseColumn_11 rfl (lv_at hl 3 rfl) ?_
  refine va_get (D := D) (ci := 7) (C := RX7) (T := TX7) (N := 9) hx hb hts iX7 hown hK hP 0 rfl rfl 0 (by decide) (hts _ m324) (fun _ h9 => h9) rfl dX7_chooseColumn_12 ?_
  refine va_get (D := D) (ci := 5) (C := RX5) (T := TX5) (N := 19) hx hb hts iX5 hown hK hP 3 rfl rfl 1 (by decide) (hts _ m172) (fun _ h9 => h9) rfl dX7_chooseColumn_15 ?_
  refine lv_icmp_ge (tgt := 81) hx hb dX7_chooseColumn_18 (by decide) (fun c_10 => ?_) (fun c_10 => ?_)
  · have c_10 : t1.toInt ≤ i_1.toInt := (c_le (x := t1.toInt) (y := i_1.toInt) rfl rfl).mp c_10
    refine lv_iload hx hb dX7_chooseColumn_81 (lv_at hl 2 rfl) ?_
    exact W.iret (v := i_3) hx hb hr (fun t ht hW => ⟨⟨i_3, (), rfl, (show (i_3.toInt = -1 ∨ (0 ≤ i_3.toInt ∧ i_3.toInt < t1.toInt ∧ (p0 (8 * i1.toInt + i_3.toInt).toNat).toInt < t2.toInt)) by omega), trivial⟩, hS.F ht⟩) hS.2.2 dX7_chooseColumn_83
  · have c_10 : i_1.toInt < t1.toInt := by have h := mt (c_le (x := t1.toInt) (y := i_1.toInt) rfl rfl).mpr c_10; omega
    refine lv_iload_n hx hb dX7_chooseColumn_21 rfl (lv_at hl 4 rfl) ?_
    refine lv_iload hx hb dX7_chooseColumn_22 (lv_at hl 0 rfl) ?_
    refine puI (cSN (As := [.int i1, .int i_1]) (rest := []) ⟨hx, hb, hml, hown, hts⟩ (c_X10_placeOf l D T i1 i_1 ⟨by omega, by omega⟩ ⟨by omega, by omega⟩) k_X10_placeOf m769 (hC.2.1 _ (List.mem_of_getElem? (i := 10) rfl)) rfl rfl ⟨(Nat.le_of_ble_eq_true rfl), (Nat.le_of_ble_eq_true rfl)⟩ (preP hC (hP.sub (ws' := []) [] rfl)) rfl hl.1 rfl (Nat.le_of_ble_eq_true rfl) dX7_chooseColumn_24 ⟨(Nat.le_of_ble_eq_true rfl), (Nat.le_of_ble_eq_true rfl)⟩) hS hP (fun r_11 H locs hw hP hS => ?_)
    have w_13 : (r_11.toInt = 8 * i1.toInt + i_1.toInt) := hw
    obtain c_14 := w_13
    refine lv_istore (lv' := [(7, .int r_11), (6, .int i_1), (5, .int i_2), (4, .int i_3), (0, .ref h0), (1, .int i1), (2, .int i2), (3, .int i3)]) hx hb dX7_chooseColumn_27 hl (by decide) rfl (fun ls hl => ?_)
    refine lv_iload_n hx hb dX7_chooseColumn_29 rfl (lv_at hl 7 rfl) ?_
    refine lv_iload hx hb dX7_chooseColumn_30 (lv_at hl 1 rfl) ?_
    refine lv_aload_n hx hb dX7_chooseColumn_32 rfl (lv_at hl 4 rfl) ?_
    refine va_get (D := D) (ci := 7) (C := RX7) (T := TX7) (N := 9) hx hb hts iX7 hown hK hP 0 rfl rfl 1 (by decide) (hts _ m325) (fun _ h9 => h9) rfl dX7_chooseColumn_33 ?_
    refine lv_iload hx hb dX7_chooseColumn_36 (lv_at hl 0 rfl) ?_
    refine va_iald (D := D) hx hb hK hP 1 0 rfl rfl (v_in (x := r_11.toInt) rfl (by omega) (by omega)) dX7_chooseColumn_38 ?_
    refine lv_topi (fun x_15 ex_15 => ?_)
    have tx_15 : 0 ≤ x_15.toInt ∧ x_15.toInt ≤ 12 := rg_at R_p0 ex_15
    have qx_15 : x_15.toInt = (p0 r_11.toNatClampNeg).toInt := by rw [ex_15]
    refine puI (cS (As := [.int i3, .int i_1, .int x_15]) (rest := []) ⟨hx, hb, hml, hown, hts⟩ (c_X7_grade l D T i3 i_1 x_15) k_X7_grade m866 m865 rfl rfl ⟨(Nat.le_of_ble_eq_true rfl), (Nat.le_of_ble_eq_true rfl)⟩ (preP hC (hP.sub (ws' := []) [] rfl)) rfl hl.1 rfl (Nat.le_of_ble_eq_true rfl) dX7_chooseColumn_39 ⟨(Nat.le_of_ble_eq_true rfl), (Nat.le_of_ble_eq_true rfl)⟩) hS hP (fun r_16 H locs hw hP hS => ?_)
    refine lv_istore (lv' := [(8, .int r_16), (7, .int r_11), (6, .int i_1), (5, .int i_2), (4, .int i_3), (0, .ref h0), (1, .int i1), (2, .int i2), (3, .int i3)]) hx hb dX7_chooseColumn_42 hl (by decide) rfl (fun ls hl => ?_)
    refine lv_iload hx hb dX7_chooseColumn_44 (lv_at hl 4 rfl) ?_
    refine lv_iconst (v := (-1)) hx hb dX7_chooseColumn_46 (by decide) ?_
    refine lv_icmp_eq (tgt := 57) hx hb dX7_chooseColumn_47 (by decide) (fun c_18 => ?_) (fun c_18 => ?_)
    · have c_18 : i_3.toInt = (-1) := (c_eq (x := i_3.toInt) (y := (-1)) rfl rfl).mp c_18
      refine lv_aload_n hx hb dX7_chooseColumn_57 rfl (lv_at hl 5 rfl) ?_
      refine lv_iload hx hb dX7_chooseColumn_58 (lv_at hl 1 rfl) ?_
      refine lv_iload_n hx hb dX7_chooseColumn_60 rfl (lv_at hl 7 rfl) ?_
      refine puI (cV (As := [.int r_11, .int i2]) (rest := []) ⟨hx, hb, hml, hown, hts⟩ (c_X7_fits l D T b0 b1 b2 b3 b4 b5 b6 b7 b8 b9 e0 e1 e2 e3 e4 e5 e6 e7 h0 tw r_11 i2 t0 t1 t2 t3 t4 t5 t6 t7 t8 p0 p7 ⟨by omega, by omega⟩ ⟨by omega, by omega⟩ ⟨by omega, by omega⟩ ⟨by omega, by omega⟩ ⟨by omega, by omega⟩ R_p0) k_X7_fits v_X7_fits m868 rfl rfl ⟨(Nat.le_of_ble_eq_true rfl), (Nat.le_of_ble_eq_true rfl)⟩ (preP hC (hP.sub (ws' := [(h0, .inr (7, [.ref tw, .ref e0, .ref e1, .ref e2, .ref e3, .ref e4, .ref e5, .ref e6, .ref e7])), (e0, .inl (T 0, 16, .inl p0)), (e7, .inl (T 0, 208, .inl p7)), (tw, .inr (5, [.int t0, .int t1, .int t2, .int t3, .int t4, .int t5, .int t6, .int t7, .int t8, .ref b0, .ref b1, .ref b2, .ref b3, .ref b4, .ref b5, .ref b6, .ref b7, .ref b8, .ref b9]))]) [0, 1, 2, 3] rfl)) (va_recv hK hP (ci := 7) (q0 := 0) rfl rfl) rfl hl.1 rfl (Nat.le_of_ble_eq_true rfl) dX7_chooseColumn_61 ⟨(Nat.le_of_ble_eq_true rfl), (Nat.le_of_ble_eq_true rfl)⟩) hS hP (fun r_19 H locs hw hP hS => ?_)
      have w_21 : (r_19 = 1 ∧ (p0 r_11.toNatClampNeg).toInt < t2.toInt) ∨ (r_19 = 0) := hw
      rcases w_21 with ⟨rfl, c_22⟩ | rfl
      · have c_23 : (p0 (8 * i1.toInt + i_1.toInt).toNat).toInt < t2.toInt := by rw [← tn (show r_11.toInt = 8 * i1.toInt + i_1.toInt by omega)]; assumption
        refine lv_if_eq (tgt := 75) hx hb dX7_chooseColumn_64 (by decide) (fun c_24 => absurd c_24 (by decide)) (fun _ => ?_)
        refine lv_iload hx hb dX7_chooseColumn_67 (lv_at hl 2 rfl) ?_
        refine lv_istore (lv' := [(4, .int i_1), (8, .int r_16), (7, .int r_11), (6, .int i_1), (5, .int i_2), (0, .ref h0), (1, .int i1), (2, .int i2), (3, .int i3)]) hx hb dX7_chooseColumn_69 hl (by decide) rfl (fun ls hl => ?_)
        refine lv_iload hx hb dX7_chooseColumn_71 (lv_at hl 1 rfl) ?_
        refine lv_istore (lv' := [(5, .int r_16), (4, .int i_1), (8, .int r_16), (7, .int r_11), (6, .int i_1), (0, .ref h0), (1, .int i1), (2, .int i2), (3, .int i3)]) hx hb dX7_chooseColumn_73 hl (by decide) rfl (fun ls hl => ?_)
        obtain ⟨x_25, ex_25⟩ : ∃ y : Int32, y = i_1 + 1 := ⟨_, rfl⟩
        have tx_25 : x_25.toInt = i_1.toInt + 1 := t_add (x := i_1.toInt) (y := 1) ex_25 rfl rfl (by omega) (by omega)
        refine lv_iinc (v := x_25) (lv' := [(6, .int x_25), (5, .int r_16), (4, .int i_1), (8, .int r_16), (7, .int r_11), (0, .ref h0), (1, .int i1), (2, .int i2), (3, .int i3)]) hx hb dX7_chooseColumn_75 hl (k := 4) rfl (by rw [ex_25]; rfl) (by decide) rfl (fun ls hl => ?_)
        refine lv_goto (tgt := 9) hx hb dX7_chooseColumn_78 (by decide) ?_
        exact ih_9 (_, _, _, x_25, r_16, i_1) ⟨(show 0 ≤ x_25.toInt by omega), (show x_25.toInt ≤ 8 by omega), (show (-1) ≤ i_1.toInt by omega), (show i_1.toInt ≤ 7 by omega), (show (i_1.toInt = -1 ∨ (0 ≤ i_1.toInt ∧ i_1.toInt < t1.toInt ∧ (p0 (8 * i1.toInt + i_1.toInt).toNat).toInt < t2.toInt)) by omega), hP, hS, lv_sub hl [0, 1, 2, 5, 6, 7, 8] rfl⟩ (show (8 - x_25.toInt).toNat < (8 - i_1.toInt).toNat by omega)
      · refine lv_if_eq (tgt := 75) hx hb dX7_chooseColumn_64 (by decide) (fun _ => ?_) (fun c_26 => absurd (by decide) c_26)
        obtain ⟨x_27, ex_27⟩ : ∃ y : Int32, y = i_1 + 1 := ⟨_, rfl⟩
        have tx_27 : x_27.toInt = i_1.toInt + 1 := t_add (x := i_1.toInt) (y := 1) ex_27 rfl rfl (by omega) (by omega)
        refine lv_iinc (v := x_27) (lv' := [(6, .int x_27), (8, .int r_16), (7, .int r_11), (5, .int i_2), (4, .int i_3), (0, .ref h0), (1, .int i1), (2, .int i2), (3, .int i3)]) hx hb dX7_chooseColumn_75 hl (k := 2) rfl (by rw [ex_27]; rfl) (by decide) rfl (fun ls hl => ?_)
        refine lv_goto (tgt := 9) hx hb dX7_chooseColumn_78 (by decide) ?_
        exact ih_9 (_, _, _, x_27, i_2, i_3) ⟨(show 0 ≤ x_27.toInt by omega), (show x_27.toInt ≤ 8 by omega), (show (-1) ≤ i_3.toInt by omega), (show i_3.toInt ≤ 7 by omega), (show (i_3.toInt = -1 ∨ (0 ≤ i_3.toInt ∧ i_3.toInt < t1.toInt ∧ (p0 (8 * i1.toInt + i_3.toInt).toNat).toInt < t2.toInt)) by omega), hP, hS, lv_sub hl [0, 3, 4, 5, 6, 7, 8] rfl⟩ (show (8 - x_27.toInt).toNat < (8 - i_1.toInt).toNat by omega)
    · have c_18 : ¬ i_3.toInt = (-1) := fun h => c_18 ((c_eq (x := i_3.toInt) (y := (-1)) rfl rfl).mpr h)
      refine lv_iload hx hb dX7_chooseColumn_50 (lv_at hl 0 rfl) ?_
      refine lv_iload hx hb dX7_chooseColumn_52 (lv_at hl 3 rfl) ?_
      refine lv_icmp_ge (tgt := 75) hx hb dX7_chooseColumn_54 (by decide) (fun c_28 => ?_) (fun c_28 => ?_)
      · have c_28 : i_2.toInt ≤ r_16.toInt := (c_le (x := i_2.toInt) (y := r_16.toInt) rfl rfl).mp c_28
        obtain ⟨x_29, ex_29⟩ : ∃ y : Int32, y = i_1 + 1 := ⟨_, rfl⟩
        have tx_29 : x_29.toInt = i_1.toInt + 1 := t_add (x := i_1.toInt) (y := 1) ex_29 rfl rfl (by omega) (by omega)
        refine lv_iinc (v := x_29) (lv' := [(6, .int x_29), (8, .int r_16), (7, .int r_11), (5, .int i_2), (4, .int i_3), (0, .ref h0), (1, .int i1), (2, .int i2), (3, .int i3)]) hx hb dX7_chooseColumn_75 hl (k := 2) rfl (by rw [ex_29]; rfl) (by decide) rfl (fun ls hl => ?_)
        refine lv_goto (tgt := 9) hx hb dX7_chooseColumn_78 (by decide) ?_
        exact ih_9 (_, _, _, x_29, i_2, i_3) ⟨(show 0 ≤ x_29.toInt by omega), (show x_29.toInt ≤ 8 by omega), (show (-1) ≤ i_3.toInt by omega), (show i_3.toInt ≤ 7 by omega), (show (i_3.toInt = -1 ∨ (0 ≤ i_3.toInt ∧ i_3.toInt < t1.toInt ∧ (p0 (8 * i1.toInt + i_3.toInt).toNat).toInt < t2.toInt)) by omega), hP, hS, lv_sub hl [0, 3, 4, 5, 6, 7, 8] rfl⟩ (show (8 - x_29.toInt).toNat < (8 - i_1.toInt).toNat by omega)
      · have c_28 : r_16.toInt < i_2.toInt := by have h := mt (c_le (x := i_2.toInt) (y := r_16.toInt) rfl rfl).mpr c_28; omega
        refine lv_aload_n hx hb dX7_chooseColumn_57 rfl (lv_at hl 5 rfl) ?_
        refine lv_iload hx hb dX7_chooseColumn_58 (lv_at hl 1 rfl) ?_
        refine lv_iload_n hx hb dX7_chooseColumn_60 rfl (lv_at hl 7 rfl) ?_
        refine puI (cV (As := [.int r_11, .int i2]) (rest := []) ⟨hx, hb, hml, hown, hts⟩ (c_X7_fits l D T b0 b1 b2 b3 b4 b5 b6 b7 b8 b9 e0 e1 e2 e3 e4 e5 e6 e7 h0 tw r_11 i2 t0 t1 t2 t3 t4 t5 t6 t7 t8 p0 p7 ⟨by omega, by omega⟩ ⟨by omega, by omega⟩ ⟨by omega, by omega⟩ ⟨by omega, by omega⟩ ⟨by omega, by omega⟩ R_p0) k_X7_fits v_X7_fits m868 rfl rfl ⟨(Nat.le_of_ble_eq_true rfl), (Nat.le_of_ble_eq_true rfl)⟩ (preP hC (hP.sub (ws' := [(h0, .inr (7, [.ref tw, .ref e0, .ref e1, .ref e2, .ref e3, .ref e4, .ref e5, .ref e6, .ref e7])), (e0, .inl (T 0, 16, .inl p0)), (e7, .inl (T 0, 208, .inl p7)), (tw, .inr (5, [.int t0, .int t1, .int t2, .int t3, .int t4, .int t5, .int t6, .int t7, .int t8, .ref b0, .ref b1, .ref b2, .ref b3, .ref b4, .ref b5, .ref b6, .ref b7, .ref b8, .ref b9]))]) [0, 1, 2, 3] rfl)) (va_recv hK hP (ci := 7) (q0 := 0) rfl rfl) rfl hl.1 rfl (Nat.le_of_ble_eq_true rfl) dX7_chooseColumn_61 ⟨(Nat.le_of_ble_eq_true rfl), (Nat.le_of_ble_eq_true rfl)⟩) hS hP (fun r_30 H locs hw hP hS => ?_)
        have w_32 : (r_30 = 1 ∧ (p0 r_11.toNatClampNeg).toInt < t2.toInt) ∨ (r_30 = 0) := hw
        rcases w_32 with ⟨rfl, c_33⟩ | rfl
        · have c_34 : (p0 (8 * i1.toInt + i_1.toInt).toNat).toInt < t2.toInt := by rw [← tn (show r_11.toInt = 8 * i1.toInt + i_1.toInt by omega)]; assumption
          refine lv_if_eq (tgt := 75) hx hb dX7_chooseColumn_64 (by decide) (fun c_35 => absurd c_35 (by decide)) (fun _ => ?_)
          refine lv_iload hx hb dX7_chooseColumn_67 (lv_at hl 2 rfl) ?_
          refine lv_istore (lv' := [(4, .int i_1), (8, .int r_16), (7, .int r_11), (6, .int i_1), (5, .int i_2), (0, .ref h0), (1, .int i1), (2, .int i2), (3, .int i3)]) hx hb dX7_chooseColumn_69 hl (by decide) rfl (fun ls hl => ?_)
          refine lv_iload hx hb dX7_chooseColumn_71 (lv_at hl 1 rfl) ?_
          refine lv_istore (lv' := [(5, .int r_16), (4, .int i_1), (8, .int r_16), (7, .int r_11), (6, .int i_1), (0, .ref h0), (1, .int i1), (2, .int i2), (3, .int i3)]) hx hb dX7_chooseColumn_73 hl (by decide) rfl (fun ls hl => ?_)
          obtain ⟨x_36, ex_36⟩ : ∃ y : Int32, y = i_1 + 1 := ⟨_, rfl⟩
          have tx_36 : x_36.toInt = i_1.toInt + 1 := t_add (x := i_1.toInt) (y := 1) ex_36 rfl rfl (by omega) (by omega)
          refine lv_iinc (v := x_36) (lv' := [(6, .int x_36), (5, .int r_16), (4, .int i_1), (8, .int r_16), (7, .int r_11), (0, .ref h0), (1, .int i1), (2, .int i2), (3, .int i3)]) hx hb dX7_chooseColumn_75 hl (k := 4) rfl (by rw [ex_36]; rfl) (by decide) rfl (fun ls hl => ?_)
          refine lv_goto (tgt := 9) hx hb dX7_chooseColumn_78 (by decide) ?_
          exact ih_9 (_, _, _, x_36, r_16, i_1) ⟨(show 0 ≤ x_36.toInt by omega), (show x_36.toInt ≤ 8 by omega), (show (-1) ≤ i_1.toInt by omega), (show i_1.toInt ≤ 7 by omega), (show (i_1.toInt = -1 ∨ (0 ≤ i_1.toInt ∧ i_1.toInt < t1.toInt ∧ (p0 (8 * i1.toInt + i_1.toInt).toNat).toInt < t2.toInt)) by omega), hP, hS, lv_sub hl [0, 1, 2, 5, 6, 7, 8] rfl⟩ (show (8 - x_36.toInt).toNat < (8 - i_1.toInt).toNat by omega)
        · refine lv_if_eq (tgt := 75) hx hb dX7_chooseColumn_64 (by decide) (fun _ => ?_) (fun c_37 => absurd (by decide) c_37)
          obtain ⟨x_38, ex_38⟩ : ∃ y : Int32, y = i_1 + 1 := ⟨_, rfl⟩
          have tx_38 : x_38.toInt = i_1.toInt + 1 := t_add (x := i_1.toInt) (y := 1) ex_38 rfl rfl (by omega) (by omega)
          refine lv_iinc (v := x_38) (lv' := [(6, .int x_38), (8, .int r_16), (7, .int r_11), (5, .int i_2), (4, .int i_3), (0, .ref h0), (1, .int i1), (2, .int i2), (3, .int i3)]) hx hb dX7_chooseColumn_75 hl (k := 2) rfl (by rw [ex_38]; rfl) (by decide) rfl (fun ls hl => ?_)
          refine lv_goto (tgt := 9) hx hb dX7_chooseColumn_78 (by decide) ?_
          exact ih_9 (_, _, _, x_38, i_2, i_3) ⟨(show 0 ≤ x_38.toInt by omega), (show x_38.toInt ≤ 8 by omega), (show (-1) ≤ i_3.toInt by omega), (show i_3.toInt ≤ 7 by omega), (show (i_3.toInt = -1 ∨ (0 ≤ i_3.toInt ∧ i_3.toInt < t1.toInt ∧ (p0 (8 * i1.toInt + i_3.toInt).toNat).toInt < t2.toInt)) by omega), hP, hS, lv_sub hl [0, 3, 4, 5, 6, 7, 8] rfl⟩ (show (8 - x_38.toInt).toNat < (8 - i_1.toInt).toNat by omega)

set_option maxHeartbeats 4000000 in
set_option maxRecDepth 100000 in
theorem c_X7_stonesBy (l : Launch) (D : va_G) (T : Nat → ClassId) (b0 b1 b2 b3 b4 b5 b6 b7 b8 b9 e0 e1 e2 e3 e4 e5 e6 e7 h0 tw : Nat) (i1 i2 t0 t1 t2 t3 t4 t5 t6 t7 t8 : Int32) (p0 p3 : Nat → Int32) (h_t1 : 0 ≤ t1.toInt ∧ t1.toInt ≤ 8) (h_t2 : 0 ≤ t2.toInt ∧ t2.toInt ≤ 12) (h_t4 : 0 ≤ t4.toInt ∧ t4.toInt ≤ 5) (h_t5 : 0 ≤ t5.toInt ∧ t5.toInt ≤ 10) (h_i1 : 0 ≤ i1.toInt ∧ i1.toInt ≤ 1) (R_p0 : rg 0 12 p0) : Met l yX7_stonesBy (wM yX7_stonesBy cX7_stonesBy 7 (some .int)) ({ frames := 1, cells := 0, slots := 0, locals := 21 }) (va_Pc [.ref h0, .int i1, .int i2] (pwP D T [(h0, .inr (7, [.ref tw, .ref e0, .ref e1, .ref e2, .ref e3, .ref e4, .ref e5, .ref e6, .ref e7])), (e0, .inl (T 0, 16, .inl p0)), (e3, .inl (T 0, 192, .inl p3)), (tw, .inr (5, [.int t0, .int t1, .int t2, .int t3, .int t4, .int t5, .int t6, .int t7, .int t8, .ref b0, .ref b1, .ref b2, .ref b3, .ref b4, .ref b5, .ref b6, .ref b7, .ref b8, .ref b9]))])) (va_Qi (fun (r : Int32) (u : Unit) => True) (fun _ _ => True) (fun _ => False)) 0 0 (fun _ => False) := by
  refine Met.ofW (cc := cX7_stonesBy) (maxL := 7) (ret := (some .int)) (by decide) rfl ?_
  intro p e s m args below meth c s₁ B hml hv
  obtain ⟨rfl, hP, hC⟩ := hv
  have hx := B.exec
  have hb := B.bytes
  have hr := B.returns
  have hts : ∀ w ∈ gt, w.before _ s = true := fun w hw => atoms_spec (ws := (wM yX7_stonesBy cX7_stonesBy 7 (some .int))) B.pre w (List.mem_cons_of_mem _ hw)
  have hown : s.vm.findClass RX7 = some m.cls := findClass_of_methodNamed B.named
  have hlocks := B.notSynchronized
  have hK := hC.1
  have hS : va_S (fun _ => False) s.heap s.heap [] := va_S.rf
  have hl := lv_entry ([.ref h0, .int i1, .int i2]) (n := 7) (Nat.le_of_ble_eq_true rfl)
  rw [lg_entry_eq]
  generalize (lg_sl ([.ref h0, .int i1, .int i2]) ++ List.replicate (7 - (lg_sl ([.ref h0, .int i1, .int i2])).length) Slot.unset).toArray = ls at hl ⊢
  have hl : lv_has ls 7 [(0, .ref h0), (1, .int i1), (2, .int i2)] := hl
  refine lv_iconst (v := 0) hx hb dX7_stonesBy_0 (by decide) ?_
  refine lv_istore_n (lv' := [(3, .int 0), (0, .ref h0), (1, .int i1), (2, .int i2)]) hx hb dX7_stonesBy_1 rfl hl (by decide) rfl (fun ls hl => ?_)
  refine lv_iconst (v := 0) hx hb dX7_stonesBy_2 (by decide) ?_
  refine lv_istore (lv' := [(4, .int 0), (3, .int 0), (0, .ref h0), (1, .int i1), (2, .int i2)]) hx hb dX7_stonesBy_3 hl (by decide) rfl (fun ls hl => ?_)
  refine lp_ind (fun (a : Heap × List Loc × Array Slot × (Int32) × (Int32)) => match a with | (H, locs, ls, i_1, i_2) => W p l e _ s m _ below meth c H locs 0 0 _ (F0 m 5 ls [])) (fun (a : Heap × List Loc × Array Slot × (Int32) × (Int32)) => match a with | (H, locs, ls, i_1, i_2) => 0 ≤ i_1.toInt ∧ i_1.toInt ≤ 8 ∧ va_P D vwCl [(h0, .inr (7, [.ref tw, .ref e0, .ref e1, .ref e2, .ref e3, .ref e4, .ref e5, .ref e6, .ref e7])), (e0, .inl (T 0, 16, .inl p0)), (e3, .inl (T 0, 192, .inl p3)), (tw, .inr (5, [.int t0, .int t1, .int t2, .int t3, .int t4, .int t5, .int t6, .int t7, .int t8, .ref b0, .ref b1, .ref b2, .ref b3, .ref b4, .ref b5, .ref b6, .ref b7, .ref b8, .ref b9]))] H ∧ va_S (fun _ => False) s.heap H locs ∧ lv_has ls 7 [(4, .int i_1), (3, .int i_2), (0, .ref h0), (1, .int i1), (2, .int i2)]) (fun (a : Heap × List Loc × Array Slot × (Int32) × (Int32)) => match a with | (H, locs, ls, i_1, i_2) => (8 - i_1.toInt).toNat) ?_ (_, _, ls, (0 : Int32), (0 : Int32)) ⟨(show 0 ≤ 0 by omega), (show 0 ≤ 8 by omega), hP, hS, lv_sub hl [0, 1, 2, 3, 4] rfl⟩
  rintro ⟨H, locs, ls, i_1, i_2⟩ ⟨c_3, c_4, hP, hS, hl⟩ ih_5
  refine lv_iload hx hb dX7_stonesBy_5 (lv_at hl 0 rfl) ?_
  refine lv_aload_n hx hb dX7_stonesBy_7 rfl (lv_at hl 2 rfl) ?_
  refine va_get (D := D) (ci := 7) (C := RX7) (T := TX7) (N := 9) hx hb hts iX7 hown hK hP 0 rfl rfl 0 (by decide) (hts _ m324) (fun _ h9 => h9) rfl dX7_stonesBy_8 ?_
  refine va_get (D := D) (ci := 5) (C := RX5) (T := TX5) (N := 19) hx hb hts iX5 hown hK hP 3 rfl rfl 1 (by decide) (hts _ m172) (fun _ h9 => h9) rfl dX7_stonesBy_11 ?_
  refine lv_icmp_ge (tgt := 71) hx hb dX7_stonesBy_14 (by decide) (fun c_6 => ?_) (fun c_6 => ?_)
  · have c_6 : t1.toInt ≤ i_1.toInt := (c_le (x := t1.toInt) (y := i_1.toInt) rfl rfl).mp c_6
    refine lv_iload_n hx hb dX7_stonesBy_71 rfl (lv_at hl 1 rfl) ?_
    exact W.iret (v := i_2) hx hb hr (fun t ht hW => ⟨⟨i_2, (), rfl, trivial, trivial⟩, hS.F ht⟩) hS.2.2 dX7_stonesBy_72
  · have c_6 : i_1.toInt < t1.toInt := by have h := mt (c_le (x := t1.toInt) (y := i_1.toInt) rfl rfl).mpr c_6; omega
    refine lv_iload_n hx hb dX7_stonesBy_17 rfl (lv_at hl 3 rfl) ?_
    refine lv_iload hx hb dX7_stonesBy_18 (lv_at hl 0 rfl) ?_
    refine puI (cSN (As := [.int i1, .int i_1]) (rest := []) ⟨hx, hb, hml, hown, hts⟩ (c_X10_placeOf l D T i1 i_1 ⟨by omega, by omega⟩ ⟨by omega, by omega⟩) k_X10_placeOf m769 (hC.2.1 _ (List.mem_of_getElem? (i := 10) rfl)) rfl rfl ⟨(Nat.le_of_ble_eq_true rfl), (Nat.le_of_ble_eq_true rfl)⟩ (preP hC (hP.sub (ws' := []) [] rfl)) rfl hl.1 rfl (Nat.le_of_ble_eq_true rfl) dX7_stonesBy_20 ⟨(Nat.le_of_ble_eq_true rfl), (Nat.le_of_ble_eq_true rfl)⟩) hS hP (fun r_7 H locs hw hP hS => ?_)
    have w_9 : (r_7.toInt = 8 * i1.toInt + i_1.toInt) := hw
    obtain c_10 := w_9
    refine lv_istore (lv' := [(5, .int r_7), (4, .int i_1), (3, .int i_2), (0, .ref h0), (1, .int i1), (2, .int i2)]) hx hb dX7_stonesBy_23 hl (by decide) rfl (fun ls hl => ?_)
    refine lv_iconst (v := 0) hx hb dX7_stonesBy_25 (by decide) ?_
    refine lv_istore (lv' := [(6, .int 0), (5, .int r_7), (4, .int i_1), (3, .int i_2), (0, .ref h0), (1, .int i1), (2, .int i2)]) hx hb dX7_stonesBy_26 hl (by decide) rfl (fun ls hl => ?_)
    refine lp_ind (fun (a : Heap × List Loc × Array Slot × (Int32) × (Int32)) => match a with | (H, locs, ls, i_11, i_12) => W p l e _ s m _ below meth c H locs 0 0 _ (F0 m 28 ls [])) (fun (a : Heap × List Loc × Array Slot × (Int32) × (Int32)) => match a with | (H, locs, ls, i_11, i_12) => 0 ≤ i_11.toInt ∧ i_11.toInt ≤ 12 ∧ va_P D vwCl [(h0, .inr (7, [.ref tw, .ref e0, .ref e1, .ref e2, .ref e3, .ref e4, .ref e5, .ref e6, .ref e7])), (e0, .inl (T 0, 16, .inl p0)), (e3, .inl (T 0, 192, .inl p3)), (tw, .inr (5, [.int t0, .int t1, .int t2, .int t3, .int t4, .int t5, .int t6, .int t7, .int t8, .ref b0, .ref b1, .ref b2, .ref b3, .ref b4, .ref b5, .ref b6, .ref b7, .ref b8, .ref b9]))] H ∧ va_S (fun _ => False) s.heap H locs ∧ lv_has ls 7 [(6, .int i_11), (5, .int r_7), (4, .int i_1), (3, .int i_12), (0, .ref h0), (1, .int i1), (2, .int i2)]) (fun (a : Heap × List Loc × Array Slot × (Int32) × (Int32)) => match a with | (H, locs, ls, i_11, i_12) => (12 - i_11.toInt).toNat) ?_ (_, _, ls, (0 : Int32), i_2) ⟨(show 0 ≤ 0 by omega), (show 0 ≤ 12 by omega), hP, hS, lv_sub hl [0, 1, 2, 3, 4, 5, 6] rfl⟩
    rintro ⟨H, locs, ls, i_11, i_12⟩ ⟨c_13, c_14, hP, hS, hl⟩ ih_15
    refine lv_iload hx hb dX7_stonesBy_28 (lv_at hl 0 rfl) ?_
    refine lv_aload_n hx hb dX7_stonesBy_30 rfl (lv_at hl 4 rfl) ?_
    refine va_get (D := D) (ci := 7) (C := RX7) (T := TX7) (N := 9) hx hb hts iX7 hown hK hP 0 rfl rfl 1 (by decide) (hts _ m325) (fun _ h9 => h9) rfl dX7_stonesBy_31 ?_
    refine lv_iload hx hb dX7_stonesBy_34 (lv_at hl 1 rfl) ?_
    refine va_iald (D := D) hx hb hK hP 1 0 rfl rfl (v_in (x := r_7.toInt) rfl (by omega) (by omega)) dX7_stonesBy_36 ?_
    refine lv_topi (fun x_16 ex_16 => ?_)
    have tx_16 : 0 ≤ x_16.toInt ∧ x_16.toInt ≤ 12 := rg_at R_p0 ex_16
    have qx_16 : x_16.toInt = (p0 r_7.toNatClampNeg).toInt := by rw [ex_16]
    refine lv_icmp_ge (tgt := 65) hx hb dX7_stonesBy_37 (by decide) (fun c_17 => ?_) (fun c_17 => ?_)
    · have c_17 : x_16.toInt ≤ i_11.toInt := (c_le (x := x_16.toInt) (y := i_11.toInt) rfl rfl).mp c_17
      obtain ⟨x_18, ex_18⟩ : ∃ y : Int32, y = i_1 + 1 := ⟨_, rfl⟩
      have tx_18 : x_18.toInt = i_1.toInt + 1 := t_add (x := i_1.toInt) (y := 1) ex_18 rfl rfl (by omega) (by omega)
      refine lv_iinc (v := x_18) (lv' := [(4, .int x_18), (6, .int i_11), (5, .int r_7), (3, .int i_12), (0, .ref h0), (1, .int i1), (2, .int i2)]) hx hb dX7_stonesBy_65 hl (k := 2) rfl (by rw [ex_18]; rfl) (by decide) rfl (fun ls hl => ?_)
      refine lv_goto (tgt := 5) hx hb dX7_stonesBy_68 (by decide) ?_
      exact ih_5 (_, _, _, x_18, i_12) ⟨(show 0 ≤ x_18.toInt by omega), (show x_18.toInt ≤ 8 by omega), hP, hS, lv_sub hl [0, 3, 4, 5, 6] rfl⟩ (show (8 - x_18.toInt).toNat < (8 - i_1.toInt).toNat by omega)
    · have c_17 : i_11.toInt < x_16.toInt := by have h := mt (c_le (x := x_16.toInt) (y := i_11.toInt) rfl rfl).mpr c_17; omega
      refine lv_aload_n hx hb dX7_stonesBy_40 rfl (lv_at hl 4 rfl) ?_
      refine va_get (D := D) (ci := 7) (C := RX7) (T := TX7) (N := 9) hx hb hts iX7 hown hK hP 0 rfl rfl 4 (by decide) (hts _ m336) (fun _ h9 => h9) rfl dX7_stonesBy_41 ?_
      refine lv_iload hx hb dX7_stonesBy_44 (lv_at hl 1 rfl) ?_
      refine lv_iload hx hb dX7_stonesBy_46 (lv_at hl 0 rfl) ?_
      refine puI (cSN (As := [.int r_7, .int i_11]) (rest := [.ref e3]) ⟨hx, hb, hml, hown, hts⟩ (c_X10_indexOf l D T r_7 i_11 ⟨by omega, by omega⟩ ⟨by omega, by omega⟩) k_X10_indexOf m784 (hC.2.1 _ (List.mem_of_getElem? (i := 9) rfl)) rfl rfl ⟨(Nat.le_of_ble_eq_true rfl), (Nat.le_of_ble_eq_true rfl)⟩ (preP hC (hP.sub (ws' := []) [] rfl)) rfl hl.1 rfl (Nat.le_of_ble_eq_true rfl) dX7_stonesBy_48 ⟨(Nat.le_of_ble_eq_true rfl), (Nat.le_of_ble_eq_true rfl)⟩) hS hP (fun r_19 H locs hw hP hS => ?_)
      have w_21 : (r_19.toInt = 12 * r_7.toInt + i_11.toInt) := hw
      obtain c_22 := w_21
      refine va_iald (D := D) hx hb hK hP 2 0 rfl rfl (v_in (x := r_19.toInt) rfl (by omega) (by omega)) dX7_stonesBy_51 ?_
      refine lv_topi (fun x_23 ex_23 => ?_)
      refine lv_iload_n hx hb dX7_stonesBy_52 rfl (lv_at hl 6 rfl) ?_
      refine lv_icmp_ne (tgt := 59) hx hb dX7_stonesBy_53 (by decide) (fun c_24 => ?_) (fun c_24 => ?_)
      · have c_24 : ¬ x_23.toInt = i2.toInt := fun h => c_24 ((c_eq (x := x_23.toInt) (y := i2.toInt) rfl rfl).mpr h)
        obtain ⟨x_25, ex_25⟩ : ∃ y : Int32, y = i_11 + 1 := ⟨_, rfl⟩
        have tx_25 : x_25.toInt = i_11.toInt + 1 := t_add (x := i_11.toInt) (y := 1) ex_25 rfl rfl (by omega) (by omega)
        refine lv_iinc (v := x_25) (lv' := [(6, .int x_25), (5, .int r_7), (4, .int i_1), (3, .int i_12), (0, .ref h0), (1, .int i1), (2, .int i2)]) hx hb dX7_stonesBy_59 hl (k := 0) rfl (by rw [ex_25]; rfl) (by decide) rfl (fun ls hl => ?_)
        refine lv_goto (tgt := 28) hx hb dX7_stonesBy_62 (by decide) ?_
        exact ih_15 (_, _, _, x_25, i_12) ⟨(show 0 ≤ x_25.toInt by omega), (show x_25.toInt ≤ 12 by omega), hP, hS, lv_sub hl [0, 1, 2, 3, 4, 5, 6] rfl⟩ (show (12 - x_25.toInt).toNat < (12 - i_11.toInt).toNat by omega)
      · have c_24 : x_23.toInt = i2.toInt := (c_eq (x := x_23.toInt) (y := i2.toInt) rfl rfl).mp c_24
        obtain ⟨x_26, ex_26⟩ : ∃ y : Int32, y = i_12 + 1 := ⟨_, rfl⟩
        refine lv_iinc (v := x_26) (lv' := [(3, .int x_26), (6, .int i_11), (5, .int r_7), (4, .int i_1), (0, .ref h0), (1, .int i1), (2, .int i2)]) hx hb dX7_stonesBy_56 hl (k := 3) rfl (by rw [ex_26]; rfl) (by decide) rfl (fun ls hl => ?_)
        obtain ⟨x_27, ex_27⟩ : ∃ y : Int32, y = i_11 + 1 := ⟨_, rfl⟩
        have tx_27 : x_27.toInt = i_11.toInt + 1 := t_add (x := i_11.toInt) (y := 1) ex_27 rfl rfl (by omega) (by omega)
        refine lv_iinc (v := x_27) (lv' := [(6, .int x_27), (3, .int x_26), (5, .int r_7), (4, .int i_1), (0, .ref h0), (1, .int i1), (2, .int i2)]) hx hb dX7_stonesBy_59 hl (k := 1) rfl (by rw [ex_27]; rfl) (by decide) rfl (fun ls hl => ?_)
        refine lv_goto (tgt := 28) hx hb dX7_stonesBy_62 (by decide) ?_
        exact ih_15 (_, _, _, x_27, x_26) ⟨(show 0 ≤ x_27.toInt by omega), (show x_27.toInt ≤ 12 by omega), hP, hS, lv_sub hl [0, 2, 3, 1, 4, 5, 6] rfl⟩ (show (12 - x_27.toInt).toNat < (12 - i_11.toInt).toNat by omega)

set_option maxHeartbeats 4000000 in
set_option maxRecDepth 100000 in
theorem c_X7_votesLying (l : Launch) (D : va_G) (T : Nat → ClassId) (b0 b1 b2 b3 b4 b5 b6 b7 b8 b9 e0 e1 e2 e3 e4 e5 e6 e7 h0 tw : Nat) (i1 i2 t0 t1 t2 t3 t4 t5 t6 t7 t8 : Int32) (p0 p3 p4 : Nat → Int32) (h_t1 : 0 ≤ t1.toInt ∧ t1.toInt ≤ 8) (h_t2 : 0 ≤ t2.toInt ∧ t2.toInt ≤ 12) (h_t4 : 0 ≤ t4.toInt ∧ t4.toInt ≤ 5) (h_t5 : 0 ≤ t5.toInt ∧ t5.toInt ≤ 10) (h_i1 : 0 ≤ i1.toInt ∧ i1.toInt ≤ 1) (R_p0 : rg 0 12 p0) : Met l yX7_votesLying (wM yX7_votesLying cX7_votesLying 8 (some .int)) ({ frames := 1, cells := 0, slots := 0, locals := 21 }) (va_Pc [.ref h0, .int i1, .int i2] (pwP D T [(h0, .inr (7, [.ref tw, .ref e0, .ref e1, .ref e2, .ref e3, .ref e4, .ref e5, .ref e6, .ref e7])), (e0, .inl (T 0, 16, .inl p0)), (e3, .inl (T 0, 192, .inl p3)), (e4, .inl (T 0, 192, .inl p4)), (tw, .inr (5, [.int t0, .int t1, .int t2, .int t3, .int t4, .int t5, .int t6, .int t7, .int t8, .ref b0, .ref b1, .ref b2, .ref b3, .ref b4, .ref b5, .ref b6, .ref b7, .ref b8, .ref b9]))])) (va_Qi (fun (r : Int32) (u : Unit) => True) (fun _ _ => True) (fun _ => False)) 0 0 (fun _ => False) := by
  refine Met.ofW (cc := cX7_votesLying) (maxL := 8) (ret := (some .int)) (by decide) rfl ?_
  intro p e s m args below meth c s₁ B hml hv
  obtain ⟨rfl, hP, hC⟩ := hv
  have hx := B.exec
  have hb := B.bytes
  have hr := B.returns
  have hts : ∀ w ∈ gt, w.before _ s = true := fun w hw => atoms_spec (ws := (wM yX7_votesLying cX7_votesLying 8 (some .int))) B.pre w (List.mem_cons_of_mem _ hw)
  have hown : s.vm.findClass RX7 = some m.cls := findClass_of_methodNamed B.named
  have hlocks := B.notSynchronized
  have hK := hC.1
  have hS : va_S (fun _ => False) s.heap s.heap [] := va_S.rf
  have hl := lv_entry ([.ref h0, .int i1, .int i2]) (n := 8) (Nat.le_of_ble_eq_true rfl)
  rw [lg_entry_eq]
  generalize (lg_sl ([.ref h0, .int i1, .int i2]) ++ List.replicate (8 - (lg_sl ([.ref h0, .int i1, .int i2])).length) Slot.unset).toArray = ls at hl ⊢
  have hl : lv_has ls 8 [(0, .ref h0), (1, .int i1), (2, .int i2)] := hl
  refine lv_iconst (v := 0) hx hb dX7_votesLying_0 (by decide) ?_
  refine lv_istore_n (lv' := [(3, .int 0), (0, .ref h0), (1, .int i1), (2, .int i2)]) hx hb dX7_votesLying_1 rfl hl (by decide) rfl (fun ls hl => ?_)
  refine lv_iconst (v := 0) hx hb dX7_votesLying_2 (by decide) ?_
  refine lv_istore (lv' := [(4, .int 0), (3, .int 0), (0, .ref h0), (1, .int i1), (2, .int i2)]) hx hb dX7_votesLying_3 hl (by decide) rfl (fun ls hl => ?_)
  refine lp_ind (fun (a : Heap × List Loc × Array Slot × (Int32) × (Int32)) => match a with | (H, locs, ls, i_1, i_2) => W p l e _ s m _ below meth c H locs 0 0 _ (F0 m 5 ls [])) (fun (a : Heap × List Loc × Array Slot × (Int32) × (Int32)) => match a with | (H, locs, ls, i_1, i_2) => 0 ≤ i_1.toInt ∧ i_1.toInt ≤ 8 ∧ va_P D vwCl [(h0, .inr (7, [.ref tw, .ref e0, .ref e1, .ref e2, .ref e3, .ref e4, .ref e5, .ref e6, .ref e7])), (e0, .inl (T 0, 16, .inl p0)), (e3, .inl (T 0, 192, .inl p3)), (e4, .inl (T 0, 192, .inl p4)), (tw, .inr (5, [.int t0, .int t1, .int t2, .int t3, .int t4, .int t5, .int t6, .int t7, .int t8, .ref b0, .ref b1, .ref b2, .ref b3, .ref b4, .ref b5, .ref b6, .ref b7, .ref b8, .ref b9]))] H ∧ va_S (fun _ => False) s.heap H locs ∧ lv_has ls 8 [(4, .int i_1), (3, .int i_2), (0, .ref h0), (1, .int i1), (2, .int i2)]) (fun (a : Heap × List Loc × Array Slot × (Int32) × (Int32)) => match a with | (H, locs, ls, i_1, i_2) => (8 - i_1.toInt).toNat) ?_ (_, _, ls, (0 : Int32), (0 : Int32)) ⟨(show 0 ≤ 0 by omega), (show 0 ≤ 8 by omega), hP, hS, lv_sub hl [0, 1, 2, 3, 4] rfl⟩
  rintro ⟨H, locs, ls, i_1, i_2⟩ ⟨c_3, c_4, hP, hS, hl⟩ ih_5
  refine lv_iload hx hb dX7_votesLying_5 (lv_at hl 0 rfl) ?_
  refine lv_aload_n hx hb dX7_votesLying_7 rfl (lv_at hl 2 rfl) ?_
  refine va_get (D := D) (ci := 7) (C := RX7) (T := TX7) (N := 9) hx hb hts iX7 hown hK hP 0 rfl rfl 0 (by decide) (hts _ m324) (fun _ h9 => h9) rfl dX7_votesLying_8 ?_
  refine va_get (D := D) (ci := 5) (C := RX5) (T := TX5) (N := 19) hx hb hts iX5 hown hK hP 4 rfl rfl 1 (by decide) (hts _ m172) (fun _ h9 => h9) rfl dX7_votesLying_11 ?_
  refine lv_icmp_ge (tgt := 86) hx hb dX7_votesLying_14 (by decide) (fun c_6 => ?_) (fun c_6 => ?_)
  · have c_6 : t1.toInt ≤ i_1.toInt := (c_le (x := t1.toInt) (y := i_1.toInt) rfl rfl).mp c_6
    refine lv_iload_n hx hb dX7_votesLying_86 rfl (lv_at hl 1 rfl) ?_
    exact W.iret (v := i_2) hx hb hr (fun t ht hW => ⟨⟨i_2, (), rfl, trivial, trivial⟩, hS.F ht⟩) hS.2.2 dX7_votesLying_87
  · have c_6 : i_1.toInt < t1.toInt := by have h := mt (c_le (x := t1.toInt) (y := i_1.toInt) rfl rfl).mpr c_6; omega
    refine lv_iload_n hx hb dX7_votesLying_17 rfl (lv_at hl 3 rfl) ?_
    refine lv_iload hx hb dX7_votesLying_18 (lv_at hl 0 rfl) ?_
    refine puI (cSN (As := [.int i1, .int i_1]) (rest := []) ⟨hx, hb, hml, hown, hts⟩ (c_X10_placeOf l D T i1 i_1 ⟨by omega, by omega⟩ ⟨by omega, by omega⟩) k_X10_placeOf m769 (hC.2.1 _ (List.mem_of_getElem? (i := 10) rfl)) rfl rfl ⟨(Nat.le_of_ble_eq_true rfl), (Nat.le_of_ble_eq_true rfl)⟩ (preP hC (hP.sub (ws' := []) [] rfl)) rfl hl.1 rfl (Nat.le_of_ble_eq_true rfl) dX7_votesLying_20 ⟨(Nat.le_of_ble_eq_true rfl), (Nat.le_of_ble_eq_true rfl)⟩) hS hP (fun r_7 H locs hw hP hS => ?_)
    have w_9 : (r_7.toInt = 8 * i1.toInt + i_1.toInt) := hw
    obtain c_10 := w_9
    refine lv_istore (lv' := [(5, .int r_7), (4, .int i_1), (3, .int i_2), (0, .ref h0), (1, .int i1), (2, .int i2)]) hx hb dX7_votesLying_23 hl (by decide) rfl (fun ls hl => ?_)
    refine lv_iconst (v := 0) hx hb dX7_votesLying_25 (by decide) ?_
    refine lv_istore (lv' := [(6, .int 0), (5, .int r_7), (4, .int i_1), (3, .int i_2), (0, .ref h0), (1, .int i1), (2, .int i2)]) hx hb dX7_votesLying_26 hl (by decide) rfl (fun ls hl => ?_)
    refine lp_ind (fun (a : Heap × List Loc × Array Slot × (Int32) × (Int32)) => match a with | (H, locs, ls, i_11, i_12) => W p l e _ s m _ below meth c H locs 0 0 _ (F0 m 28 ls [])) (fun (a : Heap × List Loc × Array Slot × (Int32) × (Int32)) => match a with | (H, locs, ls, i_11, i_12) => 0 ≤ i_11.toInt ∧ i_11.toInt ≤ 12 ∧ va_P D vwCl [(h0, .inr (7, [.ref tw, .ref e0, .ref e1, .ref e2, .ref e3, .ref e4, .ref e5, .ref e6, .ref e7])), (e0, .inl (T 0, 16, .inl p0)), (e3, .inl (T 0, 192, .inl p3)), (e4, .inl (T 0, 192, .inl p4)), (tw, .inr (5, [.int t0, .int t1, .int t2, .int t3, .int t4, .int t5, .int t6, .int t7, .int t8, .ref b0, .ref b1, .ref b2, .ref b3, .ref b4, .ref b5, .ref b6, .ref b7, .ref b8, .ref b9]))] H ∧ va_S (fun _ => False) s.heap H locs ∧ lv_has ls 8 [(6, .int i_11), (5, .int r_7), (4, .int i_1), (3, .int i_12), (0, .ref h0), (1, .int i1), (2, .int i2)]) (fun (a : Heap × List Loc × Array Slot × (Int32) × (Int32)) => match a with | (H, locs, ls, i_11, i_12) => (12 - i_11.toInt).toNat) ?_ (_, _, ls, (0 : Int32), i_2) ⟨(show 0 ≤ 0 by omega), (show 0 ≤ 12 by omega), hP, hS, lv_sub hl [0, 1, 2, 3, 4, 5, 6] rfl⟩
    rintro ⟨H, locs, ls, i_11, i_12⟩ ⟨c_13, c_14, hP, hS, hl⟩ ih_15
    refine lv_iload hx hb dX7_votesLying_28 (lv_at hl 0 rfl) ?_
    refine lv_aload_n hx hb dX7_votesLying_30 rfl (lv_at hl 4 rfl) ?_
    refine va_get (D := D) (ci := 7) (C := RX7) (T := TX7) (N := 9) hx hb hts iX7 hown hK hP 0 rfl rfl 1 (by decide) (hts _ m325) (fun _ h9 => h9) rfl dX7_votesLying_31 ?_
    refine lv_iload hx hb dX7_votesLying_34 (lv_at hl 1 rfl) ?_
    refine va_iald (D := D) hx hb hK hP 1 0 rfl rfl (v_in (x := r_7.toInt) rfl (by omega) (by omega)) dX7_votesLying_36 ?_
    refine lv_topi (fun x_16 ex_16 => ?_)
    have tx_16 : 0 ≤ x_16.toInt ∧ x_16.toInt ≤ 12 := rg_at R_p0 ex_16
    have qx_16 : x_16.toInt = (p0 r_7.toNatClampNeg).toInt := by rw [ex_16]
    refine lv_icmp_ge (tgt := 80) hx hb dX7_votesLying_37 (by decide) (fun c_17 => ?_) (fun c_17 => ?_)
    · have c_17 : x_16.toInt ≤ i_11.toInt := (c_le (x := x_16.toInt) (y := i_11.toInt) rfl rfl).mp c_17
      obtain ⟨x_18, ex_18⟩ : ∃ y : Int32, y = i_1 + 1 := ⟨_, rfl⟩
      have tx_18 : x_18.toInt = i_1.toInt + 1 := t_add (x := i_1.toInt) (y := 1) ex_18 rfl rfl (by omega) (by omega)
      refine lv_iinc (v := x_18) (lv' := [(4, .int x_18), (6, .int i_11), (5, .int r_7), (3, .int i_12), (0, .ref h0), (1, .int i1), (2, .int i2)]) hx hb dX7_votesLying_80 hl (k := 2) rfl (by rw [ex_18]; rfl) (by decide) rfl (fun ls hl => ?_)
      refine lv_goto (tgt := 5) hx hb dX7_votesLying_83 (by decide) ?_
      exact ih_5 (_, _, _, x_18, i_12) ⟨(show 0 ≤ x_18.toInt by omega), (show x_18.toInt ≤ 8 by omega), hP, hS, lv_sub hl [0, 3, 4, 5, 6] rfl⟩ (show (8 - x_18.toInt).toNat < (8 - i_1.toInt).toNat by omega)
    · have c_17 : i_11.toInt < x_16.toInt := by have h := mt (c_le (x := x_16.toInt) (y := i_11.toInt) rfl rfl).mpr c_17; omega
      refine lv_iload hx hb dX7_votesLying_40 (lv_at hl 1 rfl) ?_
      refine lv_iload hx hb dX7_votesLying_42 (lv_at hl 0 rfl) ?_
      refine puI (cSN (As := [.int r_7, .int i_11]) (rest := []) ⟨hx, hb, hml, hown, hts⟩ (c_X10_indexOf l D T r_7 i_11 ⟨by omega, by omega⟩ ⟨by omega, by omega⟩) k_X10_indexOf m784 (hC.2.1 _ (List.mem_of_getElem? (i := 9) rfl)) rfl rfl ⟨(Nat.le_of_ble_eq_true rfl), (Nat.le_of_ble_eq_true rfl)⟩ (preP hC (hP.sub (ws' := []) [] rfl)) rfl hl.1 rfl (Nat.le_of_ble_eq_true rfl) dX7_votesLying_44 ⟨(Nat.le_of_ble_eq_true rfl), (Nat.le_of_ble_eq_true rfl)⟩) hS hP (fun r_19 H locs hw hP hS => ?_)
      have w_21 : (r_19.toInt = 12 * r_7.toInt + i_11.toInt) := hw
      obtain c_22 := w_21
      refine lv_istore (lv' := [(7, .int r_19), (6, .int i_11), (5, .int r_7), (4, .int i_1), (3, .int i_12), (0, .ref h0), (1, .int i1), (2, .int i2)]) hx hb dX7_votesLying_47 hl (by decide) rfl (fun ls hl => ?_)
      refine lv_aload_n hx hb dX7_votesLying_49 rfl (lv_at hl 5 rfl) ?_
      refine va_get (D := D) (ci := 7) (C := RX7) (T := TX7) (N := 9) hx hb hts iX7 hown hK hP 0 rfl rfl 4 (by decide) (hts _ m336) (fun _ h9 => h9) rfl dX7_votesLying_50 ?_
      refine lv_iload hx hb dX7_votesLying_53 (lv_at hl 0 rfl) ?_
      refine va_iald (D := D) hx hb hK hP 2 0 rfl rfl (v_in (x := r_19.toInt) rfl (by omega) (by omega)) dX7_votesLying_55 ?_
      refine lv_topi (fun x_23 ex_23 => ?_)
      refine lv_iconst (v := (-1)) hx hb dX7_votesLying_56 (by decide) ?_
      refine lv_icmp_eq (tgt := 74) hx hb dX7_votesLying_57 (by decide) (fun c_24 => ?_) (fun c_24 => ?_)
      · have c_24 : x_23.toInt = (-1) := (c_eq (x := x_23.toInt) (y := (-1)) rfl rfl).mp c_24
        obtain ⟨x_25, ex_25⟩ : ∃ y : Int32, y = i_11 + 1 := ⟨_, rfl⟩
        have tx_25 : x_25.toInt = i_11.toInt + 1 := t_add (x := i_11.toInt) (y := 1) ex_25 rfl rfl (by omega) (by omega)
        refine lv_iinc (v := x_25) (lv' := [(6, .int x_25), (7, .int r_19), (5, .int r_7), (4, .int i_1), (3, .int i_12), (0, .ref h0), (1, .int i1), (2, .int i2)]) hx hb dX7_votesLying_74 hl (k := 1) rfl (by rw [ex_25]; rfl) (by decide) rfl (fun ls hl => ?_)
        refine lv_goto (tgt := 28) hx hb dX7_votesLying_77 (by decide) ?_
        exact ih_15 (_, _, _, x_25, i_12) ⟨(show 0 ≤ x_25.toInt by omega), (show x_25.toInt ≤ 12 by omega), hP, hS, lv_sub hl [0, 2, 3, 4, 5, 6, 7] rfl⟩ (show (12 - x_25.toInt).toNat < (12 - i_11.toInt).toNat by omega)
      · have c_24 : ¬ x_23.toInt = (-1) := fun h => c_24 ((c_eq (x := x_23.toInt) (y := (-1)) rfl rfl).mpr h)
        refine lv_aload_n hx hb dX7_votesLying_60 rfl (lv_at hl 5 rfl) ?_
        refine va_get (D := D) (ci := 7) (C := RX7) (T := TX7) (N := 9) hx hb hts iX7 hown hK hP 0 rfl rfl 5 (by decide) (hts _ m338) (fun _ h9 => h9) rfl dX7_votesLying_61 ?_
        refine lv_iload hx hb dX7_votesLying_64 (lv_at hl 0 rfl) ?_
        refine va_iald (D := D) hx hb hK hP 3 0 rfl rfl (v_in (x := r_19.toInt) rfl (by omega) (by omega)) dX7_votesLying_66 ?_
        refine lv_topi (fun x_26 ex_26 => ?_)
        refine lv_iload_n hx hb dX7_votesLying_67 rfl (lv_at hl 7 rfl) ?_
        refine lv_icmp_ne (tgt := 74) hx hb dX7_votesLying_68 (by decide) (fun c_27 => ?_) (fun c_27 => ?_)
        · have c_27 : ¬ x_26.toInt = i2.toInt := fun h => c_27 ((c_eq (x := x_26.toInt) (y := i2.toInt) rfl rfl).mpr h)
          obtain ⟨x_28, ex_28⟩ : ∃ y : Int32, y = i_11 + 1 := ⟨_, rfl⟩
          have tx_28 : x_28.toInt = i_11.toInt + 1 := t_add (x := i_11.toInt) (y := 1) ex_28 rfl rfl (by omega) (by omega)
          refine lv_iinc (v := x_28) (lv' := [(6, .int x_28), (7, .int r_19), (5, .int r_7), (4, .int i_1), (3, .int i_12), (0, .ref h0), (1, .int i1), (2, .int i2)]) hx hb dX7_votesLying_74 hl (k := 1) rfl (by rw [ex_28]; rfl) (by decide) rfl (fun ls hl => ?_)
          refine lv_goto (tgt := 28) hx hb dX7_votesLying_77 (by decide) ?_
          exact ih_15 (_, _, _, x_28, i_12) ⟨(show 0 ≤ x_28.toInt by omega), (show x_28.toInt ≤ 12 by omega), hP, hS, lv_sub hl [0, 2, 3, 4, 5, 6, 7] rfl⟩ (show (12 - x_28.toInt).toNat < (12 - i_11.toInt).toNat by omega)
        · have c_27 : x_26.toInt = i2.toInt := (c_eq (x := x_26.toInt) (y := i2.toInt) rfl rfl).mp c_27
          obtain ⟨x_29, ex_29⟩ : ∃ y : Int32, y = i_12 + 1 := ⟨_, rfl⟩
          refine lv_iinc (v := x_29) (lv' := [(3, .int x_29), (7, .int r_19), (6, .int i_11), (5, .int r_7), (4, .int i_1), (0, .ref h0), (1, .int i1), (2, .int i2)]) hx hb dX7_votesLying_71 hl (k := 4) rfl (by rw [ex_29]; rfl) (by decide) rfl (fun ls hl => ?_)
          obtain ⟨x_30, ex_30⟩ : ∃ y : Int32, y = i_11 + 1 := ⟨_, rfl⟩
          have tx_30 : x_30.toInt = i_11.toInt + 1 := t_add (x := i_11.toInt) (y := 1) ex_30 rfl rfl (by omega) (by omega)
          refine lv_iinc (v := x_30) (lv' := [(6, .int x_30), (3, .int x_29), (7, .int r_19), (5, .int r_7), (4, .int i_1), (0, .ref h0), (1, .int i1), (2, .int i2)]) hx hb dX7_votesLying_74 hl (k := 2) rfl (by rw [ex_30]; rfl) (by decide) rfl (fun ls hl => ?_)
          refine lv_goto (tgt := 28) hx hb dX7_votesLying_77 (by decide) ?_
          exact ih_15 (_, _, _, x_30, x_29) ⟨(show 0 ≤ x_30.toInt by omega), (show x_30.toInt ≤ 12 by omega), hP, hS, lv_sub hl [0, 3, 4, 1, 5, 6, 7] rfl⟩ (show (12 - x_30.toInt).toNat < (12 - i_11.toInt).toNat by omega)

set_option maxHeartbeats 4000000 in
set_option maxRecDepth 100000 in
theorem c_X7_earliestVote (l : Launch) (D : va_G) (T : Nat → ClassId) (b0 b1 b2 b3 b4 b5 b6 b7 b8 b9 e0 e1 e2 e3 e4 e5 e6 e7 h0 tw : Nat) (i1 t0 t1 t2 t3 t4 t5 t6 t7 t8 : Int32) (p0 p3 p4 : Nat → Int32) (h_t1 : 0 ≤ t1.toInt ∧ t1.toInt ≤ 8) (h_t2 : 0 ≤ t2.toInt ∧ t2.toInt ≤ 12) (h_t4 : 0 ≤ t4.toInt ∧ t4.toInt ≤ 5) (h_t5 : 0 ≤ t5.toInt ∧ t5.toInt ≤ 10) (h_i1 : 0 ≤ i1.toInt ∧ i1.toInt ≤ 1) (R_p0 : rg 0 12 p0) : Met l yX7_earliestVote (wM yX7_earliestVote cX7_earliestVote 7 (some .int)) ({ frames := 1, cells := 0, slots := 0, locals := 21 }) (va_Pc [.ref h0, .int i1] (pwP D T [(h0, .inr (7, [.ref tw, .ref e0, .ref e1, .ref e2, .ref e3, .ref e4, .ref e5, .ref e6, .ref e7])), (e0, .inl (T 0, 16, .inl p0)), (e3, .inl (T 0, 192, .inl p3)), (e4, .inl (T 0, 192, .inl p4)), (tw, .inr (5, [.int t0, .int t1, .int t2, .int t3, .int t4, .int t5, .int t6, .int t7, .int t8, .ref b0, .ref b1, .ref b2, .ref b3, .ref b4, .ref b5, .ref b6, .ref b7, .ref b8, .ref b9]))])) (va_Qi (fun (r : Int32) (u : Unit) => True) (fun _ _ => True) (fun _ => False)) 0 0 (fun _ => False) := by
  refine Met.ofW (cc := cX7_earliestVote) (maxL := 7) (ret := (some .int)) (by decide) rfl ?_
  intro p e s m args below meth c s₁ B hml hv
  obtain ⟨rfl, hP, hC⟩ := hv
  have hx := B.exec
  have hb := B.bytes
  have hr := B.returns
  have hts : ∀ w ∈ gt, w.before _ s = true := fun w hw => atoms_spec (ws := (wM yX7_earliestVote cX7_earliestVote 7 (some .int))) B.pre w (List.mem_cons_of_mem _ hw)
  have hown : s.vm.findClass RX7 = some m.cls := findClass_of_methodNamed B.named
  have hlocks := B.notSynchronized
  have hK := hC.1
  have hS : va_S (fun _ => False) s.heap s.heap [] := va_S.rf
  have hl := lv_entry ([.ref h0, .int i1]) (n := 7) (Nat.le_of_ble_eq_true rfl)
  rw [lg_entry_eq]
  generalize (lg_sl ([.ref h0, .int i1]) ++ List.replicate (7 - (lg_sl ([.ref h0, .int i1])).length) Slot.unset).toArray = ls at hl ⊢
  have hl : lv_has ls 7 [(0, .ref h0), (1, .int i1)] := hl
  refine lv_iconst (v := (-1)) hx hb dX7_earliestVote_0 (by decide) ?_
  refine lv_istore_n (lv' := [(2, .int (-1)), (0, .ref h0), (1, .int i1)]) hx hb dX7_earliestVote_1 rfl hl (by decide) rfl (fun ls hl => ?_)
  refine lv_iconst (v := 0) hx hb dX7_earliestVote_2 (by decide) ?_
  refine lv_istore_n (lv' := [(3, .int 0), (2, .int (-1)), (0, .ref h0), (1, .int i1)]) hx hb dX7_earliestVote_3 rfl hl (by decide) rfl (fun ls hl => ?_)
  refine lp_ind (fun (a : Heap × List Loc × Array Slot × (Int32) × (Int32)) => match a with | (H, locs, ls, i_1, i_2) => W p l e _ s m _ below meth c H locs 0 0 _ (F0 m 4 ls [])) (fun (a : Heap × List Loc × Array Slot × (Int32) × (Int32)) => match a with | (H, locs, ls, i_1, i_2) => 0 ≤ i_1.toInt ∧ i_1.toInt ≤ 8 ∧ va_P D vwCl [(h0, .inr (7, [.ref tw, .ref e0, .ref e1, .ref e2, .ref e3, .ref e4, .ref e5, .ref e6, .ref e7])), (e0, .inl (T 0, 16, .inl p0)), (e3, .inl (T 0, 192, .inl p3)), (e4, .inl (T 0, 192, .inl p4)), (tw, .inr (5, [.int t0, .int t1, .int t2, .int t3, .int t4, .int t5, .int t6, .int t7, .int t8, .ref b0, .ref b1, .ref b2, .ref b3, .ref b4, .ref b5, .ref b6, .ref b7, .ref b8, .ref b9]))] H ∧ va_S (fun _ => False) s.heap H locs ∧ lv_has ls 7 [(3, .int i_1), (2, .int i_2), (0, .ref h0), (1, .int i1)]) (fun (a : Heap × List Loc × Array Slot × (Int32) × (Int32)) => match a with | (H, locs, ls, i_1, i_2) => (8 - i_1.toInt).toNat) ?_ (_, _, ls, (0 : Int32), ((-1) : Int32)) ⟨(show 0 ≤ 0 by omega), (show 0 ≤ 8 by omega), hP, hS, lv_sub hl [0, 1, 2, 3] rfl⟩
  rintro ⟨H, locs, ls, i_1, i_2⟩ ⟨c_3, c_4, hP, hS, hl⟩ ih_5
  refine lv_iload_n hx hb dX7_earliestVote_4 rfl (lv_at hl 0 rfl) ?_
  refine lv_aload_n hx hb dX7_earliestVote_5 rfl (lv_at hl 2 rfl) ?_
  refine va_get (D := D) (ci := 7) (C := RX7) (T := TX7) (N := 9) hx hb hts iX7 hown hK hP 0 rfl rfl 0 (by decide) (hts _ m324) (fun _ h9 => h9) rfl dX7_earliestVote_6 ?_
  refine va_get (D := D) (ci := 5) (C := RX5) (T := TX5) (N := 19) hx hb hts iX5 hown hK hP 4 rfl rfl 1 (by decide) (hts _ m172) (fun _ h9 => h9) rfl dX7_earliestVote_9 ?_
  refine lv_icmp_ge (tgt := 93) hx hb dX7_earliestVote_12 (by decide) (fun c_6 => ?_) (fun c_6 => ?_)
  · have c_6 : t1.toInt ≤ i_1.toInt := (c_le (x := t1.toInt) (y := i_1.toInt) rfl rfl).mp c_6
    refine lv_iload_n hx hb dX7_earliestVote_93 rfl (lv_at hl 1 rfl) ?_
    exact W.iret (v := i_2) hx hb hr (fun t ht hW => ⟨⟨i_2, (), rfl, trivial, trivial⟩, hS.F ht⟩) hS.2.2 dX7_earliestVote_94
  · have c_6 : i_1.toInt < t1.toInt := by have h := mt (c_le (x := t1.toInt) (y := i_1.toInt) rfl rfl).mpr c_6; omega
    refine lv_iload_n hx hb dX7_earliestVote_15 rfl (lv_at hl 3 rfl) ?_
    refine lv_iload_n hx hb dX7_earliestVote_16 rfl (lv_at hl 0 rfl) ?_
    refine puI (cSN (As := [.int i1, .int i_1]) (rest := []) ⟨hx, hb, hml, hown, hts⟩ (c_X10_placeOf l D T i1 i_1 ⟨by omega, by omega⟩ ⟨by omega, by omega⟩) k_X10_placeOf m769 (hC.2.1 _ (List.mem_of_getElem? (i := 10) rfl)) rfl rfl ⟨(Nat.le_of_ble_eq_true rfl), (Nat.le_of_ble_eq_true rfl)⟩ (preP hC (hP.sub (ws' := []) [] rfl)) rfl hl.1 rfl (Nat.le_of_ble_eq_true rfl) dX7_earliestVote_17 ⟨(Nat.le_of_ble_eq_true rfl), (Nat.le_of_ble_eq_true rfl)⟩) hS hP (fun r_7 H locs hw hP hS => ?_)
    have w_9 : (r_7.toInt = 8 * i1.toInt + i_1.toInt) := hw
    obtain c_10 := w_9
    refine lv_istore (lv' := [(4, .int r_7), (3, .int i_1), (2, .int i_2), (0, .ref h0), (1, .int i1)]) hx hb dX7_earliestVote_20 hl (by decide) rfl (fun ls hl => ?_)
    refine lv_iconst (v := 0) hx hb dX7_earliestVote_22 (by decide) ?_
    refine lv_istore (lv' := [(5, .int 0), (4, .int r_7), (3, .int i_1), (2, .int i_2), (0, .ref h0), (1, .int i1)]) hx hb dX7_earliestVote_23 hl (by decide) rfl (fun ls hl => ?_)
    refine lp_ind (fun (a : Heap × List Loc × Array Slot × (Int32) × (Int32)) => match a with | (H, locs, ls, i_11, i_12) => W p l e _ s m _ below meth c H locs 0 0 _ (F0 m 25 ls [])) (fun (a : Heap × List Loc × Array Slot × (Int32) × (Int32)) => match a with | (H, locs, ls, i_11, i_12) => 0 ≤ i_11.toInt ∧ i_11.toInt ≤ 12 ∧ va_P D vwCl [(h0, .inr (7, [.ref tw, .ref e0, .ref e1, .ref e2, .ref e3, .ref e4, .ref e5, .ref e6, .ref e7])), (e0, .inl (T 0, 16, .inl p0)), (e3, .inl (T 0, 192, .inl p3)), (e4, .inl (T 0, 192, .inl p4)), (tw, .inr (5, [.int t0, .int t1, .int t2, .int t3, .int t4, .int t5, .int t6, .int t7, .int t8, .ref b0, .ref b1, .ref b2, .ref b3, .ref b4, .ref b5, .ref b6, .ref b7, .ref b8, .ref b9]))] H ∧ va_S (fun _ => False) s.heap H locs ∧ lv_has ls 7 [(5, .int i_11), (4, .int r_7), (3, .int i_1), (2, .int i_12), (0, .ref h0), (1, .int i1)]) (fun (a : Heap × List Loc × Array Slot × (Int32) × (Int32)) => match a with | (H, locs, ls, i_11, i_12) => (12 - i_11.toInt).toNat) ?_ (_, _, ls, (0 : Int32), i_2) ⟨(show 0 ≤ 0 by omega), (show 0 ≤ 12 by omega), hP, hS, lv_sub hl [0, 1, 2, 3, 4, 5] rfl⟩
    rintro ⟨H, locs, ls, i_11, i_12⟩ ⟨c_13, c_14, hP, hS, hl⟩ ih_15
    refine lv_iload hx hb dX7_earliestVote_25 (lv_at hl 0 rfl) ?_
    refine lv_aload_n hx hb dX7_earliestVote_27 rfl (lv_at hl 4 rfl) ?_
    refine va_get (D := D) (ci := 7) (C := RX7) (T := TX7) (N := 9) hx hb hts iX7 hown hK hP 0 rfl rfl 1 (by decide) (hts _ m325) (fun _ h9 => h9) rfl dX7_earliestVote_28 ?_
    refine lv_iload hx hb dX7_earliestVote_31 (lv_at hl 1 rfl) ?_
    refine va_iald (D := D) hx hb hK hP 1 0 rfl rfl (v_in (x := r_7.toInt) rfl (by omega) (by omega)) dX7_earliestVote_33 ?_
    refine lv_topi (fun x_16 ex_16 => ?_)
    have tx_16 : 0 ≤ x_16.toInt ∧ x_16.toInt ≤ 12 := rg_at R_p0 ex_16
    have qx_16 : x_16.toInt = (p0 r_7.toNatClampNeg).toInt := by rw [ex_16]
    refine lv_icmp_ge (tgt := 87) hx hb dX7_earliestVote_34 (by decide) (fun c_17 => ?_) (fun c_17 => ?_)
    · have c_17 : x_16.toInt ≤ i_11.toInt := (c_le (x := x_16.toInt) (y := i_11.toInt) rfl rfl).mp c_17
      obtain ⟨x_18, ex_18⟩ : ∃ y : Int32, y = i_1 + 1 := ⟨_, rfl⟩
      have tx_18 : x_18.toInt = i_1.toInt + 1 := t_add (x := i_1.toInt) (y := 1) ex_18 rfl rfl (by omega) (by omega)
      refine lv_iinc (v := x_18) (lv' := [(3, .int x_18), (5, .int i_11), (4, .int r_7), (2, .int i_12), (0, .ref h0), (1, .int i1)]) hx hb dX7_earliestVote_87 hl (k := 2) rfl (by rw [ex_18]; rfl) (by decide) rfl (fun ls hl => ?_)
      refine lv_goto (tgt := 4) hx hb dX7_earliestVote_90 (by decide) ?_
      exact ih_5 (_, _, _, x_18, i_12) ⟨(show 0 ≤ x_18.toInt by omega), (show x_18.toInt ≤ 8 by omega), hP, hS, lv_sub hl [0, 3, 4, 5] rfl⟩ (show (8 - x_18.toInt).toNat < (8 - i_1.toInt).toNat by omega)
    · have c_17 : i_11.toInt < x_16.toInt := by have h := mt (c_le (x := x_16.toInt) (y := i_11.toInt) rfl rfl).mpr c_17; omega
      refine lv_iload hx hb dX7_earliestVote_37 (lv_at hl 1 rfl) ?_
      refine lv_iload hx hb dX7_earliestVote_39 (lv_at hl 0 rfl) ?_
      refine puI (cSN (As := [.int r_7, .int i_11]) (rest := []) ⟨hx, hb, hml, hown, hts⟩ (c_X10_indexOf l D T r_7 i_11 ⟨by omega, by omega⟩ ⟨by omega, by omega⟩) k_X10_indexOf m784 (hC.2.1 _ (List.mem_of_getElem? (i := 9) rfl)) rfl rfl ⟨(Nat.le_of_ble_eq_true rfl), (Nat.le_of_ble_eq_true rfl)⟩ (preP hC (hP.sub (ws' := []) [] rfl)) rfl hl.1 rfl (Nat.le_of_ble_eq_true rfl) dX7_earliestVote_41 ⟨(Nat.le_of_ble_eq_true rfl), (Nat.le_of_ble_eq_true rfl)⟩) hS hP (fun r_19 H locs hw hP hS => ?_)
      have w_21 : (r_19.toInt = 12 * r_7.toInt + i_11.toInt) := hw
      obtain c_22 := w_21
      refine lv_istore (lv' := [(6, .int r_19), (5, .int i_11), (4, .int r_7), (3, .int i_1), (2, .int i_12), (0, .ref h0), (1, .int i1)]) hx hb dX7_earliestVote_44 hl (by decide) rfl (fun ls hl => ?_)
      refine lv_aload_n hx hb dX7_earliestVote_46 rfl (lv_at hl 5 rfl) ?_
      refine va_get (D := D) (ci := 7) (C := RX7) (T := TX7) (N := 9) hx hb hts iX7 hown hK hP 0 rfl rfl 4 (by decide) (hts _ m336) (fun _ h9 => h9) rfl dX7_earliestVote_47 ?_
      refine lv_iload hx hb dX7_earliestVote_50 (lv_at hl 0 rfl) ?_
      refine va_iald (D := D) hx hb hK hP 2 0 rfl rfl (v_in (x := r_19.toInt) rfl (by omega) (by omega)) dX7_earliestVote_52 ?_
      refine lv_topi (fun x_23 ex_23 => ?_)
      refine lv_iconst (v := (-1)) hx hb dX7_earliestVote_53 (by decide) ?_
      refine lv_icmp_eq (tgt := 81) hx hb dX7_earliestVote_54 (by decide) (fun c_24 => ?_) (fun c_24 => ?_)
      · have c_24 : x_23.toInt = (-1) := (c_eq (x := x_23.toInt) (y := (-1)) rfl rfl).mp c_24
        obtain ⟨x_25, ex_25⟩ : ∃ y : Int32, y = i_11 + 1 := ⟨_, rfl⟩
        have tx_25 : x_25.toInt = i_11.toInt + 1 := t_add (x := i_11.toInt) (y := 1) ex_25 rfl rfl (by omega) (by omega)
        refine lv_iinc (v := x_25) (lv' := [(5, .int x_25), (6, .int r_19), (4, .int r_7), (3, .int i_1), (2, .int i_12), (0, .ref h0), (1, .int i1)]) hx hb dX7_earliestVote_81 hl (k := 1) rfl (by rw [ex_25]; rfl) (by decide) rfl (fun ls hl => ?_)
        refine lv_goto (tgt := 25) hx hb dX7_earliestVote_84 (by decide) ?_
        exact ih_15 (_, _, _, x_25, i_12) ⟨(show 0 ≤ x_25.toInt by omega), (show x_25.toInt ≤ 12 by omega), hP, hS, lv_sub hl [0, 2, 3, 4, 5, 6] rfl⟩ (show (12 - x_25.toInt).toNat < (12 - i_11.toInt).toNat by omega)
      · have c_24 : ¬ x_23.toInt = (-1) := fun h => c_24 ((c_eq (x := x_23.toInt) (y := (-1)) rfl rfl).mpr h)
        refine lv_iload_n hx hb dX7_earliestVote_57 rfl (lv_at hl 4 rfl) ?_
        refine lv_iconst (v := (-1)) hx hb dX7_earliestVote_58 (by decide) ?_
        refine lv_icmp_eq (tgt := 73) hx hb dX7_earliestVote_59 (by decide) (fun c_26 => ?_) (fun c_26 => ?_)
        · have c_26 : i_12.toInt = (-1) := (c_eq (x := i_12.toInt) (y := (-1)) rfl rfl).mp c_26
          refine lv_aload_n hx hb dX7_earliestVote_73 rfl (lv_at hl 5 rfl) ?_
          refine va_get (D := D) (ci := 7) (C := RX7) (T := TX7) (N := 9) hx hb hts iX7 hown hK hP 0 rfl rfl 5 (by decide) (hts _ m338) (fun _ h9 => h9) rfl dX7_earliestVote_74 ?_
          refine lv_iload hx hb dX7_earliestVote_77 (lv_at hl 0 rfl) ?_
          refine va_iald (D := D) hx hb hK hP 3 0 rfl rfl (v_in (x := r_19.toInt) rfl (by omega) (by omega)) dX7_earliestVote_79 ?_
          refine lv_topi (fun x_27 ex_27 => ?_)
          refine lv_istore_n (lv' := [(2, .int x_27), (6, .int r_19), (5, .int i_11), (4, .int r_7), (3, .int i_1), (0, .ref h0), (1, .int i1)]) hx hb dX7_earliestVote_80 rfl hl (by decide) rfl (fun ls hl => ?_)
          obtain ⟨x_28, ex_28⟩ : ∃ y : Int32, y = i_11 + 1 := ⟨_, rfl⟩
          have tx_28 : x_28.toInt = i_11.toInt + 1 := t_add (x := i_11.toInt) (y := 1) ex_28 rfl rfl (by omega) (by omega)
          refine lv_iinc (v := x_28) (lv' := [(5, .int x_28), (2, .int x_27), (6, .int r_19), (4, .int r_7), (3, .int i_1), (0, .ref h0), (1, .int i1)]) hx hb dX7_earliestVote_81 hl (k := 2) rfl (by rw [ex_28]; rfl) (by decide) rfl (fun ls hl => ?_)
          refine lv_goto (tgt := 25) hx hb dX7_earliestVote_84 (by decide) ?_
          exact ih_15 (_, _, _, x_28, x_27) ⟨(show 0 ≤ x_28.toInt by omega), (show x_28.toInt ≤ 12 by omega), hP, hS, lv_sub hl [0, 3, 4, 1, 5, 6] rfl⟩ (show (12 - x_28.toInt).toNat < (12 - i_11.toInt).toNat by omega)
        · have c_26 : ¬ i_12.toInt = (-1) := fun h => c_26 ((c_eq (x := i_12.toInt) (y := (-1)) rfl rfl).mpr h)
          refine lv_aload_n hx hb dX7_earliestVote_62 rfl (lv_at hl 5 rfl) ?_
          refine va_get (D := D) (ci := 7) (C := RX7) (T := TX7) (N := 9) hx hb hts iX7 hown hK hP 0 rfl rfl 5 (by decide) (hts _ m338) (fun _ h9 => h9) rfl dX7_earliestVote_63 ?_
          refine lv_iload hx hb dX7_earliestVote_66 (lv_at hl 0 rfl) ?_
          refine va_iald (D := D) hx hb hK hP 3 0 rfl rfl (v_in (x := r_19.toInt) rfl (by omega) (by omega)) dX7_earliestVote_68 ?_
          refine lv_topi (fun x_29 ex_29 => ?_)
          refine lv_iload_n hx hb dX7_earliestVote_69 rfl (lv_at hl 4 rfl) ?_
          refine lv_icmp_ge (tgt := 81) hx hb dX7_earliestVote_70 (by decide) (fun c_30 => ?_) (fun c_30 => ?_)
          · have c_30 : i_12.toInt ≤ x_29.toInt := (c_le (x := i_12.toInt) (y := x_29.toInt) rfl rfl).mp c_30
            obtain ⟨x_31, ex_31⟩ : ∃ y : Int32, y = i_11 + 1 := ⟨_, rfl⟩
            have tx_31 : x_31.toInt = i_11.toInt + 1 := t_add (x := i_11.toInt) (y := 1) ex_31 rfl rfl (by omega) (by omega)
            refine lv_iinc (v := x_31) (lv' := [(5, .int x_31), (6, .int r_19), (4, .int r_7), (3, .int i_1), (2, .int i_12), (0, .ref h0), (1, .int i1)]) hx hb dX7_earliestVote_81 hl (k := 1) rfl (by rw [ex_31]; rfl) (by decide) rfl (fun ls hl => ?_)
            refine lv_goto (tgt := 25) hx hb dX7_earliestVote_84 (by decide) ?_
            exact ih_15 (_, _, _, x_31, i_12) ⟨(show 0 ≤ x_31.toInt by omega), (show x_31.toInt ≤ 12 by omega), hP, hS, lv_sub hl [0, 2, 3, 4, 5, 6] rfl⟩ (show (12 - x_31.toInt).toNat < (12 - i_11.toInt).toNat by omega)
          · have c_30 : x_29.toInt < i_12.toInt := by have h := mt (c_le (x := i_12.toInt) (y := x_29.toInt) rfl rfl).mpr c_30; omega
            refine lv_aload_n hx hb dX7_earliestVote_73 rfl (lv_at hl 5 rfl) ?_
            refine va_get (D := D) (ci := 7) (C := RX7) (T := TX7) (N := 9) hx hb hts iX7 hown hK hP 0 rfl rfl 5 (by decide) (hts _ m338) (fun _ h9 => h9) rfl dX7_earliestVote_74 ?_
            refine lv_iload hx hb dX7_earliestVote_77 (lv_at hl 0 rfl) ?_
            refine va_iald (D := D) hx hb hK hP 3 0 rfl rfl (v_in (x := r_19.toInt) rfl (by omega) (by omega)) dX7_earliestVote_79 ?_
            refine lv_topi (fun x_32 ex_32 => ?_)
            refine lv_istore_n (lv' := [(2, .int x_32), (6, .int r_19), (5, .int i_11), (4, .int r_7), (3, .int i_1), (0, .ref h0), (1, .int i1)]) hx hb dX7_earliestVote_80 rfl hl (by decide) rfl (fun ls hl => ?_)
            obtain ⟨x_33, ex_33⟩ : ∃ y : Int32, y = i_11 + 1 := ⟨_, rfl⟩
            have tx_33 : x_33.toInt = i_11.toInt + 1 := t_add (x := i_11.toInt) (y := 1) ex_33 rfl rfl (by omega) (by omega)
            refine lv_iinc (v := x_33) (lv' := [(5, .int x_33), (2, .int x_32), (6, .int r_19), (4, .int r_7), (3, .int i_1), (0, .ref h0), (1, .int i1)]) hx hb dX7_earliestVote_81 hl (k := 2) rfl (by rw [ex_33]; rfl) (by decide) rfl (fun ls hl => ?_)
            refine lv_goto (tgt := 25) hx hb dX7_earliestVote_84 (by decide) ?_
            exact ih_15 (_, _, _, x_33, x_32) ⟨(show 0 ≤ x_33.toInt by omega), (show x_33.toInt ≤ 12 by omega), hP, hS, lv_sub hl [0, 3, 4, 1, 5, 6] rfl⟩ (show (12 - x_33.toInt).toNat < (12 - i_11.toInt).toNat by omega)
