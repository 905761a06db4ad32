set_option maxHeartbeats 4000000 in
set_option maxRecDepth 100000 in
theorem c_X11_weightOf2 (l : Launch) (D : va_G) (T : Nat → ClassId) (y1 y16 y17 y18 y19 y2 y20 y21 y22 y23 y24 y25 y26 y27 y28 y29 y3 y30 y31 y32 y36 y4 y40 y41 y42 y5 ym : Nat) (i1 w0 w10 w12 w13 w14 w15 w33 w34 w35 w37 w38 w39 w43 w6 w7 w8 w9 : Int32) (v11 v44 : Int64) (c19 : Nat → Int32) (h_w6 : 0 ≤ w6.toInt ∧ w6.toInt ≤ 1600) (h_w43 : 0 ≤ w43.toInt ∧ w43.toInt ≤ 16) (h_i1 : 0 ≤ i1.toInt ∧ i1.toInt ≤ 4) : Met l yX11_weightOf (wM yX11_weightOf cX11_weightOf 2 (some .int)) ({ frames := 0, cells := 0, slots := 0, locals := 0 }) (va_Pc [.ref ym, .int i1] (pwP D T [(ym, .inr (11, [.int w0, .ref y1, .ref y2, .ref y3, .ref y4, .ref y5, .int w6, .int w7, .int w8, .int w9, .int w10, .long v11, .int w12, .int w13, .int w14, .int w15, .ref y16, .ref y17, .ref y18, .ref y19, .ref y20, .ref y21, .ref y22, .ref y23, .ref y24, .ref y25, .ref y26, .ref y27, .ref y28, .ref y29, .ref y30, .ref y31, .ref y32, .int w33, .int w34, .int w35, .ref y36, .int w37, .int w38, .int w39, .ref y40, .ref y41, .ref y42, .int w43, .long v44])), (y19, .inl (T 0, 75, .inl c19))])) (va_Qi (fun (r : Int32) (u : Unit) => (r = c19 (3 * i1.toInt).toNat)) (fun _ _ => True) (fun _ => False)) 0 0 (fun _ => False) := by
  refine Met.ofW (cc := cX11_weightOf) (maxL := 2) (ret := (some .int)) (by decide) rfl ?_
  intro p e s m args below meth c s₁ B hml hv
  obtain ⟨rfl, hP, hC⟩ := hv
  have hx := B.exec
  have hb := B.bytes
  have hr := B.returns
  have hts : ∀ w ∈ gt, w.before _ s = true := fun w hw => atoms_spec (ws := (wM yX11_weightOf cX11_weightOf 2 (some .int))) B.pre w (List.mem_cons_of_mem _ hw)
  have hown : s.vm.findClass RX11 = some m.cls := findClass_of_methodNamed B.named
  have hlocks := B.notSynchronized
  have hK := hC.1
  have hS : va_S (fun _ => False) s.heap s.heap [] := va_S.rf
  have hl := lv_entry ([.ref ym, .int i1]) (n := 2) (Nat.le_of_ble_eq_true rfl)
  rw [lg_entry_eq]
  generalize (lg_sl ([.ref ym, .int i1]) ++ List.replicate (2 - (lg_sl ([.ref ym, .int i1])).length) Slot.unset).toArray = ls at hl ⊢
  have hl : lv_has ls 2 [(0, .ref ym), (1, .int i1)] := hl
  refine lv_aload_n hx hb dX11_weightOf_0 rfl (lv_at hl 0 rfl) ?_
  refine va_get (D := D) (ci := 11) (C := RX11) (T := TX11) (N := 45) hx hb hts iX11 hown hK hP 0 rfl rfl 19 (by decide) (hts _ m1337) (fun _ h9 => h9) rfl dX11_weightOf_1 ?_
  refine lv_iconst (v := 3) hx hb dX11_weightOf_4 (by decide) ?_
  refine lv_iload_n hx hb dX11_weightOf_5 rfl (lv_at hl 1 rfl) ?_
  refine lv_imul hx hb dX11_weightOf_6 ?_
  refine lv_topi (fun x_1 ex_1 => ?_)
  have tx_1 : x_1.toInt = 3 * i1.toInt := t_mul (x := 3) (y := i1.toInt) ex_1 rfl rfl (by omega) (by omega)
  refine va_iald (D := D) hx hb hK hP 1 0 rfl rfl (v_in (x := x_1.toInt) rfl (by omega) (by omega)) dX11_weightOf_7 ?_
  refine lv_topi (fun x_2 ex_2 => ?_)
  exact W.iret (v := x_2) hx hb hr (fun t ht hW => ⟨⟨x_2, (), rfl, (show x_2 = c19 (3 * i1.toInt).toNat by rw [← tn (show x_1.toInt = 3 * i1.toInt by omega)]; assumption), trivial⟩, hS.F ht⟩) hS.2.2 dX11_weightOf_8

set_option maxHeartbeats 4000000 in
set_option maxRecDepth 100000 in
theorem c_X11_sideOf (l : Launch) (D : va_G) (T : Nat → ClassId) (y1 y16 y17 y18 y19 y2 y20 y21 y22 y23 y24 y25 y26 y27 y28 y29 y3 y30 y31 y32 y36 y4 y40 y41 y42 y5 ym : Nat) (i1 i2 w0 w10 w12 w13 w14 w15 w33 w34 w35 w37 w38 w39 w43 w6 w7 w8 w9 : Int32) (v11 v44 : Int64) (c20 c21 c29 : Nat → Int32) (h_w6 : 0 ≤ w6.toInt ∧ w6.toInt ≤ 1600) (h_w43 : 0 ≤ w43.toInt ∧ w43.toInt ≤ 16) (h_i1 : 0 ≤ i1.toInt ∧ i1.toInt ≤ 4) (h_i2 : 0 ≤ i2.toInt ∧ i2.toInt ≤ 9) (R_c20 : rg 0 10 c20) (P_0 : pg 3 0 0 100 c29) (P_1 : pg 3 1 0 2 c29) (P_2 : vr 0 c20 c21) (P_3 : vr 1 c20 c21) (P_4 : vr 2 c20 c21) (P_5 : vr 3 c20 c21) (hv : i2.toInt < (c20 0).toInt) : Met l yX11_sideOf (wM yX11_sideOf cX11_sideOf 5 (some .int)) ({ frames := 0, cells := 0, slots := 0, locals := 0 }) (va_Pc [.ref ym, .int i1, .int i2] (pwP D T [(ym, .inr (11, [.int w0, .ref y1, .ref y2, .ref y3, .ref y4, .ref y5, .int w6, .int w7, .int w8, .int w9, .int w10, .long v11, .int w12, .int w13, .int w14, .int w15, .ref y16, .ref y17, .ref y18, .ref y19, .ref y20, .ref y21, .ref y22, .ref y23, .ref y24, .ref y25, .ref y26, .ref y27, .ref y28, .ref y29, .ref y30, .ref y31, .ref y32, .int w33, .int w34, .int w35, .ref y36, .int w37, .int w38, .int w39, .ref y40, .ref y41, .ref y42, .int w43, .long v44])), (y20, .inl (T 0, 5, .inl c20)), (y21, .inl (T 0, 400, .inl c21)), (y29, .inl (T 0, 15, .inl c29))])) (va_Qi (fun (r : Int32) (u : Unit) => (r = sdm (c21 (8 * i2.toInt).toNat) (c29 (3 * i1.toInt + 1).toNat) ∧ 0 ≤ r.toInt ∧ r.toInt ≤ 1)) (fun _ _ => True) (fun _ => False)) 0 0 (fun _ => False) := by
  refine Met.ofW (cc := cX11_sideOf) (maxL := 5) (ret := (some .int)) (by decide) rfl ?_
  intro p e s m args below meth c s₁ B hml hv
  obtain ⟨rfl, hP, hC⟩ := hv
  have hx := B.exec
  have hb := B.bytes
  have hr := B.returns
  have hts : ∀ w ∈ gt, w.before _ s = true := fun w hw => atoms_spec (ws := (wM yX11_sideOf cX11_sideOf 5 (some .int))) B.pre w (List.mem_cons_of_mem _ hw)
  have hown : s.vm.findClass RX11 = some m.cls := findClass_of_methodNamed B.named
  have hlocks := B.notSynchronized
  have hK := hC.1
  have hS : va_S (fun _ => False) s.heap s.heap [] := va_S.rf
  have hl := lv_entry ([.ref ym, .int i1, .int i2]) (n := 5) (Nat.le_of_ble_eq_true rfl)
  rw [lg_entry_eq]
  generalize (lg_sl ([.ref ym, .int i1, .int i2]) ++ List.replicate (5 - (lg_sl ([.ref ym, .int i1, .int i2])).length) Slot.unset).toArray = ls at hl ⊢
  have hl : lv_has ls 5 [(0, .ref ym), (1, .int i1), (2, .int i2)] := hl
  have b_y29_0 : 0 ≤ (c29 0).toInt ∧ (c29 0).toInt ≤ 100 := P_0 0
  have b_y29_1 : 0 ≤ (c29 1).toInt ∧ (c29 1).toInt ≤ 2 := P_1 0
  have b_y20 : 0 ≤ (c20 0).toInt ∧ (c20 0).toInt ≤ 10 := R_c20 0
  have b_y20_4 : 0 ≤ (c20 4).toInt ∧ (c20 4).toInt ≤ 10 := R_c20 4
  refine lv_aload_n hx hb dX11_sideOf_0 rfl (lv_at hl 0 rfl) ?_
  refine va_get (D := D) (ci := 11) (C := RX11) (T := TX11) (N := 45) hx hb hts iX11 hown hK hP 0 rfl rfl 21 (by decide) (hts _ m1339) (fun _ h9 => h9) rfl dX11_sideOf_1 ?_
  refine lv_bipush (v := 8) hx hb dX11_sideOf_4 (by decide) ?_
  refine lv_iload_n hx hb dX11_sideOf_6 rfl (lv_at hl 2 rfl) ?_
  refine lv_imul hx hb dX11_sideOf_7 ?_
  refine lv_topi (fun x_1 ex_1 => ?_)
  have tx_1 : x_1.toInt = 8 * i2.toInt := t_mul (x := 8) (y := i2.toInt) ex_1 rfl rfl (by omega) (by omega)
  refine va_iald (D := D) hx hb hK hP 2 0 rfl rfl (v_in (x := x_1.toInt) rfl (by omega) (by omega)) dX11_sideOf_8 ?_
  refine lv_topi (fun x_2 ex_2 => ?_)
  have tx_2 := vr_at P_2 (n := i2.toInt.toNat) ex_2 (by rw [tn (x := x_1) rfl]; omega) (by omega)
  have hA9 : c21 (8 * i2.toInt).toNat = x_2 := by rw [ex_2, tn (show x_1.toInt = 8 * i2.toInt by omega)]
  refine lv_istore_n (lv' := [(3, .int x_2), (0, .ref ym), (1, .int i1), (2, .int i2)]) hx hb dX11_sideOf_9 rfl hl (by decide) rfl (fun ls hl => ?_)
  refine lv_aload_n hx hb dX11_sideOf_10 rfl (lv_at hl 1 rfl) ?_
  refine va_get (D := D) (ci := 11) (C := RX11) (T := TX11) (N := 45) hx hb hts iX11 hown hK hP 0 rfl rfl 29 (by decide) (hts _ m1347) (fun _ h9 => h9) rfl dX11_sideOf_11 ?_
  refine lv_iconst (v := 3) hx hb dX11_sideOf_14 (by decide) ?_
  refine lv_iload_n hx hb dX11_sideOf_15 rfl (lv_at hl 2 rfl) ?_
  refine lv_imul hx hb dX11_sideOf_16 ?_
  refine lv_topi (fun x_3 ex_3 => ?_)
  have tx_3 : x_3.toInt = 3 * i1.toInt := t_mul (x := 3) (y := i1.toInt) ex_3 rfl rfl (by omega) (by omega)
  refine lv_iconst (v := 1) hx hb dX11_sideOf_17 (by decide) ?_
  refine lv_iadd hx hb dX11_sideOf_18 ?_
  refine lv_topi (fun x_4 ex_4 => ?_)
  have tx_4 : x_4.toInt = x_3.toInt + 1 := t_add (x := x_3.toInt) (y := 1) ex_4 rfl rfl (by omega) (by omega)
  refine va_iald (D := D) hx hb hK hP 3 0 rfl rfl (v_in (x := x_4.toInt) rfl (by omega) (by omega)) dX11_sideOf_19 ?_
  refine lv_topi (fun x_5 ex_5 => ?_)
  have tx_5 : 0 ≤ x_5.toInt ∧ x_5.toInt ≤ 2 := pg_at P_1 (j := (i1.toInt.toNat + 0)) ex_5 (by rw [tn (x := x_4) rfl]; omega)
  have qx_5 : x_5.toInt = (c29 (3 * i1.toInt + 1).toNat).toInt := by rw [ex_5, tn (show x_4.toInt = 3 * i1.toInt + 1 by omega)]
  have hB9 : c29 (3 * i1.toInt + 1).toNat = x_5 := by rw [ex_5, tn (show x_4.toInt = 3 * i1.toInt + 1 by omega)]
  refine lv_istore (lv' := [(4, .int x_5), (3, .int x_2), (0, .ref ym), (1, .int i1), (2, .int i2)]) hx hb dX11_sideOf_20 hl (by decide) rfl (fun ls hl => ?_)
  refine lv_iload_n hx hb dX11_sideOf_22 rfl (lv_at hl 1 rfl) ?_
  refine lv_iconst (v := 2) hx hb dX11_sideOf_23 (by decide) ?_
  refine lv_icmp_ge (tgt := 31) hx hb dX11_sideOf_24 (by decide) (fun c_6 => ?_) (fun c_6 => ?_)
  · have c_6 : 2 ≤ x_2.toInt := (c_le (x := 2) (y := x_2.toInt) rfl rfl).mp c_6
    refine lv_iload hx hb dX11_sideOf_31 (lv_at hl 0 rfl) ?_
    refine lv_iconst (v := 2) hx hb dX11_sideOf_33 (by decide) ?_
    refine lv_icmp_ne (tgt := 43) hx hb dX11_sideOf_34 (by decide) (fun c_7 => ?_) (fun c_7 => ?_)
    · have c_7 : ¬ x_5.toInt = 2 := fun h => c_7 ((c_eq (x := x_5.toInt) (y := 2) rfl rfl).mpr h)
      refine lv_iload_n hx hb dX11_sideOf_43 rfl (lv_at hl 1 rfl) ?_
      refine lv_iconst (v := 2) hx hb dX11_sideOf_44 (by decide) ?_
      refine lv_icmp_ne (tgt := 53) hx hb dX11_sideOf_45 (by decide) (fun c_8 => ?_) (fun c_8 => ?_)
      · have c_8 : ¬ x_2.toInt = 2 := fun h => c_8 ((c_eq (x := x_2.toInt) (y := 2) rfl rfl).mpr h)
        refine lv_iconst (v := 1) hx hb dX11_sideOf_53 (by decide) ?_
        refine lv_iload hx hb dX11_sideOf_54 (lv_at hl 0 rfl) ?_
        refine lv_isub hx hb dX11_sideOf_56 ?_
        refine lv_topi (fun x_9 ex_9 => ?_)
        have tx_9 : x_9.toInt = 1 - x_5.toInt := t_sub (x := 1) (y := x_5.toInt) ex_9 rfl rfl (by omega) (by omega)
        exact W.iret (v := x_9) hx hb hr (fun t ht hW => ⟨⟨x_9, (), rfl, (⟨(show x_9 = sdm (c21 (8 * i2.toInt).toNat) (c29 (3 * i1.toInt + 1).toNat) by rw [hA9, hB9]; first | exact sdm_1 (by omega) | exact sdm_3 (by omega) (by omega) | exact sdm_2 (by omega) (by omega) ex_9 | exact sdm_4 (by omega) (by omega) ex_9), (show 0 ≤ x_9.toInt by omega), (show x_9.toInt ≤ 1 by omega)⟩), trivial⟩, hS.F ht⟩) hS.2.2 dX11_sideOf_57
      · have c_8 : x_2.toInt = 2 := (c_eq (x := x_2.toInt) (y := 2) rfl rfl).mp c_8
        refine lv_iload hx hb dX11_sideOf_48 (lv_at hl 0 rfl) ?_
        refine lv_goto (tgt := 57) hx hb dX11_sideOf_50 (by decide) ?_
        exact W.iret (v := x_5) hx hb hr (fun t ht hW => ⟨⟨x_5, (), rfl, (⟨(show x_5 = sdm (c21 (8 * i2.toInt).toNat) (c29 (3 * i1.toInt + 1).toNat) by rw [hA9, hB9]; first | exact sdm_1 (by omega) | exact sdm_3 (by omega) (by omega) | exact sdm_2 (by omega) (by omega) ex_5 | exact sdm_4 (by omega) (by omega) ex_5), (show 0 ≤ x_5.toInt by omega), (show x_5.toInt ≤ 1 by omega)⟩), trivial⟩, hS.F ht⟩) hS.2.2 dX11_sideOf_57
    · have c_7 : x_5.toInt = 2 := (c_eq (x := x_5.toInt) (y := 2) rfl rfl).mp c_7
      refine lv_iload_n hx hb dX11_sideOf_37 rfl (lv_at hl 1 rfl) ?_
      refine lv_iconst (v := 2) hx hb dX11_sideOf_38 (by decide) ?_
      refine lv_isub hx hb dX11_sideOf_39 ?_
      refine lv_topi (fun x_10 ex_10 => ?_)
      have tx_10 : x_10.toInt = x_2.toInt - 2 := t_sub (x := x_2.toInt) (y := 2) ex_10 rfl rfl (by omega) (by omega)
      refine lv_goto (tgt := 57) hx hb dX11_sideOf_40 (by decide) ?_
      exact W.iret (v := x_10) hx hb hr (fun t ht hW => ⟨⟨x_10, (), rfl, (⟨(show x_10 = sdm (c21 (8 * i2.toInt).toNat) (c29 (3 * i1.toInt + 1).toNat) by rw [hA9, hB9]; first | exact sdm_1 (by omega) | exact sdm_3 (by omega) (by omega) | exact sdm_2 (by omega) (by omega) ex_10 | exact sdm_4 (by omega) (by omega) ex_10), (show 0 ≤ x_10.toInt by omega), (show x_10.toInt ≤ 1 by omega)⟩), trivial⟩, hS.F ht⟩) hS.2.2 dX11_sideOf_57
  · have c_6 : x_2.toInt < 2 := by have h := mt (c_le (x := 2) (y := x_2.toInt) rfl rfl).mpr c_6; omega
    refine lv_iload_n hx hb dX11_sideOf_27 rfl (lv_at hl 1 rfl) ?_
    refine lv_goto (tgt := 57) hx hb dX11_sideOf_28 (by decide) ?_
    exact W.iret (v := x_2) hx hb hr (fun t ht hW => ⟨⟨x_2, (), rfl, (⟨(show x_2 = sdm (c21 (8 * i2.toInt).toNat) (c29 (3 * i1.toInt + 1).toNat) by rw [hA9, hB9]; first | exact sdm_1 (by omega) | exact sdm_3 (by omega) (by omega) | exact sdm_2 (by omega) (by omega) ex_2 | exact sdm_4 (by omega) (by omega) ex_2), (show 0 ≤ x_2.toInt by omega), (show x_2.toInt ≤ 1 by omega)⟩), trivial⟩, hS.F ht⟩) hS.2.2 dX11_sideOf_57

set_option maxHeartbeats 4000000 in
set_option maxRecDepth 100000 in
theorem c_X11_sortOf (l : Launch) (D : va_G) (T : Nat → ClassId) (y1 y16 y17 y18 y19 y2 y20 y21 y22 y23 y24 y25 y26 y27 y28 y29 y3 y30 y31 y32 y36 y4 y40 y41 y42 y5 ym : Nat) (i1 i2 w0 w10 w12 w13 w14 w15 w33 w34 w35 w37 w38 w39 w43 w6 w7 w8 w9 : Int32) (v11 v44 : Int64) (c18 c19 c21 c28 : Nat → Int32) (h_w6 : 0 ≤ w6.toInt ∧ w6.toInt ≤ 1600) (h_w43 : 0 ≤ w43.toInt ∧ w43.toInt ≤ 16) (h_i1 : 0 ≤ i1.toInt ∧ i1.toInt ≤ 4) (h_i2 : 0 ≤ i2.toInt ∧ i2.toInt ≤ 9) (R_c18 : rg 0 5 c18) : Met l yX11_sortOf (wM yX11_sortOf cX11_sortOf 6 (some .int)) ({ frames := 1, cells := 0, slots := 0, locals := 21 }) (va_Pc [.ref ym, .int i1, .int i2] (pwP D T [(ym, .inr (11, [.int w0, .ref y1, .ref y2, .ref y3, .ref y4, .ref y5, .int w6, .int w7, .int w8, .int w9, .int w10, .long v11, .int w12, .int w13, .int w14, .int w15, .ref y16, .ref y17, .ref y18, .ref y19, .ref y20, .ref y21, .ref y22, .ref y23, .ref y24, .ref y25, .ref y26, .ref y27, .ref y28, .ref y29, .ref y30, .ref y31, .ref y32, .int w33, .int w34, .int w35, .ref y36, .int w37, .int w38, .int w39, .ref y40, .ref y41, .ref y42, .int w43, .long v44])), (y18, .inl (T 0, 5, .inl c18)), (y19, .inl (T 0, 75, .inl c19)), (y21, .inl (T 0, 400, .inl c21)), (y28, .inl (T 0, 25, .inl c28))])) (va_Qi (fun (r : Int32) (u : Unit) => (-1 ≤ r.toInt ∧ r.toInt ≤ 4 ∧ ((r.toInt = -1 ∧ nsb c28 c19 (c21 (8 * i2.toInt + 4).toNat).toInt i1.toInt (c18 0).toInt.toNat) ∨ (0 ≤ r.toInt ∧ ¬ nsb c28 c19 (c21 (8 * i2.toInt + 4).toNat).toInt i1.toInt (c18 0).toInt.toNat)))) (fun _ _ => True) (fun _ => False)) 0 0 (fun _ => False) := by
  refine Met.ofW (cc := cX11_sortOf) (maxL := 6) (ret := (some .int)) (by decide) rfl ?_
  intro p e s m args below meth c s₁ B hml hv
  obtain ⟨rfl, hP, hC⟩ := hv
  have hx := B.exec
  have hb := B.bytes
  have hr := B.returns
  have hts : ∀ w ∈ gt, w.before _ s = true := fun w hw => atoms_spec (ws := (wM yX11_sortOf cX11_sortOf 6 (some .int))) B.pre w (List.mem_cons_of_mem _ hw)
  have hown : s.vm.findClass RX11 = some m.cls := findClass_of_methodNamed B.named
  have hlocks := B.notSynchronized
  have hK := hC.1
  have hS : va_S (fun _ => False) s.heap s.heap [] := va_S.rf
  have hl := lv_entry ([.ref ym, .int i1, .int i2]) (n := 6) (Nat.le_of_ble_eq_true rfl)
  rw [lg_entry_eq]
  generalize (lg_sl ([.ref ym, .int i1, .int i2]) ++ List.replicate (6 - (lg_sl ([.ref ym, .int i1, .int i2])).length) Slot.unset).toArray = ls at hl ⊢
  have hl : lv_has ls 6 [(0, .ref ym), (1, .int i1), (2, .int i2)] := hl
  have b_y18 : 0 ≤ (c18 0).toInt ∧ (c18 0).toInt ≤ 5 := R_c18 0
  have b_y18_4 : 0 ≤ (c18 4).toInt ∧ (c18 4).toInt ≤ 5 := R_c18 4
  refine lv_iconst (v := (-1)) hx hb dX11_sortOf_0 (by decide) ?_
  refine lv_istore_n (lv' := [(3, .int (-1)), (0, .ref ym), (1, .int i1), (2, .int i2)]) hx hb dX11_sortOf_1 rfl hl (by decide) rfl (fun ls hl => ?_)
  refine lv_aload_n hx hb dX11_sortOf_2 rfl (lv_at hl 1 rfl) ?_
  refine va_get (D := D) (ci := 11) (C := RX11) (T := TX11) (N := 45) hx hb hts iX11 hown hK hP 0 rfl rfl 21 (by decide) (hts _ m1339) (fun _ h9 => h9) rfl dX11_sortOf_3 ?_
  refine lv_bipush (v := 8) hx hb dX11_sortOf_6 (by decide) ?_
  refine lv_iload_n hx hb dX11_sortOf_8 rfl (lv_at hl 3 rfl) ?_
  refine lv_imul hx hb dX11_sortOf_9 ?_
  refine lv_topi (fun x_1 ex_1 => ?_)
  have tx_1 : x_1.toInt = 8 * i2.toInt := t_mul (x := 8) (y := i2.toInt) ex_1 rfl rfl (by omega) (by omega)
  refine lv_iconst (v := 3) hx hb dX11_sortOf_10 (by decide) ?_
  refine lv_iadd hx hb dX11_sortOf_11 ?_
  refine lv_topi (fun x_2 ex_2 => ?_)
  have tx_2 : x_2.toInt = x_1.toInt + 3 := t_add (x := x_1.toInt) (y := 3) ex_2 rfl rfl (by omega) (by omega)
  refine va_iald (D := D) hx hb hK hP 3 0 rfl rfl (v_in (x := x_2.toInt) rfl (by omega) (by omega)) dX11_sortOf_12 ?_
  refine lv_topi (fun x_3 ex_3 => ?_)
  refine lv_iconst (v := 1) hx hb dX11_sortOf_13 (by decide) ?_
  refine lv_icmp_ne (tgt := 21) hx hb dX11_sortOf_14 (by decide) (fun c_4 => ?_) (fun c_4 => ?_)
  · have c_4 : ¬ x_3.toInt = 1 := fun h => c_4 ((c_eq (x := x_3.toInt) (y := 1) rfl rfl).mpr h)
    refine lv_iconst (v := 0) hx hb dX11_sortOf_21 (by decide) ?_
    refine lv_istore (lv' := [(4, .int 0), (3, .int (-1)), (0, .ref ym), (1, .int i1), (2, .int i2)]) hx hb dX11_sortOf_22 hl (by decide) rfl (fun ls hl => ?_)
    refine lv_iconst (v := 0) hx hb dX11_sortOf_24 (by decide) ?_
    refine lv_istore (lv' := [(5, .int 0), (4, .int 0), (3, .int (-1)), (0, .ref ym), (1, .int i1), (2, .int i2)]) hx hb dX11_sortOf_25 hl (by decide) rfl (fun ls hl => ?_)
    refine lp_ind (fun (a : Heap × List Loc × Array Slot × (Int32) × (Int32)) => match a with | (H, locs, ls, i_5, i_6) => W p l e _ s m _ below meth c H locs 0 0 _ (F0 m 27 ls [])) (fun (a : Heap × List Loc × Array Slot × (Int32) × (Int32)) => match a with | (H, locs, ls, i_5, i_6) => 0 ≤ i_5.toInt ∧ i_5.toInt ≤ 5 ∧ (-1) ≤ i_6.toInt ∧ i_6.toInt ≤ 4 ∧ sbI c28 c19 (c21 (8 * i2.toInt + 4).toNat).toInt i1.toInt i_6.toInt i_5.toInt.toNat (c18 0).toInt.toNat ∧ va_P D vwCl [(ym, .inr (11, [.int w0, .ref y1, .ref y2, .ref y3, .ref y4, .ref y5, .int w6, .int w7, .int w8, .int w9, .int w10, .long v11, .int w12, .int w13, .int w14, .int w15, .ref y16, .ref y17, .ref y18, .ref y19, .ref y20, .ref y21, .ref y22, .ref y23, .ref y24, .ref y25, .ref y26, .ref y27, .ref y28, .ref y29, .ref y30, .ref y31, .ref y32, .int w33, .int w34, .int w35, .ref y36, .int w37, .int w38, .int w39, .ref y40, .ref y41, .ref y42, .int w43, .long v44])), (y18, .inl (T 0, 5, .inl c18)), (y19, .inl (T 0, 75, .inl c19)), (y21, .inl (T 0, 400, .inl c21)), (y28, .inl (T 0, 25, .inl c28))] H ∧ va_S (fun _ => False) s.heap H locs ∧ lv_has ls 6 [(5, .int i_5), (4, .int 0), (3, .int i_6), (0, .ref ym), (1, .int i1), (2, .int i2)]) (fun (a : Heap × List Loc × Array Slot × (Int32) × (Int32)) => match a with | (H, locs, ls, i_5, i_6) => (5 - i_5.toInt).toNat) ?_ (_, _, ls, (0 : Int32), ((-1) : Int32)) ⟨(show 0 ≤ (0 : Int) by omega), (show (0 : Int) ≤ 5 by omega), (show (-1) ≤ (-1 : Int) by omega), (show (-1 : Int) ≤ 4 by omega), (show sbI c28 c19 (c21 (8 * i2.toInt + 4).toNat).toInt i1.toInt (-1 : Int) (0 : Int).toNat (c18 0).toInt.toNat from sbI_0), hP, hS, lv_sub hl [0, 1, 2, 3, 4, 5] rfl⟩
    rintro ⟨H, locs, ls, i_5, i_6⟩ ⟨c_7, c_8, c_9, c_10, c_11, hP, hS, hl⟩ ih_12
    refine lv_iload hx hb dX11_sortOf_27 (lv_at hl 0 rfl) ?_
    refine lv_aload_n hx hb dX11_sortOf_29 rfl (lv_at hl 3 rfl) ?_
    refine va_get (D := D) (ci := 11) (C := RX11) (T := TX11) (N := 45) hx hb hts iX11 hown hK hP 0 rfl rfl 18 (by decide) (hts _ m1336) (fun _ h9 => h9) rfl dX11_sortOf_30 ?_
    refine lv_iconst (v := 0) hx hb dX11_sortOf_33 (by decide) ?_
    refine va_iald (D := D) hx hb hK hP 1 0 rfl rfl (by unfold vp_in; decide) dX11_sortOf_34 ?_
    refine lv_topi (fun x_13 ex_13 => ?_)
    have tx_13 : 0 ≤ x_13.toInt ∧ x_13.toInt ≤ 5 := rg_at R_c18 ex_13
    have qx_13 : x_13.toInt = (c18 0).toInt := by rw [ex_13]; rfl
    refine lv_icmp_ge (tgt := 125) hx hb dX11_sortOf_35 (by decide) (fun c_14 => ?_) (fun c_14 => ?_)
    · have c_14 : x_13.toInt ≤ i_5.toInt := (c_le (x := x_13.toInt) (y := i_5.toInt) rfl rfl).mp c_14
      refine lv_iload_n hx hb dX11_sortOf_125 rfl (lv_at hl 2 rfl) ?_
      exact W.iret (v := i_6) hx hb hr (fun t ht hW => ⟨⟨i_6, (), rfl, (⟨(show -1 ≤ i_6.toInt by omega), (show i_6.toInt ≤ 4 by omega), (show ((i_6.toInt = -1 ∧ nsb c28 c19 (c21 (8 * i2.toInt + 4).toNat).toInt i1.toInt (c18 0).toInt.toNat) ∨ (0 ≤ i_6.toInt ∧ ¬ nsb c28 c19 (c21 (8 * i2.toInt + 4).toNat).toInt i1.toInt (c18 0).toInt.toNat)) from sbI_end c_11 (by omega))⟩), trivial⟩, hS.F ht⟩) hS.2.2 dX11_sortOf_126
    · have c_14 : i_5.toInt < x_13.toInt := by have h := mt (c_le (x := x_13.toInt) (y := i_5.toInt) rfl rfl).mpr c_14; omega
      refine lv_aload_n hx hb dX11_sortOf_38 rfl (lv_at hl 3 rfl) ?_
      refine va_get (D := D) (ci := 11) (C := RX11) (T := TX11) (N := 45) hx hb hts iX11 hown hK hP 0 rfl rfl 28 (by decide) (hts _ m1346) (fun _ h9 => h9) rfl dX11_sortOf_39 ?_
      refine lv_iconst (v := 5) hx hb dX11_sortOf_42 (by decide) ?_
      refine lv_iload_n hx hb dX11_sortOf_43 rfl (lv_at hl 4 rfl) ?_
      refine lv_imul hx hb dX11_sortOf_44 ?_
      refine lv_topi (fun x_15 ex_15 => ?_)
      have tx_15 : x_15.toInt = 5 * i1.toInt := t_mul (x := 5) (y := i1.toInt) ex_15 rfl rfl (by omega) (by omega)
      refine lv_iload hx hb dX11_sortOf_45 (lv_at hl 0 rfl) ?_
      refine lv_iadd hx hb dX11_sortOf_47 ?_
      refine lv_topi (fun x_16 ex_16 => ?_)
      have tx_16 : x_16.toInt = x_15.toInt + i_5.toInt := t_add (x := x_15.toInt) (y := i_5.toInt) ex_16 rfl rfl (by omega) (by omega)
      refine va_iald (D := D) hx hb hK hP 4 0 rfl rfl (v_in (x := x_16.toInt) rfl (by omega) (by omega)) dX11_sortOf_48 ?_
      refine lv_topi (fun x_17 ex_17 => ?_)
      have qx_17 : x_17.toInt = (c28 (5 * i1.toInt + i_5.toInt).toNat).toInt := by rw [ex_17, tn (show x_16.toInt = 5 * i1.toInt + i_5.toInt by omega)]
      refine lv_if_eq (tgt := 119) hx hb dX11_sortOf_49 (by decide) (fun c_18 => ?_) (fun c_18 => ?_)
      · have c_18 : x_17.toInt = 0 := (c_eq (x := x_17.toInt) (y := 0) rfl rfl).mp c_18
        obtain ⟨x_19, ex_19⟩ : ∃ y : Int32, y = i_5 + 1 := ⟨_, rfl⟩
        have tx_19 : x_19.toInt = i_5.toInt + 1 := t_add (x := i_5.toInt) (y := 1) ex_19 rfl rfl (by omega) (by omega)
        refine lv_iinc (v := x_19) (lv' := [(5, .int x_19), (4, .int 0), (3, .int i_6), (0, .ref ym), (1, .int i1), (2, .int i2)]) hx hb dX11_sortOf_119 hl (k := 0) rfl (by rw [ex_19]; rfl) (by decide) rfl (fun ls hl => ?_)
        refine lv_goto (tgt := 27) hx hb dX11_sortOf_122 (by decide) ?_
        exact ih_12 (_, _, _, x_19, i_6) ⟨(show 0 ≤ x_19.toInt by omega), (show x_19.toInt ≤ 5 by omega), (show (-1) ≤ i_6.toInt by omega), (show i_6.toInt ≤ 4 by omega), (show sbI c28 c19 (c21 (8 * i2.toInt + 4).toNat).toInt i1.toInt i_6.toInt x_19.toInt.toNat (c18 0).toInt.toNat by first | exact sbI_skip c_11 (by omega) (sb_1 (k := i_5.toInt) (by omega) (by omega)) | exact sbI_skip c_11 (by omega) (sb_2 (k := i_5.toInt) (by omega) (by omega)) | exact sbI_take (k := i_5.toInt.toNat) (by omega) (sb_n (k := i_5.toInt) (by omega) (by omega) (by omega)) (by omega) | exact sbI_keep c_11 (by omega)), hP, hS, lv_sub hl [0, 1, 2, 3, 4, 5] rfl⟩ (show (5 - x_19.toInt).toNat < (5 - i_5.toInt).toNat by omega)
      · have c_18 : ¬ x_17.toInt = 0 := fun h => c_18 ((c_eq (x := x_17.toInt) (y := 0) rfl rfl).mpr h)
        refine lv_aload_n hx hb dX11_sortOf_52 rfl (lv_at hl 3 rfl) ?_
        refine lv_iload hx hb dX11_sortOf_53 (lv_at hl 0 rfl) ?_
        refine puI (cV (As := [.int i_5]) (rest := []) ⟨hx, hb, hml, hown, hts⟩ (c_X11_weightOf2 l D T y1 y16 y17 y18 y19 y2 y20 y21 y22 y23 y24 y25 y26 y27 y28 y29 y3 y30 y31 y32 y36 y4 y40 y41 y42 y5 ym i_5 w0 w10 w12 w13 w14 w15 w33 w34 w35 w37 w38 w39 w43 w6 w7 w8 w9 v11 v44 c19 ⟨by omega, by omega⟩ ⟨by omega, by omega⟩ ⟨by omega, by omega⟩) k_X11_weightOf v_X11_weightOf m1626 rfl rfl ⟨(Nat.le_of_ble_eq_true rfl), (Nat.le_of_ble_eq_true rfl)⟩ (preP hC (hP.sub (ws' := [(ym, .inr (11, [.int w0, .ref y1, .ref y2, .ref y3, .ref y4, .ref y5, .int w6, .int w7, .int w8, .int w9, .int w10, .long v11, .int w12, .int w13, .int w14, .int w15, .ref y16, .ref y17, .ref y18, .ref y19, .ref y20, .ref y21, .ref y22, .ref y23, .ref y24, .ref y25, .ref y26, .ref y27, .ref y28, .ref y29, .ref y30, .ref y31, .ref y32, .int w33, .int w34, .int w35, .ref y36, .int w37, .int w38, .int w39, .ref y40, .ref y41, .ref y42, .int w43, .long v44])), (y19, .inl (T 0, 75, .inl c19))]) [0, 2] rfl)) (va_recv hK hP (ci := 11) (q0 := 0) rfl rfl) rfl hl.1 rfl (Nat.le_of_ble_eq_true rfl) dX11_sortOf_55 ⟨(Nat.le_of_ble_eq_true rfl), (Nat.le_of_ble_eq_true rfl)⟩) hS hP (fun r_20 H locs hw hP hS => ?_)
        have w_22 : (r_20 = c19 (3 * i_5.toInt).toNat) := hw
        obtain c_23 := w_22
        have qr_20 : r_20.toInt = (c19 (3 * i_5.toInt).toNat).toInt := congrArg Int32.toInt (show r_20 = c19 (3 * i_5.toInt).toNat by assumption)
        refine lv_aload_n hx hb dX11_sortOf_58 rfl (lv_at hl 3 rfl) ?_
        refine va_get (D := D) (ci := 11) (C := RX11) (T := TX11) (N := 45) hx hb hts iX11 hown hK hP 0 rfl rfl 21 (by decide) (hts _ m1339) (fun _ h9 => h9) rfl dX11_sortOf_59 ?_
        refine lv_bipush (v := 8) hx hb dX11_sortOf_62 (by decide) ?_
        refine lv_iload_n hx hb dX11_sortOf_64 rfl (lv_at hl 5 rfl) ?_
        refine lv_imul hx hb dX11_sortOf_65 ?_
        refine lv_topi (fun x_24 ex_24 => ?_)
        have tx_24 : x_24.toInt = 8 * i2.toInt := t_mul (x := 8) (y := i2.toInt) ex_24 rfl rfl (by omega) (by omega)
        refine lv_iconst (v := 4) hx hb dX11_sortOf_66 (by decide) ?_
        refine lv_iadd hx hb dX11_sortOf_67 ?_
        refine lv_topi (fun x_25 ex_25 => ?_)
        have tx_25 : x_25.toInt = x_24.toInt + 4 := t_add (x := x_24.toInt) (y := 4) ex_25 rfl rfl (by omega) (by omega)
        refine va_iald (D := D) hx hb hK hP 3 0 rfl rfl (v_in (x := x_25.toInt) rfl (by omega) (by omega)) dX11_sortOf_68 ?_
        refine lv_topi (fun x_26 ex_26 => ?_)
        have qx_26 : x_26.toInt = (c21 (8 * i2.toInt + 4).toNat).toInt := by rw [ex_26, tn (show x_25.toInt = 8 * i2.toInt + 4 by omega)]
        refine lv_icmp_le (tgt := 75) hx hb dX11_sortOf_69 (by decide) (fun c_27 => ?_) (fun c_27 => ?_)
        · have c_27 : r_20.toInt ≤ x_26.toInt := (c_le (x := r_20.toInt) (y := x_26.toInt) rfl rfl).mp c_27
          refine lv_iload_n hx hb dX11_sortOf_75 rfl (lv_at hl 2 rfl) ?_
          refine lv_iconst (v := (-1)) hx hb dX11_sortOf_76 (by decide) ?_
          refine lv_icmp_eq (tgt := 116) hx hb dX11_sortOf_77 (by decide) (fun c_28 => ?_) (fun c_28 => ?_)
          · have c_28 : i_6.toInt = (-1) := (c_eq (x := i_6.toInt) (y := (-1)) rfl rfl).mp c_28
            refine lv_iload hx hb dX11_sortOf_116 (lv_at hl 0 rfl) ?_
            refine lv_istore_n (lv' := [(3, .int i_5), (5, .int i_5), (4, .int 0), (0, .ref ym), (1, .int i1), (2, .int i2)]) hx hb dX11_sortOf_118 rfl hl (by decide) rfl (fun ls hl => ?_)
            obtain ⟨x_29, ex_29⟩ : ∃ y : Int32, y = i_5 + 1 := ⟨_, rfl⟩
            have tx_29 : x_29.toInt = i_5.toInt + 1 := t_add (x := i_5.toInt) (y := 1) ex_29 rfl rfl (by omega) (by omega)
            refine lv_iinc (v := x_29) (lv' := [(5, .int x_29), (3, .int i_5), (4, .int 0), (0, .ref ym), (1, .int i1), (2, .int i2)]) hx hb dX11_sortOf_119 hl (k := 1) rfl (by rw [ex_29]; rfl) (by decide) rfl (fun ls hl => ?_)
            refine lv_goto (tgt := 27) hx hb dX11_sortOf_122 (by decide) ?_
            exact ih_12 (_, _, _, x_29, i_5) ⟨(show 0 ≤ x_29.toInt by omega), (show x_29.toInt ≤ 5 by omega), (show (-1) ≤ i_5.toInt by omega), (show i_5.toInt ≤ 4 by omega), (show sbI c28 c19 (c21 (8 * i2.toInt + 4).toNat).toInt i1.toInt i_5.toInt x_29.toInt.toNat (c18 0).toInt.toNat by first | exact sbI_skip c_11 (by omega) (sb_1 (k := i_5.toInt) (by omega) (by omega)) | exact sbI_skip c_11 (by omega) (sb_2 (k := i_5.toInt) (by omega) (by omega)) | exact sbI_take (k := i_5.toInt.toNat) (by omega) (sb_n (k := i_5.toInt) (by omega) (by omega) (by omega)) (by omega) | exact sbI_keep c_11 (by omega)), hP, hS, lv_sub hl [0, 2, 1, 3, 4, 5] rfl⟩ (show (5 - x_29.toInt).toNat < (5 - i_5.toInt).toNat by omega)
          · have c_28 : ¬ i_6.toInt = (-1) := fun h => c_28 ((c_eq (x := i_6.toInt) (y := (-1)) rfl rfl).mpr h)
            refine lv_iload hx hb dX11_sortOf_80 (lv_at hl 1 rfl) ?_
            refine lv_if_eq (tgt := 102) hx hb dX11_sortOf_82 (by decide) (fun _ => ?_) (fun c_30 => absurd (by decide) c_30)
            refine lv_aload_n hx hb dX11_sortOf_102 rfl (lv_at hl 3 rfl) ?_
            refine lv_iload hx hb dX11_sortOf_103 (lv_at hl 0 rfl) ?_
            refine puI (cV (As := [.int i_5]) (rest := []) ⟨hx, hb, hml, hown, hts⟩ (c_X11_weightOf2 l D T y1 y16 y17 y18 y19 y2 y20 y21 y22 y23 y24 y25 y26 y27 y28 y29 y3 y30 y31 y32 y36 y4 y40 y41 y42 y5 ym i_5 w0 w10 w12 w13 w14 w15 w33 w34 w35 w37 w38 w39 w43 w6 w7 w8 w9 v11 v44 c19 ⟨by omega, by omega⟩ ⟨by omega, by omega⟩ ⟨by omega, by omega⟩) k_X11_weightOf v_X11_weightOf m1626 rfl rfl ⟨(Nat.le_of_ble_eq_true rfl), (Nat.le_of_ble_eq_true rfl)⟩ (preP hC (hP.sub (ws' := [(ym, .inr (11, [.int w0, .ref y1, .ref y2, .ref y3, .ref y4, .ref y5, .int w6, .int w7, .int w8, .int w9, .int w10, .long v11, .int w12, .int w13, .int w14, .int w15, .ref y16, .ref y17, .ref y18, .ref y19, .ref y20, .ref y21, .ref y22, .ref y23, .ref y24, .ref y25, .ref y26, .ref y27, .ref y28, .ref y29, .ref y30, .ref y31, .ref y32, .int w33, .int w34, .int w35, .ref y36, .int w37, .int w38, .int w39, .ref y40, .ref y41, .ref y42, .int w43, .long v44])), (y19, .inl (T 0, 75, .inl c19))]) [0, 2] rfl)) (va_recv hK hP (ci := 11) (q0 := 0) rfl rfl) rfl hl.1 rfl (Nat.le_of_ble_eq_true rfl) dX11_sortOf_105 ⟨(Nat.le_of_ble_eq_true rfl), (Nat.le_of_ble_eq_true rfl)⟩) hS hP (fun r_31 H locs hw hP hS => ?_)
            have w_33 : (r_31 = c19 (3 * i_5.toInt).toNat) := hw
            obtain c_34 := w_33
            have qr_31 : r_31.toInt = (c19 (3 * i_5.toInt).toNat).toInt := congrArg Int32.toInt (show r_31 = c19 (3 * i_5.toInt).toNat by assumption)
            refine lv_aload_n hx hb dX11_sortOf_108 rfl (lv_at hl 3 rfl) ?_
            refine lv_iload_n hx hb dX11_sortOf_109 rfl (lv_at hl 2 rfl) ?_
            refine puI (cV (As := [.int i_6]) (rest := [.int r_31]) ⟨hx, hb, hml, hown, hts⟩ (c_X11_weightOf2 l D T y1 y16 y17 y18 y19 y2 y20 y21 y22 y23 y24 y25 y26 y27 y28 y29 y3 y30 y31 y32 y36 y4 y40 y41 y42 y5 ym i_6 w0 w10 w12 w13 w14 w15 w33 w34 w35 w37 w38 w39 w43 w6 w7 w8 w9 v11 v44 c19 ⟨by omega, by omega⟩ ⟨by omega, by omega⟩ ⟨by omega, by omega⟩) k_X11_weightOf v_X11_weightOf m1626 rfl rfl ⟨(Nat.le_of_ble_eq_true rfl), (Nat.le_of_ble_eq_true rfl)⟩ (preP hC (hP.sub (ws' := [(ym, .inr (11, [.int w0, .ref y1, .ref y2, .ref y3, .ref y4, .ref y5, .int w6, .int w7, .int w8, .int w9, .int w10, .long v11, .int w12, .int w13, .int w14, .int w15, .ref y16, .ref y17, .ref y18, .ref y19, .ref y20, .ref y21, .ref y22, .ref y23, .ref y24, .ref y25, .ref y26, .ref y27, .ref y28, .ref y29, .ref y30, .ref y31, .ref y32, .int w33, .int w34, .int w35, .ref y36, .int w37, .int w38, .int w39, .ref y40, .ref y41, .ref y42, .int w43, .long v44])), (y19, .inl (T 0, 75, .inl c19))]) [0, 2] rfl)) (va_recv hK hP (ci := 11) (q0 := 0) rfl rfl) rfl hl.1 rfl (Nat.le_of_ble_eq_true rfl) dX11_sortOf_110 ⟨(Nat.le_of_ble_eq_true rfl), (Nat.le_of_ble_eq_true rfl)⟩) hS hP (fun r_35 H locs hw hP hS => ?_)
            have w_37 : (r_35 = c19 (3 * i_6.toInt).toNat) := hw
            obtain c_38 := w_37
            have qr_35 : r_35.toInt = (c19 (3 * i_6.toInt).toNat).toInt := congrArg Int32.toInt (show r_35 = c19 (3 * i_6.toInt).toNat by assumption)
            refine lv_icmp_ge (tgt := 119) hx hb dX11_sortOf_113 (by decide) (fun c_39 => ?_) (fun c_39 => ?_)
            · have c_39 : r_35.toInt ≤ r_31.toInt := (c_le (x := r_35.toInt) (y := r_31.toInt) rfl rfl).mp c_39
              obtain ⟨x_40, ex_40⟩ : ∃ y : Int32, y = i_5 + 1 := ⟨_, rfl⟩
              have tx_40 : x_40.toInt = i_5.toInt + 1 := t_add (x := i_5.toInt) (y := 1) ex_40 rfl rfl (by omega) (by omega)
              refine lv_iinc (v := x_40) (lv' := [(5, .int x_40), (4, .int 0), (3, .int i_6), (0, .ref ym), (1, .int i1), (2, .int i2)]) hx hb dX11_sortOf_119 hl (k := 0) rfl (by rw [ex_40]; rfl) (by decide) rfl (fun ls hl => ?_)
              refine lv_goto (tgt := 27) hx hb dX11_sortOf_122 (by decide) ?_
              exact ih_12 (_, _, _, x_40, i_6) ⟨(show 0 ≤ x_40.toInt by omega), (show x_40.toInt ≤ 5 by omega), (show (-1) ≤ i_6.toInt by omega), (show i_6.toInt ≤ 4 by omega), (show sbI c28 c19 (c21 (8 * i2.toInt + 4).toNat).toInt i1.toInt i_6.toInt x_40.toInt.toNat (c18 0).toInt.toNat by first | exact sbI_skip c_11 (by omega) (sb_1 (k := i_5.toInt) (by omega) (by omega)) | exact sbI_skip c_11 (by omega) (sb_2 (k := i_5.toInt) (by omega) (by omega)) | exact sbI_take (k := i_5.toInt.toNat) (by omega) (sb_n (k := i_5.toInt) (by omega) (by omega) (by omega)) (by omega) | exact sbI_keep c_11 (by omega)), hP, hS, lv_sub hl [0, 1, 2, 3, 4, 5] rfl⟩ (show (5 - x_40.toInt).toNat < (5 - i_5.toInt).toNat by omega)
            · have c_39 : r_31.toInt < r_35.toInt := by have h := mt (c_le (x := r_35.toInt) (y := r_31.toInt) rfl rfl).mpr c_39; omega
              refine lv_iload hx hb dX11_sortOf_116 (lv_at hl 0 rfl) ?_
              refine lv_istore_n (lv' := [(3, .int i_5), (5, .int i_5), (4, .int 0), (0, .ref ym), (1, .int i1), (2, .int i2)]) hx hb dX11_sortOf_118 rfl hl (by decide) rfl (fun ls hl => ?_)
              obtain ⟨x_41, ex_41⟩ : ∃ y : Int32, y = i_5 + 1 := ⟨_, rfl⟩
              have tx_41 : x_41.toInt = i_5.toInt + 1 := t_add (x := i_5.toInt) (y := 1) ex_41 rfl rfl (by omega) (by omega)
              refine lv_iinc (v := x_41) (lv' := [(5, .int x_41), (3, .int i_5), (4, .int 0), (0, .ref ym), (1, .int i1), (2, .int i2)]) hx hb dX11_sortOf_119 hl (k := 1) rfl (by rw [ex_41]; rfl) (by decide) rfl (fun ls hl => ?_)
              refine lv_goto (tgt := 27) hx hb dX11_sortOf_122 (by decide) ?_
              exact ih_12 (_, _, _, x_41, i_5) ⟨(show 0 ≤ x_41.toInt by omega), (show x_41.toInt ≤ 5 by omega), (show (-1) ≤ i_5.toInt by omega), (show i_5.toInt ≤ 4 by omega), (show sbI c28 c19 (c21 (8 * i2.toInt + 4).toNat).toInt i1.toInt i_5.toInt x_41.toInt.toNat (c18 0).toInt.toNat by first | exact sbI_skip c_11 (by omega) (sb_1 (k := i_5.toInt) (by omega) (by omega)) | exact sbI_skip c_11 (by omega) (sb_2 (k := i_5.toInt) (by omega) (by omega)) | exact sbI_take (k := i_5.toInt.toNat) (by omega) (sb_n (k := i_5.toInt) (by omega) (by omega) (by omega)) (by omega) | exact sbI_keep c_11 (by omega)), hP, hS, lv_sub hl [0, 2, 1, 3, 4, 5] rfl⟩ (show (5 - x_41.toInt).toNat < (5 - i_5.toInt).toNat by omega)
        · have c_27 : x_26.toInt < r_20.toInt := by have h := mt (c_le (x := r_20.toInt) (y := x_26.toInt) rfl rfl).mpr c_27; omega
          refine lv_goto (tgt := 119) hx hb dX11_sortOf_72 (by decide) ?_
          obtain ⟨x_42, ex_42⟩ : ∃ y : Int32, y = i_5 + 1 := ⟨_, rfl⟩
          have tx_42 : x_42.toInt = i_5.toInt + 1 := t_add (x := i_5.toInt) (y := 1) ex_42 rfl rfl (by omega) (by omega)
          refine lv_iinc (v := x_42) (lv' := [(5, .int x_42), (4, .int 0), (3, .int i_6), (0, .ref ym), (1, .int i1), (2, .int i2)]) hx hb dX11_sortOf_119 hl (k := 0) rfl (by rw [ex_42]; rfl) (by decide) rfl (fun ls hl => ?_)
          refine lv_goto (tgt := 27) hx hb dX11_sortOf_122 (by decide) ?_
          exact ih_12 (_, _, _, x_42, i_6) ⟨(show 0 ≤ x_42.toInt by omega), (show x_42.toInt ≤ 5 by omega), (show (-1) ≤ i_6.toInt by omega), (show i_6.toInt ≤ 4 by omega), (show sbI c28 c19 (c21 (8 * i2.toInt + 4).toNat).toInt i1.toInt i_6.toInt x_42.toInt.toNat (c18 0).toInt.toNat by first | exact sbI_skip c_11 (by omega) (sb_1 (k := i_5.toInt) (by omega) (by omega)) | exact sbI_skip c_11 (by omega) (sb_2 (k := i_5.toInt) (by omega) (by omega)) | exact sbI_take (k := i_5.toInt.toNat) (by omega) (sb_n (k := i_5.toInt) (by omega) (by omega) (by omega)) (by omega) | exact sbI_keep c_11 (by omega)), hP, hS, lv_sub hl [0, 1, 2, 3, 4, 5] rfl⟩ (show (5 - x_42.toInt).toNat < (5 - i_5.toInt).toNat by omega)
  · have c_4 : x_3.toInt = 1 := (c_eq (x := x_3.toInt) (y := 1) rfl rfl).mp c_4
    refine lv_iconst (v := 1) hx hb dX11_sortOf_17 (by decide) ?_
    refine lv_goto (tgt := 22) hx hb dX11_sortOf_18 (by decide) ?_
    refine lv_istore (lv' := [(4, .int 1), (3, .int (-1)), (0, .ref ym), (1, .int i1), (2, .int i2)]) hx hb dX11_sortOf_22 hl (by decide) rfl (fun ls hl => ?_)
    refine lv_iconst (v := 0) hx hb dX11_sortOf_24 (by decide) ?_
    refine lv_istore (lv' := [(5, .int 0), (4, .int 1), (3, .int (-1)), (0, .ref ym), (1, .int i1), (2, .int i2)]) hx hb dX11_sortOf_25 hl (by decide) rfl (fun ls hl => ?_)
    refine lp_ind (fun (a : Heap × List Loc × Array Slot × (Int32) × (Int32)) => match a with | (H, locs, ls, i_43, i_44) => W p l e _ s m _ below meth c H locs 0 0 _ (F0 m 27 ls [])) (fun (a : Heap × List Loc × Array Slot × (Int32) × (Int32)) => match a with | (H, locs, ls, i_43, i_44) => 0 ≤ i_43.toInt ∧ i_43.toInt ≤ 5 ∧ (-1) ≤ i_44.toInt ∧ i_44.toInt ≤ 4 ∧ sbI c28 c19 (c21 (8 * i2.toInt + 4).toNat).toInt i1.toInt i_44.toInt i_43.toInt.toNat (c18 0).toInt.toNat ∧ va_P D vwCl [(ym, .inr (11, [.int w0, .ref y1, .ref y2, .ref y3, .ref y4, .ref y5, .int w6, .int w7, .int w8, .int w9, .int w10, .long v11, .int w12, .int w13, .int w14, .int w15, .ref y16, .ref y17, .ref y18, .ref y19, .ref y20, .ref y21, .ref y22, .ref y23, .ref y24, .ref y25, .ref y26, .ref y27, .ref y28, .ref y29, .ref y30, .ref y31, .ref y32, .int w33, .int w34, .int w35, .ref y36, .int w37, .int w38, .int w39, .ref y40, .ref y41, .ref y42, .int w43, .long v44])), (y18, .inl (T 0, 5, .inl c18)), (y19, .inl (T 0, 75, .inl c19)), (y21, .inl (T 0, 400, .inl c21)), (y28, .inl (T 0, 25, .inl c28))] H ∧ va_S (fun _ => False) s.heap H locs ∧ lv_has ls 6 [(5, .int i_43), (4, .int 1), (3, .int i_44), (0, .ref ym), (1, .int i1), (2, .int i2)]) (fun (a : Heap × List Loc × Array Slot × (Int32) × (Int32)) => match a with | (H, locs, ls, i_43, i_44) => (5 - i_43.toInt).toNat) ?_ (_, _, ls, (0 : Int32), ((-1) : Int32)) ⟨(show 0 ≤ (0 : Int) by omega), (show (0 : Int) ≤ 5 by omega), (show (-1) ≤ (-1 : Int) by omega), (show (-1 : Int) ≤ 4 by omega), (show sbI c28 c19 (c21 (8 * i2.toInt + 4).toNat).toInt i1.toInt (-1 : Int) (0 : Int).toNat (c18 0).toInt.toNat from sbI_0), hP, hS, lv_sub hl [0, 1, 2, 3, 4, 5] rfl⟩
    rintro ⟨H, locs, ls, i_43, i_44⟩ ⟨c_45, c_46, c_47, c_48, c_49, hP, hS, hl⟩ ih_50
    refine lv_iload hx hb dX11_sortOf_27 (lv_at hl 0 rfl) ?_
    refine lv_aload_n hx hb dX11_sortOf_29 rfl (lv_at hl 3 rfl) ?_
    refine va_get (D := D) (ci := 11) (C := RX11) (T := TX11) (N := 45) hx hb hts iX11 hown hK hP 0 rfl rfl 18 (by decide) (hts _ m1336) (fun _ h9 => h9) rfl dX11_sortOf_30 ?_
    refine lv_iconst (v := 0) hx hb dX11_sortOf_33 (by decide) ?_
    refine va_iald (D := D) hx hb hK hP 1 0 rfl rfl (by unfold vp_in; decide) dX11_sortOf_34 ?_
    refine lv_topi (fun x_51 ex_51 => ?_)
    have tx_51 : 0 ≤ x_51.toInt ∧ x_51.toInt ≤ 5 := rg_at R_c18 ex_51
    have qx_51 : x_51.toInt = (c18 0).toInt := by rw [ex_51]; rfl
    refine lv_icmp_ge (tgt := 125) hx hb dX11_sortOf_35 (by decide) (fun c_52 => ?_) (fun c_52 => ?_)
    · have c_52 : x_51.toInt ≤ i_43.toInt := (c_le (x := x_51.toInt) (y := i_43.toInt) rfl rfl).mp c_52
      refine lv_iload_n hx hb dX11_sortOf_125 rfl (lv_at hl 2 rfl) ?_
      exact W.iret (v := i_44) hx hb hr (fun t ht hW => ⟨⟨i_44, (), rfl, (⟨(show -1 ≤ i_44.toInt by omega), (show i_44.toInt ≤ 4 by omega), (show ((i_44.toInt = -1 ∧ nsb c28 c19 (c21 (8 * i2.toInt + 4).toNat).toInt i1.toInt (c18 0).toInt.toNat) ∨ (0 ≤ i_44.toInt ∧ ¬ nsb c28 c19 (c21 (8 * i2.toInt + 4).toNat).toInt i1.toInt (c18 0).toInt.toNat)) from sbI_end c_49 (by omega))⟩), trivial⟩, hS.F ht⟩) hS.2.2 dX11_sortOf_126
    · have c_52 : i_43.toInt < x_51.toInt := by have h := mt (c_le (x := x_51.toInt) (y := i_43.toInt) rfl rfl).mpr c_52; omega
      refine lv_aload_n hx hb dX11_sortOf_38 rfl (lv_at hl 3 rfl) ?_
      refine va_get (D := D) (ci := 11) (C := RX11) (T := TX11) (N := 45) hx hb hts iX11 hown hK hP 0 rfl rfl 28 (by decide) (hts _ m1346) (fun _ h9 => h9) rfl dX11_sortOf_39 ?_
      refine lv_iconst (v := 5) hx hb dX11_sortOf_42 (by decide) ?_
      refine lv_iload_n hx hb dX11_sortOf_43 rfl (lv_at hl 4 rfl) ?_
      refine lv_imul hx hb dX11_sortOf_44 ?_
      refine lv_topi (fun x_53 ex_53 => ?_)
      have tx_53 : x_53.toInt = 5 * i1.toInt := t_mul (x := 5) (y := i1.toInt) ex_53 rfl rfl (by omega) (by omega)
      refine lv_iload hx hb dX11_sortOf_45 (lv_at hl 0 rfl) ?_
      refine lv_iadd hx hb dX11_sortOf_47 ?_
      refine lv_topi (fun x_54 ex_54 => ?_)
      have tx_54 : x_54.toInt = x_53.toInt + i_43.toInt := t_add (x := x_53.toInt) (y := i_43.toInt) ex_54 rfl rfl (by omega) (by omega)
      refine va_iald (D := D) hx hb hK hP 4 0 rfl rfl (v_in (x := x_54.toInt) rfl (by omega) (by omega)) dX11_sortOf_48 ?_
      refine lv_topi (fun x_55 ex_55 => ?_)
      have qx_55 : x_55.toInt = (c28 (5 * i1.toInt + i_43.toInt).toNat).toInt := by rw [ex_55, tn (show x_54.toInt = 5 * i1.toInt + i_43.toInt by omega)]
      refine lv_if_eq (tgt := 119) hx hb dX11_sortOf_49 (by decide) (fun c_56 => ?_) (fun c_56 => ?_)
      · have c_56 : x_55.toInt = 0 := (c_eq (x := x_55.toInt) (y := 0) rfl rfl).mp c_56
        obtain ⟨x_57, ex_57⟩ : ∃ y : Int32, y = i_43 + 1 := ⟨_, rfl⟩
        have tx_57 : x_57.toInt = i_43.toInt + 1 := t_add (x := i_43.toInt) (y := 1) ex_57 rfl rfl (by omega) (by omega)
        refine lv_iinc (v := x_57) (lv' := [(5, .int x_57), (4, .int 1), (3, .int i_44), (0, .ref ym), (1, .int i1), (2, .int i2)]) hx hb dX11_sortOf_119 hl (k := 0) rfl (by rw [ex_57]; rfl) (by decide) rfl (fun ls hl => ?_)
        refine lv_goto (tgt := 27) hx hb dX11_sortOf_122 (by decide) ?_
        exact ih_50 (_, _, _, x_57, i_44) ⟨(show 0 ≤ x_57.toInt by omega), (show x_57.toInt ≤ 5 by omega), (show (-1) ≤ i_44.toInt by omega), (show i_44.toInt ≤ 4 by omega), (show sbI c28 c19 (c21 (8 * i2.toInt + 4).toNat).toInt i1.toInt i_44.toInt x_57.toInt.toNat (c18 0).toInt.toNat by first | exact sbI_skip c_49 (by omega) (sb_1 (k := i_43.toInt) (by omega) (by omega)) | exact sbI_skip c_49 (by omega) (sb_2 (k := i_43.toInt) (by omega) (by omega)) | exact sbI_take (k := i_43.toInt.toNat) (by omega) (sb_n (k := i_43.toInt) (by omega) (by omega) (by omega)) (by omega) | exact sbI_keep c_49 (by omega)), hP, hS, lv_sub hl [0, 1, 2, 3, 4, 5] rfl⟩ (show (5 - x_57.toInt).toNat < (5 - i_43.toInt).toNat by omega)
      · have c_56 : ¬ x_55.toInt = 0 := fun h => c_56 ((c_eq (x := x_55.toInt) (y := 0) rfl rfl).mpr h)
        refine lv_aload_n hx hb dX11_sortOf_52 rfl (lv_at hl 3 rfl) ?_
        refine lv_iload hx hb dX11_sortOf_53 (lv_at hl 0 rfl) ?_
        refine puI (cV (As := [.int i_43]) (rest := []) ⟨hx, hb, hml, hown, hts⟩ (c_X11_weightOf2 l D T y1 y16 y17 y18 y19 y2 y20 y21 y22 y23 y24 y25 y26 y27 y28 y29 y3 y30 y31 y32 y36 y4 y40 y41 y42 y5 ym i_43 w0 w10 w12 w13 w14 w15 w33 w34 w35 w37 w38 w39 w43 w6 w7 w8 w9 v11 v44 c19 ⟨by omega, by omega⟩ ⟨by omega, by omega⟩ ⟨by omega, by omega⟩) k_X11_weightOf v_X11_weightOf m1626 rfl rfl ⟨(Nat.le_of_ble_eq_true rfl), (Nat.le_of_ble_eq_true rfl)⟩ (preP hC (hP.sub (ws' := [(ym, .inr (11, [.int w0, .ref y1, .ref y2, .ref y3, .ref y4, .ref y5, .int w6, .int w7, .int w8, .int w9, .int w10, .long v11, .int w12, .int w13, .int w14, .int w15, .ref y16, .ref y17, .ref y18, .ref y19, .ref y20, .ref y21, .ref y22, .ref y23, .ref y24, .ref y25, .ref y26, .ref y27, .ref y28, .ref y29, .ref y30, .ref y31, .ref y32, .int w33, .int w34, .int w35, .ref y36, .int w37, .int w38, .int w39, .ref y40, .ref y41, .ref y42, .int w43, .long v44])), (y19, .inl (T 0, 75, .inl c19))]) [0, 2] rfl)) (va_recv hK hP (ci := 11) (q0 := 0) rfl rfl) rfl hl.1 rfl (Nat.le_of_ble_eq_true rfl) dX11_sortOf_55 ⟨(Nat.le_of_ble_eq_true rfl), (Nat.le_of_ble_eq_true rfl)⟩) hS hP (fun r_58 H locs hw hP hS => ?_)
        have w_60 : (r_58 = c19 (3 * i_43.toInt).toNat) := hw
        obtain c_61 := w_60
        have qr_58 : r_58.toInt = (c19 (3 * i_43.toInt).toNat).toInt := congrArg Int32.toInt (show r_58 = c19 (3 * i_43.toInt).toNat by assumption)
        refine lv_aload_n hx hb dX11_sortOf_58 rfl (lv_at hl 3 rfl) ?_
        refine va_get (D := D) (ci := 11) (C := RX11) (T := TX11) (N := 45) hx hb hts iX11 hown hK hP 0 rfl rfl 21 (by decide) (hts _ m1339) (fun _ h9 => h9) rfl dX11_sortOf_59 ?_
        refine lv_bipush (v := 8) hx hb dX11_sortOf_62 (by decide) ?_
        refine lv_iload_n hx hb dX11_sortOf_64 rfl (lv_at hl 5 rfl) ?_
        refine lv_imul hx hb dX11_sortOf_65 ?_
        refine lv_topi (fun x_62 ex_62 => ?_)
        have tx_62 : x_62.toInt = 8 * i2.toInt := t_mul (x := 8) (y := i2.toInt) ex_62 rfl rfl (by omega) (by omega)
        refine lv_iconst (v := 4) hx hb dX11_sortOf_66 (by decide) ?_
        refine lv_iadd hx hb dX11_sortOf_67 ?_
        refine lv_topi (fun x_63 ex_63 => ?_)
        have tx_63 : x_63.toInt = x_62.toInt + 4 := t_add (x := x_62.toInt) (y := 4) ex_63 rfl rfl (by omega) (by omega)
        refine va_iald (D := D) hx hb hK hP 3 0 rfl rfl (v_in (x := x_63.toInt) rfl (by omega) (by omega)) dX11_sortOf_68 ?_
        refine lv_topi (fun x_64 ex_64 => ?_)
        have qx_64 : x_64.toInt = (c21 (8 * i2.toInt + 4).toNat).toInt := by rw [ex_64, tn (show x_63.toInt = 8 * i2.toInt + 4 by omega)]
        refine lv_icmp_le (tgt := 75) hx hb dX11_sortOf_69 (by decide) (fun c_65 => ?_) (fun c_65 => ?_)
        · have c_65 : r_58.toInt ≤ x_64.toInt := (c_le (x := r_58.toInt) (y := x_64.toInt) rfl rfl).mp c_65
          refine lv_iload_n hx hb dX11_sortOf_75 rfl (lv_at hl 2 rfl) ?_
          refine lv_iconst (v := (-1)) hx hb dX11_sortOf_76 (by decide) ?_
          refine lv_icmp_eq (tgt := 116) hx hb dX11_sortOf_77 (by decide) (fun c_66 => ?_) (fun c_66 => ?_)
          · have c_66 : i_44.toInt = (-1) := (c_eq (x := i_44.toInt) (y := (-1)) rfl rfl).mp c_66
            refine lv_iload hx hb dX11_sortOf_116 (lv_at hl 0 rfl) ?_
            refine lv_istore_n (lv' := [(3, .int i_43), (5, .int i_43), (4, .int 1), (0, .ref ym), (1, .int i1), (2, .int i2)]) hx hb dX11_sortOf_118 rfl hl (by decide) rfl (fun ls hl => ?_)
            obtain ⟨x_67, ex_67⟩ : ∃ y : Int32, y = i_43 + 1 := ⟨_, rfl⟩
            have tx_67 : x_67.toInt = i_43.toInt + 1 := t_add (x := i_43.toInt) (y := 1) ex_67 rfl rfl (by omega) (by omega)
            refine lv_iinc (v := x_67) (lv' := [(5, .int x_67), (3, .int i_43), (4, .int 1), (0, .ref ym), (1, .int i1), (2, .int i2)]) hx hb dX11_sortOf_119 hl (k := 1) rfl (by rw [ex_67]; rfl) (by decide) rfl (fun ls hl => ?_)
            refine lv_goto (tgt := 27) hx hb dX11_sortOf_122 (by decide) ?_
            exact ih_50 (_, _, _, x_67, i_43) ⟨(show 0 ≤ x_67.toInt by omega), (show x_67.toInt ≤ 5 by omega), (show (-1) ≤ i_43.toInt by omega), (show i_43.toInt ≤ 4 by omega), (show sbI c28 c19 (c21 (8 * i2.toInt + 4).toNat).toInt i1.toInt i_43.toInt x_67.toInt.toNat (c18 0).toInt.toNat by first | exact sbI_skip c_49 (by omega) (sb_1 (k := i_43.toInt) (by omega) (by omega)) | exact sbI_skip c_49 (by omega) (sb_2 (k := i_43.toInt) (by omega) (by omega)) | exact sbI_take (k := i_43.toInt.toNat) (by omega) (sb_n (k := i_43.toInt) (by omega) (by omega) (by omega)) (by omega) | exact sbI_keep c_49 (by omega)), hP, hS, lv_sub hl [0, 2, 1, 3, 4, 5] rfl⟩ (show (5 - x_67.toInt).toNat < (5 - i_43.toInt).toNat by omega)
          · have c_66 : ¬ i_44.toInt = (-1) := fun h => c_66 ((c_eq (x := i_44.toInt) (y := (-1)) rfl rfl).mpr h)
            refine lv_iload hx hb dX11_sortOf_80 (lv_at hl 1 rfl) ?_
            refine lv_if_eq (tgt := 102) hx hb dX11_sortOf_82 (by decide) (fun c_68 => absurd c_68 (by decide)) (fun _ => ?_)
            refine lv_aload_n hx hb dX11_sortOf_85 rfl (lv_at hl 3 rfl) ?_
            refine lv_iload hx hb dX11_sortOf_86 (lv_at hl 0 rfl) ?_
            refine puI (cV (As := [.int i_43]) (rest := []) ⟨hx, hb, hml, hown, hts⟩ (c_X11_weightOf2 l D T y1 y16 y17 y18 y19 y2 y20 y21 y22 y23 y24 y25 y26 y27 y28 y29 y3 y30 y31 y32 y36 y4 y40 y41 y42 y5 ym i_43 w0 w10 w12 w13 w14 w15 w33 w34 w35 w37 w38 w39 w43 w6 w7 w8 w9 v11 v44 c19 ⟨by omega, by omega⟩ ⟨by omega, by omega⟩ ⟨by omega, by omega⟩) k_X11_weightOf v_X11_weightOf m1626 rfl rfl ⟨(Nat.le_of_ble_eq_true rfl), (Nat.le_of_ble_eq_true rfl)⟩ (preP hC (hP.sub (ws' := [(ym, .inr (11, [.int w0, .ref y1, .ref y2, .ref y3, .ref y4, .ref y5, .int w6, .int w7, .int w8, .int w9, .int w10, .long v11, .int w12, .int w13, .int w14, .int w15, .ref y16, .ref y17, .ref y18, .ref y19, .ref y20, .ref y21, .ref y22, .ref y23, .ref y24, .ref y25, .ref y26, .ref y27, .ref y28, .ref y29, .ref y30, .ref y31, .ref y32, .int w33, .int w34, .int w35, .ref y36, .int w37, .int w38, .int w39, .ref y40, .ref y41, .ref y42, .int w43, .long v44])), (y19, .inl (T 0, 75, .inl c19))]) [0, 2] rfl)) (va_recv hK hP (ci := 11) (q0 := 0) rfl rfl) rfl hl.1 rfl (Nat.le_of_ble_eq_true rfl) dX11_sortOf_88 ⟨(Nat.le_of_ble_eq_true rfl), (Nat.le_of_ble_eq_true rfl)⟩) hS hP (fun r_69 H locs hw hP hS => ?_)
            have w_71 : (r_69 = c19 (3 * i_43.toInt).toNat) := hw
            obtain c_72 := w_71
            have qr_69 : r_69.toInt = (c19 (3 * i_43.toInt).toNat).toInt := congrArg Int32.toInt (show r_69 = c19 (3 * i_43.toInt).toNat by assumption)
            refine lv_aload_n hx hb dX11_sortOf_91 rfl (lv_at hl 3 rfl) ?_
            refine lv_iload_n hx hb dX11_sortOf_92 rfl (lv_at hl 2 rfl) ?_
            refine puI (cV (As := [.int i_44]) (rest := [.int r_69]) ⟨hx, hb, hml, hown, hts⟩ (c_X11_weightOf2 l D T y1 y16 y17 y18 y19 y2 y20 y21 y22 y23 y24 y25 y26 y27 y28 y29 y3 y30 y31 y32 y36 y4 y40 y41 y42 y5 ym i_44 w0 w10 w12 w13 w14 w15 w33 w34 w35 w37 w38 w39 w43 w6 w7 w8 w9 v11 v44 c19 ⟨by omega, by omega⟩ ⟨by omega, by omega⟩ ⟨by omega, by omega⟩) k_X11_weightOf v_X11_weightOf m1626 rfl rfl ⟨(Nat.le_of_ble_eq_true rfl), (Nat.le_of_ble_eq_true rfl)⟩ (preP hC (hP.sub (ws' := [(ym, .inr (11, [.int w0, .ref y1, .ref y2, .ref y3, .ref y4, .ref y5, .int w6, .int w7, .int w8, .int w9, .int w10, .long v11, .int w12, .int w13, .int w14, .int w15, .ref y16, .ref y17, .ref y18, .ref y19, .ref y20, .ref y21, .ref y22, .ref y23, .ref y24, .ref y25, .ref y26, .ref y27, .ref y28, .ref y29, .ref y30, .ref y31, .ref y32, .int w33, .int w34, .int w35, .ref y36, .int w37, .int w38, .int w39, .ref y40, .ref y41, .ref y42, .int w43, .long v44])), (y19, .inl (T 0, 75, .inl c19))]) [0, 2] rfl)) (va_recv hK hP (ci := 11) (q0 := 0) rfl rfl) rfl hl.1 rfl (Nat.le_of_ble_eq_true rfl) dX11_sortOf_93 ⟨(Nat.le_of_ble_eq_true rfl), (Nat.le_of_ble_eq_true rfl)⟩) hS hP (fun r_73 H locs hw hP hS => ?_)
            have w_75 : (r_73 = c19 (3 * i_44.toInt).toNat) := hw
            obtain c_76 := w_75
            have qr_73 : r_73.toInt = (c19 (3 * i_44.toInt).toNat).toInt := congrArg Int32.toInt (show r_73 = c19 (3 * i_44.toInt).toNat by assumption)
            refine lv_icmp_le (tgt := 119) hx hb dX11_sortOf_96 (by decide) (fun c_77 => ?_) (fun c_77 => ?_)
            · have c_77 : r_69.toInt ≤ r_73.toInt := (c_le (x := r_69.toInt) (y := r_73.toInt) rfl rfl).mp c_77
              obtain ⟨x_78, ex_78⟩ : ∃ y : Int32, y = i_43 + 1 := ⟨_, rfl⟩
              have tx_78 : x_78.toInt = i_43.toInt + 1 := t_add (x := i_43.toInt) (y := 1) ex_78 rfl rfl (by omega) (by omega)
              refine lv_iinc (v := x_78) (lv' := [(5, .int x_78), (4, .int 1), (3, .int i_44), (0, .ref ym), (1, .int i1), (2, .int i2)]) hx hb dX11_sortOf_119 hl (k := 0) rfl (by rw [ex_78]; rfl) (by decide) rfl (fun ls hl => ?_)
              refine lv_goto (tgt := 27) hx hb dX11_sortOf_122 (by decide) ?_
              exact ih_50 (_, _, _, x_78, i_44) ⟨(show 0 ≤ x_78.toInt by omega), (show x_78.toInt ≤ 5 by omega), (show (-1) ≤ i_44.toInt by omega), (show i_44.toInt ≤ 4 by omega), (show sbI c28 c19 (c21 (8 * i2.toInt + 4).toNat).toInt i1.toInt i_44.toInt x_78.toInt.toNat (c18 0).toInt.toNat by first | exact sbI_skip c_49 (by omega) (sb_1 (k := i_43.toInt) (by omega) (by omega)) | exact sbI_skip c_49 (by omega) (sb_2 (k := i_43.toInt) (by omega) (by omega)) | exact sbI_take (k := i_43.toInt.toNat) (by omega) (sb_n (k := i_43.toInt) (by omega) (by omega) (by omega)) (by omega) | exact sbI_keep c_49 (by omega)), hP, hS, lv_sub hl [0, 1, 2, 3, 4, 5] rfl⟩ (show (5 - x_78.toInt).toNat < (5 - i_43.toInt).toNat by omega)
            · have c_77 : r_73.toInt < r_69.toInt := by have h := mt (c_le (x := r_69.toInt) (y := r_73.toInt) rfl rfl).mpr c_77; omega
              refine lv_goto (tgt := 116) hx hb dX11_sortOf_99 (by decide) ?_
              refine lv_iload hx hb dX11_sortOf_116 (lv_at hl 0 rfl) ?_
              refine lv_istore_n (lv' := [(3, .int i_43), (5, .int i_43), (4, .int 1), (0, .ref ym), (1, .int i1), (2, .int i2)]) hx hb dX11_sortOf_118 rfl hl (by decide) rfl (fun ls hl => ?_)
              obtain ⟨x_79, ex_79⟩ : ∃ y : Int32, y = i_43 + 1 := ⟨_, rfl⟩
              have tx_79 : x_79.toInt = i_43.toInt + 1 := t_add (x := i_43.toInt) (y := 1) ex_79 rfl rfl (by omega) (by omega)
              refine lv_iinc (v := x_79) (lv' := [(5, .int x_79), (3, .int i_43), (4, .int 1), (0, .ref ym), (1, .int i1), (2, .int i2)]) hx hb dX11_sortOf_119 hl (k := 1) rfl (by rw [ex_79]; rfl) (by decide) rfl (fun ls hl => ?_)
              refine lv_goto (tgt := 27) hx hb dX11_sortOf_122 (by decide) ?_
              exact ih_50 (_, _, _, x_79, i_43) ⟨(show 0 ≤ x_79.toInt by omega), (show x_79.toInt ≤ 5 by omega), (show (-1) ≤ i_43.toInt by omega), (show i_43.toInt ≤ 4 by omega), (show sbI c28 c19 (c21 (8 * i2.toInt + 4).toNat).toInt i1.toInt i_43.toInt x_79.toInt.toNat (c18 0).toInt.toNat by first | exact sbI_skip c_49 (by omega) (sb_1 (k := i_43.toInt) (by omega) (by omega)) | exact sbI_skip c_49 (by omega) (sb_2 (k := i_43.toInt) (by omega) (by omega)) | exact sbI_take (k := i_43.toInt.toNat) (by omega) (sb_n (k := i_43.toInt) (by omega) (by omega) (by omega)) (by omega) | exact sbI_keep c_49 (by omega)), hP, hS, lv_sub hl [0, 2, 1, 3, 4, 5] rfl⟩ (show (5 - x_79.toInt).toNat < (5 - i_43.toInt).toNat by omega)
        · have c_65 : x_64.toInt < r_58.toInt := by have h := mt (c_le (x := r_58.toInt) (y := x_64.toInt) rfl rfl).mpr c_65; omega
          refine lv_goto (tgt := 119) hx hb dX11_sortOf_72 (by decide) ?_
          obtain ⟨x_80, ex_80⟩ : ∃ y : Int32, y = i_43 + 1 := ⟨_, rfl⟩
          have tx_80 : x_80.toInt = i_43.toInt + 1 := t_add (x := i_43.toInt) (y := 1) ex_80 rfl rfl (by omega) (by omega)
          refine lv_iinc (v := x_80) (lv' := [(5, .int x_80), (4, .int 1), (3, .int i_44), (0, .ref ym), (1, .int i1), (2, .int i2)]) hx hb dX11_sortOf_119 hl (k := 0) rfl (by rw [ex_80]; rfl) (by decide) rfl (fun ls hl => ?_)
          refine lv_goto (tgt := 27) hx hb dX11_sortOf_122 (by decide) ?_
          exact ih_50 (_, _, _, x_80, i_44) ⟨(show 0 ≤ x_80.toInt by omega), (show x_80.toInt ≤ 5 by omega), (show (-1) ≤ i_44.toInt by omega), (show i_44.toInt ≤ 4 by omega), (show sbI c28 c19 (c21 (8 * i2.toInt + 4).toNat).toInt i1.toInt i_44.toInt x_80.toInt.toNat (c18 0).toInt.toNat by first | exact sbI_skip c_49 (by omega) (sb_1 (k := i_43.toInt) (by omega) (by omega)) | exact sbI_skip c_49 (by omega) (sb_2 (k := i_43.toInt) (by omega) (by omega)) | exact sbI_take (k := i_43.toInt.toNat) (by omega) (sb_n (k := i_43.toInt) (by omega) (by omega) (by omega)) (by omega) | exact sbI_keep c_49 (by omega)), hP, hS, lv_sub hl [0, 1, 2, 3, 4, 5] rfl⟩ (show (5 - x_80.toInt).toNat < (5 - i_43.toInt).toNat by omega)

set_option maxHeartbeats 4000000 in
set_option maxRecDepth 100000 in
theorem c_X11_columnOf (l : Launch) (D : va_G) (T : Nat → ClassId) (y1 y16 y17 y18 y19 y2 y20 y21 y22 y23 y24 y25 y26 y27 y28 y29 y3 y30 y31 y32 y36 y4 y40 y41 y42 y5 ym : Nat) (i1 i2 w0 w10 w12 w13 w14 w15 w33 w34 w35 w37 w38 w39 w43 w6 w7 w8 w9 : Int32) (v11 v44 : Int64) (c17 c18 c19 c20 c21 c24 c25 c28 c29 : Nat → Int32) (h_w6 : 0 ≤ w6.toInt ∧ w6.toInt ≤ 1600) (h_w43 : 0 ≤ w43.toInt ∧ w43.toInt ≤ 16) (h_i1 : 0 ≤ i1.toInt ∧ i1.toInt ≤ 4) (h_i2 : 0 ≤ i2.toInt ∧ i2.toInt ≤ 9) (R_c18 : rg 0 5 c18) (R_c20 : rg 0 10 c20) (R_c24 : rg 0 12 c24) (R_c25 : rg 0 4 c25) (P_0 : pg 3 0 0 8 c17) (P_1 : pg 3 1 0 12 c17) (P_2 : pg 3 0 0 100 c29) (P_3 : pg 3 1 0 2 c29) (P_4 : vr 0 c20 c21) (P_5 : vr 1 c20 c21) (P_6 : vr 2 c20 c21) (P_7 : vr 3 c20 c21) (hv : i2.toInt < (c20 0).toInt) : Met l yX11_columnOf (wM yX11_columnOf cX11_columnOf 4 (some .int)) ({ frames := 5, cells := 0, slots := 0, locals := 127 }) (va_Pc [.ref ym, .int i1, .int i2] (pwP D T [(ym, .inr (11, [.int w0, .ref y1, .ref y2, .ref y3, .ref y4, .ref y5, .int w6, .int w7, .int w8, .int w9, .int w10, .long v11, .int w12, .int w13, .int w14, .int w15, .ref y16, .ref y17, .ref y18, .ref y19, .ref y20, .ref y21, .ref y22, .ref y23, .ref y24, .ref y25, .ref y26, .ref y27, .ref y28, .ref y29, .ref y30, .ref y31, .ref y32, .int w33, .int w34, .int w35, .ref y36, .int w37, .int w38, .int w39, .ref y40, .ref y41, .ref y42, .int w43, .long v44])), (y17, .inl (T 0, 15, .inl c17)), (y18, .inl (T 0, 5, .inl c18)), (y19, .inl (T 0, 75, .inl c19)), (y20, .inl (T 0, 5, .inl c20)), (y21, .inl (T 0, 400, .inl c21)), (y24, .inl (T 0, 80, .inl c24)), (y25, .inl (T 0, 960, .inl c25)), (y28, .inl (T 0, 25, .inl c28)), (y29, .inl (T 0, 15, .inl c29))])) (va_Qi (fun (r : Int32) (u : Unit) => ((r.toInt = -1 ∨ (0 ≤ r.toInt ∧ r.toInt < (c17 0).toInt ∧ (c24 (16 * i1.toInt + 8 * (sdm (c21 (8 * i2.toInt).toNat) (c29 (3 * i1.toInt + 1).toNat)).toInt + r.toInt).toNat).toInt < (c17 1).toInt)) ∧ (r.toInt = -1 ∨ ¬ nsb c28 c19 (c21 (8 * i2.toInt + 4).toNat).toInt i1.toInt (c18 0).toInt.toNat))) (fun _ _ => True) (fun _ => False)) 0 0 (fun _ => False) := by
  refine Met.ofW (cc := cX11_columnOf) (maxL := 4) (ret := (some .int)) (by decide) rfl ?_
  intro p e s m args below meth c s₁ B hml hv
  obtain ⟨rfl, hP, hC⟩ := hv
  have hx := B.exec
  have hb := B.bytes
  have hr := B.returns
  have hts : ∀ w ∈ gt, w.before _ s = true := fun w hw => atoms_spec (ws := (wM yX11_columnOf cX11_columnOf 4 (some .int))) B.pre w (List.mem_cons_of_mem _ hw)
  have hown : s.vm.findClass RX11 = some m.cls := findClass_of_methodNamed B.named
  have hlocks := B.notSynchronized
  have hK := hC.1
  have hS : va_S (fun _ => False) s.heap s.heap [] := va_S.rf
  have hl := lv_entry ([.ref ym, .int i1, .int i2]) (n := 4) (Nat.le_of_ble_eq_true rfl)
  rw [lg_entry_eq]
  generalize (lg_sl ([.ref ym, .int i1, .int i2]) ++ List.replicate (4 - (lg_sl ([.ref ym, .int i1, .int i2])).length) Slot.unset).toArray = ls at hl ⊢
  have hl : lv_has ls 4 [(0, .ref ym), (1, .int i1), (2, .int i2)] := hl
  have b_y17_0 : 0 ≤ (c17 0).toInt ∧ (c17 0).toInt ≤ 8 := P_0 0
  have b_y17_1 : 0 ≤ (c17 1).toInt ∧ (c17 1).toInt ≤ 12 := P_1 0
  have b_y29_0 : 0 ≤ (c29 0).toInt ∧ (c29 0).toInt ≤ 100 := P_2 0
  have b_y29_1 : 0 ≤ (c29 1).toInt ∧ (c29 1).toInt ≤ 2 := P_3 0
  have b_y18 : 0 ≤ (c18 0).toInt ∧ (c18 0).toInt ≤ 5 := R_c18 0
  have b_y18_4 : 0 ≤ (c18 4).toInt ∧ (c18 4).toInt ≤ 5 := R_c18 4
  have b_y20 : 0 ≤ (c20 0).toInt ∧ (c20 0).toInt ≤ 10 := R_c20 0
  have b_y20_4 : 0 ≤ (c20 4).toInt ∧ (c20 4).toInt ≤ 10 := R_c20 4
  refine lv_aload_n hx hb dX11_columnOf_0 rfl (lv_at hl 0 rfl) ?_
  refine lv_iload_n hx hb dX11_columnOf_1 rfl (lv_at hl 1 rfl) ?_
  refine lv_iload_n hx hb dX11_columnOf_2 rfl (lv_at hl 2 rfl) ?_
  refine puI (cV (As := [.int i1, .int i2]) (rest := []) ⟨hx, hb, hml, hown, hts⟩ (c_X11_sortOf l D T y1 y16 y17 y18 y19 y2 y20 y21 y22 y23 y24 y25 y26 y27 y28 y29 y3 y30 y31 y32 y36 y4 y40 y41 y42 y5 ym i1 i2 w0 w10 w12 w13 w14 w15 w33 w34 w35 w37 w38 w39 w43 w6 w7 w8 w9 v11 v44 c18 c19 c21 c28 ⟨by omega, by omega⟩ ⟨by omega, by omega⟩ ⟨by omega, by omega⟩ ⟨by omega, by omega⟩ R_c18) k_X11_sortOf v_X11_sortOf m1726 rfl rfl ⟨(Nat.le_of_ble_eq_true rfl), (Nat.le_of_ble_eq_true rfl)⟩ (preP hC (hP.sub (ws' := [(ym, .inr (11, [.int w0, .ref y1, .ref y2, .ref y3, .ref y4, .ref y5, .int w6, .int w7, .int w8, .int w9, .int w10, .long v11, .int w12, .int w13, .int w14, .int w15, .ref y16, .ref y17, .ref y18, .ref y19, .ref y20, .ref y21, .ref y22, .ref y23, .ref y24, .ref y25, .ref y26, .ref y27, .ref y28, .ref y29, .ref y30, .ref y31, .ref y32, .int w33, .int w34, .int w35, .ref y36, .int w37, .int w38, .int w39, .ref y40, .ref y41, .ref y42, .int w43, .long v44])), (y18, .inl (T 0, 5, .inl c18)), (y19, .inl (T 0, 75, .inl c19)), (y21, .inl (T 0, 400, .inl c21)), (y28, .inl (T 0, 25, .inl c28))]) [0, 2, 3, 5, 8] rfl)) (va_recv hK hP (ci := 11) (q0 := 0) rfl rfl) rfl hl.1 rfl (Nat.le_of_ble_eq_true rfl) dX11_columnOf_3 ⟨(Nat.le_of_ble_eq_true rfl), (Nat.le_of_ble_eq_true rfl)⟩) hS hP (fun r_1 H locs hw hP hS => ?_)
  have w_3 : (-1 ≤ r_1.toInt ∧ r_1.toInt ≤ 4 ∧ ((r_1.toInt = -1 ∧ nsb c28 c19 (c21 (8 * i2.toInt + 4).toNat).toInt i1.toInt (c18 0).toInt.toNat) ∨ (0 ≤ r_1.toInt ∧ ¬ nsb c28 c19 (c21 (8 * i2.toInt + 4).toNat).toInt i1.toInt (c18 0).toInt.toNat))) := hw
  obtain ⟨c_4, c_5, c_6⟩ := w_3
  refine lv_istore_n (lv' := [(3, .int r_1), (0, .ref ym), (1, .int i1), (2, .int i2)]) hx hb dX11_columnOf_6 rfl hl (by decide) rfl (fun ls hl => ?_)
  refine lv_iload_n hx hb dX11_columnOf_7 rfl (lv_at hl 0 rfl) ?_
  refine lv_iconst (v := (-1)) hx hb dX11_columnOf_8 (by decide) ?_
  refine lv_icmp_ne (tgt := 16) hx hb dX11_columnOf_9 (by decide) (fun c_7 => ?_) (fun c_7 => ?_)
  · have c_7 : ¬ r_1.toInt = (-1) := fun h => c_7 ((c_eq (x := r_1.toInt) (y := (-1)) rfl rfl).mpr h)
    refine lv_aload_n hx hb dX11_columnOf_16 rfl (lv_at hl 1 rfl) ?_
    refine lv_iload_n hx hb dX11_columnOf_17 rfl (lv_at hl 2 rfl) ?_
    refine lv_aload_n hx hb dX11_columnOf_18 rfl (lv_at hl 1 rfl) ?_
    refine lv_iload_n hx hb dX11_columnOf_19 rfl (lv_at hl 2 rfl) ?_
    refine lv_iload_n hx hb dX11_columnOf_20 rfl (lv_at hl 3 rfl) ?_
    refine puI (cV (As := [.int i1, .int i2]) (rest := [.int i1, .ref ym]) ⟨hx, hb, hml, hown, hts⟩ (c_X11_sideOf l D T y1 y16 y17 y18 y19 y2 y20 y21 y22 y23 y24 y25 y26 y27 y28 y29 y3 y30 y31 y32 y36 y4 y40 y41 y42 y5 ym i1 i2 w0 w10 w12 w13 w14 w15 w33 w34 w35 w37 w38 w39 w43 w6 w7 w8 w9 v11 v44 c20 c21 c29 ⟨by omega, by omega⟩ ⟨by omega, by omega⟩ ⟨by omega, by omega⟩ ⟨by omega, by omega⟩ R_c20 P_2 P_3 P_4 P_5 P_6 P_7 (by omega)) k_X11_sideOf v_X11_sideOf m1722 rfl rfl ⟨(Nat.le_of_ble_eq_true rfl), (Nat.le_of_ble_eq_true rfl)⟩ (preP hC (hP.sub (ws' := [(ym, .inr (11, [.int w0, .ref y1, .ref y2, .ref y3, .ref y4, .ref y5, .int w6, .int w7, .int w8, .int w9, .int w10, .long v11, .int w12, .int w13, .int w14, .int w15, .ref y16, .ref y17, .ref y18, .ref y19, .ref y20, .ref y21, .ref y22, .ref y23, .ref y24, .ref y25, .ref y26, .ref y27, .ref y28, .ref y29, .ref y30, .ref y31, .ref y32, .int w33, .int w34, .int w35, .ref y36, .int w37, .int w38, .int w39, .ref y40, .ref y41, .ref y42, .int w43, .long v44])), (y20, .inl (T 0, 5, .inl c20)), (y21, .inl (T 0, 400, .inl c21)), (y29, .inl (T 0, 15, .inl c29))]) [0, 4, 5, 9] rfl)) (va_recv hK hP (ci := 11) (q0 := 0) rfl rfl) rfl hl.1 rfl (Nat.le_of_ble_eq_true rfl) dX11_columnOf_21 ⟨(Nat.le_of_ble_eq_true rfl), (Nat.le_of_ble_eq_true rfl)⟩) hS hP (fun r_8 H locs hw hP hS => ?_)
    have w_10 : (r_8 = sdm (c21 (8 * i2.toInt).toNat) (c29 (3 * i1.toInt + 1).toNat) ∧ 0 ≤ r_8.toInt ∧ r_8.toInt ≤ 1) := hw
    obtain ⟨c_11, c_12, c_13⟩ := w_10
    refine lv_iload_n hx hb dX11_columnOf_24 rfl (lv_at hl 0 rfl) ?_
    refine lv_aload_n hx hb dX11_columnOf_25 rfl (lv_at hl 1 rfl) ?_
    refine va_get (D := D) (ci := 11) (C := RX11) (T := TX11) (N := 45) hx hb hts iX11 hown hK hP 0 rfl rfl 21 (by decide) (hts _ m1339) (fun _ h9 => h9) rfl dX11_columnOf_26 ?_
    refine lv_bipush (v := 8) hx hb dX11_columnOf_29 (by decide) ?_
    refine lv_iload_n hx hb dX11_columnOf_31 rfl (lv_at hl 3 rfl) ?_
    refine lv_imul hx hb dX11_columnOf_32 ?_
    refine lv_topi (fun x_14 ex_14 => ?_)
    have tx_14 : x_14.toInt = 8 * i2.toInt := t_mul (x := 8) (y := i2.toInt) ex_14 rfl rfl (by omega) (by omega)
    refine lv_iconst (v := 1) hx hb dX11_columnOf_33 (by decide) ?_
    refine lv_iadd hx hb dX11_columnOf_34 ?_
    refine lv_topi (fun x_15 ex_15 => ?_)
    have tx_15 : x_15.toInt = x_14.toInt + 1 := t_add (x := x_14.toInt) (y := 1) ex_15 rfl rfl (by omega) (by omega)
    refine va_iald (D := D) hx hb hK hP 5 0 rfl rfl (v_in (x := x_15.toInt) rfl (by omega) (by omega)) dX11_columnOf_35 ?_
    refine lv_topi (fun x_16 ex_16 => ?_)
    refine lv_aload_n hx hb dX11_columnOf_36 rfl (lv_at hl 1 rfl) ?_
    refine va_get (D := D) (ci := 11) (C := RX11) (T := TX11) (N := 45) hx hb hts iX11 hown hK hP 0 rfl rfl 21 (by decide) (hts _ m1339) (fun _ h9 => h9) rfl dX11_columnOf_37 ?_
    refine lv_bipush (v := 8) hx hb dX11_columnOf_40 (by decide) ?_
    refine lv_iload_n hx hb dX11_columnOf_42 rfl (lv_at hl 3 rfl) ?_
    refine lv_imul hx hb dX11_columnOf_43 ?_
    refine lv_topi (fun x_17 ex_17 => ?_)
    have tx_17 : x_17.toInt = 8 * i2.toInt := t_mul (x := 8) (y := i2.toInt) ex_17 rfl rfl (by omega) (by omega)
    refine lv_iconst (v := 2) hx hb dX11_columnOf_44 (by decide) ?_
    refine lv_iadd hx hb dX11_columnOf_45 ?_
    refine lv_topi (fun x_18 ex_18 => ?_)
    have tx_18 : x_18.toInt = x_17.toInt + 2 := t_add (x := x_17.toInt) (y := 2) ex_18 rfl rfl (by omega) (by omega)
    refine va_iald (D := D) hx hb hK hP 5 0 rfl rfl (v_in (x := x_18.toInt) rfl (by omega) (by omega)) dX11_columnOf_46 ?_
    refine lv_topi (fun x_19 ex_19 => ?_)
    refine puI (cV (As := [.int i1, .int r_8, .int r_1, .int x_16, .int x_19]) (rest := []) ⟨hx, hb, hml, hown, hts⟩ (c_X11_columnFor l D T y1 y16 y17 y18 y19 y2 y20 y21 y22 y23 y24 y25 y26 y27 y28 y29 y3 y30 y31 y32 y36 y4 y40 y41 y42 y5 ym i1 r_8 r_1 x_16 x_19 w0 w10 w12 w13 w14 w15 w33 w34 w35 w37 w38 w39 w43 w6 w7 w8 w9 v11 v44 c17 c19 c24 c25 ⟨by omega, by omega⟩ ⟨by omega, by omega⟩ ⟨by omega, by omega⟩ ⟨by omega, by omega⟩ ⟨by omega, by omega⟩ R_c24 R_c25 P_0 P_1) k_X11_columnFor v_X11_columnFor m1701 rfl rfl ⟨(Nat.le_of_ble_eq_true rfl), (Nat.le_of_ble_eq_true rfl)⟩ (preP hC (hP.sub (ws' := [(ym, .inr (11, [.int w0, .ref y1, .ref y2, .ref y3, .ref y4, .ref y5, .int w6, .int w7, .int w8, .int w9, .int w10, .long v11, .int w12, .int w13, .int w14, .int w15, .ref y16, .ref y17, .ref y18, .ref y19, .ref y20, .ref y21, .ref y22, .ref y23, .ref y24, .ref y25, .ref y26, .ref y27, .ref y28, .ref y29, .ref y30, .ref y31, .ref y32, .int w33, .int w34, .int w35, .ref y36, .int w37, .int w38, .int w39, .ref y40, .ref y41, .ref y42, .int w43, .long v44])), (y17, .inl (T 0, 15, .inl c17)), (y19, .inl (T 0, 75, .inl c19)), (y24, .inl (T 0, 80, .inl c24)), (y25, .inl (T 0, 960, .inl c25))]) [0, 1, 3, 6, 7] rfl)) (va_recv hK hP (ci := 11) (q0 := 0) rfl rfl) rfl hl.1 rfl (Nat.le_of_ble_eq_true rfl) dX11_columnOf_47 ⟨(Nat.le_of_ble_eq_true rfl), (Nat.le_of_ble_eq_true rfl)⟩) hS hP (fun r_20 H locs hw hP hS => ?_)
    have w_22 : ((r_20.toInt = -1 ∨ (0 ≤ r_20.toInt ∧ r_20.toInt < (c17 0).toInt ∧ (c24 (16 * i1.toInt + 8 * r_8.toInt + r_20.toInt).toNat).toInt < (c17 1).toInt))) := hw
    obtain c_23 := w_22
    exact W.iret (v := r_20) hx hb hr (fun t ht hW => ⟨⟨r_20, (), rfl, (⟨(show (r_20.toInt = -1 ∨ (0 ≤ r_20.toInt ∧ r_20.toInt < (c17 0).toInt ∧ (c24 (16 * i1.toInt + 8 * (sdm (c21 (8 * i2.toInt).toNat) (c29 (3 * i1.toInt + 1).toNat)).toInt + r_20.toInt).toNat).toInt < (c17 1).toInt)) by rw [← show r_8 = sdm (c21 (8 * i2.toInt).toNat) (c29 (3 * i1.toInt + 1).toNat) by assumption]; omega), (show (r_20.toInt = -1 ∨ ¬ nsb c28 c19 (c21 (8 * i2.toInt + 4).toNat).toInt i1.toInt (c18 0).toInt.toNat) by rcases c_6 with ⟨h8, h9⟩ | ⟨h8, h9⟩; (first | exact Or.inl (by omega) | (exfalso; omega)); (first | exact Or.inr h9 | exact Or.inl (by omega)))⟩), trivial⟩, hS.F ht⟩) hS.2.2 dX11_columnOf_50
  · have c_7 : r_1.toInt = (-1) := (c_eq (x := r_1.toInt) (y := (-1)) rfl rfl).mp c_7
    refine lv_iconst (v := (-1)) hx hb dX11_columnOf_12 (by decide) ?_
    refine lv_goto (tgt := 50) hx hb dX11_columnOf_13 (by decide) ?_
    exact W.iret (v := (-1)) hx hb hr (fun t ht hW => ⟨⟨(-1), (), rfl, (⟨(show ((-1 : Int) = -1 ∨ (0 ≤ (-1 : Int) ∧ (-1 : Int) < (c17 0).toInt ∧ (c24 (16 * i1.toInt + 8 * (sdm (c21 (8 * i2.toInt).toNat) (c29 (3 * i1.toInt + 1).toNat)).toInt + (-1 : Int)).toNat).toInt < (c17 1).toInt)) by omega), (show ((-1 : Int) = -1 ∨ ¬ nsb c28 c19 (c21 (8 * i2.toInt + 4).toNat).toInt i1.toInt (c18 0).toInt.toNat) by rcases c_6 with ⟨h8, h9⟩ | ⟨h8, h9⟩; (first | exact Or.inl (by omega) | (exfalso; omega)); (first | exact Or.inr h9 | exact Or.inl (by omega)))⟩), trivial⟩, hS.F ht⟩) hS.2.2 dX11_columnOf_50

set_option maxHeartbeats 4000000 in
set_option maxRecDepth 100000 in
theorem c_X11_mayVote (l : Launch) (D : va_G) (T : Nat → ClassId) (y1 y16 y17 y18 y19 y2 y20 y21 y22 y23 y24 y25 y26 y27 y28 y29 y3 y30 y31 y32 y36 y4 y40 y41 y42 y5 ym : Nat) (i1 i2 w0 w10 w12 w13 w14 w15 w33 w34 w35 w37 w38 w39 w43 w6 w7 w8 w9 : Int32) (v11 v44 : Int64) (c21 c29 : Nat → Int32) (h_w6 : 0 ≤ w6.toInt ∧ w6.toInt ≤ 1600) (h_w43 : 0 ≤ w43.toInt ∧ w43.toInt ≤ 16) (h_i1 : 0 ≤ i1.toInt ∧ i1.toInt ≤ 4) (h_i2 : 0 ≤ i2.toInt ∧ i2.toInt ≤ 9) (P_0 : pg 3 0 0 100 c29) (P_1 : pg 3 1 0 2 c29) : Met l yX11_mayVote (wM yX11_mayVote cX11_mayVote 3 (some .boolean)) ({ frames := 1, cells := 0, slots := 0, locals := 25 }) (va_Pc [.ref ym, .int i1, .int i2] (pwP D T [(ym, .inr (11, [.int w0, .ref y1, .ref y2, .ref y3, .ref y4, .ref y5, .int w6, .int w7, .int w8, .int w9, .int w10, .long v11, .int w12, .int w13, .int w14, .int w15, .ref y16, .ref y17, .ref y18, .ref y19, .ref y20, .ref y21, .ref y22, .ref y23, .ref y24, .ref y25, .ref y26, .ref y27, .ref y28, .ref y29, .ref y30, .ref y31, .ref y32, .int w33, .int w34, .int w35, .ref y36, .int w37, .int w38, .int w39, .ref y40, .ref y41, .ref y42, .int w43, .long v44])), (y21, .inl (T 0, 400, .inl c21)), (y29, .inl (T 0, 15, .inl c29))])) (va_Qi (fun (r : Int32) (u : Unit) => (r = 1) ∨ (r = 0)) (fun _ _ => True) (fun _ => False)) 0 0 (fun _ => False) := by
  refine Met.ofW (cc := cX11_mayVote) (maxL := 3) (ret := (some .boolean)) (by decide) rfl ?_
  intro p e s m args below meth c s₁ B hml hv
  obtain ⟨rfl, hP, hC⟩ := hv
  have hx := B.exec
  have hb := B.bytes
  have hr := B.returns
  have hts : ∀ w ∈ gt, w.before _ s = true := fun w hw => atoms_spec (ws := (wM yX11_mayVote cX11_mayVote 3 (some .boolean))) B.pre w (List.mem_cons_of_mem _ hw)
  have hown : s.vm.findClass RX11 = some m.cls := findClass_of_methodNamed B.named
  have hlocks := B.notSynchronized
  have hK := hC.1
  have hS : va_S (fun _ => False) s.heap s.heap [] := va_S.rf
  have hl := lv_entry ([.ref ym, .int i1, .int i2]) (n := 3) (Nat.le_of_ble_eq_true rfl)
  rw [lg_entry_eq]
  generalize (lg_sl ([.ref ym, .int i1, .int i2]) ++ List.replicate (3 - (lg_sl ([.ref ym, .int i1, .int i2])).length) Slot.unset).toArray = ls at hl ⊢
  have hl : lv_has ls 3 [(0, .ref ym), (1, .int i1), (2, .int i2)] := hl
  have b_y29_0 : 0 ≤ (c29 0).toInt ∧ (c29 0).toInt ≤ 100 := P_0 0
  have b_y29_1 : 0 ≤ (c29 1).toInt ∧ (c29 1).toInt ≤ 2 := P_1 0
  refine lv_aload_n hx hb dX11_mayVote_0 rfl (lv_at hl 0 rfl) ?_
  refine va_get (D := D) (ci := 11) (C := RX11) (T := TX11) (N := 45) hx hb hts iX11 hown hK hP 0 rfl rfl 29 (by decide) (hts _ m1347) (fun _ h9 => h9) rfl dX11_mayVote_1 ?_
  refine lv_iconst (v := 3) hx hb dX11_mayVote_4 (by decide) ?_
  refine lv_iload_n hx hb dX11_mayVote_5 rfl (lv_at hl 1 rfl) ?_
  refine lv_imul hx hb dX11_mayVote_6 ?_
  refine lv_topi (fun x_1 ex_1 => ?_)
  have tx_1 : x_1.toInt = 3 * i1.toInt := t_mul (x := 3) (y := i1.toInt) ex_1 rfl rfl (by omega) (by omega)
  refine lv_iconst (v := 0) hx hb dX11_mayVote_7 (by decide) ?_
  refine lv_iadd hx hb dX11_mayVote_8 ?_
  refine lv_topi (fun x_2 ex_2 => ?_)
  have tx_2 : x_2.toInt = x_1.toInt + 0 := t_add (x := x_1.toInt) (y := 0) ex_2 rfl rfl (by omega) (by omega)
  refine va_iald (D := D) hx hb hK hP 2 0 rfl rfl (v_in (x := x_2.toInt) rfl (by omega) (by omega)) dX11_mayVote_9 ?_
  refine lv_topi (fun x_3 ex_3 => ?_)
  have tx_3 : 0 ≤ x_3.toInt ∧ x_3.toInt ≤ 100 := pg_at P_0 (j := (i1.toInt.toNat + 0)) ex_3 (by rw [tn (x := x_2) rfl]; omega)
  have qx_3 : x_3.toInt = (c29 (3 * i1.toInt + 0).toNat).toInt := by rw [ex_3, tn (show x_2.toInt = 3 * i1.toInt + 0 by omega)]
  refine lv_i2l hx hb dX11_mayVote_10 rfl ?_
  refine lv_aload_n hx hb dX11_mayVote_11 rfl (lv_at hl 0 rfl) ?_
  refine va_get (D := D) (ci := 11) (C := RX11) (T := TX11) (N := 45) hx hb hts iX11 hown hK hP 0 rfl rfl 21 (by decide) (hts _ m1339) (fun _ h9 => h9) rfl dX11_mayVote_12 ?_
  refine lv_bipush (v := 8) hx hb dX11_mayVote_15 (by decide) ?_
  refine lv_iload_n hx hb dX11_mayVote_17 rfl (lv_at hl 2 rfl) ?_
  refine lv_imul hx hb dX11_mayVote_18 ?_
  refine lv_topi (fun x_4 ex_4 => ?_)
  have tx_4 : x_4.toInt = 8 * i2.toInt := t_mul (x := 8) (y := i2.toInt) ex_4 rfl rfl (by omega) (by omega)
  refine lv_bipush (v := 6) hx hb dX11_mayVote_19 (by decide) ?_
  refine lv_iadd hx hb dX11_mayVote_21 ?_
  refine lv_topi (fun x_5 ex_5 => ?_)
  have tx_5 : x_5.toInt = x_4.toInt + 6 := t_add (x := x_4.toInt) (y := 6) ex_5 rfl rfl (by omega) (by omega)
  refine va_iald (D := D) hx hb hK hP 1 0 rfl rfl (v_in (x := x_5.toInt) rfl (by omega) (by omega)) dX11_mayVote_22 ?_
  refine lv_topi (fun x_6 ex_6 => ?_)
  refine lv_i2l hx hb dX11_mayVote_23 rfl ?_
  refine lv_aload_n hx hb dX11_mayVote_24 rfl (lv_at hl 0 rfl) ?_
  refine va_get (D := D) (ci := 11) (C := RX11) (T := TX11) (N := 45) hx hb hts iX11 hown hK hP 0 rfl rfl 21 (by decide) (hts _ m1339) (fun _ h9 => h9) rfl dX11_mayVote_25 ?_
  refine lv_bipush (v := 8) hx hb dX11_mayVote_28 (by decide) ?_
  refine lv_iload_n hx hb dX11_mayVote_30 rfl (lv_at hl 2 rfl) ?_
  refine lv_imul hx hb dX11_mayVote_31 ?_
  refine lv_topi (fun x_7 ex_7 => ?_)
  have tx_7 : x_7.toInt = 8 * i2.toInt := t_mul (x := 8) (y := i2.toInt) ex_7 rfl rfl (by omega) (by omega)
  refine lv_bipush (v := 7) hx hb dX11_mayVote_32 (by decide) ?_
  refine lv_iadd hx hb dX11_mayVote_34 ?_
  refine lv_topi (fun x_8 ex_8 => ?_)
  have tx_8 : x_8.toInt = x_7.toInt + 7 := t_add (x := x_7.toInt) (y := 7) ex_8 rfl rfl (by omega) (by omega)
  refine va_iald (D := D) hx hb hK hP 1 0 rfl rfl (v_in (x := x_8.toInt) rfl (by omega) (by omega)) dX11_mayVote_35 ?_
  refine lv_topi (fun x_9 ex_9 => ?_)
  refine lv_i2l hx hb dX11_mayVote_36 rfl ?_
  refine puI (cS (As := [.long x_3.toInt64, .long x_6.toInt64, .long x_9.toInt64]) (rest := []) ⟨hx, hb, hml, hown, hts⟩ (c_X11_in l D T x_3.toInt64 x_6.toInt64 x_9.toInt64) k_X11_in m1462 m1461 rfl rfl ⟨(Nat.le_of_ble_eq_true rfl), (Nat.le_of_ble_eq_true rfl)⟩ (preP hC (hP.sub (ws' := []) [] rfl)) rfl hl.1 rfl (Nat.le_of_ble_eq_true rfl) dX11_mayVote_37 ⟨(Nat.le_of_ble_eq_true rfl), (Nat.le_of_ble_eq_true rfl)⟩) hS hP (fun r_10 H locs hw hP hS => ?_)
  have w_12 : (r_10 = 1 ∧ x_6.toInt64.toInt ≤ x_3.toInt64.toInt ∧ x_3.toInt64.toInt ≤ x_9.toInt64.toInt) ∨ (r_10 = 0 ∧ (x_3.toInt64.toInt < x_6.toInt64.toInt ∨ x_9.toInt64.toInt < x_3.toInt64.toInt)) := hw
  rcases w_12 with ⟨rfl, c_13, c_14⟩ | ⟨rfl, c_15⟩
  · have c_13 : x_6.toInt ≤ x_3.toInt := kle (i_64 _) (i_64 _) c_13
    have c_14 : x_3.toInt ≤ x_9.toInt := kle (i_64 _) (i_64 _) c_14
    exact W.zret (v := 1) hx hb hr rfl (fun t ht hW => ⟨⟨1, (), rfl, (Or.inl rfl), trivial⟩, hS.F ht⟩) hS.2.2 dX11_mayVote_40
  · have c_15 : x_3.toInt < x_6.toInt ∨ x_9.toInt < x_3.toInt := klo (i_64 _) (i_64 _) (i_64 _) c_15
    exact W.zret (v := 0) hx hb hr rfl (fun t ht hW => ⟨⟨0, (), rfl, (Or.inr rfl), trivial⟩, hS.F ht⟩) hS.2.2 dX11_mayVote_40

set_option maxHeartbeats 4000000 in
set_option maxRecDepth 100000 in
theorem c_X11_would (l : Launch) (D : va_G) (T : Nat → ClassId) (y1 y16 y17 y18 y19 y2 y20 y21 y22 y23 y24 y25 y26 y27 y28 y29 y3 y30 y31 y32 y36 y4 y40 y41 y42 y5 ym : Nat) (i1 i2 w0 w10 w12 w13 w14 w15 w33 w34 w35 w37 w38 w39 w43 w6 w7 w8 w9 : Int32) (v11 v44 : Int64) (c17 c18 c19 c20 c21 c24 c25 c28 c29 : Nat → Int32) (sz : Nat) (h_w6 : 0 ≤ w6.toInt ∧ w6.toInt ≤ 1600) (h_w43 : 0 ≤ w43.toInt ∧ w43.toInt ≤ 16) (R_c18 : rg 0 5 c18) (R_c20 : rg 0 10 c20) (R_c24 : rg 0 12 c24) (R_c25 : rg 0 4 c25) (P_0 : pg 3 0 0 8 c17) (P_1 : pg 3 1 0 12 c17) (P_2 : pg 3 0 0 100 c29) (P_3 : pg 3 1 0 2 c29) (P_4 : vr 0 c20 c21) (P_5 : vr 1 c20 c21) (P_6 : vr 2 c20 c21) (P_7 : vr 3 c20 c21) : Met l yX11_would (wM yX11_would cX11_would 3 (some .int)) ({ frames := 6, cells := 0, slots := 0, locals := 150 }) (va_Pc [.ref ym, .int i1, .int i2] (pwM D T [(ym, .inr (11, [.int w0, .ref y1, .ref y2, .ref y3, .ref y4, .ref y5, .int w6, .int w7, .int w8, .int w9, .int w10, .long v11, .int w12, .int w13, .int w14, .int w15, .ref y16, .ref y17, .ref y18, .ref y19, .ref y20, .ref y21, .ref y22, .ref y23, .ref y24, .ref y25, .ref y26, .ref y27, .ref y28, .ref y29, .ref y30, .ref y31, .ref y32, .int w33, .int w34, .int w35, .ref y36, .int w37, .int w38, .int w39, .ref y40, .ref y41, .ref y42, .int w43, .long v44])), (y17, .inl (T 0, 15, .inl c17)), (y18, .inl (T 0, 5, .inl c18)), (y19, .inl (T 0, 75, .inl c19)), (y20, .inl (T 0, 5, .inl c20)), (y21, .inl (T 0, 400, .inl c21)), (y24, .inl (T 0, 80, .inl c24)), (y25, .inl (T 0, 960, .inl c25)), (y28, .inl (T 0, 25, .inl c28)), (y29, .inl (T 0, 15, .inl c29))] sz)) (va_Qi (fun (r : Int32) (u : U5) => True) (fun u t => pwE D (va_A [(ym, .inr (11, [.int w0, .ref y1, .ref y2, .ref y3, .ref y4, .ref y5, .int w6, .int w7, .int w8, .int w9, .int w10, .long v11, .int w12, .int w13, .int w14, .int w15, .ref y16, .ref y17, .ref y18, .ref y19, .ref y20, .ref y21, .ref y22, .ref y23, .ref y24, .ref y25, .ref y26, .ref y27, .ref y28, .ref y29, .ref y30, .ref y31, .ref y32, .int w33, .int w34, .int w35, .ref y36, .int w37, .int w38, .int w39, .ref y40, .ref y41, .ref y42, .int w43, .long v44])), (y17, .inl (T 0, 15, .inl c17)), (y18, .inl (T 0, 5, .inl c18)), (y19, .inl (T 0, 75, .inl c19)), (y20, .inl (T 0, 5, .inl c20)), (y21, .inl (T 0, 400, .inl c21)), (y24, .inl (T 0, 80, .inl c24)), (y25, .inl (T 0, 960, .inl c25)), (y28, .inl (T 0, 25, .inl c28)), (y29, .inl (T 0, 15, .inl c29))] sz) [(ym, .inr (11, [.int 0, .ref y1, .ref y2, .ref y3, .ref y4, .ref y5, .int w6, .int w7, .int w8, .int w9, .int w10, .long v11, .int w12, .int w13, .int w14, .int w15, .ref y16, .ref y17, .ref y18, .ref y19, .ref y20, .ref y21, .ref y22, .ref y23, .ref y24, .ref y25, .ref y26, .ref y27, .ref y28, .ref y29, .ref y30, .ref y31, .ref y32, .int w33, .int w34, .int w35, .ref y36, .int w37, .int w38, .int w39, .ref y40, .ref y41, .ref y42, .int w43, .long v44])), (y17, .inl (T 0, 15, .inl c17)), (y18, .inl (T 0, 5, .inl c18)), (y19, .inl (T 0, 75, .inl c19)), (y20, .inl (T 0, 5, .inl c20)), (y21, .inl (T 0, 400, .inl c21)), (y24, .inl (T 0, 80, .inl c24)), (y25, .inl (T 0, 960, .inl c25)), (y28, .inl (T 0, 25, .inl c28)), (y29, .inl (T 0, 15, .inl c29))] t) (va_A [(ym, .inr (11, [.int w0, .ref y1, .ref y2, .ref y3, .ref y4, .ref y5, .int w6, .int w7, .int w8, .int w9, .int w10, .long v11, .int w12, .int w13, .int w14, .int w15, .ref y16, .ref y17, .ref y18, .ref y19, .ref y20, .ref y21, .ref y22, .ref y23, .ref y24, .ref y25, .ref y26, .ref y27, .ref y28, .ref y29, .ref y30, .ref y31, .ref y32, .int w33, .int w34, .int w35, .ref y36, .int w37, .int w38, .int w39, .ref y40, .ref y41, .ref y42, .int w43, .long v44])), (y17, .inl (T 0, 15, .inl c17)), (y18, .inl (T 0, 5, .inl c18)), (y19, .inl (T 0, 75, .inl c19)), (y20, .inl (T 0, 5, .inl c20)), (y21, .inl (T 0, 400, .inl c21)), (y24, .inl (T 0, 80, .inl c24)), (y25, .inl (T 0, 960, .inl c25)), (y28, .inl (T 0, 25, .inl c28)), (y29, .inl (T 0, 15, .inl c29))] sz)) 0 0 (va_A [(ym, .inr (11, [.int w0, .ref y1, .ref y2, .ref y3, .ref y4, .ref y5, .int w6, .int w7, .int w8, .int w9, .int w10, .long v11, .int w12, .int w13, .int w14, .int w15, .ref y16, .ref y17, .ref y18, .ref y19, .ref y20, .ref y21, .ref y22, .ref y23, .ref y24, .ref y25, .ref y26, .ref y27, .ref y28, .ref y29, .ref y30, .ref y31, .ref y32, .int w33, .int w34, .int w35, .ref y36, .int w37, .int w38, .int w39, .ref y40, .ref y41, .ref y42, .int w43, .long v44])), (y17, .inl (T 0, 15, .inl c17)), (y18, .inl (T 0, 5, .inl c18)), (y19, .inl (T 0, 75, .inl c19)), (y20, .inl (T 0, 5, .inl c20)), (y21, .inl (T 0, 400, .inl c21)), (y24, .inl (T 0, 80, .inl c24)), (y25, .inl (T 0, 960, .inl c25)), (y28, .inl (T 0, 25, .inl c28)), (y29, .inl (T 0, 15, .inl c29))] sz) := by
  refine Met.ofW (cc := cX11_would) (maxL := 3) (ret := (some .int)) (by decide) rfl ?_
  intro p e s m args below meth c s₁ B hml hv
  obtain ⟨rfl, hsz, hP, hC, hD0⟩ := hv
  have hx := B.exec
  have hb := B.bytes
  have hr := B.returns
  have hts : ∀ w ∈ gt, w.before _ s = true := fun w hw => atoms_spec (ws := (wM yX11_would cX11_would 3 (some .int))) B.pre w (List.mem_cons_of_mem _ hw)
  have hown : s.vm.findClass RX11 = some m.cls := findClass_of_methodNamed B.named
  have hlocks := B.notSynchronized
  have hK := hC.1
  subst hsz
  have hD := hD0.self (sz := s.heap.size)
  generalize hAe : va_A [(ym, .inr (11, [.int w0, .ref y1, .ref y2, .ref y3, .ref y4, .ref y5, .int w6, .int w7, .int w8, .int w9, .int w10, .long v11, .int w12, .int w13, .int w14, .int w15, .ref y16, .ref y17, .ref y18, .ref y19, .ref y20, .ref y21, .ref y22, .ref y23, .ref y24, .ref y25, .ref y26, .ref y27, .ref y28, .ref y29, .ref y30, .ref y31, .ref y32, .int w33, .int w34, .int w35, .ref y36, .int w37, .int w38, .int w39, .ref y40, .ref y41, .ref y42, .int w43, .long v44])), (y17, .inl (T 0, 15, .inl c17)), (y18, .inl (T 0, 5, .inl c18)), (y19, .inl (T 0, 75, .inl c19)), (y20, .inl (T 0, 5, .inl c20)), (y21, .inl (T 0, 400, .inl c21)), (y24, .inl (T 0, 80, .inl c24)), (y25, .inl (T 0, 960, .inl c25)), (y28, .inl (T 0, 25, .inl c28)), (y29, .inl (T 0, 15, .inl c29))] s.heap.size = A at hD ⊢
  have hA : ∀ q : Nat, s.heap.size ≤ q → A q := fun q h => by rw [← hAe]; exact Or.inr h
  have hS : va_S A s.heap s.heap [] := va_S.rf
  have hl := lv_entry ([.ref ym, .int i1, .int i2]) (n := 3) (Nat.le_of_ble_eq_true rfl)
  rw [lg_entry_eq]
  generalize (lg_sl ([.ref ym, .int i1, .int i2]) ++ List.replicate (3 - (lg_sl ([.ref ym, .int i1, .int i2])).length) Slot.unset).toArray = ls at hl ⊢
  have hl : lv_has ls 3 [(0, .ref ym), (1, .int i1), (2, .int i2)] := hl
  have b_y17_0 : 0 ≤ (c17 0).toInt ∧ (c17 0).toInt ≤ 8 := P_0 0
  have b_y17_1 : 0 ≤ (c17 1).toInt ∧ (c17 1).toInt ≤ 12 := P_1 0
  have b_y29_0 : 0 ≤ (c29 0).toInt ∧ (c29 0).toInt ≤ 100 := P_2 0
  have b_y29_1 : 0 ≤ (c29 1).toInt ∧ (c29 1).toInt ≤ 2 := P_3 0
  have b_y18 : 0 ≤ (c18 0).toInt ∧ (c18 0).toInt ≤ 5 := R_c18 0
  have b_y18_4 : 0 ≤ (c18 4).toInt ∧ (c18 4).toInt ≤ 5 := R_c18 4
  have b_y20 : 0 ≤ (c20 0).toInt ∧ (c20 0).toInt ≤ 10 := R_c20 0
  have b_y20_4 : 0 ≤ (c20 4).toInt ∧ (c20 4).toInt ≤ 10 := R_c20 4
  have n29 : (c29 (3 * (0 : Int) + 0).toNat).toInt = (c29 0).toInt := rfl
  refine lv_aload_n hx hb dX11_would_0 rfl (lv_at hl 0 rfl) ?_
  refine lv_iconst (v := 0) hx hb dX11_would_1 (by decide) ?_
  refine va_put (D := D) (ci := 11) (v := .int 0) (ty := .int) (C := RX11) (T := TX11) (N := 45) hx hb hts iX11 tyX11 tyX11_ok nmX11 hown hK hP hD hS 0 rfl rfl 0 (by decide) (hts _ m1318) (fun _ h9 => h9) rfl (by decide +kernel) rfl rfl (Nat.le_of_ble_eq_true rfl) dX11_would_2 (fun H locs hP hD hS => ?_)
  have hP : va_P D vwCl [(ym, .inr (11, [.int 0, .ref y1, .ref y2, .ref y3, .ref y4, .ref y5, .int w6, .int w7, .int w8, .int w9, .int w10, .long v11, .int w12, .int w13, .int w14, .int w15, .ref y16, .ref y17, .ref y18, .ref y19, .ref y20, .ref y21, .ref y22, .ref y23, .ref y24, .ref y25, .ref y26, .ref y27, .ref y28, .ref y29, .ref y30, .ref y31, .ref y32, .int w33, .int w34, .int w35, .ref y36, .int w37, .int w38, .int w39, .ref y40, .ref y41, .ref y42, .int w43, .long v44])), (y17, .inl (T 0, 15, .inl c17)), (y18, .inl (T 0, 5, .inl c18)), (y19, .inl (T 0, 75, .inl c19)), (y20, .inl (T 0, 5, .inl c20)), (y21, .inl (T 0, 400, .inl c21)), (y24, .inl (T 0, 80, .inl c24)), (y25, .inl (T 0, 960, .inl c25)), (y28, .inl (T 0, 25, .inl c28)), (y29, .inl (T 0, 15, .inl c29))] H := hP
  have hD : va_D A [(ym, .inr (11, [.int 0, .ref y1, .ref y2, .ref y3, .ref y4, .ref y5, .int w6, .int w7, .int w8, .int w9, .int w10, .long v11, .int w12, .int w13, .int w14, .int w15, .ref y16, .ref y17, .ref y18, .ref y19, .ref y20, .ref y21, .ref y22, .ref y23, .ref y24, .ref y25, .ref y26, .ref y27, .ref y28, .ref y29, .ref y30, .ref y31, .ref y32, .int w33, .int w34, .int w35, .ref y36, .int w37, .int w38, .int w39, .ref y40, .ref y41, .ref y42, .int w43, .long v44])), (y17, .inl (T 0, 15, .inl c17)), (y18, .inl (T 0, 5, .inl c18)), (y19, .inl (T 0, 75, .inl c19)), (y20, .inl (T 0, 5, .inl c20)), (y21, .inl (T 0, 400, .inl c21)), (y24, .inl (T 0, 80, .inl c24)), (y25, .inl (T 0, 960, .inl c25)), (y28, .inl (T 0, 25, .inl c28)), (y29, .inl (T 0, 15, .inl c29))] := hD
  refine lv_aload_n hx hb dX11_would_5 rfl (lv_at hl 0 rfl) ?_
  refine lv_iload_n hx hb dX11_would_6 rfl (lv_at hl 1 rfl) ?_
  refine puI (cV (As := [.int i1]) (rest := []) ⟨hx, hb, hml, hown, hts⟩ (c_X11_isVoter l D T y1 y16 y17 y18 y19 y2 y20 y21 y22 y23 y24 y25 y26 y27 y28 y29 y3 y30 y31 y32 y36 y4 y40 y41 y42 y5 ym i1 0 w10 w12 w13 w14 w15 w33 w34 w35 w37 w38 w39 w43 w6 w7 w8 w9 v11 v44 c20 ⟨by omega, by omega⟩ ⟨by omega, by omega⟩ R_c20) k_X11_isVoter v_X11_isVoter m1717 rfl rfl ⟨(Nat.le_of_ble_eq_true rfl), (Nat.le_of_ble_eq_true rfl)⟩ (preP hC (hP.sub (ws' := [(ym, .inr (11, [.int 0, .ref y1, .ref y2, .ref y3, .ref y4, .ref y5, .int w6, .int w7, .int w8, .int w9, .int w10, .long v11, .int w12, .int w13, .int w14, .int w15, .ref y16, .ref y17, .ref y18, .ref y19, .ref y20, .ref y21, .ref y22, .ref y23, .ref y24, .ref y25, .ref y26, .ref y27, .ref y28, .ref y29, .ref y30, .ref y31, .ref y32, .int w33, .int w34, .int w35, .ref y36, .int w37, .int w38, .int w39, .ref y40, .ref y41, .ref y42, .int w43, .long v44])), (y20, .inl (T 0, 5, .inl c20))]) [0, 4] rfl)) (va_recv hK hP (ci := 11) (q0 := 0) rfl rfl) rfl hl.1 rfl (Nat.le_of_ble_eq_true rfl) dX11_would_7 ⟨(Nat.le_of_ble_eq_true rfl), (Nat.le_of_ble_eq_true rfl)⟩) hS hP (fun r_1 H locs hw hP hS => ?_)
  have w_3 : (r_1 = 1 ∧ 0 ≤ i1.toInt ∧ i1.toInt < (c20 0).toInt) ∨ (r_1 = 0) := hw
  rcases w_3 with ⟨rfl, c_4, c_5⟩ | rfl
  · refine lv_if_eq (tgt := 25) hx hb dX11_would_10 (by decide) (fun c_6 => absurd c_6 (by decide)) (fun _ => ?_)
    refine lv_iload_n hx hb dX11_would_13 rfl (lv_at hl 2 rfl) ?_
    refine lv_i2l hx hb dX11_would_14 rfl ?_
    refine lv_lconst (v := 0) hx hb dX11_would_15 (by decide) ?_
    refine lv_ldc2 (v := 2) hx hb hown (hts _ m1721) dX11_would_16 ?_
    refine puI (cS (As := [.long i2.toInt64, .long 0, .long 2]) (rest := []) ⟨hx, hb, hml, hown, hts⟩ (c_X11_in l D T i2.toInt64 0 2) k_X11_in m1462 m1461 rfl rfl ⟨(Nat.le_of_ble_eq_true rfl), (Nat.le_of_ble_eq_true rfl)⟩ (preP hC (hP.sub (ws' := []) [] rfl)) rfl hl.1 rfl (Nat.le_of_ble_eq_true rfl) dX11_would_19 ⟨(Nat.le_of_ble_eq_true rfl), (Nat.le_of_ble_eq_true rfl)⟩) hS hP (fun r_7 H locs hw hP hS => ?_)
    have w_9 : (r_7 = 1 ∧ (0 : Int64).toInt ≤ i2.toInt64.toInt ∧ i2.toInt64.toInt ≤ (2 : Int64).toInt) ∨ (r_7 = 0 ∧ (i2.toInt64.toInt < (0 : Int64).toInt ∨ (2 : Int64).toInt < i2.toInt64.toInt)) := hw
    rcases w_9 with ⟨rfl, c_10, c_11⟩ | ⟨rfl, c_12⟩
    · have c_10 : 0 ≤ i2.toInt := kle (by decide) (i_64 _) c_10
      have c_11 : i2.toInt ≤ 2 := kle (i_64 _) (by decide) c_11
      refine lv_if_ne (tgt := 28) hx hb dX11_would_22 (by decide) (fun _ => ?_) (fun c_13 => absurd c_13 (by decide))
      refine lv_iload_n hx hb dX11_would_28 rfl (lv_at hl 2 rfl) ?_
      refine lv_if_ne (tgt := 41) hx hb dX11_would_29 (by decide) (fun c_14 => ?_) (fun c_14 => ?_)
      · have c_14 : ¬ i2.toInt = 0 := fun h => c_14 ((c_eq (x := i2.toInt) (y := 0) rfl rfl).mpr h)
        refine lv_iload_n hx hb dX11_would_41 rfl (lv_at hl 2 rfl) ?_
        refine lv_iconst (v := 1) hx hb dX11_would_42 (by decide) ?_
        refine lv_icmp_ne (tgt := 55) hx hb dX11_would_43 (by decide) (fun c_15 => ?_) (fun c_15 => ?_)
        · have c_15 : ¬ i2.toInt = 1 := fun h => c_15 ((c_eq (x := i2.toInt) (y := 1) rfl rfl).mpr h)
          refine lv_aload_n hx hb dX11_would_55 rfl (lv_at hl 0 rfl) ?_
          refine lv_iconst (v := 0) hx hb dX11_would_56 (by decide) ?_
          refine lv_iload_n hx hb dX11_would_57 rfl (lv_at hl 1 rfl) ?_
          refine puI (cV (As := [.int 0, .int i1]) (rest := []) ⟨hx, hb, hml, hown, hts⟩ (c_X11_columnOf l D T y1 y16 y17 y18 y19 y2 y20 y21 y22 y23 y24 y25 y26 y27 y28 y29 y3 y30 y31 y32 y36 y4 y40 y41 y42 y5 ym 0 i1 0 w10 w12 w13 w14 w15 w33 w34 w35 w37 w38 w39 w43 w6 w7 w8 w9 v11 v44 c17 c18 c19 c20 c21 c24 c25 c28 c29 ⟨by omega, by omega⟩ ⟨by omega, by omega⟩ (by decide) ⟨by omega, by omega⟩ R_c18 R_c20 R_c24 R_c25 P_0 P_1 P_2 P_3 P_4 P_5 P_6 P_7 (by omega)) k_X11_columnOf v_X11_columnOf m1730 rfl rfl ⟨(Nat.le_of_ble_eq_true rfl), (Nat.le_of_ble_eq_true rfl)⟩ (preP hC (hP.sub (ws' := [(ym, .inr (11, [.int 0, .ref y1, .ref y2, .ref y3, .ref y4, .ref y5, .int w6, .int w7, .int w8, .int w9, .int w10, .long v11, .int w12, .int w13, .int w14, .int w15, .ref y16, .ref y17, .ref y18, .ref y19, .ref y20, .ref y21, .ref y22, .ref y23, .ref y24, .ref y25, .ref y26, .ref y27, .ref y28, .ref y29, .ref y30, .ref y31, .ref y32, .int w33, .int w34, .int w35, .ref y36, .int w37, .int w38, .int w39, .ref y40, .ref y41, .ref y42, .int w43, .long v44])), (y17, .inl (T 0, 15, .inl c17)), (y18, .inl (T 0, 5, .inl c18)), (y19, .inl (T 0, 75, .inl c19)), (y20, .inl (T 0, 5, .inl c20)), (y21, .inl (T 0, 400, .inl c21)), (y24, .inl (T 0, 80, .inl c24)), (y25, .inl (T 0, 960, .inl c25)), (y28, .inl (T 0, 25, .inl c28)), (y29, .inl (T 0, 15, .inl c29))]) [0, 1, 2, 3, 4, 5, 6, 7, 8, 9] rfl)) (va_recv hK hP (ci := 11) (q0 := 0) rfl rfl) rfl hl.1 rfl (Nat.le_of_ble_eq_true rfl) dX11_would_58 ⟨(Nat.le_of_ble_eq_true rfl), (Nat.le_of_ble_eq_true rfl)⟩) hS hP (fun r_16 H locs hw hP hS => ?_)
          have w_18 : ((r_16.toInt = -1 ∨ (0 ≤ r_16.toInt ∧ r_16.toInt < (c17 0).toInt ∧ (c24 (16 * (0 : Int) + 8 * (sdm (c21 (8 * i1.toInt).toNat) (c29 (3 * (0 : Int) + 1).toNat)).toInt + r_16.toInt).toNat).toInt < (c17 1).toInt)) ∧ (r_16.toInt = -1 ∨ ¬ nsb c28 c19 (c21 (8 * i1.toInt + 4).toNat).toInt (0 : Int) (c18 0).toInt.toNat)) := hw
          obtain ⟨c_19, c_20⟩ := w_18
          have hP9 := hP.sub (ws' := [(ym, .inr (11, [.int 0, .ref y1, .ref y2, .ref y3, .ref y4, .ref y5, .int w6, .int w7, .int w8, .int w9, .int w10, .long v11, .int w12, .int w13, .int w14, .int w15, .ref y16, .ref y17, .ref y18, .ref y19, .ref y20, .ref y21, .ref y22, .ref y23, .ref y24, .ref y25, .ref y26, .ref y27, .ref y28, .ref y29, .ref y30, .ref y31, .ref y32, .int w33, .int w34, .int w35, .ref y36, .int w37, .int w38, .int w39, .ref y40, .ref y41, .ref y42, .int w43, .long v44])), (y17, .inl (T 0, 15, .inl c17)), (y18, .inl (T 0, 5, .inl c18)), (y19, .inl (T 0, 75, .inl c19)), (y20, .inl (T 0, 5, .inl c20)), (y21, .inl (T 0, 400, .inl c21)), (y24, .inl (T 0, 80, .inl c24)), (y25, .inl (T 0, 960, .inl c25)), (y28, .inl (T 0, 25, .inl c28)), (y29, .inl (T 0, 15, .inl c29))]) [0, 1, 2, 3, 4, 5, 6, 7, 8, 9] rfl
          have hD9 := hD.sub (ws' := [(ym, .inr (11, [.int 0, .ref y1, .ref y2, .ref y3, .ref y4, .ref y5, .int w6, .int w7, .int w8, .int w9, .int w10, .long v11, .int w12, .int w13, .int w14, .int w15, .ref y16, .ref y17, .ref y18, .ref y19, .ref y20, .ref y21, .ref y22, .ref y23, .ref y24, .ref y25, .ref y26, .ref y27, .ref y28, .ref y29, .ref y30, .ref y31, .ref y32, .int w33, .int w34, .int w35, .ref y36, .int w37, .int w38, .int w39, .ref y40, .ref y41, .ref y42, .int w43, .long v44])), (y17, .inl (T 0, 15, .inl c17)), (y18, .inl (T 0, 5, .inl c18)), (y19, .inl (T 0, 75, .inl c19)), (y20, .inl (T 0, 5, .inl c20)), (y21, .inl (T 0, 400, .inl c21)), (y24, .inl (T 0, 80, .inl c24)), (y25, .inl (T 0, 960, .inl c25)), (y28, .inl (T 0, 25, .inl c28)), (y29, .inl (T 0, 15, .inl c29))]) [0, 1, 2, 3, 4, 5, 6, 7, 8, 9] (by decide) rfl
          exact W.iret (v := r_16) hx hb hr (fun t ht hW => ⟨⟨r_16, (fun k => ([] : List (Nat)).getD k 0, fun k => ([] : List (Nat → Int32)).getD k (fun _ => 0), fun k => ([] : List (Nat → Int64)).getD k (fun _ => 0), fun k => ([] : List (Int32)).getD k 0, fun k => ([] : List (Int64)).getD k 0), rfl, trivial, by rw [ht]; exact hP9, hD9⟩, hS.F ht⟩) hS.2.2 dX11_would_61
        · have c_15 : i2.toInt = 1 := (c_eq (x := i2.toInt) (y := 1) rfl rfl).mp c_15
          refine lv_aload_n hx hb dX11_would_46 rfl (lv_at hl 0 rfl) ?_
          refine lv_iconst (v := 0) hx hb dX11_would_47 (by decide) ?_
          refine lv_iload_n hx hb dX11_would_48 rfl (lv_at hl 1 rfl) ?_
          refine puI (cV (As := [.int 0, .int i1]) (rest := []) ⟨hx, hb, hml, hown, hts⟩ (c_X11_sortOf l D T y1 y16 y17 y18 y19 y2 y20 y21 y22 y23 y24 y25 y26 y27 y28 y29 y3 y30 y31 y32 y36 y4 y40 y41 y42 y5 ym 0 i1 0 w10 w12 w13 w14 w15 w33 w34 w35 w37 w38 w39 w43 w6 w7 w8 w9 v11 v44 c18 c19 c21 c28 ⟨by omega, by omega⟩ ⟨by omega, by omega⟩ (by decide) ⟨by omega, by omega⟩ R_c18) k_X11_sortOf v_X11_sortOf m1726 rfl rfl ⟨(Nat.le_of_ble_eq_true rfl), (Nat.le_of_ble_eq_true rfl)⟩ (preP hC (hP.sub (ws' := [(ym, .inr (11, [.int 0, .ref y1, .ref y2, .ref y3, .ref y4, .ref y5, .int w6, .int w7, .int w8, .int w9, .int w10, .long v11, .int w12, .int w13, .int w14, .int w15, .ref y16, .ref y17, .ref y18, .ref y19, .ref y20, .ref y21, .ref y22, .ref y23, .ref y24, .ref y25, .ref y26, .ref y27, .ref y28, .ref y29, .ref y30, .ref y31, .ref y32, .int w33, .int w34, .int w35, .ref y36, .int w37, .int w38, .int w39, .ref y40, .ref y41, .ref y42, .int w43, .long v44])), (y18, .inl (T 0, 5, .inl c18)), (y19, .inl (T 0, 75, .inl c19)), (y21, .inl (T 0, 400, .inl c21)), (y28, .inl (T 0, 25, .inl c28))]) [0, 2, 3, 5, 8] rfl)) (va_recv hK hP (ci := 11) (q0 := 0) rfl rfl) rfl hl.1 rfl (Nat.le_of_ble_eq_true rfl) dX11_would_49 ⟨(Nat.le_of_ble_eq_true rfl), (Nat.le_of_ble_eq_true rfl)⟩) hS hP (fun r_21 H locs hw hP hS => ?_)
          have w_23 : (-1 ≤ r_21.toInt ∧ r_21.toInt ≤ 4 ∧ ((r_21.toInt = -1 ∧ nsb c28 c19 (c21 (8 * i1.toInt + 4).toNat).toInt (0 : Int) (c18 0).toInt.toNat) ∨ (0 ≤ r_21.toInt ∧ ¬ nsb c28 c19 (c21 (8 * i1.toInt + 4).toNat).toInt (0 : Int) (c18 0).toInt.toNat))) := hw
          obtain ⟨c_24, c_25, c_26⟩ := w_23
          refine lv_goto (tgt := 61) hx hb dX11_would_52 (by decide) ?_
          have hP9 := hP.sub (ws' := [(ym, .inr (11, [.int 0, .ref y1, .ref y2, .ref y3, .ref y4, .ref y5, .int w6, .int w7, .int w8, .int w9, .int w10, .long v11, .int w12, .int w13, .int w14, .int w15, .ref y16, .ref y17, .ref y18, .ref y19, .ref y20, .ref y21, .ref y22, .ref y23, .ref y24, .ref y25, .ref y26, .ref y27, .ref y28, .ref y29, .ref y30, .ref y31, .ref y32, .int w33, .int w34, .int w35, .ref y36, .int w37, .int w38, .int w39, .ref y40, .ref y41, .ref y42, .int w43, .long v44])), (y17, .inl (T 0, 15, .inl c17)), (y18, .inl (T 0, 5, .inl c18)), (y19, .inl (T 0, 75, .inl c19)), (y20, .inl (T 0, 5, .inl c20)), (y21, .inl (T 0, 400, .inl c21)), (y24, .inl (T 0, 80, .inl c24)), (y25, .inl (T 0, 960, .inl c25)), (y28, .inl (T 0, 25, .inl c28)), (y29, .inl (T 0, 15, .inl c29))]) [0, 1, 2, 3, 4, 5, 6, 7, 8, 9] rfl
          have hD9 := hD.sub (ws' := [(ym, .inr (11, [.int 0, .ref y1, .ref y2, .ref y3, .ref y4, .ref y5, .int w6, .int w7, .int w8, .int w9, .int w10, .long v11, .int w12, .int w13, .int w14, .int w15, .ref y16, .ref y17, .ref y18, .ref y19, .ref y20, .ref y21, .ref y22, .ref y23, .ref y24, .ref y25, .ref y26, .ref y27, .ref y28, .ref y29, .ref y30, .ref y31, .ref y32, .int w33, .int w34, .int w35, .ref y36, .int w37, .int w38, .int w39, .ref y40, .ref y41, .ref y42, .int w43, .long v44])), (y17, .inl (T 0, 15, .inl c17)), (y18, .inl (T 0, 5, .inl c18)), (y19, .inl (T 0, 75, .inl c19)), (y20, .inl (T 0, 5, .inl c20)), (y21, .inl (T 0, 400, .inl c21)), (y24, .inl (T 0, 80, .inl c24)), (y25, .inl (T 0, 960, .inl c25)), (y28, .inl (T 0, 25, .inl c28)), (y29, .inl (T 0, 15, .inl c29))]) [0, 1, 2, 3, 4, 5, 6, 7, 8, 9] (by decide) rfl
          exact W.iret (v := r_21) hx hb hr (fun t ht hW => ⟨⟨r_21, (fun k => ([] : List (Nat)).getD k 0, fun k => ([] : List (Nat → Int32)).getD k (fun _ => 0), fun k => ([] : List (Nat → Int64)).getD k (fun _ => 0), fun k => ([] : List (Int32)).getD k 0, fun k => ([] : List (Int64)).getD k 0), rfl, trivial, by rw [ht]; exact hP9, hD9⟩, hS.F ht⟩) hS.2.2 dX11_would_61
      · have c_14 : i2.toInt = 0 := (c_eq (x := i2.toInt) (y := 0) rfl rfl).mp c_14
        refine lv_aload_n hx hb dX11_would_32 rfl (lv_at hl 0 rfl) ?_
        refine lv_iconst (v := 0) hx hb dX11_would_33 (by decide) ?_
        refine lv_iload_n hx hb dX11_would_34 rfl (lv_at hl 1 rfl) ?_
        refine puI (cV (As := [.int 0, .int i1]) (rest := []) ⟨hx, hb, hml, hown, hts⟩ (c_X11_sideOf l D T y1 y16 y17 y18 y19 y2 y20 y21 y22 y23 y24 y25 y26 y27 y28 y29 y3 y30 y31 y32 y36 y4 y40 y41 y42 y5 ym 0 i1 0 w10 w12 w13 w14 w15 w33 w34 w35 w37 w38 w39 w43 w6 w7 w8 w9 v11 v44 c20 c21 c29 ⟨by omega, by omega⟩ ⟨by omega, by omega⟩ (by decide) ⟨by omega, by omega⟩ R_c20 P_2 P_3 P_4 P_5 P_6 P_7 (by omega)) k_X11_sideOf v_X11_sideOf m1722 rfl rfl ⟨(Nat.le_of_ble_eq_true rfl), (Nat.le_of_ble_eq_true rfl)⟩ (preP hC (hP.sub (ws' := [(ym, .inr (11, [.int 0, .ref y1, .ref y2, .ref y3, .ref y4, .ref y5, .int w6, .int w7, .int w8, .int w9, .int w10, .long v11, .int w12, .int w13, .int w14, .int w15, .ref y16, .ref y17, .ref y18, .ref y19, .ref y20, .ref y21, .ref y22, .ref y23, .ref y24, .ref y25, .ref y26, .ref y27, .ref y28, .ref y29, .ref y30, .ref y31, .ref y32, .int w33, .int w34, .int w35, .ref y36, .int w37, .int w38, .int w39, .ref y40, .ref y41, .ref y42, .int w43, .long v44])), (y20, .inl (T 0, 5, .inl c20)), (y21, .inl (T 0, 400, .inl c21)), (y29, .inl (T 0, 15, .inl c29))]) [0, 4, 5, 9] rfl)) (va_recv hK hP (ci := 11) (q0 := 0) rfl rfl) rfl hl.1 rfl (Nat.le_of_ble_eq_true rfl) dX11_would_35 ⟨(Nat.le_of_ble_eq_true rfl), (Nat.le_of_ble_eq_true rfl)⟩) hS hP (fun r_27 H locs hw hP hS => ?_)
        have w_29 : (r_27 = sdm (c21 (8 * i1.toInt).toNat) (c29 (3 * (0 : Int) + 1).toNat) ∧ 0 ≤ r_27.toInt ∧ r_27.toInt ≤ 1) := hw
        obtain ⟨c_30, c_31, c_32⟩ := w_29
        refine lv_goto (tgt := 61) hx hb dX11_would_38 (by decide) ?_
        have hP9 := hP.sub (ws' := [(ym, .inr (11, [.int 0, .ref y1, .ref y2, .ref y3, .ref y4, .ref y5, .int w6, .int w7, .int w8, .int w9, .int w10, .long v11, .int w12, .int w13, .int w14, .int w15, .ref y16, .ref y17, .ref y18, .ref y19, .ref y20, .ref y21, .ref y22, .ref y23, .ref y24, .ref y25, .ref y26, .ref y27, .ref y28, .ref y29, .ref y30, .ref y31, .ref y32, .int w33, .int w34, .int w35, .ref y36, .int w37, .int w38, .int w39, .ref y40, .ref y41, .ref y42, .int w43, .long v44])), (y17, .inl (T 0, 15, .inl c17)), (y18, .inl (T 0, 5, .inl c18)), (y19, .inl (T 0, 75, .inl c19)), (y20, .inl (T 0, 5, .inl c20)), (y21, .inl (T 0, 400, .inl c21)), (y24, .inl (T 0, 80, .inl c24)), (y25, .inl (T 0, 960, .inl c25)), (y28, .inl (T 0, 25, .inl c28)), (y29, .inl (T 0, 15, .inl c29))]) [0, 1, 2, 3, 4, 5, 6, 7, 8, 9] rfl
        have hD9 := hD.sub (ws' := [(ym, .inr (11, [.int 0, .ref y1, .ref y2, .ref y3, .ref y4, .ref y5, .int w6, .int w7, .int w8, .int w9, .int w10, .long v11, .int w12, .int w13, .int w14, .int w15, .ref y16, .ref y17, .ref y18, .ref y19, .ref y20, .ref y21, .ref y22, .ref y23, .ref y24, .ref y25, .ref y26, .ref y27, .ref y28, .ref y29, .ref y30, .ref y31, .ref y32, .int w33, .int w34, .int w35, .ref y36, .int w37, .int w38, .int w39, .ref y40, .ref y41, .ref y42, .int w43, .long v44])), (y17, .inl (T 0, 15, .inl c17)), (y18, .inl (T 0, 5, .inl c18)), (y19, .inl (T 0, 75, .inl c19)), (y20, .inl (T 0, 5, .inl c20)), (y21, .inl (T 0, 400, .inl c21)), (y24, .inl (T 0, 80, .inl c24)), (y25, .inl (T 0, 960, .inl c25)), (y28, .inl (T 0, 25, .inl c28)), (y29, .inl (T 0, 15, .inl c29))]) [0, 1, 2, 3, 4, 5, 6, 7, 8, 9] (by decide) rfl
        exact W.iret (v := r_27) hx hb hr (fun t ht hW => ⟨⟨r_27, (fun k => ([] : List (Nat)).getD k 0, fun k => ([] : List (Nat → Int32)).getD k (fun _ => 0), fun k => ([] : List (Nat → Int64)).getD k (fun _ => 0), fun k => ([] : List (Int32)).getD k 0, fun k => ([] : List (Int64)).getD k 0), rfl, trivial, by rw [ht]; exact hP9, hD9⟩, hS.F ht⟩) hS.2.2 dX11_would_61
    · have c_12 : i2.toInt < 0 ∨ 2 < i2.toInt := klo (i_64 _) (by decide) (by decide) c_12
      refine lv_if_ne (tgt := 28) hx hb dX11_would_22 (by decide) (fun c_33 => absurd c_33 (by decide)) (fun _ => ?_)
      refine lv_bipush (v := (-2)) hx hb dX11_would_25 (by decide) ?_
      have hP9 := hP.sub (ws' := [(ym, .inr (11, [.int 0, .ref y1, .ref y2, .ref y3, .ref y4, .ref y5, .int w6, .int w7, .int w8, .int w9, .int w10, .long v11, .int w12, .int w13, .int w14, .int w15, .ref y16, .ref y17, .ref y18, .ref y19, .ref y20, .ref y21, .ref y22, .ref y23, .ref y24, .ref y25, .ref y26, .ref y27, .ref y28, .ref y29, .ref y30, .ref y31, .ref y32, .int w33, .int w34, .int w35, .ref y36, .int w37, .int w38, .int w39, .ref y40, .ref y41, .ref y42, .int w43, .long v44])), (y17, .inl (T 0, 15, .inl c17)), (y18, .inl (T 0, 5, .inl c18)), (y19, .inl (T 0, 75, .inl c19)), (y20, .inl (T 0, 5, .inl c20)), (y21, .inl (T 0, 400, .inl c21)), (y24, .inl (T 0, 80, .inl c24)), (y25, .inl (T 0, 960, .inl c25)), (y28, .inl (T 0, 25, .inl c28)), (y29, .inl (T 0, 15, .inl c29))]) [0, 1, 2, 3, 4, 5, 6, 7, 8, 9] rfl
      have hD9 := hD.sub (ws' := [(ym, .inr (11, [.int 0, .ref y1, .ref y2, .ref y3, .ref y4, .ref y5, .int w6, .int w7, .int w8, .int w9, .int w10, .long v11, .int w12, .int w13, .int w14, .int w15, .ref y16, .ref y17, .ref y18, .ref y19, .ref y20, .ref y21, .ref y22, .ref y23, .ref y24, .ref y25, .ref y26, .ref y27, .ref y28, .ref y29, .ref y30, .ref y31, .ref y32, .int w33, .int w34, .int w35, .ref y36, .int w37, .int w38, .int w39, .ref y40, .ref y41, .ref y42, .int w43, .long v44])), (y17, .inl (T 0, 15, .inl c17)), (y18, .inl (T 0, 5, .inl c18)), (y19, .inl (T 0, 75, .inl c19)), (y20, .inl (T 0, 5, .inl c20)), (y21, .inl (T 0, 400, .inl c21)), (y24, .inl (T 0, 80, .inl c24)), (y25, .inl (T 0, 960, .inl c25)), (y28, .inl (T 0, 25, .inl c28)), (y29, .inl (T 0, 15, .inl c29))]) [0, 1, 2, 3, 4, 5, 6, 7, 8, 9] (by decide) rfl
      exact W.iret (v := (-2)) hx hb hr (fun t ht hW => ⟨⟨(-2), (fun k => ([] : List (Nat)).getD k 0, fun k => ([] : List (Nat → Int32)).getD k (fun _ => 0), fun k => ([] : List (Nat → Int64)).getD k (fun _ => 0), fun k => ([] : List (Int32)).getD k 0, fun k => ([] : List (Int64)).getD k 0), rfl, trivial, by rw [ht]; exact hP9, hD9⟩, hS.F ht⟩) hS.2.2 dX11_would_27
  · refine lv_if_eq (tgt := 25) hx hb dX11_would_10 (by decide) (fun _ => ?_) (fun c_34 => absurd (by decide) c_34)
    refine lv_bipush (v := (-2)) hx hb dX11_would_25 (by decide) ?_
    have hP9 := hP.sub (ws' := [(ym, .inr (11, [.int 0, .ref y1, .ref y2, .ref y3, .ref y4, .ref y5, .int w6, .int w7, .int w8, .int w9, .int w10, .long v11, .int w12, .int w13, .int w14, .int w15, .ref y16, .ref y17, .ref y18, .ref y19, .ref y20, .ref y21, .ref y22, .ref y23, .ref y24, .ref y25, .ref y26, .ref y27, .ref y28, .ref y29, .ref y30, .ref y31, .ref y32, .int w33, .int w34, .int w35, .ref y36, .int w37, .int w38, .int w39, .ref y40, .ref y41, .ref y42, .int w43, .long v44])), (y17, .inl (T 0, 15, .inl c17)), (y18, .inl (T 0, 5, .inl c18)), (y19, .inl (T 0, 75, .inl c19)), (y20, .inl (T 0, 5, .inl c20)), (y21, .inl (T 0, 400, .inl c21)), (y24, .inl (T 0, 80, .inl c24)), (y25, .inl (T 0, 960, .inl c25)), (y28, .inl (T 0, 25, .inl c28)), (y29, .inl (T 0, 15, .inl c29))]) [0, 1, 2, 3, 4, 5, 6, 7, 8, 9] rfl
    have hD9 := hD.sub (ws' := [(ym, .inr (11, [.int 0, .ref y1, .ref y2, .ref y3, .ref y4, .ref y5, .int w6, .int w7, .int w8, .int w9, .int w10, .long v11, .int w12, .int w13, .int w14, .int w15, .ref y16, .ref y17, .ref y18, .ref y19, .ref y20, .ref y21, .ref y22, .ref y23, .ref y24, .ref y25, .ref y26, .ref y27, .ref y28, .ref y29, .ref y30, .ref y31, .ref y32, .int w33, .int w34, .int w35, .ref y36, .int w37, .int w38, .int w39, .ref y40, .ref y41, .ref y42, .int w43, .long v44])), (y17, .inl (T 0, 15, .inl c17)), (y18, .inl (T 0, 5, .inl c18)), (y19, .inl (T 0, 75, .inl c19)), (y20, .inl (T 0, 5, .inl c20)), (y21, .inl (T 0, 400, .inl c21)), (y24, .inl (T 0, 80, .inl c24)), (y25, .inl (T 0, 960, .inl c25)), (y28, .inl (T 0, 25, .inl c28)), (y29, .inl (T 0, 15, .inl c29))]) [0, 1, 2, 3, 4, 5, 6, 7, 8, 9] (by decide) rfl
    exact W.iret (v := (-2)) hx hb hr (fun t ht hW => ⟨⟨(-2), (fun k => ([] : List (Nat)).getD k 0, fun k => ([] : List (Nat → Int32)).getD k (fun _ => 0), fun k => ([] : List (Nat → Int64)).getD k (fun _ => 0), fun k => ([] : List (Int32)).getD k 0, fun k => ([] : List (Int64)).getD k 0), rfl, trivial, by rw [ht]; exact hP9, hD9⟩, hS.F ht⟩) hS.2.2 dX11_would_27
