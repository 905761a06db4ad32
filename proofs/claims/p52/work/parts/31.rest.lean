set_option maxHeartbeats 4000000 in
set_option maxRecDepth 100000 in
theorem c_X10_slotsWithRows (l : Launch) (D : va_G) (T : Nat → ClassId) (im kp ma nb0 nb1 nb2 nb3 rd sl sl0 sl1 sl2 sl3 st th tp tu wn wr x0 : Nat) (w9_0 w9_1 w9_2 w9_3 z9_0 z9_1 z9_2 z9_3 : Int32) (h_z9_0 : (-1) ≤ z9_0.toInt ∧ z9_0.toInt ≤ 60) (h_z9_1 : (-1) ≤ z9_1.toInt ∧ z9_1.toInt ≤ 60) (h_z9_2 : (-1) ≤ z9_2.toInt ∧ z9_2.toInt ≤ 60) (h_z9_3 : (-1) ≤ z9_3.toInt ∧ z9_3.toInt ≤ 60) : Met l yX10_slotsWithRows (wM yX10_slotsWithRows cX10_slotsWithRows 6 (some .int)) ({ frames := 1, cells := 0, slots := 0, locals := 20 }) (va_Pc [.ref x0] (pwP D T [(x0, .inr (10, [.ref tp, .ref rd, .ref st, .ref th, .ref im, .ref kp, .ref sl, .ref tu, .ref wn, .ref ma, .ref wr])), (sl, .inl (T 4, 4, .inr (.inr (.inr (.inr (va_up (va_up (va_up (va_up (fun _ => none) 0 (some sl0)) 1 (some sl1)) 2 (some sl2)) 3 (some sl3))))))), (sl0, .inr (2, [.ref nb0, .int w9_0, .int z9_0])), (sl1, .inr (2, [.ref nb1, .int w9_1, .int z9_1])), (sl2, .inr (2, [.ref nb2, .int w9_2, .int z9_2])), (sl3, .inr (2, [.ref nb3, .int w9_3, .int z9_3]))])) (va_Qi (fun (r : Int32) (u : Unit) => True) (fun _ _ => True) (fun _ => False)) 0 0 (fun _ => False) := by
  refine Met.ofW (cc := cX10_slotsWithRows) (maxL := 6) (ret := (some .int)) (by decide) rfl ?_
  intro p e s m args below meth c s₁ B hml hv
  obtain ⟨rfl, hP, hC⟩ := hv
  have hx := B.exec
  have hb := B.bytes
  have hr := B.returns
  have hts : ∀ w ∈ gt, w.before _ s = true := fun w hw => atoms_spec (ws := (wM yX10_slotsWithRows cX10_slotsWithRows 6 (some .int))) B.pre w (List.mem_cons_of_mem _ hw)
  have hown : s.vm.findClass RX10 = some m.cls := findClass_of_methodNamed B.named
  have hlocks := B.notSynchronized
  have hK := hC.1
  have hS : va_S (fun _ => False) s.heap s.heap [] := va_S.rf
  have hl := lv_entry ([.ref x0]) (n := 6) (Nat.le_of_ble_eq_true rfl)
  rw [lg_entry_eq]
  generalize (lg_sl ([.ref x0]) ++ List.replicate (6 - (lg_sl ([.ref x0])).length) Slot.unset).toArray = ls at hl ⊢
  have hl : lv_has ls 6 [(0, .ref x0)] := hl
  refine lv_iconst (v := 0) hx hb dX10_slotsWithRows_0 (by decide) ?_
  refine lv_istore_n (lv' := [(1, .int 0), (0, .ref x0)]) hx hb dX10_slotsWithRows_1 rfl hl (by decide) rfl (fun ls hl => ?_)
  refine lv_aload_n hx hb dX10_slotsWithRows_2 rfl (lv_at hl 1 rfl) ?_
  refine va_get (D := D) (ci := 10) (C := RX10) (T := TX10) (N := 11) hx hb hts iX10 hown hK hP 0 rfl rfl 6 (by decide) (hts _ m531) (fun _ h9 => h9) rfl dX10_slotsWithRows_3 ?_
  refine lv_astore_n (lv' := [(2, .ref sl), (1, .int 0), (0, .ref x0)]) hx hb dX10_slotsWithRows_6 rfl hl (by decide) rfl (fun ls hl => ?_)
  refine lv_aload_n hx hb dX10_slotsWithRows_7 rfl (lv_at hl 0 rfl) ?_
  refine va_alen (D := D) hx hb hK hP 1 4 rfl rfl (v := 4) rfl dX10_slotsWithRows_8 ?_
  refine lv_istore_n (lv' := [(3, .int 4), (2, .ref sl), (1, .int 0), (0, .ref x0)]) hx hb dX10_slotsWithRows_9 rfl hl (by decide) rfl (fun ls hl => ?_)
  refine lv_iconst (v := 0) hx hb dX10_slotsWithRows_10 (by decide) ?_
  refine lv_istore (lv' := [(4, .int 0), (3, .int 4), (2, .ref sl), (1, .int 0), (0, .ref x0)]) hx hb dX10_slotsWithRows_11 hl (by decide) rfl (fun ls hl => ?_)
  refine lv_iload hx hb dX10_slotsWithRows_13 (lv_at hl 0 rfl) ?_
  refine lv_iload_n hx hb dX10_slotsWithRows_15 rfl (lv_at hl 1 rfl) ?_
  refine lv_icmp_ge (tgt := 42) hx hb dX10_slotsWithRows_16 (by decide) (fun c_1 => absurd c_1 (by decide)) (fun _ => ?_)
  refine lv_aload_n hx hb dX10_slotsWithRows_19 rfl (lv_at hl 2 rfl) ?_
  refine lv_iload hx hb dX10_slotsWithRows_20 (lv_at hl 0 rfl) ?_
  refine va_aldq (D := D) hx hb hK hP 1 4 rfl rfl (by unfold vp_in; decide) dX10_slotsWithRows_22 ?_
  refine W.eq (g2 := F0 m _ ls (.ref sl0 :: _)) rfl ?_
  refine lv_astore (lv' := [(5, .ref sl0), (4, .int 0), (3, .int 4), (2, .ref sl), (1, .int 0), (0, .ref x0)]) hx hb dX10_slotsWithRows_23 hl (by decide) rfl (fun ls hl => ?_)
  refine lv_aload hx hb dX10_slotsWithRows_25 (lv_at hl 0 rfl) ?_
  refine puI (cV (As := []) (rest := []) ⟨hx, hb, hml, hown, hts⟩ (c_X2_isVoid l D T sl0 nb0 w9_0 z9_0 ⟨by omega, by omega⟩) k_X2_isVoid v_X2_isVoid m1243 rfl rfl ⟨(Nat.le_of_ble_eq_true rfl), (Nat.le_of_ble_eq_true rfl)⟩ (preP hC (hP.sub (ws' := [(sl0, .inr (2, [.ref nb0, .int w9_0, .int z9_0]))]) [2] rfl)) (va_recv hK hP (ci := 2) (q0 := 2) rfl rfl) rfl hl.1 rfl (Nat.le_of_ble_eq_true rfl) dX10_slotsWithRows_27 ⟨(Nat.le_of_ble_eq_true rfl), (Nat.le_of_ble_eq_true rfl)⟩) hS hP (fun r_2 H locs hw hP hS => ?_)
  have w_4 : (r_2 = 1 ∧ z9_0.toInt = -1) ∨ (r_2 = 0 ∧ ¬ z9_0.toInt = -1) := hw
  rcases w_4 with ⟨rfl, c_5⟩ | ⟨rfl, c_6⟩
  · refine lv_if_ne (tgt := 36) hx hb dX10_slotsWithRows_30 (by decide) (fun _ => ?_) (fun c_7 => absurd c_7 (by decide))
    refine lv_iinc (v := 1) (lv' := [(4, .int 1), (5, .ref sl0), (3, .int 4), (2, .ref sl), (1, .int 0), (0, .ref x0)]) hx hb dX10_slotsWithRows_36 hl (k := 1) rfl (by decide) (by decide) rfl (fun ls hl => ?_)
    refine lv_goto (tgt := 13) hx hb dX10_slotsWithRows_39 (by decide) ?_
    refine lv_iload hx hb dX10_slotsWithRows_13 (lv_at hl 0 rfl) ?_
    refine lv_iload_n hx hb dX10_slotsWithRows_15 rfl (lv_at hl 2 rfl) ?_
    refine lv_icmp_ge (tgt := 42) hx hb dX10_slotsWithRows_16 (by decide) (fun c_8 => absurd c_8 (by decide)) (fun _ => ?_)
    refine lv_aload_n hx hb dX10_slotsWithRows_19 rfl (lv_at hl 3 rfl) ?_
    refine lv_iload hx hb dX10_slotsWithRows_20 (lv_at hl 0 rfl) ?_
    refine va_aldq (D := D) hx hb hK hP 1 4 rfl rfl (by unfold vp_in; decide) dX10_slotsWithRows_22 ?_
    refine W.eq (g2 := F0 m _ ls (.ref sl1 :: _)) rfl ?_
    refine lv_astore (lv' := [(5, .ref sl1), (4, .int 1), (3, .int 4), (2, .ref sl), (1, .int 0), (0, .ref x0)]) hx hb dX10_slotsWithRows_23 hl (by decide) rfl (fun ls hl => ?_)
    refine lv_aload hx hb dX10_slotsWithRows_25 (lv_at hl 0 rfl) ?_
    refine puI (cV (As := []) (rest := []) ⟨hx, hb, hml, hown, hts⟩ (c_X2_isVoid l D T sl1 nb1 w9_1 z9_1 ⟨by omega, by omega⟩) k_X2_isVoid v_X2_isVoid m1243 rfl rfl ⟨(Nat.le_of_ble_eq_true rfl), (Nat.le_of_ble_eq_true rfl)⟩ (preP hC (hP.sub (ws' := [(sl1, .inr (2, [.ref nb1, .int w9_1, .int z9_1]))]) [3] rfl)) (va_recv hK hP (ci := 2) (q0 := 3) rfl rfl) rfl hl.1 rfl (Nat.le_of_ble_eq_true rfl) dX10_slotsWithRows_27 ⟨(Nat.le_of_ble_eq_true rfl), (Nat.le_of_ble_eq_true rfl)⟩) hS hP (fun r_9 H locs hw hP hS => ?_)
    have w_11 : (r_9 = 1 ∧ z9_1.toInt = -1) ∨ (r_9 = 0 ∧ ¬ z9_1.toInt = -1) := hw
    rcases w_11 with ⟨rfl, c_12⟩ | ⟨rfl, c_13⟩
    · refine lv_if_ne (tgt := 36) hx hb dX10_slotsWithRows_30 (by decide) (fun _ => ?_) (fun c_14 => absurd c_14 (by decide))
      refine lv_iinc (v := 2) (lv' := [(4, .int 2), (5, .ref sl1), (3, .int 4), (2, .ref sl), (1, .int 0), (0, .ref x0)]) hx hb dX10_slotsWithRows_36 hl (k := 1) rfl (by decide) (by decide) rfl (fun ls hl => ?_)
      refine lv_goto (tgt := 13) hx hb dX10_slotsWithRows_39 (by decide) ?_
      refine lv_iload hx hb dX10_slotsWithRows_13 (lv_at hl 0 rfl) ?_
      refine lv_iload_n hx hb dX10_slotsWithRows_15 rfl (lv_at hl 2 rfl) ?_
      refine lv_icmp_ge (tgt := 42) hx hb dX10_slotsWithRows_16 (by decide) (fun c_15 => absurd c_15 (by decide)) (fun _ => ?_)
      refine lv_aload_n hx hb dX10_slotsWithRows_19 rfl (lv_at hl 3 rfl) ?_
      refine lv_iload hx hb dX10_slotsWithRows_20 (lv_at hl 0 rfl) ?_
      refine va_aldq (D := D) hx hb hK hP 1 4 rfl rfl (by unfold vp_in; decide) dX10_slotsWithRows_22 ?_
      refine W.eq (g2 := F0 m _ ls (.ref sl2 :: _)) rfl ?_
      refine lv_astore (lv' := [(5, .ref sl2), (4, .int 2), (3, .int 4), (2, .ref sl), (1, .int 0), (0, .ref x0)]) hx hb dX10_slotsWithRows_23 hl (by decide) rfl (fun ls hl => ?_)
      refine lv_aload hx hb dX10_slotsWithRows_25 (lv_at hl 0 rfl) ?_
      refine puI (cV (As := []) (rest := []) ⟨hx, hb, hml, hown, hts⟩ (c_X2_isVoid l D T sl2 nb2 w9_2 z9_2 ⟨by omega, by omega⟩) k_X2_isVoid v_X2_isVoid m1243 rfl rfl ⟨(Nat.le_of_ble_eq_true rfl), (Nat.le_of_ble_eq_true rfl)⟩ (preP hC (hP.sub (ws' := [(sl2, .inr (2, [.ref nb2, .int w9_2, .int z9_2]))]) [4] rfl)) (va_recv hK hP (ci := 2) (q0 := 4) rfl rfl) rfl hl.1 rfl (Nat.le_of_ble_eq_true rfl) dX10_slotsWithRows_27 ⟨(Nat.le_of_ble_eq_true rfl), (Nat.le_of_ble_eq_true rfl)⟩) hS hP (fun r_16 H locs hw hP hS => ?_)
      have w_18 : (r_16 = 1 ∧ z9_2.toInt = -1) ∨ (r_16 = 0 ∧ ¬ z9_2.toInt = -1) := hw
      rcases w_18 with ⟨rfl, c_19⟩ | ⟨rfl, c_20⟩
      · refine lv_if_ne (tgt := 36) hx hb dX10_slotsWithRows_30 (by decide) (fun _ => ?_) (fun c_21 => absurd c_21 (by decide))
        refine lv_iinc (v := 3) (lv' := [(4, .int 3), (5, .ref sl2), (3, .int 4), (2, .ref sl), (1, .int 0), (0, .ref x0)]) hx hb dX10_slotsWithRows_36 hl (k := 1) rfl (by decide) (by decide) rfl (fun ls hl => ?_)
        refine lv_goto (tgt := 13) hx hb dX10_slotsWithRows_39 (by decide) ?_
        refine lv_iload hx hb dX10_slotsWithRows_13 (lv_at hl 0 rfl) ?_
        refine lv_iload_n hx hb dX10_slotsWithRows_15 rfl (lv_at hl 2 rfl) ?_
        refine lv_icmp_ge (tgt := 42) hx hb dX10_slotsWithRows_16 (by decide) (fun c_22 => absurd c_22 (by decide)) (fun _ => ?_)
        refine lv_aload_n hx hb dX10_slotsWithRows_19 rfl (lv_at hl 3 rfl) ?_
        refine lv_iload hx hb dX10_slotsWithRows_20 (lv_at hl 0 rfl) ?_
        refine va_aldq (D := D) hx hb hK hP 1 4 rfl rfl (by unfold vp_in; decide) dX10_slotsWithRows_22 ?_
        refine W.eq (g2 := F0 m _ ls (.ref sl3 :: _)) rfl ?_
        refine lv_astore (lv' := [(5, .ref sl3), (4, .int 3), (3, .int 4), (2, .ref sl), (1, .int 0), (0, .ref x0)]) hx hb dX10_slotsWithRows_23 hl (by decide) rfl (fun ls hl => ?_)
        refine lv_aload hx hb dX10_slotsWithRows_25 (lv_at hl 0 rfl) ?_
        refine puI (cV (As := []) (rest := []) ⟨hx, hb, hml, hown, hts⟩ (c_X2_isVoid l D T sl3 nb3 w9_3 z9_3 ⟨by omega, by omega⟩) k_X2_isVoid v_X2_isVoid m1243 rfl rfl ⟨(Nat.le_of_ble_eq_true rfl), (Nat.le_of_ble_eq_true rfl)⟩ (preP hC (hP.sub (ws' := [(sl3, .inr (2, [.ref nb3, .int w9_3, .int z9_3]))]) [5] rfl)) (va_recv hK hP (ci := 2) (q0 := 5) rfl rfl) rfl hl.1 rfl (Nat.le_of_ble_eq_true rfl) dX10_slotsWithRows_27 ⟨(Nat.le_of_ble_eq_true rfl), (Nat.le_of_ble_eq_true rfl)⟩) hS hP (fun r_23 H locs hw hP hS => ?_)
        have w_25 : (r_23 = 1 ∧ z9_3.toInt = -1) ∨ (r_23 = 0 ∧ ¬ z9_3.toInt = -1) := hw
        rcases w_25 with ⟨rfl, c_26⟩ | ⟨rfl, c_27⟩
        · refine lv_if_ne (tgt := 36) hx hb dX10_slotsWithRows_30 (by decide) (fun _ => ?_) (fun c_28 => absurd c_28 (by decide))
          refine lv_iinc (v := 4) (lv' := [(4, .int 4), (5, .ref sl3), (3, .int 4), (2, .ref sl), (1, .int 0), (0, .ref x0)]) hx hb dX10_slotsWithRows_36 hl (k := 1) rfl (by decide) (by decide) rfl (fun ls hl => ?_)
          refine lv_goto (tgt := 13) hx hb dX10_slotsWithRows_39 (by decide) ?_
          refine lv_iload hx hb dX10_slotsWithRows_13 (lv_at hl 0 rfl) ?_
          refine lv_iload_n hx hb dX10_slotsWithRows_15 rfl (lv_at hl 2 rfl) ?_
          refine lv_icmp_ge (tgt := 42) hx hb dX10_slotsWithRows_16 (by decide) (fun _ => ?_) (fun c_29 => absurd (by decide) c_29)
          refine lv_iload_n hx hb dX10_slotsWithRows_42 rfl (lv_at hl 4 rfl) ?_
          exact W.iret (v := 0) hx hb hr (fun t ht hW => ⟨⟨0, (), rfl, trivial, trivial⟩, hS.F ht⟩) hS.2.2 dX10_slotsWithRows_43
        · refine lv_if_ne (tgt := 36) hx hb dX10_slotsWithRows_30 (by decide) (fun c_30 => absurd c_30 (by decide)) (fun _ => ?_)
          refine lv_iinc (v := 1) (lv' := [(1, .int 1), (5, .ref sl3), (4, .int 3), (3, .int 4), (2, .ref sl), (0, .ref x0)]) hx hb dX10_slotsWithRows_33 hl (k := 4) rfl (by decide) (by decide) rfl (fun ls hl => ?_)
          refine lv_iinc (v := 4) (lv' := [(4, .int 4), (1, .int 1), (5, .ref sl3), (3, .int 4), (2, .ref sl), (0, .ref x0)]) hx hb dX10_slotsWithRows_36 hl (k := 2) rfl (by decide) (by decide) rfl (fun ls hl => ?_)
          refine lv_goto (tgt := 13) hx hb dX10_slotsWithRows_39 (by decide) ?_
          refine lv_iload hx hb dX10_slotsWithRows_13 (lv_at hl 0 rfl) ?_
          refine lv_iload_n hx hb dX10_slotsWithRows_15 rfl (lv_at hl 3 rfl) ?_
          refine lv_icmp_ge (tgt := 42) hx hb dX10_slotsWithRows_16 (by decide) (fun _ => ?_) (fun c_31 => absurd (by decide) c_31)
          refine lv_iload_n hx hb dX10_slotsWithRows_42 rfl (lv_at hl 1 rfl) ?_
          exact W.iret (v := 1) hx hb hr (fun t ht hW => ⟨⟨1, (), rfl, trivial, trivial⟩, hS.F ht⟩) hS.2.2 dX10_slotsWithRows_43
      · refine lv_if_ne (tgt := 36) hx hb dX10_slotsWithRows_30 (by decide) (fun c_32 => absurd c_32 (by decide)) (fun _ => ?_)
        refine lv_iinc (v := 1) (lv' := [(1, .int 1), (5, .ref sl2), (4, .int 2), (3, .int 4), (2, .ref sl), (0, .ref x0)]) hx hb dX10_slotsWithRows_33 hl (k := 4) rfl (by decide) (by decide) rfl (fun ls hl => ?_)
        refine lv_iinc (v := 3) (lv' := [(4, .int 3), (1, .int 1), (5, .ref sl2), (3, .int 4), (2, .ref sl), (0, .ref x0)]) hx hb dX10_slotsWithRows_36 hl (k := 2) rfl (by decide) (by decide) rfl (fun ls hl => ?_)
        refine lv_goto (tgt := 13) hx hb dX10_slotsWithRows_39 (by decide) ?_
        refine lv_iload hx hb dX10_slotsWithRows_13 (lv_at hl 0 rfl) ?_
        refine lv_iload_n hx hb dX10_slotsWithRows_15 rfl (lv_at hl 3 rfl) ?_
        refine lv_icmp_ge (tgt := 42) hx hb dX10_slotsWithRows_16 (by decide) (fun c_33 => absurd c_33 (by decide)) (fun _ => ?_)
        refine lv_aload_n hx hb dX10_slotsWithRows_19 rfl (lv_at hl 4 rfl) ?_
        refine lv_iload hx hb dX10_slotsWithRows_20 (lv_at hl 0 rfl) ?_
        refine va_aldq (D := D) hx hb hK hP 1 4 rfl rfl (by unfold vp_in; decide) dX10_slotsWithRows_22 ?_
        refine W.eq (g2 := F0 m _ ls (.ref sl3 :: _)) rfl ?_
        refine lv_astore (lv' := [(5, .ref sl3), (4, .int 3), (1, .int 1), (3, .int 4), (2, .ref sl), (0, .ref x0)]) hx hb dX10_slotsWithRows_23 hl (by decide) rfl (fun ls hl => ?_)
        refine lv_aload hx hb dX10_slotsWithRows_25 (lv_at hl 0 rfl) ?_
        refine puI (cV (As := []) (rest := []) ⟨hx, hb, hml, hown, hts⟩ (c_X2_isVoid l D T sl3 nb3 w9_3 z9_3 ⟨by omega, by omega⟩) k_X2_isVoid v_X2_isVoid m1243 rfl rfl ⟨(Nat.le_of_ble_eq_true rfl), (Nat.le_of_ble_eq_true rfl)⟩ (preP hC (hP.sub (ws' := [(sl3, .inr (2, [.ref nb3, .int w9_3, .int z9_3]))]) [5] rfl)) (va_recv hK hP (ci := 2) (q0 := 5) rfl rfl) rfl hl.1 rfl (Nat.le_of_ble_eq_true rfl) dX10_slotsWithRows_27 ⟨(Nat.le_of_ble_eq_true rfl), (Nat.le_of_ble_eq_true rfl)⟩) hS hP (fun r_34 H locs hw hP hS => ?_)
        have w_36 : (r_34 = 1 ∧ z9_3.toInt = -1) ∨ (r_34 = 0 ∧ ¬ z9_3.toInt = -1) := hw
        rcases w_36 with ⟨rfl, c_37⟩ | ⟨rfl, c_38⟩
        · refine lv_if_ne (tgt := 36) hx hb dX10_slotsWithRows_30 (by decide) (fun _ => ?_) (fun c_39 => absurd c_39 (by decide))
          refine lv_iinc (v := 4) (lv' := [(4, .int 4), (5, .ref sl3), (1, .int 1), (3, .int 4), (2, .ref sl), (0, .ref x0)]) hx hb dX10_slotsWithRows_36 hl (k := 1) rfl (by decide) (by decide) rfl (fun ls hl => ?_)
          refine lv_goto (tgt := 13) hx hb dX10_slotsWithRows_39 (by decide) ?_
          refine lv_iload hx hb dX10_slotsWithRows_13 (lv_at hl 0 rfl) ?_
          refine lv_iload_n hx hb dX10_slotsWithRows_15 rfl (lv_at hl 3 rfl) ?_
          refine lv_icmp_ge (tgt := 42) hx hb dX10_slotsWithRows_16 (by decide) (fun _ => ?_) (fun c_40 => absurd (by decide) c_40)
          refine lv_iload_n hx hb dX10_slotsWithRows_42 rfl (lv_at hl 2 rfl) ?_
          exact W.iret (v := 1) hx hb hr (fun t ht hW => ⟨⟨1, (), rfl, trivial, trivial⟩, hS.F ht⟩) hS.2.2 dX10_slotsWithRows_43
        · refine lv_if_ne (tgt := 36) hx hb dX10_slotsWithRows_30 (by decide) (fun c_41 => absurd c_41 (by decide)) (fun _ => ?_)
          refine lv_iinc (v := 2) (lv' := [(1, .int 2), (5, .ref sl3), (4, .int 3), (3, .int 4), (2, .ref sl), (0, .ref x0)]) hx hb dX10_slotsWithRows_33 hl (k := 2) rfl (by decide) (by decide) rfl (fun ls hl => ?_)
          refine lv_iinc (v := 4) (lv' := [(4, .int 4), (1, .int 2), (5, .ref sl3), (3, .int 4), (2, .ref sl), (0, .ref x0)]) hx hb dX10_slotsWithRows_36 hl (k := 2) rfl (by decide) (by decide) rfl (fun ls hl => ?_)
          refine lv_goto (tgt := 13) hx hb dX10_slotsWithRows_39 (by decide) ?_
          refine lv_iload hx hb dX10_slotsWithRows_13 (lv_at hl 0 rfl) ?_
          refine lv_iload_n hx hb dX10_slotsWithRows_15 rfl (lv_at hl 3 rfl) ?_
          refine lv_icmp_ge (tgt := 42) hx hb dX10_slotsWithRows_16 (by decide) (fun _ => ?_) (fun c_42 => absurd (by decide) c_42)
          refine lv_iload_n hx hb dX10_slotsWithRows_42 rfl (lv_at hl 1 rfl) ?_
          exact W.iret (v := 2) hx hb hr (fun t ht hW => ⟨⟨2, (), rfl, trivial, trivial⟩, hS.F ht⟩) hS.2.2 dX10_slotsWithRows_43
    · refine lv_if_ne (tgt := 36) hx hb dX10_slotsWithRows_30 (by decide) (fun c_43 => absurd c_43 (by decide)) (fun _ => ?_)
      refine lv_iinc (v := 1) (lv' := [(1, .int 1), (5, .ref sl1), (4, .int 1), (3, .int 4), (2, .ref sl), (0, .ref x0)]) hx hb dX10_slotsWithRows_33 hl (k := 4) rfl (by decide) (by decide) rfl (fun ls hl => ?_)
      refine lv_iinc (v := 2) (lv' := [(4, .int 2), (1, .int 1), (5, .ref sl1), (3, .int 4), (2, .ref sl), (0, .ref x0)]) hx hb dX10_slotsWithRows_36 hl (k := 2) rfl (by decide) (by decide) rfl (fun ls hl => ?_)
      refine lv_goto (tgt := 13) hx hb dX10_slotsWithRows_39 (by decide) ?_
      refine lv_iload hx hb dX10_slotsWithRows_13 (lv_at hl 0 rfl) ?_
      refine lv_iload_n hx hb dX10_slotsWithRows_15 rfl (lv_at hl 3 rfl) ?_
      refine lv_icmp_ge (tgt := 42) hx hb dX10_slotsWithRows_16 (by decide) (fun c_44 => absurd c_44 (by decide)) (fun _ => ?_)
      refine lv_aload_n hx hb dX10_slotsWithRows_19 rfl (lv_at hl 4 rfl) ?_
      refine lv_iload hx hb dX10_slotsWithRows_20 (lv_at hl 0 rfl) ?_
      refine va_aldq (D := D) hx hb hK hP 1 4 rfl rfl (by unfold vp_in; decide) dX10_slotsWithRows_22 ?_
      refine W.eq (g2 := F0 m _ ls (.ref sl2 :: _)) rfl ?_
      refine lv_astore (lv' := [(5, .ref sl2), (4, .int 2), (1, .int 1), (3, .int 4), (2, .ref sl), (0, .ref x0)]) hx hb dX10_slotsWithRows_23 hl (by decide) rfl (fun ls hl => ?_)
      refine lv_aload hx hb dX10_slotsWithRows_25 (lv_at hl 0 rfl) ?_
      refine puI (cV (As := []) (rest := []) ⟨hx, hb, hml, hown, hts⟩ (c_X2_isVoid l D T sl2 nb2 w9_2 z9_2 ⟨by omega, by omega⟩) k_X2_isVoid v_X2_isVoid m1243 rfl rfl ⟨(Nat.le_of_ble_eq_true rfl), (Nat.le_of_ble_eq_true rfl)⟩ (preP hC (hP.sub (ws' := [(sl2, .inr (2, [.ref nb2, .int w9_2, .int z9_2]))]) [4] rfl)) (va_recv hK hP (ci := 2) (q0 := 4) rfl rfl) rfl hl.1 rfl (Nat.le_of_ble_eq_true rfl) dX10_slotsWithRows_27 ⟨(Nat.le_of_ble_eq_true rfl), (Nat.le_of_ble_eq_true rfl)⟩) hS hP (fun r_45 H locs hw hP hS => ?_)
      have w_47 : (r_45 = 1 ∧ z9_2.toInt = -1) ∨ (r_45 = 0 ∧ ¬ z9_2.toInt = -1) := hw
      rcases w_47 with ⟨rfl, c_48⟩ | ⟨rfl, c_49⟩
      · refine lv_if_ne (tgt := 36) hx hb dX10_slotsWithRows_30 (by decide) (fun _ => ?_) (fun c_50 => absurd c_50 (by decide))
        refine lv_iinc (v := 3) (lv' := [(4, .int 3), (5, .ref sl2), (1, .int 1), (3, .int 4), (2, .ref sl), (0, .ref x0)]) hx hb dX10_slotsWithRows_36 hl (k := 1) rfl (by decide) (by decide) rfl (fun ls hl => ?_)
        refine lv_goto (tgt := 13) hx hb dX10_slotsWithRows_39 (by decide) ?_
        refine lv_iload hx hb dX10_slotsWithRows_13 (lv_at hl 0 rfl) ?_
        refine lv_iload_n hx hb dX10_slotsWithRows_15 rfl (lv_at hl 3 rfl) ?_
        refine lv_icmp_ge (tgt := 42) hx hb dX10_slotsWithRows_16 (by decide) (fun c_51 => absurd c_51 (by decide)) (fun _ => ?_)
        refine lv_aload_n hx hb dX10_slotsWithRows_19 rfl (lv_at hl 4 rfl) ?_
        refine lv_iload hx hb dX10_slotsWithRows_20 (lv_at hl 0 rfl) ?_
        refine va_aldq (D := D) hx hb hK hP 1 4 rfl rfl (by unfold vp_in; decide) dX10_slotsWithRows_22 ?_
        refine W.eq (g2 := F0 m _ ls (.ref sl3 :: _)) rfl ?_
        refine lv_astore (lv' := [(5, .ref sl3), (4, .int 3), (1, .int 1), (3, .int 4), (2, .ref sl), (0, .ref x0)]) hx hb dX10_slotsWithRows_23 hl (by decide) rfl (fun ls hl => ?_)
        refine lv_aload hx hb dX10_slotsWithRows_25 (lv_at hl 0 rfl) ?_
        refine puI (cV (As := []) (rest := []) ⟨hx, hb, hml, hown, hts⟩ (c_X2_isVoid l D T sl3 nb3 w9_3 z9_3 ⟨by omega, by omega⟩) k_X2_isVoid v_X2_isVoid m1243 rfl rfl ⟨(Nat.le_of_ble_eq_true rfl), (Nat.le_of_ble_eq_true rfl)⟩ (preP hC (hP.sub (ws' := [(sl3, .inr (2, [.ref nb3, .int w9_3, .int z9_3]))]) [5] rfl)) (va_recv hK hP (ci := 2) (q0 := 5) rfl rfl) rfl hl.1 rfl (Nat.le_of_ble_eq_true rfl) dX10_slotsWithRows_27 ⟨(Nat.le_of_ble_eq_true rfl), (Nat.le_of_ble_eq_true rfl)⟩) hS hP (fun r_52 H locs hw hP hS => ?_)
        have w_54 : (r_52 = 1 ∧ z9_3.toInt = -1) ∨ (r_52 = 0 ∧ ¬ z9_3.toInt = -1) := hw
        rcases w_54 with ⟨rfl, c_55⟩ | ⟨rfl, c_56⟩
        · refine lv_if_ne (tgt := 36) hx hb dX10_slotsWithRows_30 (by decide) (fun _ => ?_) (fun c_57 => absurd c_57 (by decide))
          refine lv_iinc (v := 4) (lv' := [(4, .int 4), (5, .ref sl3), (1, .int 1), (3, .int 4), (2, .ref sl), (0, .ref x0)]) hx hb dX10_slotsWithRows_36 hl (k := 1) rfl (by decide) (by decide) rfl (fun ls hl => ?_)
          refine lv_goto (tgt := 13) hx hb dX10_slotsWithRows_39 (by decide) ?_
          refine lv_iload hx hb dX10_slotsWithRows_13 (lv_at hl 0 rfl) ?_
          refine lv_iload_n hx hb dX10_slotsWithRows_15 rfl (lv_at hl 3 rfl) ?_
          refine lv_icmp_ge (tgt := 42) hx hb dX10_slotsWithRows_16 (by decide) (fun _ => ?_) (fun c_58 => absurd (by decide) c_58)
          refine lv_iload_n hx hb dX10_slotsWithRows_42 rfl (lv_at hl 2 rfl) ?_
          exact W.iret (v := 1) hx hb hr (fun t ht hW => ⟨⟨1, (), rfl, trivial, trivial⟩, hS.F ht⟩) hS.2.2 dX10_slotsWithRows_43
        · refine lv_if_ne (tgt := 36) hx hb dX10_slotsWithRows_30 (by decide) (fun c_59 => absurd c_59 (by decide)) (fun _ => ?_)
          refine lv_iinc (v := 2) (lv' := [(1, .int 2), (5, .ref sl3), (4, .int 3), (3, .int 4), (2, .ref sl), (0, .ref x0)]) hx hb dX10_slotsWithRows_33 hl (k := 2) rfl (by decide) (by decide) rfl (fun ls hl => ?_)
          refine lv_iinc (v := 4) (lv' := [(4, .int 4), (1, .int 2), (5, .ref sl3), (3, .int 4), (2, .ref sl), (0, .ref x0)]) hx hb dX10_slotsWithRows_36 hl (k := 2) rfl (by decide) (by decide) rfl (fun ls hl => ?_)
          refine lv_goto (tgt := 13) hx hb dX10_slotsWithRows_39 (by decide) ?_
          refine lv_iload hx hb dX10_slotsWithRows_13 (lv_at hl 0 rfl) ?_
          refine lv_iload_n hx hb dX10_slotsWithRows_15 rfl (lv_at hl 3 rfl) ?_
          refine lv_icmp_ge (tgt := 42) hx hb dX10_slotsWithRows_16 (by decide) (fun _ => ?_) (fun c_60 => absurd (by decide) c_60)
          refine lv_iload_n hx hb dX10_slotsWithRows_42 rfl (lv_at hl 1 rfl) ?_
          exact W.iret (v := 2) hx hb hr (fun t ht hW => ⟨⟨2, (), rfl, trivial, trivial⟩, hS.F ht⟩) hS.2.2 dX10_slotsWithRows_43
      · refine lv_if_ne (tgt := 36) hx hb dX10_slotsWithRows_30 (by decide) (fun c_61 => absurd c_61 (by decide)) (fun _ => ?_)
        refine lv_iinc (v := 2) (lv' := [(1, .int 2), (5, .ref sl2), (4, .int 2), (3, .int 4), (2, .ref sl), (0, .ref x0)]) hx hb dX10_slotsWithRows_33 hl (k := 2) rfl (by decide) (by decide) rfl (fun ls hl => ?_)
        refine lv_iinc (v := 3) (lv' := [(4, .int 3), (1, .int 2), (5, .ref sl2), (3, .int 4), (2, .ref sl), (0, .ref x0)]) hx hb dX10_slotsWithRows_36 hl (k := 2) rfl (by decide) (by decide) rfl (fun ls hl => ?_)
        refine lv_goto (tgt := 13) hx hb dX10_slotsWithRows_39 (by decide) ?_
        refine lv_iload hx hb dX10_slotsWithRows_13 (lv_at hl 0 rfl) ?_
        refine lv_iload_n hx hb dX10_slotsWithRows_15 rfl (lv_at hl 3 rfl) ?_
        refine lv_icmp_ge (tgt := 42) hx hb dX10_slotsWithRows_16 (by decide) (fun c_62 => absurd c_62 (by decide)) (fun _ => ?_)
        refine lv_aload_n hx hb dX10_slotsWithRows_19 rfl (lv_at hl 4 rfl) ?_
        refine lv_iload hx hb dX10_slotsWithRows_20 (lv_at hl 0 rfl) ?_
        refine va_aldq (D := D) hx hb hK hP 1 4 rfl rfl (by unfold vp_in; decide) dX10_slotsWithRows_22 ?_
        refine W.eq (g2 := F0 m _ ls (.ref sl3 :: _)) rfl ?_
        refine lv_astore (lv' := [(5, .ref sl3), (4, .int 3), (1, .int 2), (3, .int 4), (2, .ref sl), (0, .ref x0)]) hx hb dX10_slotsWithRows_23 hl (by decide) rfl (fun ls hl => ?_)
        refine lv_aload hx hb dX10_slotsWithRows_25 (lv_at hl 0 rfl) ?_
        refine puI (cV (As := []) (rest := []) ⟨hx, hb, hml, hown, hts⟩ (c_X2_isVoid l D T sl3 nb3 w9_3 z9_3 ⟨by omega, by omega⟩) k_X2_isVoid v_X2_isVoid m1243 rfl rfl ⟨(Nat.le_of_ble_eq_true rfl), (Nat.le_of_ble_eq_true rfl)⟩ (preP hC (hP.sub (ws' := [(sl3, .inr (2, [.ref nb3, .int w9_3, .int z9_3]))]) [5] rfl)) (va_recv hK hP (ci := 2) (q0 := 5) rfl rfl) rfl hl.1 rfl (Nat.le_of_ble_eq_true rfl) dX10_slotsWithRows_27 ⟨(Nat.le_of_ble_eq_true rfl), (Nat.le_of_ble_eq_true rfl)⟩) hS hP (fun r_63 H locs hw hP hS => ?_)
        have w_65 : (r_63 = 1 ∧ z9_3.toInt = -1) ∨ (r_63 = 0 ∧ ¬ z9_3.toInt = -1) := hw
        rcases w_65 with ⟨rfl, c_66⟩ | ⟨rfl, c_67⟩
        · refine lv_if_ne (tgt := 36) hx hb dX10_slotsWithRows_30 (by decide) (fun _ => ?_) (fun c_68 => absurd c_68 (by decide))
          refine lv_iinc (v := 4) (lv' := [(4, .int 4), (5, .ref sl3), (1, .int 2), (3, .int 4), (2, .ref sl), (0, .ref x0)]) hx hb dX10_slotsWithRows_36 hl (k := 1) rfl (by decide) (by decide) rfl (fun ls hl => ?_)
          refine lv_goto (tgt := 13) hx hb dX10_slotsWithRows_39 (by decide) ?_
          refine lv_iload hx hb dX10_slotsWithRows_13 (lv_at hl 0 rfl) ?_
          refine lv_iload_n hx hb dX10_slotsWithRows_15 rfl (lv_at hl 3 rfl) ?_
          refine lv_icmp_ge (tgt := 42) hx hb dX10_slotsWithRows_16 (by decide) (fun _ => ?_) (fun c_69 => absurd (by decide) c_69)
          refine lv_iload_n hx hb dX10_slotsWithRows_42 rfl (lv_at hl 2 rfl) ?_
          exact W.iret (v := 2) hx hb hr (fun t ht hW => ⟨⟨2, (), rfl, trivial, trivial⟩, hS.F ht⟩) hS.2.2 dX10_slotsWithRows_43
        · refine lv_if_ne (tgt := 36) hx hb dX10_slotsWithRows_30 (by decide) (fun c_70 => absurd c_70 (by decide)) (fun _ => ?_)
          refine lv_iinc (v := 3) (lv' := [(1, .int 3), (5, .ref sl3), (4, .int 3), (3, .int 4), (2, .ref sl), (0, .ref x0)]) hx hb dX10_slotsWithRows_33 hl (k := 2) rfl (by decide) (by decide) rfl (fun ls hl => ?_)
          refine lv_iinc (v := 4) (lv' := [(4, .int 4), (1, .int 3), (5, .ref sl3), (3, .int 4), (2, .ref sl), (0, .ref x0)]) hx hb dX10_slotsWithRows_36 hl (k := 2) rfl (by decide) (by decide) rfl (fun ls hl => ?_)
          refine lv_goto (tgt := 13) hx hb dX10_slotsWithRows_39 (by decide) ?_
          refine lv_iload hx hb dX10_slotsWithRows_13 (lv_at hl 0 rfl) ?_
          refine lv_iload_n hx hb dX10_slotsWithRows_15 rfl (lv_at hl 3 rfl) ?_
          refine lv_icmp_ge (tgt := 42) hx hb dX10_slotsWithRows_16 (by decide) (fun _ => ?_) (fun c_71 => absurd (by decide) c_71)
          refine lv_iload_n hx hb dX10_slotsWithRows_42 rfl (lv_at hl 1 rfl) ?_
          exact W.iret (v := 3) hx hb hr (fun t ht hW => ⟨⟨3, (), rfl, trivial, trivial⟩, hS.F ht⟩) hS.2.2 dX10_slotsWithRows_43
  · refine lv_if_ne (tgt := 36) hx hb dX10_slotsWithRows_30 (by decide) (fun c_72 => absurd c_72 (by decide)) (fun _ => ?_)
    refine lv_iinc (v := 1) (lv' := [(1, .int 1), (5, .ref sl0), (4, .int 0), (3, .int 4), (2, .ref sl), (0, .ref x0)]) hx hb dX10_slotsWithRows_33 hl (k := 4) rfl (by decide) (by decide) rfl (fun ls hl => ?_)
    refine lv_iinc (v := 1) (lv' := [(4, .int 1), (1, .int 1), (5, .ref sl0), (3, .int 4), (2, .ref sl), (0, .ref x0)]) hx hb dX10_slotsWithRows_36 hl (k := 2) rfl (by decide) (by decide) rfl (fun ls hl => ?_)
    refine lv_goto (tgt := 13) hx hb dX10_slotsWithRows_39 (by decide) ?_
    refine lv_iload hx hb dX10_slotsWithRows_13 (lv_at hl 0 rfl) ?_
    refine lv_iload_n hx hb dX10_slotsWithRows_15 rfl (lv_at hl 3 rfl) ?_
    refine lv_icmp_ge (tgt := 42) hx hb dX10_slotsWithRows_16 (by decide) (fun c_73 => absurd c_73 (by decide)) (fun _ => ?_)
    refine lv_aload_n hx hb dX10_slotsWithRows_19 rfl (lv_at hl 4 rfl) ?_
    refine lv_iload hx hb dX10_slotsWithRows_20 (lv_at hl 0 rfl) ?_
    refine va_aldq (D := D) hx hb hK hP 1 4 rfl rfl (by unfold vp_in; decide) dX10_slotsWithRows_22 ?_
    refine W.eq (g2 := F0 m _ ls (.ref sl1 :: _)) rfl ?_
    refine lv_astore (lv' := [(5, .ref sl1), (4, .int 1), (1, .int 1), (3, .int 4), (2, .ref sl), (0, .ref x0)]) hx hb dX10_slotsWithRows_23 hl (by decide) rfl (fun ls hl => ?_)
    refine lv_aload hx hb dX10_slotsWithRows_25 (lv_at hl 0 rfl) ?_
    refine puI (cV (As := []) (rest := []) ⟨hx, hb, hml, hown, hts⟩ (c_X2_isVoid l D T sl1 nb1 w9_1 z9_1 ⟨by omega, by omega⟩) k_X2_isVoid v_X2_isVoid m1243 rfl rfl ⟨(Nat.le_of_ble_eq_true rfl), (Nat.le_of_ble_eq_true rfl)⟩ (preP hC (hP.sub (ws' := [(sl1, .inr (2, [.ref nb1, .int w9_1, .int z9_1]))]) [3] rfl)) (va_recv hK hP (ci := 2) (q0 := 3) rfl rfl) rfl hl.1 rfl (Nat.le_of_ble_eq_true rfl) dX10_slotsWithRows_27 ⟨(Nat.le_of_ble_eq_true rfl), (Nat.le_of_ble_eq_true rfl)⟩) hS hP (fun r_74 H locs hw hP hS => ?_)
    have w_76 : (r_74 = 1 ∧ z9_1.toInt = -1) ∨ (r_74 = 0 ∧ ¬ z9_1.toInt = -1) := hw
    rcases w_76 with ⟨rfl, c_77⟩ | ⟨rfl, c_78⟩
    · refine lv_if_ne (tgt := 36) hx hb dX10_slotsWithRows_30 (by decide) (fun _ => ?_) (fun c_79 => absurd c_79 (by decide))
      refine lv_iinc (v := 2) (lv' := [(4, .int 2), (5, .ref sl1), (1, .int 1), (3, .int 4), (2, .ref sl), (0, .ref x0)]) hx hb dX10_slotsWithRows_36 hl (k := 1) rfl (by decide) (by decide) rfl (fun ls hl => ?_)
      refine lv_goto (tgt := 13) hx hb dX10_slotsWithRows_39 (by decide) ?_
      refine lv_iload hx hb dX10_slotsWithRows_13 (lv_at hl 0 rfl) ?_
      refine lv_iload_n hx hb dX10_slotsWithRows_15 rfl (lv_at hl 3 rfl) ?_
      refine lv_icmp_ge (tgt := 42) hx hb dX10_slotsWithRows_16 (by decide) (fun c_80 => absurd c_80 (by decide)) (fun _ => ?_)
      refine lv_aload_n hx hb dX10_slotsWithRows_19 rfl (lv_at hl 4 rfl) ?_
      refine lv_iload hx hb dX10_slotsWithRows_20 (lv_at hl 0 rfl) ?_
      refine va_aldq (D := D) hx hb hK hP 1 4 rfl rfl (by unfold vp_in; decide) dX10_slotsWithRows_22 ?_
      refine W.eq (g2 := F0 m _ ls (.ref sl2 :: _)) rfl ?_
      refine lv_astore (lv' := [(5, .ref sl2), (4, .int 2), (1, .int 1), (3, .int 4), (2, .ref sl), (0, .ref x0)]) hx hb dX10_slotsWithRows_23 hl (by decide) rfl (fun ls hl => ?_)
      refine lv_aload hx hb dX10_slotsWithRows_25 (lv_at hl 0 rfl) ?_
      refine puI (cV (As := []) (rest := []) ⟨hx, hb, hml, hown, hts⟩ (c_X2_isVoid l D T sl2 nb2 w9_2 z9_2 ⟨by omega, by omega⟩) k_X2_isVoid v_X2_isVoid m1243 rfl rfl ⟨(Nat.le_of_ble_eq_true rfl), (Nat.le_of_ble_eq_true rfl)⟩ (preP hC (hP.sub (ws' := [(sl2, .inr (2, [.ref nb2, .int w9_2, .int z9_2]))]) [4] rfl)) (va_recv hK hP (ci := 2) (q0 := 4) rfl rfl) rfl hl.1 rfl (Nat.le_of_ble_eq_true rfl) dX10_slotsWithRows_27 ⟨(Nat.le_of_ble_eq_true rfl), (Nat.le_of_ble_eq_true rfl)⟩) hS hP (fun r_81 H locs hw hP hS => ?_)
      have w_83 : (r_81 = 1 ∧ z9_2.toInt = -1) ∨ (r_81 = 0 ∧ ¬ z9_2.toInt = -1) := hw
      rcases w_83 with ⟨rfl, c_84⟩ | ⟨rfl, c_85⟩
      · refine lv_if_ne (tgt := 36) hx hb dX10_slotsWithRows_30 (by decide) (fun _ => ?_) (fun c_86 => absurd c_86 (by decide))
        refine lv_iinc (v := 3) (lv' := [(4, .int 3), (5, .ref sl2), (1, .int 1), (3, .int 4), (2, .ref sl), (0, .ref x0)]) hx hb dX10_slotsWithRows_36 hl (k := 1) rfl (by decide) (by decide) rfl (fun ls hl => ?_)
        refine lv_goto (tgt := 13) hx hb dX10_slotsWithRows_39 (by decide) ?_
        refine lv_iload hx hb dX10_slotsWithRows_13 (lv_at hl 0 rfl) ?_
        refine lv_iload_n hx hb dX10_slotsWithRows_15 rfl (lv_at hl 3 rfl) ?_
        refine lv_icmp_ge (tgt := 42) hx hb dX10_slotsWithRows_16 (by decide) (fun c_87 => absurd c_87 (by decide)) (fun _ => ?_)
        refine lv_aload_n hx hb dX10_slotsWithRows_19 rfl (lv_at hl 4 rfl) ?_
        refine lv_iload hx hb dX10_slotsWithRows_20 (lv_at hl 0 rfl) ?_
        refine va_aldq (D := D) hx hb hK hP 1 4 rfl rfl (by unfold vp_in; decide) dX10_slotsWithRows_22 ?_
        refine W.eq (g2 := F0 m _ ls (.ref sl3 :: _)) rfl ?_
        refine lv_astore (lv' := [(5, .ref sl3), (4, .int 3), (1, .int 1), (3, .int 4), (2, .ref sl), (0, .ref x0)]) hx hb dX10_slotsWithRows_23 hl (by decide) rfl (fun ls hl => ?_)
        refine lv_aload hx hb dX10_slotsWithRows_25 (lv_at hl 0 rfl) ?_
        refine puI (cV (As := []) (rest := []) ⟨hx, hb, hml, hown, hts⟩ (c_X2_isVoid l D T sl3 nb3 w9_3 z9_3 ⟨by omega, by omega⟩) k_X2_isVoid v_X2_isVoid m1243 rfl rfl ⟨(Nat.le_of_ble_eq_true rfl), (Nat.le_of_ble_eq_true rfl)⟩ (preP hC (hP.sub (ws' := [(sl3, .inr (2, [.ref nb3, .int w9_3, .int z9_3]))]) [5] rfl)) (va_recv hK hP (ci := 2) (q0 := 5) rfl rfl) rfl hl.1 rfl (Nat.le_of_ble_eq_true rfl) dX10_slotsWithRows_27 ⟨(Nat.le_of_ble_eq_true rfl), (Nat.le_of_ble_eq_true rfl)⟩) hS hP (fun r_88 H locs hw hP hS => ?_)
        have w_90 : (r_88 = 1 ∧ z9_3.toInt = -1) ∨ (r_88 = 0 ∧ ¬ z9_3.toInt = -1) := hw
        rcases w_90 with ⟨rfl, c_91⟩ | ⟨rfl, c_92⟩
        · refine lv_if_ne (tgt := 36) hx hb dX10_slotsWithRows_30 (by decide) (fun _ => ?_) (fun c_93 => absurd c_93 (by decide))
          refine lv_iinc (v := 4) (lv' := [(4, .int 4), (5, .ref sl3), (1, .int 1), (3, .int 4), (2, .ref sl), (0, .ref x0)]) hx hb dX10_slotsWithRows_36 hl (k := 1) rfl (by decide) (by decide) rfl (fun ls hl => ?_)
          refine lv_goto (tgt := 13) hx hb dX10_slotsWithRows_39 (by decide) ?_
          refine lv_iload hx hb dX10_slotsWithRows_13 (lv_at hl 0 rfl) ?_
          refine lv_iload_n hx hb dX10_slotsWithRows_15 rfl (lv_at hl 3 rfl) ?_
          refine lv_icmp_ge (tgt := 42) hx hb dX10_slotsWithRows_16 (by decide) (fun _ => ?_) (fun c_94 => absurd (by decide) c_94)
          refine lv_iload_n hx hb dX10_slotsWithRows_42 rfl (lv_at hl 2 rfl) ?_
          exact W.iret (v := 1) hx hb hr (fun t ht hW => ⟨⟨1, (), rfl, trivial, trivial⟩, hS.F ht⟩) hS.2.2 dX10_slotsWithRows_43
        · refine lv_if_ne (tgt := 36) hx hb dX10_slotsWithRows_30 (by decide) (fun c_95 => absurd c_95 (by decide)) (fun _ => ?_)
          refine lv_iinc (v := 2) (lv' := [(1, .int 2), (5, .ref sl3), (4, .int 3), (3, .int 4), (2, .ref sl), (0, .ref x0)]) hx hb dX10_slotsWithRows_33 hl (k := 2) rfl (by decide) (by decide) rfl (fun ls hl => ?_)
          refine lv_iinc (v := 4) (lv' := [(4, .int 4), (1, .int 2), (5, .ref sl3), (3, .int 4), (2, .ref sl), (0, .ref x0)]) hx hb dX10_slotsWithRows_36 hl (k := 2) rfl (by decide) (by decide) rfl (fun ls hl => ?_)
          refine lv_goto (tgt := 13) hx hb dX10_slotsWithRows_39 (by decide) ?_
          refine lv_iload hx hb dX10_slotsWithRows_13 (lv_at hl 0 rfl) ?_
          refine lv_iload_n hx hb dX10_slotsWithRows_15 rfl (lv_at hl 3 rfl) ?_
          refine lv_icmp_ge (tgt := 42) hx hb dX10_slotsWithRows_16 (by decide) (fun _ => ?_) (fun c_96 => absurd (by decide) c_96)
          refine lv_iload_n hx hb dX10_slotsWithRows_42 rfl (lv_at hl 1 rfl) ?_
          exact W.iret (v := 2) hx hb hr (fun t ht hW => ⟨⟨2, (), rfl, trivial, trivial⟩, hS.F ht⟩) hS.2.2 dX10_slotsWithRows_43
      · refine lv_if_ne (tgt := 36) hx hb dX10_slotsWithRows_30 (by decide) (fun c_97 => absurd c_97 (by decide)) (fun _ => ?_)
        refine lv_iinc (v := 2) (lv' := [(1, .int 2), (5, .ref sl2), (4, .int 2), (3, .int 4), (2, .ref sl), (0, .ref x0)]) hx hb dX10_slotsWithRows_33 hl (k := 2) rfl (by decide) (by decide) rfl (fun ls hl => ?_)
        refine lv_iinc (v := 3) (lv' := [(4, .int 3), (1, .int 2), (5, .ref sl2), (3, .int 4), (2, .ref sl), (0, .ref x0)]) hx hb dX10_slotsWithRows_36 hl (k := 2) rfl (by decide) (by decide) rfl (fun ls hl => ?_)
        refine lv_goto (tgt := 13) hx hb dX10_slotsWithRows_39 (by decide) ?_
        refine lv_iload hx hb dX10_slotsWithRows_13 (lv_at hl 0 rfl) ?_
        refine lv_iload_n hx hb dX10_slotsWithRows_15 rfl (lv_at hl 3 rfl) ?_
        refine lv_icmp_ge (tgt := 42) hx hb dX10_slotsWithRows_16 (by decide) (fun c_98 => absurd c_98 (by decide)) (fun _ => ?_)
        refine lv_aload_n hx hb dX10_slotsWithRows_19 rfl (lv_at hl 4 rfl) ?_
        refine lv_iload hx hb dX10_slotsWithRows_20 (lv_at hl 0 rfl) ?_
        refine va_aldq (D := D) hx hb hK hP 1 4 rfl rfl (by unfold vp_in; decide) dX10_slotsWithRows_22 ?_
        refine W.eq (g2 := F0 m _ ls (.ref sl3 :: _)) rfl ?_
        refine lv_astore (lv' := [(5, .ref sl3), (4, .int 3), (1, .int 2), (3, .int 4), (2, .ref sl), (0, .ref x0)]) hx hb dX10_slotsWithRows_23 hl (by decide) rfl (fun ls hl => ?_)
        refine lv_aload hx hb dX10_slotsWithRows_25 (lv_at hl 0 rfl) ?_
        refine puI (cV (As := []) (rest := []) ⟨hx, hb, hml, hown, hts⟩ (c_X2_isVoid l D T sl3 nb3 w9_3 z9_3 ⟨by omega, by omega⟩) k_X2_isVoid v_X2_isVoid m1243 rfl rfl ⟨(Nat.le_of_ble_eq_true rfl), (Nat.le_of_ble_eq_true rfl)⟩ (preP hC (hP.sub (ws' := [(sl3, .inr (2, [.ref nb3, .int w9_3, .int z9_3]))]) [5] rfl)) (va_recv hK hP (ci := 2) (q0 := 5) rfl rfl) rfl hl.1 rfl (Nat.le_of_ble_eq_true rfl) dX10_slotsWithRows_27 ⟨(Nat.le_of_ble_eq_true rfl), (Nat.le_of_ble_eq_true rfl)⟩) hS hP (fun r_99 H locs hw hP hS => ?_)
        have w_101 : (r_99 = 1 ∧ z9_3.toInt = -1) ∨ (r_99 = 0 ∧ ¬ z9_3.toInt = -1) := hw
        rcases w_101 with ⟨rfl, c_102⟩ | ⟨rfl, c_103⟩
        · refine lv_if_ne (tgt := 36) hx hb dX10_slotsWithRows_30 (by decide) (fun _ => ?_) (fun c_104 => absurd c_104 (by decide))
          refine lv_iinc (v := 4) (lv' := [(4, .int 4), (5, .ref sl3), (1, .int 2), (3, .int 4), (2, .ref sl), (0, .ref x0)]) hx hb dX10_slotsWithRows_36 hl (k := 1) rfl (by decide) (by decide) rfl (fun ls hl => ?_)
          refine lv_goto (tgt := 13) hx hb dX10_slotsWithRows_39 (by decide) ?_
          refine lv_iload hx hb dX10_slotsWithRows_13 (lv_at hl 0 rfl) ?_
          refine lv_iload_n hx hb dX10_slotsWithRows_15 rfl (lv_at hl 3 rfl) ?_
          refine lv_icmp_ge (tgt := 42) hx hb dX10_slotsWithRows_16 (by decide) (fun _ => ?_) (fun c_105 => absurd (by decide) c_105)
          refine lv_iload_n hx hb dX10_slotsWithRows_42 rfl (lv_at hl 2 rfl) ?_
          exact W.iret (v := 2) hx hb hr (fun t ht hW => ⟨⟨2, (), rfl, trivial, trivial⟩, hS.F ht⟩) hS.2.2 dX10_slotsWithRows_43
        · refine lv_if_ne (tgt := 36) hx hb dX10_slotsWithRows_30 (by decide) (fun c_106 => absurd c_106 (by decide)) (fun _ => ?_)
          refine lv_iinc (v := 3) (lv' := [(1, .int 3), (5, .ref sl3), (4, .int 3), (3, .int 4), (2, .ref sl), (0, .ref x0)]) hx hb dX10_slotsWithRows_33 hl (k := 2) rfl (by decide) (by decide) rfl (fun ls hl => ?_)
          refine lv_iinc (v := 4) (lv' := [(4, .int 4), (1, .int 3), (5, .ref sl3), (3, .int 4), (2, .ref sl), (0, .ref x0)]) hx hb dX10_slotsWithRows_36 hl (k := 2) rfl (by decide) (by decide) rfl (fun ls hl => ?_)
          refine lv_goto (tgt := 13) hx hb dX10_slotsWithRows_39 (by decide) ?_
          refine lv_iload hx hb dX10_slotsWithRows_13 (lv_at hl 0 rfl) ?_
          refine lv_iload_n hx hb dX10_slotsWithRows_15 rfl (lv_at hl 3 rfl) ?_
          refine lv_icmp_ge (tgt := 42) hx hb dX10_slotsWithRows_16 (by decide) (fun _ => ?_) (fun c_107 => absurd (by decide) c_107)
          refine lv_iload_n hx hb dX10_slotsWithRows_42 rfl (lv_at hl 1 rfl) ?_
          exact W.iret (v := 3) hx hb hr (fun t ht hW => ⟨⟨3, (), rfl, trivial, trivial⟩, hS.F ht⟩) hS.2.2 dX10_slotsWithRows_43
    · refine lv_if_ne (tgt := 36) hx hb dX10_slotsWithRows_30 (by decide) (fun c_108 => absurd c_108 (by decide)) (fun _ => ?_)
      refine lv_iinc (v := 2) (lv' := [(1, .int 2), (5, .ref sl1), (4, .int 1), (3, .int 4), (2, .ref sl), (0, .ref x0)]) hx hb dX10_slotsWithRows_33 hl (k := 2) rfl (by decide) (by decide) rfl (fun ls hl => ?_)
      refine lv_iinc (v := 2) (lv' := [(4, .int 2), (1, .int 2), (5, .ref sl1), (3, .int 4), (2, .ref sl), (0, .ref x0)]) hx hb dX10_slotsWithRows_36 hl (k := 2) rfl (by decide) (by decide) rfl (fun ls hl => ?_)
      refine lv_goto (tgt := 13) hx hb dX10_slotsWithRows_39 (by decide) ?_
      refine lv_iload hx hb dX10_slotsWithRows_13 (lv_at hl 0 rfl) ?_
      refine lv_iload_n hx hb dX10_slotsWithRows_15 rfl (lv_at hl 3 rfl) ?_
      refine lv_icmp_ge (tgt := 42) hx hb dX10_slotsWithRows_16 (by decide) (fun c_109 => absurd c_109 (by decide)) (fun _ => ?_)
      refine lv_aload_n hx hb dX10_slotsWithRows_19 rfl (lv_at hl 4 rfl) ?_
      refine lv_iload hx hb dX10_slotsWithRows_20 (lv_at hl 0 rfl) ?_
      refine va_aldq (D := D) hx hb hK hP 1 4 rfl rfl (by unfold vp_in; decide) dX10_slotsWithRows_22 ?_
      refine W.eq (g2 := F0 m _ ls (.ref sl2 :: _)) rfl ?_
      refine lv_astore (lv' := [(5, .ref sl2), (4, .int 2), (1, .int 2), (3, .int 4), (2, .ref sl), (0, .ref x0)]) hx hb dX10_slotsWithRows_23 hl (by decide) rfl (fun ls hl => ?_)
      refine lv_aload hx hb dX10_slotsWithRows_25 (lv_at hl 0 rfl) ?_
      refine puI (cV (As := []) (rest := []) ⟨hx, hb, hml, hown, hts⟩ (c_X2_isVoid l D T sl2 nb2 w9_2 z9_2 ⟨by omega, by omega⟩) k_X2_isVoid v_X2_isVoid m1243 rfl rfl ⟨(Nat.le_of_ble_eq_true rfl), (Nat.le_of_ble_eq_true rfl)⟩ (preP hC (hP.sub (ws' := [(sl2, .inr (2, [.ref nb2, .int w9_2, .int z9_2]))]) [4] rfl)) (va_recv hK hP (ci := 2) (q0 := 4) rfl rfl) rfl hl.1 rfl (Nat.le_of_ble_eq_true rfl) dX10_slotsWithRows_27 ⟨(Nat.le_of_ble_eq_true rfl), (Nat.le_of_ble_eq_true rfl)⟩) hS hP (fun r_110 H locs hw hP hS => ?_)
      have w_112 : (r_110 = 1 ∧ z9_2.toInt = -1) ∨ (r_110 = 0 ∧ ¬ z9_2.toInt = -1) := hw
      rcases w_112 with ⟨rfl, c_113⟩ | ⟨rfl, c_114⟩
      · refine lv_if_ne (tgt := 36) hx hb dX10_slotsWithRows_30 (by decide) (fun _ => ?_) (fun c_115 => absurd c_115 (by decide))
        refine lv_iinc (v := 3) (lv' := [(4, .int 3), (5, .ref sl2), (1, .int 2), (3, .int 4), (2, .ref sl), (0, .ref x0)]) hx hb dX10_slotsWithRows_36 hl (k := 1) rfl (by decide) (by decide) rfl (fun ls hl => ?_)
        refine lv_goto (tgt := 13) hx hb dX10_slotsWithRows_39 (by decide) ?_
        refine lv_iload hx hb dX10_slotsWithRows_13 (lv_at hl 0 rfl) ?_
        refine lv_iload_n hx hb dX10_slotsWithRows_15 rfl (lv_at hl 3 rfl) ?_
        refine lv_icmp_ge (tgt := 42) hx hb dX10_slotsWithRows_16 (by decide) (fun c_116 => absurd c_116 (by decide)) (fun _ => ?_)
        refine lv_aload_n hx hb dX10_slotsWithRows_19 rfl (lv_at hl 4 rfl) ?_
        refine lv_iload hx hb dX10_slotsWithRows_20 (lv_at hl 0 rfl) ?_
        refine va_aldq (D := D) hx hb hK hP 1 4 rfl rfl (by unfold vp_in; decide) dX10_slotsWithRows_22 ?_
        refine W.eq (g2 := F0 m _ ls (.ref sl3 :: _)) rfl ?_
        refine lv_astore (lv' := [(5, .ref sl3), (4, .int 3), (1, .int 2), (3, .int 4), (2, .ref sl), (0, .ref x0)]) hx hb dX10_slotsWithRows_23 hl (by decide) rfl (fun ls hl => ?_)
        refine lv_aload hx hb dX10_slotsWithRows_25 (lv_at hl 0 rfl) ?_
        refine puI (cV (As := []) (rest := []) ⟨hx, hb, hml, hown, hts⟩ (c_X2_isVoid l D T sl3 nb3 w9_3 z9_3 ⟨by omega, by omega⟩) k_X2_isVoid v_X2_isVoid m1243 rfl rfl ⟨(Nat.le_of_ble_eq_true rfl), (Nat.le_of_ble_eq_true rfl)⟩ (preP hC (hP.sub (ws' := [(sl3, .inr (2, [.ref nb3, .int w9_3, .int z9_3]))]) [5] rfl)) (va_recv hK hP (ci := 2) (q0 := 5) rfl rfl) rfl hl.1 rfl (Nat.le_of_ble_eq_true rfl) dX10_slotsWithRows_27 ⟨(Nat.le_of_ble_eq_true rfl), (Nat.le_of_ble_eq_true rfl)⟩) hS hP (fun r_117 H locs hw hP hS => ?_)
        have w_119 : (r_117 = 1 ∧ z9_3.toInt = -1) ∨ (r_117 = 0 ∧ ¬ z9_3.toInt = -1) := hw
        rcases w_119 with ⟨rfl, c_120⟩ | ⟨rfl, c_121⟩
        · refine lv_if_ne (tgt := 36) hx hb dX10_slotsWithRows_30 (by decide) (fun _ => ?_) (fun c_122 => absurd c_122 (by decide))
          refine lv_iinc (v := 4) (lv' := [(4, .int 4), (5, .ref sl3), (1, .int 2), (3, .int 4), (2, .ref sl), (0, .ref x0)]) hx hb dX10_slotsWithRows_36 hl (k := 1) rfl (by decide) (by decide) rfl (fun ls hl => ?_)
          refine lv_goto (tgt := 13) hx hb dX10_slotsWithRows_39 (by decide) ?_
          refine lv_iload hx hb dX10_slotsWithRows_13 (lv_at hl 0 rfl) ?_
          refine lv_iload_n hx hb dX10_slotsWithRows_15 rfl (lv_at hl 3 rfl) ?_
          refine lv_icmp_ge (tgt := 42) hx hb dX10_slotsWithRows_16 (by decide) (fun _ => ?_) (fun c_123 => absurd (by decide) c_123)
          refine lv_iload_n hx hb dX10_slotsWithRows_42 rfl (lv_at hl 2 rfl) ?_
          exact W.iret (v := 2) hx hb hr (fun t ht hW => ⟨⟨2, (), rfl, trivial, trivial⟩, hS.F ht⟩) hS.2.2 dX10_slotsWithRows_43
        · refine lv_if_ne (tgt := 36) hx hb dX10_slotsWithRows_30 (by decide) (fun c_124 => absurd c_124 (by decide)) (fun _ => ?_)
          refine lv_iinc (v := 3) (lv' := [(1, .int 3), (5, .ref sl3), (4, .int 3), (3, .int 4), (2, .ref sl), (0, .ref x0)]) hx hb dX10_slotsWithRows_33 hl (k := 2) rfl (by decide) (by decide) rfl (fun ls hl => ?_)
          refine lv_iinc (v := 4) (lv' := [(4, .int 4), (1, .int 3), (5, .ref sl3), (3, .int 4), (2, .ref sl), (0, .ref x0)]) hx hb dX10_slotsWithRows_36 hl (k := 2) rfl (by decide) (by decide) rfl (fun ls hl => ?_)
          refine lv_goto (tgt := 13) hx hb dX10_slotsWithRows_39 (by decide) ?_
          refine lv_iload hx hb dX10_slotsWithRows_13 (lv_at hl 0 rfl) ?_
          refine lv_iload_n hx hb dX10_slotsWithRows_15 rfl (lv_at hl 3 rfl) ?_
          refine lv_icmp_ge (tgt := 42) hx hb dX10_slotsWithRows_16 (by decide) (fun _ => ?_) (fun c_125 => absurd (by decide) c_125)
          refine lv_iload_n hx hb dX10_slotsWithRows_42 rfl (lv_at hl 1 rfl) ?_
          exact W.iret (v := 3) hx hb hr (fun t ht hW => ⟨⟨3, (), rfl, trivial, trivial⟩, hS.F ht⟩) hS.2.2 dX10_slotsWithRows_43
      · refine lv_if_ne (tgt := 36) hx hb dX10_slotsWithRows_30 (by decide) (fun c_126 => absurd c_126 (by decide)) (fun _ => ?_)
        refine lv_iinc (v := 3) (lv' := [(1, .int 3), (5, .ref sl2), (4, .int 2), (3, .int 4), (2, .ref sl), (0, .ref x0)]) hx hb dX10_slotsWithRows_33 hl (k := 2) rfl (by decide) (by decide) rfl (fun ls hl => ?_)
        refine lv_iinc (v := 3) (lv' := [(4, .int 3), (1, .int 3), (5, .ref sl2), (3, .int 4), (2, .ref sl), (0, .ref x0)]) hx hb dX10_slotsWithRows_36 hl (k := 2) rfl (by decide) (by decide) rfl (fun ls hl => ?_)
        refine lv_goto (tgt := 13) hx hb dX10_slotsWithRows_39 (by decide) ?_
        refine lv_iload hx hb dX10_slotsWithRows_13 (lv_at hl 0 rfl) ?_
        refine lv_iload_n hx hb dX10_slotsWithRows_15 rfl (lv_at hl 3 rfl) ?_
        refine lv_icmp_ge (tgt := 42) hx hb dX10_slotsWithRows_16 (by decide) (fun c_127 => absurd c_127 (by decide)) (fun _ => ?_)
        refine lv_aload_n hx hb dX10_slotsWithRows_19 rfl (lv_at hl 4 rfl) ?_
        refine lv_iload hx hb dX10_slotsWithRows_20 (lv_at hl 0 rfl) ?_
        refine va_aldq (D := D) hx hb hK hP 1 4 rfl rfl (by unfold vp_in; decide) dX10_slotsWithRows_22 ?_
        refine W.eq (g2 := F0 m _ ls (.ref sl3 :: _)) rfl ?_
        refine lv_astore (lv' := [(5, .ref sl3), (4, .int 3), (1, .int 3), (3, .int 4), (2, .ref sl), (0, .ref x0)]) hx hb dX10_slotsWithRows_23 hl (by decide) rfl (fun ls hl => ?_)
        refine lv_aload hx hb dX10_slotsWithRows_25 (lv_at hl 0 rfl) ?_
        refine puI (cV (As := []) (rest := []) ⟨hx, hb, hml, hown, hts⟩ (c_X2_isVoid l D T sl3 nb3 w9_3 z9_3 ⟨by omega, by omega⟩) k_X2_isVoid v_X2_isVoid m1243 rfl rfl ⟨(Nat.le_of_ble_eq_true rfl), (Nat.le_of_ble_eq_true rfl)⟩ (preP hC (hP.sub (ws' := [(sl3, .inr (2, [.ref nb3, .int w9_3, .int z9_3]))]) [5] rfl)) (va_recv hK hP (ci := 2) (q0 := 5) rfl rfl) rfl hl.1 rfl (Nat.le_of_ble_eq_true rfl) dX10_slotsWithRows_27 ⟨(Nat.le_of_ble_eq_true rfl), (Nat.le_of_ble_eq_true rfl)⟩) hS hP (fun r_128 H locs hw hP hS => ?_)
        have w_130 : (r_128 = 1 ∧ z9_3.toInt = -1) ∨ (r_128 = 0 ∧ ¬ z9_3.toInt = -1) := hw
        rcases w_130 with ⟨rfl, c_131⟩ | ⟨rfl, c_132⟩
        · refine lv_if_ne (tgt := 36) hx hb dX10_slotsWithRows_30 (by decide) (fun _ => ?_) (fun c_133 => absurd c_133 (by decide))
          refine lv_iinc (v := 4) (lv' := [(4, .int 4), (5, .ref sl3), (1, .int 3), (3, .int 4), (2, .ref sl), (0, .ref x0)]) hx hb dX10_slotsWithRows_36 hl (k := 1) rfl (by decide) (by decide) rfl (fun ls hl => ?_)
          refine lv_goto (tgt := 13) hx hb dX10_slotsWithRows_39 (by decide) ?_
          refine lv_iload hx hb dX10_slotsWithRows_13 (lv_at hl 0 rfl) ?_
          refine lv_iload_n hx hb dX10_slotsWithRows_15 rfl (lv_at hl 3 rfl) ?_
          refine lv_icmp_ge (tgt := 42) hx hb dX10_slotsWithRows_16 (by decide) (fun _ => ?_) (fun c_134 => absurd (by decide) c_134)
          refine lv_iload_n hx hb dX10_slotsWithRows_42 rfl (lv_at hl 2 rfl) ?_
          exact W.iret (v := 3) hx hb hr (fun t ht hW => ⟨⟨3, (), rfl, trivial, trivial⟩, hS.F ht⟩) hS.2.2 dX10_slotsWithRows_43
        · refine lv_if_ne (tgt := 36) hx hb dX10_slotsWithRows_30 (by decide) (fun c_135 => absurd c_135 (by decide)) (fun _ => ?_)
          refine lv_iinc (v := 4) (lv' := [(1, .int 4), (5, .ref sl3), (4, .int 3), (3, .int 4), (2, .ref sl), (0, .ref x0)]) hx hb dX10_slotsWithRows_33 hl (k := 2) rfl (by decide) (by decide) rfl (fun ls hl => ?_)
          refine lv_iinc (v := 4) (lv' := [(4, .int 4), (1, .int 4), (5, .ref sl3), (3, .int 4), (2, .ref sl), (0, .ref x0)]) hx hb dX10_slotsWithRows_36 hl (k := 2) rfl (by decide) (by decide) rfl (fun ls hl => ?_)
          refine lv_goto (tgt := 13) hx hb dX10_slotsWithRows_39 (by decide) ?_
          refine lv_iload hx hb dX10_slotsWithRows_13 (lv_at hl 0 rfl) ?_
          refine lv_iload_n hx hb dX10_slotsWithRows_15 rfl (lv_at hl 3 rfl) ?_
          refine lv_icmp_ge (tgt := 42) hx hb dX10_slotsWithRows_16 (by decide) (fun _ => ?_) (fun c_136 => absurd (by decide) c_136)
          refine lv_iload_n hx hb dX10_slotsWithRows_42 rfl (lv_at hl 1 rfl) ?_
          exact W.iret (v := 4) hx hb hr (fun t ht hW => ⟨⟨4, (), rfl, trivial, trivial⟩, hS.F ht⟩) hS.2.2 dX10_slotsWithRows_43

set_option maxHeartbeats 4000000 in
set_option maxRecDepth 100000 in
theorem c_X10_count (l : Launch) (D : va_G) (T : Nat → ClassId) (b0 b1 b2 b3 b4 b5 b6 b7 b8 b9 bl im kp ma nb0 nb1 nb2 nb3 rd sl sl0 sl1 sl2 sl3 st sw tb th tp tu tw wa wn wr x0 : Nat) (i1 s2 s3 s4 s6 t0 t1 t2 t3 t4 t5 t6 t7 t8 w9_0 w9_1 w9_2 w9_3 z4 z9_0 z9_1 z9_2 z9_3 : Int32) (s5 : Int64) (f8 f9 : Nat → Int32) (h_t1 : 0 ≤ t1.toInt ∧ t1.toInt ≤ 8) (h_t2 : 0 ≤ t2.toInt ∧ t2.toInt ≤ 12) (h_t4 : 0 ≤ t4.toInt ∧ t4.toInt ≤ 5) (h_t5 : 0 ≤ t5.toInt ∧ t5.toInt ≤ 10) (h_s2 : 0 ≤ s2.toInt ∧ s2.toInt ≤ 100) (h_z4 : 0 ≤ z4.toInt ∧ z4.toInt ≤ 1600) (h_z9_0 : (-1) ≤ z9_0.toInt ∧ z9_0.toInt ≤ 60) (h_z9_1 : (-1) ≤ z9_1.toInt ∧ z9_1.toInt ≤ 60) (h_z9_2 : (-1) ≤ z9_2.toInt ∧ z9_2.toInt ≤ 60) (h_z9_3 : (-1) ≤ z9_3.toInt ∧ z9_3.toInt ≤ 60) : Met l yX10_count (wM yX10_count cX10_count 2 (some .int)) ({ frames := 2, cells := 0, slots := 0, locals := 45 }) (va_Pc [.ref x0, .int i1] (pwP D T [(x0, .inr (10, [.ref tp, .ref rd, .ref st, .ref th, .ref im, .ref kp, .ref sl, .ref tu, .ref wn, .ref ma, .ref wr])), (st, .inr (3, [.ref tw, .ref wa, .int s2, .int s3, .int s4, .long s5, .int s6, .ref sw, .ref bl])), (tw, .inr (5, [.int t0, .int t1, .int t2, .int t3, .int t4, .int t5, .int t6, .int t7, .int t8, .ref b0, .ref b1, .ref b2, .ref b3, .ref b4, .ref b5, .ref b6, .ref b7, .ref b8, .ref b9])), (b8, .inl (T 0, 10, .inl f8)), (b9, .inl (T 0, 10, .inl f9)), (tp, .inr (4, [.ref tb, .int z4])), (sl, .inl (T 4, 4, .inr (.inr (.inr (.inr (va_up (va_up (va_up (va_up (fun _ => none) 0 (some sl0)) 1 (some sl1)) 2 (some sl2)) 3 (some sl3))))))), (sl0, .inr (2, [.ref nb0, .int w9_0, .int z9_0])), (sl1, .inr (2, [.ref nb1, .int w9_1, .int z9_1])), (sl2, .inr (2, [.ref nb2, .int w9_2, .int z9_2])), (sl3, .inr (2, [.ref nb3, .int w9_3, .int z9_3]))])) (va_Qi (fun (r : Int32) (u : Unit) => True) (fun _ _ => True) (fun _ => False)) 0 0 (fun _ => False) := by
  refine Met.ofW (cc := cX10_count) (maxL := 2) (ret := (some .int)) (by decide) rfl ?_
  intro p e s m args below meth c s₁ B hml hv
  obtain ⟨rfl, hP, hC⟩ := hv
  have hx := B.exec
  have hb := B.bytes
  have hr := B.returns
  have hts : ∀ w ∈ gt, w.before _ s = true := fun w hw => atoms_spec (ws := (wM yX10_count cX10_count 2 (some .int))) B.pre w (List.mem_cons_of_mem _ hw)
  have hown : s.vm.findClass RX10 = some m.cls := findClass_of_methodNamed B.named
  have hlocks := B.notSynchronized
  have hK := hC.1
  have hS : va_S (fun _ => False) s.heap s.heap [] := va_S.rf
  have hl := lv_entry ([.ref x0, .int i1]) (n := 2) (Nat.le_of_ble_eq_true rfl)
  rw [lg_entry_eq]
  generalize (lg_sl ([.ref x0, .int i1]) ++ List.replicate (2 - (lg_sl ([.ref x0, .int i1])).length) Slot.unset).toArray = ls at hl ⊢
  have hl : lv_has ls 2 [(0, .ref x0), (1, .int i1)] := hl
  refine lv_iload_n hx hb dX10_count_0 rfl (lv_at hl 1 rfl) ?_
  rcases (show (i1.toInt = 0) ∨ (i1.toInt = 1) ∨ (i1.toInt = 2) ∨ (i1.toInt = 3) ∨ (i1.toInt = 4) ∨ (i1.toInt = 5) ∨ (i1.toInt = 6) ∨ (i1.toInt = 7) ∨ (i1.toInt = 8) ∨ (i1.toInt = 9) ∨ (i1.toInt = 10) ∨ (i1.toInt = 11) ∨ (i1.toInt = 12) ∨ (¬ i1.toInt = 0 ∧ ¬ i1.toInt = 1 ∧ ¬ i1.toInt = 2 ∧ ¬ i1.toInt = 3 ∧ ¬ i1.toInt = 4 ∧ ¬ i1.toInt = 5 ∧ ¬ i1.toInt = 6 ∧ ¬ i1.toInt = 7 ∧ ¬ i1.toInt = 8 ∧ ¬ i1.toInt = 9 ∧ ¬ i1.toInt = 10 ∧ ¬ i1.toInt = 11 ∧ ¬ i1.toInt = 12) by omega) with c_1 | c_1 | c_1 | c_1 | c_1 | c_1 | c_1 | c_1 | c_1 | c_1 | c_1 | c_1 | c_1 | c_1
  · refine lv_tableIn (off := 67) (tgt := 68) hx hb dX10_count_1 (by omega) (by omega) (by rw [c_1]; decide) (by decide) ?_
    refine lv_aload_n hx hb dX10_count_68 rfl (lv_at hl 0 rfl) ?_
    refine va_get (D := D) (ci := 10) (C := RX10) (T := TX10) (N := 11) hx hb hts iX10 hown hK hP 0 rfl rfl 2 (by decide) (hts _ m527) (fun _ h9 => h9) rfl dX10_count_69 ?_
    refine va_get (D := D) (ci := 3) (C := RX3) (T := TX3) (N := 9) hx hb hts iX3 hown hK hP 1 rfl rfl 0 (by decide) (hts _ m371) (fun _ h9 => h9) rfl dX10_count_72 ?_
    refine va_get (D := D) (ci := 5) (C := RX5) (T := TX5) (N := 19) hx hb hts iX5 hown hK hP 2 rfl rfl 1 (by decide) (hts _ m173) (fun _ h9 => h9) rfl dX10_count_75 ?_
    exact W.iret (v := t1) hx hb hr (fun t ht hW => ⟨⟨t1, (), rfl, trivial, trivial⟩, hS.F ht⟩) hS.2.2 dX10_count_78
  · refine lv_tableIn (off := 78) (tgt := 79) hx hb dX10_count_1 (by omega) (by omega) (by rw [c_1]; decide) (by decide) ?_
    refine lv_aload_n hx hb dX10_count_79 rfl (lv_at hl 0 rfl) ?_
    refine va_get (D := D) (ci := 10) (C := RX10) (T := TX10) (N := 11) hx hb hts iX10 hown hK hP 0 rfl rfl 2 (by decide) (hts _ m527) (fun _ h9 => h9) rfl dX10_count_80 ?_
    refine va_get (D := D) (ci := 3) (C := RX3) (T := TX3) (N := 9) hx hb hts iX3 hown hK hP 1 rfl rfl 0 (by decide) (hts _ m371) (fun _ h9 => h9) rfl dX10_count_83 ?_
    refine va_get (D := D) (ci := 5) (C := RX5) (T := TX5) (N := 19) hx hb hts iX5 hown hK hP 2 rfl rfl 2 (by decide) (hts _ m177) (fun _ h9 => h9) rfl dX10_count_86 ?_
    exact W.iret (v := t2) hx hb hr (fun t ht hW => ⟨⟨t2, (), rfl, trivial, trivial⟩, hS.F ht⟩) hS.2.2 dX10_count_89
  · refine lv_tableIn (off := 89) (tgt := 90) hx hb dX10_count_1 (by omega) (by omega) (by rw [c_1]; decide) (by decide) ?_
    refine lv_aload_n hx hb dX10_count_90 rfl (lv_at hl 0 rfl) ?_
    refine va_get (D := D) (ci := 10) (C := RX10) (T := TX10) (N := 11) hx hb hts iX10 hown hK hP 0 rfl rfl 2 (by decide) (hts _ m527) (fun _ h9 => h9) rfl dX10_count_91 ?_
    refine va_get (D := D) (ci := 3) (C := RX3) (T := TX3) (N := 9) hx hb hts iX3 hown hK hP 1 rfl rfl 0 (by decide) (hts _ m371) (fun _ h9 => h9) rfl dX10_count_94 ?_
    refine va_get (D := D) (ci := 5) (C := RX5) (T := TX5) (N := 19) hx hb hts iX5 hown hK hP 2 rfl rfl 3 (by decide) (hts _ m181) (fun _ h9 => h9) rfl dX10_count_97 ?_
    exact W.iret (v := t3) hx hb hr (fun t ht hW => ⟨⟨t3, (), rfl, trivial, trivial⟩, hS.F ht⟩) hS.2.2 dX10_count_100
  · refine lv_tableIn (off := 100) (tgt := 101) hx hb dX10_count_1 (by omega) (by omega) (by rw [c_1]; decide) (by decide) ?_
    refine lv_aload_n hx hb dX10_count_101 rfl (lv_at hl 0 rfl) ?_
    refine va_get (D := D) (ci := 10) (C := RX10) (T := TX10) (N := 11) hx hb hts iX10 hown hK hP 0 rfl rfl 2 (by decide) (hts _ m527) (fun _ h9 => h9) rfl dX10_count_102 ?_
    refine va_get (D := D) (ci := 3) (C := RX3) (T := TX3) (N := 9) hx hb hts iX3 hown hK hP 1 rfl rfl 0 (by decide) (hts _ m371) (fun _ h9 => h9) rfl dX10_count_105 ?_
    refine va_get (D := D) (ci := 5) (C := RX5) (T := TX5) (N := 19) hx hb hts iX5 hown hK hP 2 rfl rfl 4 (by decide) (hts _ m186) (fun _ h9 => h9) rfl dX10_count_108 ?_
    exact W.iret (v := t4) hx hb hr (fun t ht hW => ⟨⟨t4, (), rfl, trivial, trivial⟩, hS.F ht⟩) hS.2.2 dX10_count_111
  · refine lv_tableIn (off := 111) (tgt := 112) hx hb dX10_count_1 (by omega) (by omega) (by rw [c_1]; decide) (by decide) ?_
    refine lv_aload_n hx hb dX10_count_112 rfl (lv_at hl 0 rfl) ?_
    refine va_get (D := D) (ci := 10) (C := RX10) (T := TX10) (N := 11) hx hb hts iX10 hown hK hP 0 rfl rfl 2 (by decide) (hts _ m527) (fun _ h9 => h9) rfl dX10_count_113 ?_
    refine va_get (D := D) (ci := 3) (C := RX3) (T := TX3) (N := 9) hx hb hts iX3 hown hK hP 1 rfl rfl 0 (by decide) (hts _ m371) (fun _ h9 => h9) rfl dX10_count_116 ?_
    refine va_get (D := D) (ci := 5) (C := RX5) (T := TX5) (N := 19) hx hb hts iX5 hown hK hP 2 rfl rfl 5 (by decide) (hts _ m191) (fun _ h9 => h9) rfl dX10_count_119 ?_
    exact W.iret (v := t5) hx hb hr (fun t ht hW => ⟨⟨t5, (), rfl, trivial, trivial⟩, hS.F ht⟩) hS.2.2 dX10_count_122
  · refine lv_tableIn (off := 122) (tgt := 123) hx hb dX10_count_1 (by omega) (by omega) (by rw [c_1]; decide) (by decide) ?_
    refine lv_aload_n hx hb dX10_count_123 rfl (lv_at hl 0 rfl) ?_
    refine va_get (D := D) (ci := 10) (C := RX10) (T := TX10) (N := 11) hx hb hts iX10 hown hK hP 0 rfl rfl 2 (by decide) (hts _ m527) (fun _ h9 => h9) rfl dX10_count_124 ?_
    refine va_get (D := D) (ci := 3) (C := RX3) (T := TX3) (N := 9) hx hb hts iX3 hown hK hP 1 rfl rfl 2 (by decide) (hts _ m380) (fun _ h9 => h9) rfl dX10_count_127 ?_
    exact W.iret (v := s2) hx hb hr (fun t ht hW => ⟨⟨s2, (), rfl, trivial, trivial⟩, hS.F ht⟩) hS.2.2 dX10_count_130
  · refine lv_tableIn (off := 130) (tgt := 131) hx hb dX10_count_1 (by omega) (by omega) (by rw [c_1]; decide) (by decide) ?_
    refine lv_aload_n hx hb dX10_count_131 rfl (lv_at hl 0 rfl) ?_
    refine va_get (D := D) (ci := 10) (C := RX10) (T := TX10) (N := 11) hx hb hts iX10 hown hK hP 0 rfl rfl 2 (by decide) (hts _ m527) (fun _ h9 => h9) rfl dX10_count_132 ?_
    refine va_get (D := D) (ci := 3) (C := RX3) (T := TX3) (N := 9) hx hb hts iX3 hown hK hP 1 rfl rfl 4 (by decide) (hts _ m389) (fun _ h9 => h9) rfl dX10_count_135 ?_
    exact W.iret (v := s4) hx hb hr (fun t ht hW => ⟨⟨s4, (), rfl, trivial, trivial⟩, hS.F ht⟩) hS.2.2 dX10_count_138
  · refine lv_tableIn (off := 138) (tgt := 139) hx hb dX10_count_1 (by omega) (by omega) (by rw [c_1]; decide) (by decide) ?_
    refine lv_aload_n hx hb dX10_count_139 rfl (lv_at hl 0 rfl) ?_
    refine va_get (D := D) (ci := 10) (C := RX10) (T := TX10) (N := 11) hx hb hts iX10 hown hK hP 0 rfl rfl 2 (by decide) (hts _ m527) (fun _ h9 => h9) rfl dX10_count_140 ?_
    refine va_get (D := D) (ci := 3) (C := RX3) (T := TX3) (N := 9) hx hb hts iX3 hown hK hP 1 rfl rfl 0 (by decide) (hts _ m371) (fun _ h9 => h9) rfl dX10_count_143 ?_
    refine va_get (D := D) (ci := 5) (C := RX5) (T := TX5) (N := 19) hx hb hts iX5 hown hK hP 2 rfl rfl 0 (by decide) (hts _ m166) (fun _ h9 => h9) rfl dX10_count_146 ?_
    exact W.iret (v := t0) hx hb hr (fun t ht hW => ⟨⟨t0, (), rfl, trivial, trivial⟩, hS.F ht⟩) hS.2.2 dX10_count_149
  · refine lv_tableIn (off := 149) (tgt := 150) hx hb dX10_count_1 (by omega) (by omega) (by rw [c_1]; decide) (by decide) ?_
    refine lv_aload_n hx hb dX10_count_150 rfl (lv_at hl 0 rfl) ?_
    refine va_get (D := D) (ci := 10) (C := RX10) (T := TX10) (N := 11) hx hb hts iX10 hown hK hP 0 rfl rfl 0 (by decide) (hts _ m525) (fun _ h9 => h9) rfl dX10_count_151 ?_
    refine va_get (D := D) (ci := 4) (C := RX4) (T := TX4) (N := 2) hx hb hts iX4 hown hK hP 5 rfl rfl 1 (by decide) (hts _ m143) (fun _ h9 => h9) rfl dX10_count_154 ?_
    exact W.iret (v := z4) hx hb hr (fun t ht hW => ⟨⟨z4, (), rfl, trivial, trivial⟩, hS.F ht⟩) hS.2.2 dX10_count_157
  · refine lv_tableIn (off := 157) (tgt := 158) hx hb dX10_count_1 (by omega) (by omega) (by rw [c_1]; decide) (by decide) ?_
    refine lv_aload_n hx hb dX10_count_158 rfl (lv_at hl 0 rfl) ?_
    refine va_get (D := D) (ci := 10) (C := RX10) (T := TX10) (N := 11) hx hb hts iX10 hown hK hP 0 rfl rfl 2 (by decide) (hts _ m527) (fun _ h9 => h9) rfl dX10_count_159 ?_
    refine va_get (D := D) (ci := 3) (C := RX3) (T := TX3) (N := 9) hx hb hts iX3 hown hK hP 1 rfl rfl 3 (by decide) (hts _ m386) (fun _ h9 => h9) rfl dX10_count_162 ?_
    exact W.iret (v := s3) hx hb hr (fun t ht hW => ⟨⟨s3, (), rfl, trivial, trivial⟩, hS.F ht⟩) hS.2.2 dX10_count_165
  · refine lv_tableIn (off := 165) (tgt := 166) hx hb dX10_count_1 (by omega) (by omega) (by rw [c_1]; decide) (by decide) ?_
    refine lv_aload_n hx hb dX10_count_166 rfl (lv_at hl 0 rfl) ?_
    refine va_get (D := D) (ci := 10) (C := RX10) (T := TX10) (N := 11) hx hb hts iX10 hown hK hP 0 rfl rfl 2 (by decide) (hts _ m527) (fun _ h9 => h9) rfl dX10_count_167 ?_
    refine va_get (D := D) (ci := 3) (C := RX3) (T := TX3) (N := 9) hx hb hts iX3 hown hK hP 1 rfl rfl 0 (by decide) (hts _ m371) (fun _ h9 => h9) rfl dX10_count_170 ?_
    refine va_get (D := D) (ci := 5) (C := RX5) (T := TX5) (N := 19) hx hb hts iX5 hown hK hP 2 rfl rfl 7 (by decide) (hts _ m199) (fun _ h9 => h9) rfl dX10_count_173 ?_
    exact W.iret (v := t7) hx hb hr (fun t ht hW => ⟨⟨t7, (), rfl, trivial, trivial⟩, hS.F ht⟩) hS.2.2 dX10_count_176
  · refine lv_tableIn (off := 176) (tgt := 177) hx hb dX10_count_1 (by omega) (by omega) (by rw [c_1]; decide) (by decide) ?_
    refine lv_aload_n hx hb dX10_count_177 rfl (lv_at hl 0 rfl) ?_
    refine va_get (D := D) (ci := 10) (C := RX10) (T := TX10) (N := 11) hx hb hts iX10 hown hK hP 0 rfl rfl 2 (by decide) (hts _ m527) (fun _ h9 => h9) rfl dX10_count_178 ?_
    refine puI (cV (As := []) (rest := []) ⟨hx, hb, hml, hown, hts⟩ (c_X3_votersNow l D T b0 b1 b2 b3 b4 b5 b6 b7 b8 b9 bl st sw tw wa s2 s3 s4 s6 t0 t1 t2 t3 t4 t5 t6 t7 t8 s5 f8 f9 ⟨by omega, by omega⟩ ⟨by omega, by omega⟩ ⟨by omega, by omega⟩ ⟨by omega, by omega⟩ ⟨by omega, by omega⟩) k_X3_votersNow v_X3_votersNow m1265 rfl rfl ⟨(Nat.le_of_ble_eq_true rfl), (Nat.le_of_ble_eq_true rfl)⟩ (preP hC (hP.sub (ws' := [(st, .inr (3, [.ref tw, .ref wa, .int s2, .int s3, .int s4, .long s5, .int s6, .ref sw, .ref bl])), (tw, .inr (5, [.int t0, .int t1, .int t2, .int t3, .int t4, .int t5, .int t6, .int t7, .int t8, .ref b0, .ref b1, .ref b2, .ref b3, .ref b4, .ref b5, .ref b6, .ref b7, .ref b8, .ref b9])), (b8, .inl (T 0, 10, .inl f8)), (b9, .inl (T 0, 10, .inl f9))]) [1, 2, 3, 4] rfl)) (va_recv hK hP (ci := 3) (q0 := 1) rfl rfl) rfl hl.1 rfl (Nat.le_of_ble_eq_true rfl) dX10_count_181 ⟨(Nat.le_of_ble_eq_true rfl), (Nat.le_of_ble_eq_true rfl)⟩) hS hP (fun r_2 H locs hw hP hS => ?_)
    exact W.iret (v := r_2) hx hb hr (fun t ht hW => ⟨⟨r_2, (), rfl, trivial, trivial⟩, hS.F ht⟩) hS.2.2 dX10_count_184
  · refine lv_tableIn (off := 184) (tgt := 185) hx hb dX10_count_1 (by omega) (by omega) (by rw [c_1]; decide) (by decide) ?_
    refine lv_aload_n hx hb dX10_count_185 rfl (lv_at hl 0 rfl) ?_
    refine puI (cV (As := []) (rest := []) ⟨hx, hb, hml, hown, hts⟩ (c_X10_slotsWithRows l D T im kp ma nb0 nb1 nb2 nb3 rd sl sl0 sl1 sl2 sl3 st th tp tu wn wr x0 w9_0 w9_1 w9_2 w9_3 z9_0 z9_1 z9_2 z9_3 ⟨by omega, by omega⟩ ⟨by omega, by omega⟩ ⟨by omega, by omega⟩ ⟨by omega, by omega⟩) k_X10_slotsWithRows v_X10_slotsWithRows m1269 rfl rfl ⟨(Nat.le_of_ble_eq_true rfl), (Nat.le_of_ble_eq_true rfl)⟩ (preP hC (hP.sub (ws' := [(x0, .inr (10, [.ref tp, .ref rd, .ref st, .ref th, .ref im, .ref kp, .ref sl, .ref tu, .ref wn, .ref ma, .ref wr])), (sl, .inl (T 4, 4, .inr (.inr (.inr (.inr (va_up (va_up (va_up (va_up (fun _ => none) 0 (some sl0)) 1 (some sl1)) 2 (some sl2)) 3 (some sl3))))))), (sl0, .inr (2, [.ref nb0, .int w9_0, .int z9_0])), (sl1, .inr (2, [.ref nb1, .int w9_1, .int z9_1])), (sl2, .inr (2, [.ref nb2, .int w9_2, .int z9_2])), (sl3, .inr (2, [.ref nb3, .int w9_3, .int z9_3]))]) [0, 6, 7, 8, 9, 10] rfl)) (va_recv hK hP (ci := 10) (q0 := 0) rfl rfl) rfl hl.1 rfl (Nat.le_of_ble_eq_true rfl) dX10_count_186 ⟨(Nat.le_of_ble_eq_true rfl), (Nat.le_of_ble_eq_true rfl)⟩) hS hP (fun r_4 H locs hw hP hS => ?_)
    exact W.iret (v := r_4) hx hb hr (fun t ht hW => ⟨⟨r_4, (), rfl, trivial, trivial⟩, hS.F ht⟩) hS.2.2 dX10_count_189
  · refine lv_tableOut (tgt := 190) hx hb dX10_count_1 (by omega) (by decide) ?_
    refine lv_iconst (v := (-1)) hx hb dX10_count_190 (by decide) ?_
    exact W.iret (v := (-1)) hx hb hr (fun t ht hW => ⟨⟨(-1), (), rfl, trivial, trivial⟩, hS.F ht⟩) hS.2.2 dX10_count_191
