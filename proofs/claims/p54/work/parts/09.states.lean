def sdf (w last : Int32) : Int32 := if w = 2 then (if last = 1 then 1 else 0) else if w = 3 then (if last = 1 then 0 else 1) else w
theorem sdf_2 {w last : Int32} (h : w.toInt = 2) (h1 : last.toInt = 1) : (1 : Int32) = sdf w last := by
  have hw : w = 2 := (c_eq (y := 2) rfl rfl).mpr h
  have hl : last = 1 := (c_eq (y := 1) rfl rfl).mpr h1
  subst hw; subst hl; decide
theorem sdf_20 {w last : Int32} (h : w.toInt = 2) (h1 : ¬ last.toInt = 1) : (0 : Int32) = sdf w last := by
  have hw : w = 2 := (c_eq (y := 2) rfl rfl).mpr h
  have hl : ¬ last = 1 := fun q => h1 ((c_eq (y := 1) rfl rfl).mp q)
  subst hw; unfold sdf; rw [if_pos rfl, if_neg hl]
theorem sdf_3 {w last : Int32} (h : w.toInt = 3) (h1 : last.toInt = 1) : (0 : Int32) = sdf w last := by
  have hw : w = 3 := (c_eq (y := 3) rfl rfl).mpr h
  have hl : last = 1 := (c_eq (y := 1) rfl rfl).mpr h1
  subst hw; subst hl; decide
theorem sdf_30 {w last : Int32} (h : w.toInt = 3) (h1 : ¬ last.toInt = 1) : (1 : Int32) = sdf w last := by
  have hw : w = 3 := (c_eq (y := 3) rfl rfl).mpr h
  have hl : ¬ last = 1 := fun q => h1 ((c_eq (y := 1) rfl rfl).mp q)
  subst hw; unfold sdf; rw [if_neg (by decide), if_pos rfl, if_neg hl]
theorem sdf_w {w last : Int32} (h2 : ¬ w.toInt = 2) (h3 : ¬ w.toInt = 3) : w = sdf w last := by
  unfold sdf
  rw [if_neg (fun q => h2 ((c_eq (y := 2) rfl rfl).mp q)), if_neg (fun q => h3 ((c_eq (y := 3) rfl rfl).mp q))]
theorem sdf_r {w last : Int32} (h : 0 ≤ w.toInt ∧ w.toInt ≤ 3) : 0 ≤ (sdf w last).toInt ∧ (sdf w last).toInt ≤ 1 := by
  unfold sdf
  by_cases a : w = 2
  · rw [if_pos a]; split <;> decide
  · rw [if_neg a]
    by_cases b : w = 3
    · rw [if_pos b]; split <;> decide
    · rw [if_neg b]
      rw [c_eq (y := 2) rfl rfl] at a
      rw [c_eq (y := 3) rfl rfl] at b
      omega

set_option maxHeartbeats 4000000 in
set_option maxRecDepth 100000 in
theorem c_X3_leader (l : Launch) (D : va_G) (T : Nat → ClassId) (b0 b1 b2 b3 b4 b5 b6 b7 b8 b9 bl e0 e1 e2 e3 e4 e5 e6 e7 h0 sw tw wa : Nat) (i1 s2 s3 s4 s6 t0 t1 t2 t3 t4 t5 t6 t7 t8 : Int32) (s5 : Int64) (p0 p5 p6 : Nat → Int32) (h_t1 : 0 ≤ t1.toInt ∧ t1.toInt ≤ 8) (h_t2 : 0 ≤ t2.toInt ∧ t2.toInt ≤ 12) (h_t4 : 0 ≤ t4.toInt ∧ t4.toInt ≤ 5) (h_t5 : 0 ≤ t5.toInt ∧ t5.toInt ≤ 10) (h_s2 : 0 ≤ s2.toInt ∧ s2.toInt ≤ 100) (R_p0 : rg 0 12 p0) : Met l yX3_leader (wM yX3_leader cX3_leader 4 (some .int)) ({ frames := 3, cells := 0, slots := 0, locals := 66 }) (va_Pc [.ref h0, .int i1] (pwP D T [(h0, .inr (3, [.ref tw, .ref wa, .int s2, .int s3, .int s4, .long s5, .int s6, .ref sw, .ref bl])), (tw, .inr (5, [.int t0, .int t1, .int t2, .int t3, .int t4, .int t5, .int t6, .int t7, .int t8, .ref b0, .ref b1, .ref b2, .ref b3, .ref b4, .ref b5, .ref b6, .ref b7, .ref b8, .ref b9])), (wa, .inr (7, [.ref tw, .ref e0, .ref e1, .ref e2, .ref e3, .ref e4, .ref e5, .ref e6, .ref e7])), (e0, .inl (T 0, 16, .inl p0)), (e5, .inl (T 0, 2, .inl p5)), (e6, .inl (T 0, 2, .inl p6))])) (va_Qi (fun (r : Int32) (u : Unit) => (0 ≤ r.toInt ∧ r.toInt ≤ 2)) (fun _ _ => True) (fun _ => False)) 0 0 (fun _ => False) := by
  refine Met.ofW (cc := cX3_leader) (maxL := 4) (ret := (some .int)) (by decide) rfl ?_
  intro p e s m args below meth c s₁ B hml hv
  obtain ⟨rfl, hP, hC⟩ := hv
  have hx := B.exec
  have hb := B.bytes
  have hr := B.returns
  have hts : ∀ w ∈ gt, w.before _ s = true := fun w hw => atoms_spec (ws := (wM yX3_leader cX3_leader 4 (some .int))) B.pre w (List.mem_cons_of_mem _ hw)
  have hown : s.vm.findClass RX3 = some m.cls := findClass_of_methodNamed B.named
  have hlocks := B.notSynchronized
  have hK := hC.1
  have hS : va_S (fun _ => False) s.heap s.heap [] := va_S.rf
  have hl := lv_entry ([.ref h0, .int i1]) (n := 4) (Nat.le_of_ble_eq_true rfl)
  rw [lg_entry_eq]
  generalize (lg_sl ([.ref h0, .int i1]) ++ List.replicate (4 - (lg_sl ([.ref h0, .int i1])).length) Slot.unset).toArray = ls at hl ⊢
  have hl : lv_has ls 4 [(0, .ref h0), (1, .int i1)] := hl
  refine lv_aload_n hx hb dX3_leader_0 rfl (lv_at hl 0 rfl) ?_
  refine va_get (D := D) (ci := 3) (C := RX3) (T := TX3) (N := 9) hx hb hts iX3 hown hK hP 0 rfl rfl 1 (by decide) (hts _ m372) (fun _ h9 => h9) rfl dX3_leader_1 ?_
  refine lv_iconst (v := 0) hx hb dX3_leader_4 (by decide) ?_
  refine lv_iload_n hx hb dX3_leader_5 rfl (lv_at hl 1 rfl) ?_
  refine puI (cV (As := [.int 0, .int i1]) (rest := []) ⟨hx, hb, hml, hown, hts⟩ (c_X7_tally l D T b0 b1 b2 b3 b4 b5 b6 b7 b8 b9 e0 e1 e2 e3 e4 e5 e6 e7 wa tw 0 i1 t0 t1 t2 t3 t4 t5 t6 t7 t8 p0 p5 p6 ⟨by omega, by omega⟩ ⟨by omega, by omega⟩ ⟨by omega, by omega⟩ ⟨by omega, by omega⟩ (by decide) R_p0) k_X7_tally v_X7_tally m877 rfl rfl ⟨(Nat.le_of_ble_eq_true rfl), (Nat.le_of_ble_eq_true rfl)⟩ (preP hC (hP.sub (ws' := [(wa, .inr (7, [.ref tw, .ref e0, .ref e1, .ref e2, .ref e3, .ref e4, .ref e5, .ref e6, .ref e7])), (e0, .inl (T 0, 16, .inl p0)), (e5, .inl (T 0, 2, .inl p5)), (e6, .inl (T 0, 2, .inl p6)), (tw, .inr (5, [.int t0, .int t1, .int t2, .int t3, .int t4, .int t5, .int t6, .int t7, .int t8, .ref b0, .ref b1, .ref b2, .ref b3, .ref b4, .ref b5, .ref b6, .ref b7, .ref b8, .ref b9]))]) [2, 3, 4, 5, 1] rfl)) (va_recv hK hP (ci := 7) (q0 := 2) rfl rfl) rfl hl.1 rfl (Nat.le_of_ble_eq_true rfl) dX3_leader_6 ⟨(Nat.le_of_ble_eq_true rfl), (Nat.le_of_ble_eq_true rfl)⟩) hS hP (fun r_1 H locs hw hP hS => ?_)
  refine lv_istore_n (lv' := [(2, .int r_1), (0, .ref h0), (1, .int i1)]) hx hb dX3_leader_9 rfl hl (by decide) rfl (fun ls hl => ?_)
  refine lv_aload_n hx hb dX3_leader_10 rfl (lv_at hl 1 rfl) ?_
  refine va_get (D := D) (ci := 3) (C := RX3) (T := TX3) (N := 9) hx hb hts iX3 hown hK hP 0 rfl rfl 1 (by decide) (hts _ m372) (fun _ h9 => h9) rfl dX3_leader_11 ?_
  refine lv_iconst (v := 1) hx hb dX3_leader_14 (by decide) ?_
  refine lv_iload_n hx hb dX3_leader_15 rfl (lv_at hl 2 rfl) ?_
  refine puI (cV (As := [.int 1, .int i1]) (rest := []) ⟨hx, hb, hml, hown, hts⟩ (c_X7_tally l D T b0 b1 b2 b3 b4 b5 b6 b7 b8 b9 e0 e1 e2 e3 e4 e5 e6 e7 wa tw 1 i1 t0 t1 t2 t3 t4 t5 t6 t7 t8 p0 p5 p6 ⟨by omega, by omega⟩ ⟨by omega, by omega⟩ ⟨by omega, by omega⟩ ⟨by omega, by omega⟩ (by decide) R_p0) k_X7_tally v_X7_tally m877 rfl rfl ⟨(Nat.le_of_ble_eq_true rfl), (Nat.le_of_ble_eq_true rfl)⟩ (preP hC (hP.sub (ws' := [(wa, .inr (7, [.ref tw, .ref e0, .ref e1, .ref e2, .ref e3, .ref e4, .ref e5, .ref e6, .ref e7])), (e0, .inl (T 0, 16, .inl p0)), (e5, .inl (T 0, 2, .inl p5)), (e6, .inl (T 0, 2, .inl p6)), (tw, .inr (5, [.int t0, .int t1, .int t2, .int t3, .int t4, .int t5, .int t6, .int t7, .int t8, .ref b0, .ref b1, .ref b2, .ref b3, .ref b4, .ref b5, .ref b6, .ref b7, .ref b8, .ref b9]))]) [2, 3, 4, 5, 1] rfl)) (va_recv hK hP (ci := 7) (q0 := 2) rfl rfl) rfl hl.1 rfl (Nat.le_of_ble_eq_true rfl) dX3_leader_16 ⟨(Nat.le_of_ble_eq_true rfl), (Nat.le_of_ble_eq_true rfl)⟩) hS hP (fun r_3 H locs hw hP hS => ?_)
  refine lv_istore_n (lv' := [(3, .int r_3), (2, .int r_1), (0, .ref h0), (1, .int i1)]) hx hb dX3_leader_19 rfl hl (by decide) rfl (fun ls hl => ?_)
  refine lv_iload_n hx hb dX3_leader_20 rfl (lv_at hl 1 rfl) ?_
  refine lv_iload_n hx hb dX3_leader_21 rfl (lv_at hl 0 rfl) ?_
  refine lv_icmp_ne (tgt := 27) hx hb dX3_leader_22 (by decide) (fun c_5 => ?_) (fun c_5 => ?_)
  · have c_5 : ¬ r_1.toInt = r_3.toInt := fun h => c_5 ((c_eq (x := r_1.toInt) (y := r_3.toInt) rfl rfl).mpr h)
    refine lv_iload_n hx hb dX3_leader_27 rfl (lv_at hl 1 rfl) ?_
    refine lv_iload_n hx hb dX3_leader_28 rfl (lv_at hl 0 rfl) ?_
    refine lv_icmp_le (tgt := 36) hx hb dX3_leader_29 (by decide) (fun c_6 => ?_) (fun c_6 => ?_)
    · have c_6 : r_1.toInt ≤ r_3.toInt := (c_le (x := r_1.toInt) (y := r_3.toInt) rfl rfl).mp c_6
      refine lv_iconst (v := 1) hx hb dX3_leader_36 (by decide) ?_
      exact W.iret (v := 1) hx hb hr (fun t ht hW => ⟨⟨1, (), rfl, (show 0 ≤ 1 ∧ 1 ≤ 2 by omega), trivial⟩, hS.F ht⟩) hS.2.2 dX3_leader_37
    · have c_6 : r_3.toInt < r_1.toInt := by have h := mt (c_le (x := r_1.toInt) (y := r_3.toInt) rfl rfl).mpr c_6; omega
      refine lv_iconst (v := 0) hx hb dX3_leader_32 (by decide) ?_
      refine lv_goto (tgt := 37) hx hb dX3_leader_33 (by decide) ?_
      exact W.iret (v := 0) hx hb hr (fun t ht hW => ⟨⟨0, (), rfl, (show 0 ≤ 0 ∧ 0 ≤ 2 by omega), trivial⟩, hS.F ht⟩) hS.2.2 dX3_leader_37
  · have c_5 : r_1.toInt = r_3.toInt := (c_eq (x := r_1.toInt) (y := r_3.toInt) rfl rfl).mp c_5
    refine lv_iconst (v := 2) hx hb dX3_leader_25 (by decide) ?_
    exact W.iret (v := 2) hx hb hr (fun t ht hW => ⟨⟨2, (), rfl, (show 0 ≤ 2 ∧ 2 ≤ 2 by omega), trivial⟩, hS.F ht⟩) hS.2.2 dX3_leader_26

set_option maxHeartbeats 4000000 in
set_option maxRecDepth 100000 in
theorem c_X3_mayVote (l : Launch) (D : va_G) (T : Nat → ClassId) (b0 b1 b2 b3 b4 b5 b6 b7 b8 b9 bl h0 sw tw wa : Nat) (i1 s2 s3 s4 s6 t0 t1 t2 t3 t4 t5 t6 t7 t8 : Int32) (s5 : Int64) (f8 f9 : Nat → Int32) (h_t1 : 0 ≤ t1.toInt ∧ t1.toInt ≤ 8) (h_t2 : 0 ≤ t2.toInt ∧ t2.toInt ≤ 12) (h_t4 : 0 ≤ t4.toInt ∧ t4.toInt ≤ 5) (h_t5 : 0 ≤ t5.toInt ∧ t5.toInt ≤ 10) (h_s2 : 0 ≤ s2.toInt ∧ s2.toInt ≤ 100) (h_i1 : 0 ≤ i1.toInt ∧ i1.toInt ≤ 9) : Met l yX3_mayVote (wM yX3_mayVote cX3_mayVote 2 (some .boolean)) ({ frames := 0, cells := 0, slots := 0, locals := 0 }) (va_Pc [.ref h0, .int i1] (pwP D T [(h0, .inr (3, [.ref tw, .ref wa, .int s2, .int s3, .int s4, .long s5, .int s6, .ref sw, .ref bl])), (tw, .inr (5, [.int t0, .int t1, .int t2, .int t3, .int t4, .int t5, .int t6, .int t7, .int t8, .ref b0, .ref b1, .ref b2, .ref b3, .ref b4, .ref b5, .ref b6, .ref b7, .ref b8, .ref b9])), (b8, .inl (T 0, 10, .inl f8)), (b9, .inl (T 0, 10, .inl f9))])) (va_Qi (fun (r : Int32) (u : Unit) => (r = 1) ∨ (r = 0)) (fun _ _ => True) (fun _ => False)) 0 0 (fun _ => False) := by
  refine Met.ofW (cc := cX3_mayVote) (maxL := 2) (ret := (some .boolean)) (by decide) rfl ?_
  intro p e s m args below meth c s₁ B hml hv
  obtain ⟨rfl, hP, hC⟩ := hv
  have hx := B.exec
  have hb := B.bytes
  have hr := B.returns
  have hts : ∀ w ∈ gt, w.before _ s = true := fun w hw => atoms_spec (ws := (wM yX3_mayVote cX3_mayVote 2 (some .boolean))) B.pre w (List.mem_cons_of_mem _ hw)
  have hown : s.vm.findClass RX3 = some m.cls := findClass_of_methodNamed B.named
  have hlocks := B.notSynchronized
  have hK := hC.1
  have hS : va_S (fun _ => False) s.heap s.heap [] := va_S.rf
  have hl := lv_entry ([.ref h0, .int i1]) (n := 2) (Nat.le_of_ble_eq_true rfl)
  rw [lg_entry_eq]
  generalize (lg_sl ([.ref h0, .int i1]) ++ List.replicate (2 - (lg_sl ([.ref h0, .int i1])).length) Slot.unset).toArray = ls at hl ⊢
  have hl : lv_has ls 2 [(0, .ref h0), (1, .int i1)] := hl
  refine lv_aload_n hx hb dX3_mayVote_0 rfl (lv_at hl 0 rfl) ?_
  refine va_get (D := D) (ci := 3) (C := RX3) (T := TX3) (N := 9) hx hb hts iX3 hown hK hP 0 rfl rfl 2 (by decide) (hts _ m378) (fun _ h9 => h9) rfl dX3_mayVote_1 ?_
  refine lv_aload_n hx hb dX3_mayVote_4 rfl (lv_at hl 0 rfl) ?_
  refine va_get (D := D) (ci := 3) (C := RX3) (T := TX3) (N := 9) hx hb hts iX3 hown hK hP 0 rfl rfl 0 (by decide) (hts _ m366) (fun _ h9 => h9) rfl dX3_mayVote_5 ?_
  refine va_get (D := D) (ci := 5) (C := RX5) (T := TX5) (N := 19) hx hb hts iX5 hown hK hP 1 rfl rfl 17 (by decide) (hts _ m231) (fun _ h9 => h9) rfl dX3_mayVote_8 ?_
  refine lv_iload_n hx hb dX3_mayVote_11 rfl (lv_at hl 1 rfl) ?_
  refine va_iald (D := D) hx hb hK hP 2 0 rfl rfl (v_in (x := i1.toInt) rfl (by omega) (by omega)) dX3_mayVote_12 ?_
  refine lv_topi (fun x_1 ex_1 => ?_)
  refine lv_icmp_lt (tgt := 36) hx hb dX3_mayVote_13 (by decide) (fun c_2 => ?_) (fun c_2 => ?_)
  · have c_2 : s2.toInt < x_1.toInt := (c_lt (x := s2.toInt) (y := x_1.toInt) rfl rfl).mp c_2
    refine lv_iconst (v := 0) hx hb dX3_mayVote_36 (by decide) ?_
    exact W.zret (v := 0) hx hb hr rfl (fun t ht hW => ⟨⟨0, (), rfl, (Or.inr rfl), trivial⟩, hS.F ht⟩) hS.2.2 dX3_mayVote_37
  · have c_2 : x_1.toInt ≤ s2.toInt := by have h := mt (c_lt (x := s2.toInt) (y := x_1.toInt) rfl rfl).mpr c_2; omega
    refine lv_aload_n hx hb dX3_mayVote_16 rfl (lv_at hl 0 rfl) ?_
    refine va_get (D := D) (ci := 3) (C := RX3) (T := TX3) (N := 9) hx hb hts iX3 hown hK hP 0 rfl rfl 2 (by decide) (hts _ m378) (fun _ h9 => h9) rfl dX3_mayVote_17 ?_
    refine lv_aload_n hx hb dX3_mayVote_20 rfl (lv_at hl 0 rfl) ?_
    refine va_get (D := D) (ci := 3) (C := RX3) (T := TX3) (N := 9) hx hb hts iX3 hown hK hP 0 rfl rfl 0 (by decide) (hts _ m366) (fun _ h9 => h9) rfl dX3_mayVote_21 ?_
    refine va_get (D := D) (ci := 5) (C := RX5) (T := TX5) (N := 19) hx hb hts iX5 hown hK hP 1 rfl rfl 18 (by decide) (hts _ m234) (fun _ h9 => h9) rfl dX3_mayVote_24 ?_
    refine lv_iload_n hx hb dX3_mayVote_27 rfl (lv_at hl 1 rfl) ?_
    refine va_iald (D := D) hx hb hK hP 3 0 rfl rfl (v_in (x := i1.toInt) rfl (by omega) (by omega)) dX3_mayVote_28 ?_
    refine lv_topi (fun x_3 ex_3 => ?_)
    refine lv_icmp_gt (tgt := 36) hx hb dX3_mayVote_29 (by decide) (fun c_4 => ?_) (fun c_4 => ?_)
    · have c_4 : x_3.toInt < s2.toInt := (c_lt (x := x_3.toInt) (y := s2.toInt) rfl rfl).mp c_4
      refine lv_iconst (v := 0) hx hb dX3_mayVote_36 (by decide) ?_
      exact W.zret (v := 0) hx hb hr rfl (fun t ht hW => ⟨⟨0, (), rfl, (Or.inr rfl), trivial⟩, hS.F ht⟩) hS.2.2 dX3_mayVote_37
    · have c_4 : s2.toInt ≤ x_3.toInt := by have h := mt (c_lt (x := x_3.toInt) (y := s2.toInt) rfl rfl).mpr c_4; omega
      refine lv_iconst (v := 1) hx hb dX3_mayVote_32 (by decide) ?_
      refine lv_goto (tgt := 37) hx hb dX3_mayVote_33 (by decide) ?_
      exact W.zret (v := 1) hx hb hr rfl (fun t ht hW => ⟨⟨1, (), rfl, (Or.inl rfl), trivial⟩, hS.F ht⟩) hS.2.2 dX3_mayVote_37

set_option maxHeartbeats 4000000 in
set_option maxRecDepth 100000 in
theorem c_X3_votersNow (l : Launch) (D : va_G) (T : Nat → ClassId) (b0 b1 b2 b3 b4 b5 b6 b7 b8 b9 bl h0 sw tw wa : Nat) (s2 s3 s4 s6 t0 t1 t2 t3 t4 t5 t6 t7 t8 : Int32) (s5 : Int64) (f8 f9 : Nat → Int32) (h_t1 : 0 ≤ t1.toInt ∧ t1.toInt ≤ 8) (h_t2 : 0 ≤ t2.toInt ∧ t2.toInt ≤ 12) (h_t4 : 0 ≤ t4.toInt ∧ t4.toInt ≤ 5) (h_t5 : 0 ≤ t5.toInt ∧ t5.toInt ≤ 10) (h_s2 : 0 ≤ s2.toInt ∧ s2.toInt ≤ 100) : Met l yX3_votersNow (wM yX3_votersNow cX3_votersNow 3 (some .int)) ({ frames := 1, cells := 0, slots := 0, locals := 21 }) (va_Pc [.ref h0] (pwP D T [(h0, .inr (3, [.ref tw, .ref wa, .int s2, .int s3, .int s4, .long s5, .int s6, .ref sw, .ref bl])), (tw, .inr (5, [.int t0, .int t1, .int t2, .int t3, .int t4, .int t5, .int t6, .int t7, .int t8, .ref b0, .ref b1, .ref b2, .ref b3, .ref b4, .ref b5, .ref b6, .ref b7, .ref b8, .ref b9])), (b8, .inl (T 0, 10, .inl f8)), (b9, .inl (T 0, 10, .inl f9))])) (va_Qi (fun (r : Int32) (u : Unit) => True) (fun _ _ => True) (fun _ => False)) 0 0 (fun _ => False) := by
  refine Met.ofW (cc := cX3_votersNow) (maxL := 3) (ret := (some .int)) (by decide) rfl ?_
  intro p e s m args below meth c s₁ B hml hv
  obtain ⟨rfl, hP, hC⟩ := hv
  have hx := B.exec
  have hb := B.bytes
  have hr := B.returns
  have hts : ∀ w ∈ gt, w.before _ s = true := fun w hw => atoms_spec (ws := (wM yX3_votersNow cX3_votersNow 3 (some .int))) B.pre w (List.mem_cons_of_mem _ hw)
  have hown : s.vm.findClass RX3 = some m.cls := findClass_of_methodNamed B.named
  have hlocks := B.notSynchronized
  have hK := hC.1
  have hS : va_S (fun _ => False) s.heap s.heap [] := va_S.rf
  have hl := lv_entry ([.ref h0]) (n := 3) (Nat.le_of_ble_eq_true rfl)
  rw [lg_entry_eq]
  generalize (lg_sl ([.ref h0]) ++ List.replicate (3 - (lg_sl ([.ref h0])).length) Slot.unset).toArray = ls at hl ⊢
  have hl : lv_has ls 3 [(0, .ref h0)] := hl
  refine lv_iconst (v := 0) hx hb dX3_votersNow_0 (by decide) ?_
  refine lv_istore_n (lv' := [(1, .int 0), (0, .ref h0)]) hx hb dX3_votersNow_1 rfl hl (by decide) rfl (fun ls hl => ?_)
  refine lv_iconst (v := 0) hx hb dX3_votersNow_2 (by decide) ?_
  refine lv_istore_n (lv' := [(2, .int 0), (1, .int 0), (0, .ref h0)]) hx hb dX3_votersNow_3 rfl hl (by decide) rfl (fun ls hl => ?_)
  refine lp_ind (fun (a : Heap × List Loc × Array Slot × (Int32) × (Int32)) => match a with | (H, locs, ls, i_1, i_2) => W p l e _ s m _ below meth c H locs 0 0 _ (F0 m 4 ls [])) (fun (a : Heap × List Loc × Array Slot × (Int32) × (Int32)) => match a with | (H, locs, ls, i_1, i_2) => 0 ≤ i_1.toInt ∧ i_1.toInt ≤ 10 ∧ va_P D vwCl [(h0, .inr (3, [.ref tw, .ref wa, .int s2, .int s3, .int s4, .long s5, .int s6, .ref sw, .ref bl])), (tw, .inr (5, [.int t0, .int t1, .int t2, .int t3, .int t4, .int t5, .int t6, .int t7, .int t8, .ref b0, .ref b1, .ref b2, .ref b3, .ref b4, .ref b5, .ref b6, .ref b7, .ref b8, .ref b9])), (b8, .inl (T 0, 10, .inl f8)), (b9, .inl (T 0, 10, .inl f9))] H ∧ va_S (fun _ => False) s.heap H locs ∧ lv_has ls 3 [(2, .int i_1), (1, .int i_2), (0, .ref h0)]) (fun (a : Heap × List Loc × Array Slot × (Int32) × (Int32)) => match a with | (H, locs, ls, i_1, i_2) => (10 - i_1.toInt).toNat) ?_ (_, _, ls, (0 : Int32), (0 : Int32)) ⟨(show 0 ≤ 0 by omega), (show 0 ≤ 10 by omega), hP, hS, lv_sub hl [0, 1, 2] rfl⟩
  rintro ⟨H, locs, ls, i_1, i_2⟩ ⟨c_3, c_4, hP, hS, hl⟩ ih_5
  refine lv_iload_n hx hb dX3_votersNow_4 rfl (lv_at hl 0 rfl) ?_
  refine lv_aload_n hx hb dX3_votersNow_5 rfl (lv_at hl 2 rfl) ?_
  refine va_get (D := D) (ci := 3) (C := RX3) (T := TX3) (N := 9) hx hb hts iX3 hown hK hP 0 rfl rfl 0 (by decide) (hts _ m366) (fun _ h9 => h9) rfl dX3_votersNow_6 ?_
  refine va_get (D := D) (ci := 5) (C := RX5) (T := TX5) (N := 19) hx hb hts iX5 hown hK hP 1 rfl rfl 5 (by decide) (hts _ m189) (fun _ h9 => h9) rfl dX3_votersNow_9 ?_
  refine lv_icmp_ge (tgt := 35) hx hb dX3_votersNow_12 (by decide) (fun c_6 => ?_) (fun c_6 => ?_)
  · have c_6 : t5.toInt ≤ i_1.toInt := (c_le (x := t5.toInt) (y := i_1.toInt) rfl rfl).mp c_6
    refine lv_iload_n hx hb dX3_votersNow_35 rfl (lv_at hl 1 rfl) ?_
    exact W.iret (v := i_2) hx hb hr (fun t ht hW => ⟨⟨i_2, (), rfl, trivial, trivial⟩, hS.F ht⟩) hS.2.2 dX3_votersNow_36
  · have c_6 : i_1.toInt < t5.toInt := by have h := mt (c_le (x := t5.toInt) (y := i_1.toInt) rfl rfl).mpr c_6; omega
    refine lv_aload_n hx hb dX3_votersNow_15 rfl (lv_at hl 2 rfl) ?_
    refine lv_iload_n hx hb dX3_votersNow_16 rfl (lv_at hl 0 rfl) ?_
    refine puI (cV (As := [.int i_1]) (rest := []) ⟨hx, hb, hml, hown, hts⟩ (c_X3_mayVote l D T b0 b1 b2 b3 b4 b5 b6 b7 b8 b9 bl h0 sw tw wa i_1 s2 s3 s4 s6 t0 t1 t2 t3 t4 t5 t6 t7 t8 s5 f8 f9 ⟨by omega, by omega⟩ ⟨by omega, by omega⟩ ⟨by omega, by omega⟩ ⟨by omega, by omega⟩ ⟨by omega, by omega⟩ ⟨by omega, by omega⟩) k_X3_mayVote v_X3_mayVote m912 rfl rfl ⟨(Nat.le_of_ble_eq_true rfl), (Nat.le_of_ble_eq_true rfl)⟩ (preP hC (hP.sub (ws' := [(h0, .inr (3, [.ref tw, .ref wa, .int s2, .int s3, .int s4, .long s5, .int s6, .ref sw, .ref bl])), (tw, .inr (5, [.int t0, .int t1, .int t2, .int t3, .int t4, .int t5, .int t6, .int t7, .int t8, .ref b0, .ref b1, .ref b2, .ref b3, .ref b4, .ref b5, .ref b6, .ref b7, .ref b8, .ref b9])), (b8, .inl (T 0, 10, .inl f8)), (b9, .inl (T 0, 10, .inl f9))]) [0, 1, 2, 3] rfl)) (va_recv hK hP (ci := 3) (q0 := 0) rfl rfl) rfl hl.1 rfl (Nat.le_of_ble_eq_true rfl) dX3_votersNow_17 ⟨(Nat.le_of_ble_eq_true rfl), (Nat.le_of_ble_eq_true rfl)⟩) hS hP (fun r_7 H locs hw hP hS => ?_)
    have w_9 : (r_7 = 1) ∨ (r_7 = 0) := hw
    rcases w_9 with rfl | rfl
    · refine lv_if_eq (tgt := 29) hx hb dX3_votersNow_20 (by decide) (fun c_10 => absurd c_10 (by decide)) (fun _ => ?_)
      refine lv_iload_n hx hb dX3_votersNow_23 rfl (lv_at hl 1 rfl) ?_
      refine lv_iconst (v := 1) hx hb dX3_votersNow_24 (by decide) ?_
      refine lv_iload_n hx hb dX3_votersNow_25 rfl (lv_at hl 0 rfl) ?_
      refine lv_ishl hx hb dX3_votersNow_26 ?_
      refine lv_topi (fun x_11 ex_11 => ?_)
      have tx_11 := t_shl1 ex_11 (by omega) (by omega)
      refine lv_ior hx hb dX3_votersNow_27 ?_
      refine lv_topi (fun x_12 ex_12 => ?_)
      refine lv_istore_n (lv' := [(1, .int x_12), (2, .int i_1), (0, .ref h0)]) hx hb dX3_votersNow_28 rfl hl (by decide) rfl (fun ls hl => ?_)
      obtain ⟨x_13, ex_13⟩ : ∃ y : Int32, y = i_1 + 1 := ⟨_, rfl⟩
      have tx_13 : x_13.toInt = i_1.toInt + 1 := t_add (x := i_1.toInt) (y := 1) ex_13 rfl rfl (by omega) (by omega)
      refine lv_iinc (v := x_13) (lv' := [(2, .int x_13), (1, .int x_12), (0, .ref h0)]) hx hb dX3_votersNow_29 hl (k := 1) rfl (by rw [ex_13]; rfl) (by decide) rfl (fun ls hl => ?_)
      refine lv_goto (tgt := 4) hx hb dX3_votersNow_32 (by decide) ?_
      exact ih_5 (_, _, _, x_13, x_12) ⟨(show 0 ≤ x_13.toInt by omega), (show x_13.toInt ≤ 10 by omega), hP, hS, lv_sub hl [0, 1, 2] rfl⟩ (show (10 - x_13.toInt).toNat < (10 - i_1.toInt).toNat by omega)
    · refine lv_if_eq (tgt := 29) hx hb dX3_votersNow_20 (by decide) (fun _ => ?_) (fun c_14 => absurd (by decide) c_14)
      obtain ⟨x_15, ex_15⟩ : ∃ y : Int32, y = i_1 + 1 := ⟨_, rfl⟩
      have tx_15 : x_15.toInt = i_1.toInt + 1 := t_add (x := i_1.toInt) (y := 1) ex_15 rfl rfl (by omega) (by omega)
      refine lv_iinc (v := x_15) (lv' := [(2, .int x_15), (1, .int i_2), (0, .ref h0)]) hx hb dX3_votersNow_29 hl (k := 0) rfl (by rw [ex_15]; rfl) (by decide) rfl (fun ls hl => ?_)
      refine lv_goto (tgt := 4) hx hb dX3_votersNow_32 (by decide) ?_
      exact ih_5 (_, _, _, x_15, i_2) ⟨(show 0 ≤ x_15.toInt by omega), (show x_15.toInt ≤ 10 by omega), hP, hS, lv_sub hl [0, 1, 2] rfl⟩ (show (10 - x_15.toInt).toNat < (10 - i_1.toInt).toNat by omega)

set_option maxHeartbeats 4000000 in
set_option maxRecDepth 100000 in
theorem c_X3_sideOf (l : Launch) (D : va_G) (T : Nat → ClassId) (b0 b1 b2 b3 b4 b5 b6 b7 b8 b9 bl h0 sw tw wa : Nat) (i1 s2 s3 s4 s6 t0 t1 t2 t3 t4 t5 t6 t7 t8 : Int32) (s5 : Int64) (f3 : Nat → Int32) (h_t1 : 0 ≤ t1.toInt ∧ t1.toInt ≤ 8) (h_t2 : 0 ≤ t2.toInt ∧ t2.toInt ≤ 12) (h_t4 : 0 ≤ t4.toInt ∧ t4.toInt ≤ 5) (h_t5 : 0 ≤ t5.toInt ∧ t5.toInt ≤ 10) (h_s2 : 0 ≤ s2.toInt ∧ s2.toInt ≤ 100) (h_i1 : 0 ≤ i1.toInt ∧ i1.toInt ≤ 9) (R_f3 : rg 0 3 f3) : Met l yX3_sideOf (wM yX3_sideOf cX3_sideOf 2 (some .int)) ({ frames := 0, cells := 0, slots := 0, locals := 0 }) (va_Pc [.ref h0, .int i1] (pwP D T [(h0, .inr (3, [.ref tw, .ref wa, .int s2, .int s3, .int s4, .long s5, .int s6, .ref sw, .ref bl])), (tw, .inr (5, [.int t0, .int t1, .int t2, .int t3, .int t4, .int t5, .int t6, .int t7, .int t8, .ref b0, .ref b1, .ref b2, .ref b3, .ref b4, .ref b5, .ref b6, .ref b7, .ref b8, .ref b9])), (b3, .inl (T 0, 10, .inl f3))])) (va_Qi (fun (r : Int32) (u : Unit) => (r = sdf (f3 i1.toNatClampNeg) s4 ∧ 0 ≤ r.toInt ∧ r.toInt ≤ 1)) (fun _ _ => True) (fun _ => False)) 0 0 (fun _ => False) := by
  refine Met.ofW (cc := cX3_sideOf) (maxL := 2) (ret := (some .int)) (by decide) rfl ?_
  intro p e s m args below meth c s₁ B hml hv
  obtain ⟨rfl, hP, hC⟩ := hv
  have hx := B.exec
  have hb := B.bytes
  have hr := B.returns
  have hts : ∀ w ∈ gt, w.before _ s = true := fun w hw => atoms_spec (ws := (wM yX3_sideOf cX3_sideOf 2 (some .int))) B.pre w (List.mem_cons_of_mem _ hw)
  have hown : s.vm.findClass RX3 = some m.cls := findClass_of_methodNamed B.named
  have hlocks := B.notSynchronized
  have hK := hC.1
  have hS : va_S (fun _ => False) s.heap s.heap [] := va_S.rf
  have hl := lv_entry ([.ref h0, .int i1]) (n := 2) (Nat.le_of_ble_eq_true rfl)
  rw [lg_entry_eq]
  generalize (lg_sl ([.ref h0, .int i1]) ++ List.replicate (2 - (lg_sl ([.ref h0, .int i1])).length) Slot.unset).toArray = ls at hl ⊢
  have hl : lv_has ls 2 [(0, .ref h0), (1, .int i1)] := hl
  refine lv_aload_n hx hb dX3_sideOf_0 rfl (lv_at hl 0 rfl) ?_
  refine va_get (D := D) (ci := 3) (C := RX3) (T := TX3) (N := 9) hx hb hts iX3 hown hK hP 0 rfl rfl 0 (by decide) (hts _ m366) (fun _ h9 => h9) rfl dX3_sideOf_1 ?_
  refine va_get (D := D) (ci := 5) (C := RX5) (T := TX5) (N := 19) hx hb hts iX5 hown hK hP 1 rfl rfl 12 (by decide) (hts _ m216) (fun _ h9 => h9) rfl dX3_sideOf_4 ?_
  refine lv_iload_n hx hb dX3_sideOf_7 rfl (lv_at hl 1 rfl) ?_
  refine va_iald (D := D) hx hb hK hP 2 0 rfl rfl (v_in (x := i1.toInt) rfl (by omega) (by omega)) dX3_sideOf_8 ?_
  refine lv_topi (fun x_1 ex_1 => ?_)
  have tx_1 : 0 ≤ x_1.toInt ∧ x_1.toInt ≤ 3 := rg_at R_f3 ex_1
  have qx_1 : x_1.toInt = (f3 i1.toNatClampNeg).toInt := by rw [ex_1]
  rcases (show (x_1.toInt = 2) ∨ (x_1.toInt = 3) ∨ (¬ x_1.toInt = 2 ∧ ¬ x_1.toInt = 3) by omega) with c_2 | c_2 | c_2
  · refine lv_lookup (off := 27) (tgt := 36) hx hb dX3_sideOf_9 (by decide) (by rw [c_2]; decide) (by decide) ?_
    refine lv_aload_n hx hb dX3_sideOf_36 rfl (lv_at hl 0 rfl) ?_
    refine va_get (D := D) (ci := 3) (C := RX3) (T := TX3) (N := 9) hx hb hts iX3 hown hK hP 0 rfl rfl 4 (by decide) (hts _ m387) (fun _ h9 => h9) rfl dX3_sideOf_37 ?_
    refine lv_iconst (v := 1) hx hb dX3_sideOf_40 (by decide) ?_
    refine lv_icmp_ne (tgt := 48) hx hb dX3_sideOf_41 (by decide) (fun c_3 => ?_) (fun c_3 => ?_)
    · have c_3 : ¬ s4.toInt = 1 := fun h => c_3 ((c_eq (x := s4.toInt) (y := 1) rfl rfl).mpr h)
      refine lv_iconst (v := 0) hx hb dX3_sideOf_48 (by decide) ?_
      exact W.iret (v := 0) hx hb hr (fun t ht hW => ⟨⟨0, (), rfl, (⟨(show (0 : Int32) = sdf (f3 i1.toNatClampNeg) s4 by rw [← ex_1]; first | exact sdf_20 (by omega) (by omega) | exact sdf_3 (by omega) (by omega)), (show 0 ≤ 0 by omega), (show 0 ≤ 1 by omega)⟩), trivial⟩, hS.F ht⟩) hS.2.2 dX3_sideOf_49
    · have c_3 : s4.toInt = 1 := (c_eq (x := s4.toInt) (y := 1) rfl rfl).mp c_3
      refine lv_iconst (v := 1) hx hb dX3_sideOf_44 (by decide) ?_
      refine lv_goto (tgt := 49) hx hb dX3_sideOf_45 (by decide) ?_
      exact W.iret (v := 1) hx hb hr (fun t ht hW => ⟨⟨1, (), rfl, (⟨(show (1 : Int32) = sdf (f3 i1.toNatClampNeg) s4 by rw [← ex_1]; first | exact sdf_2 (by omega) (by omega) | exact sdf_30 (by omega) (by omega)), (show 0 ≤ 1 by omega), (show 1 ≤ 1 by omega)⟩), trivial⟩, hS.F ht⟩) hS.2.2 dX3_sideOf_49
  · refine lv_lookup (off := 41) (tgt := 50) hx hb dX3_sideOf_9 (by decide) (by rw [c_2]; decide) (by decide) ?_
    refine lv_aload_n hx hb dX3_sideOf_50 rfl (lv_at hl 0 rfl) ?_
    refine va_get (D := D) (ci := 3) (C := RX3) (T := TX3) (N := 9) hx hb hts iX3 hown hK hP 0 rfl rfl 4 (by decide) (hts _ m387) (fun _ h9 => h9) rfl dX3_sideOf_51 ?_
    refine lv_iconst (v := 1) hx hb dX3_sideOf_54 (by decide) ?_
    refine lv_icmp_ne (tgt := 62) hx hb dX3_sideOf_55 (by decide) (fun c_4 => ?_) (fun c_4 => ?_)
    · have c_4 : ¬ s4.toInt = 1 := fun h => c_4 ((c_eq (x := s4.toInt) (y := 1) rfl rfl).mpr h)
      refine lv_iconst (v := 1) hx hb dX3_sideOf_62 (by decide) ?_
      exact W.iret (v := 1) hx hb hr (fun t ht hW => ⟨⟨1, (), rfl, (⟨(show (1 : Int32) = sdf (f3 i1.toNatClampNeg) s4 by rw [← ex_1]; first | exact sdf_2 (by omega) (by omega) | exact sdf_30 (by omega) (by omega)), (show 0 ≤ 1 by omega), (show 1 ≤ 1 by omega)⟩), trivial⟩, hS.F ht⟩) hS.2.2 dX3_sideOf_63
    · have c_4 : s4.toInt = 1 := (c_eq (x := s4.toInt) (y := 1) rfl rfl).mp c_4
      refine lv_iconst (v := 0) hx hb dX3_sideOf_58 (by decide) ?_
      refine lv_goto (tgt := 63) hx hb dX3_sideOf_59 (by decide) ?_
      exact W.iret (v := 0) hx hb hr (fun t ht hW => ⟨⟨0, (), rfl, (⟨(show (0 : Int32) = sdf (f3 i1.toNatClampNeg) s4 by rw [← ex_1]; first | exact sdf_20 (by omega) (by omega) | exact sdf_3 (by omega) (by omega)), (show 0 ≤ 0 by omega), (show 0 ≤ 1 by omega)⟩), trivial⟩, hS.F ht⟩) hS.2.2 dX3_sideOf_63
  · refine lv_lookup (off := 55) (tgt := 64) hx hb dX3_sideOf_9 (by decide) (by rw [Op.lookupswitch.offset_cons, if_neg (by omega)]; rw [Op.lookupswitch.offset_cons, if_neg (by omega)]; rfl) (by decide) ?_
    refine lv_aload_n hx hb dX3_sideOf_64 rfl (lv_at hl 0 rfl) ?_
    refine va_get (D := D) (ci := 3) (C := RX3) (T := TX3) (N := 9) hx hb hts iX3 hown hK hP 0 rfl rfl 0 (by decide) (hts _ m366) (fun _ h9 => h9) rfl dX3_sideOf_65 ?_
    refine va_get (D := D) (ci := 5) (C := RX5) (T := TX5) (N := 19) hx hb hts iX5 hown hK hP 1 rfl rfl 12 (by decide) (hts _ m216) (fun _ h9 => h9) rfl dX3_sideOf_68 ?_
    refine lv_iload_n hx hb dX3_sideOf_71 rfl (lv_at hl 1 rfl) ?_
    refine va_iald (D := D) hx hb hK hP 2 0 rfl rfl (v_in (x := i1.toInt) rfl (by omega) (by omega)) dX3_sideOf_72 ?_
    refine lv_topi (fun x_5 ex_5 => ?_)
    have tx_5 : 0 ≤ x_5.toInt ∧ x_5.toInt ≤ 3 := rg_at R_f3 ex_5
    have qx_5 : x_5.toInt = (f3 i1.toNatClampNeg).toInt := by rw [ex_5]
    exact W.iret (v := x_5) hx hb hr (fun t ht hW => ⟨⟨x_5, (), rfl, (⟨(show x_5 = sdf (f3 i1.toNatClampNeg) s4 by rw [← ex_1]; exact (ex_5.trans ex_1.symm).trans (sdf_w (by omega) (by omega))), (show 0 ≤ x_5.toInt by omega), (show x_5.toInt ≤ 1 by omega)⟩), trivial⟩, hS.F ht⟩) hS.2.2 dX3_sideOf_73

set_option maxHeartbeats 4000000 in
set_option maxRecDepth 100000 in
theorem c_X3_suitsBetter (l : Launch) (D : va_G) (T : Nat → ClassId) (b0 b1 b2 b3 b4 b5 b6 b7 b8 b9 bl h0 sw tw wa : Nat) (i1 i2 i3 s2 s3 s4 s6 t0 t1 t2 t3 t4 t5 t6 t7 t8 : Int32) (s5 : Int64) (f0 f5 : Nat → Int32) (h_t1 : 0 ≤ t1.toInt ∧ t1.toInt ≤ 8) (h_t2 : 0 ≤ t2.toInt ∧ t2.toInt ≤ 12) (h_t4 : 0 ≤ t4.toInt ∧ t4.toInt ≤ 5) (h_t5 : 0 ≤ t5.toInt ∧ t5.toInt ≤ 10) (h_s2 : 0 ≤ s2.toInt ∧ s2.toInt ≤ 100) (h_i1 : 0 ≤ i1.toInt ∧ i1.toInt ≤ 9) (h_i2 : 0 ≤ i2.toInt ∧ i2.toInt ≤ 4) (h_i3 : 0 ≤ i3.toInt ∧ i3.toInt ≤ 4) : Met l yX3_suitsBetter (wM yX3_suitsBetter cX3_suitsBetter 5 (some .boolean)) ({ frames := 0, cells := 0, slots := 0, locals := 0 }) (va_Pc [.ref h0, .int i1, .int i2, .int i3] (pwP D T [(h0, .inr (3, [.ref tw, .ref wa, .int s2, .int s3, .int s4, .long s5, .int s6, .ref sw, .ref bl])), (tw, .inr (5, [.int t0, .int t1, .int t2, .int t3, .int t4, .int t5, .int t6, .int t7, .int t8, .ref b0, .ref b1, .ref b2, .ref b3, .ref b4, .ref b5, .ref b6, .ref b7, .ref b8, .ref b9])), (b0, .inl (T 0, 5, .inl f0)), (b5, .inl (T 0, 10, .inl f5))])) (va_Qi (fun (r : Int32) (u : Unit) => (r = 1) ∨ (r = 0)) (fun _ _ => True) (fun _ => False)) 0 0 (fun _ => False) := by
  refine Met.ofW (cc := cX3_suitsBetter) (maxL := 5) (ret := (some .boolean)) (by decide) rfl ?_
  intro p e s m args below meth c s₁ B hml hv
  obtain ⟨rfl, hP, hC⟩ := hv
  have hx := B.exec
  have hb := B.bytes
  have hr := B.returns
  have hts : ∀ w ∈ gt, w.before _ s = true := fun w hw => atoms_spec (ws := (wM yX3_suitsBetter cX3_suitsBetter 5 (some .boolean))) B.pre w (List.mem_cons_of_mem _ hw)
  have hown : s.vm.findClass RX3 = some m.cls := findClass_of_methodNamed B.named
  have hlocks := B.notSynchronized
  have hK := hC.1
  have hS : va_S (fun _ => False) s.heap s.heap [] := va_S.rf
  have hl := lv_entry ([.ref h0, .int i1, .int i2, .int i3]) (n := 5) (Nat.le_of_ble_eq_true rfl)
  rw [lg_entry_eq]
  generalize (lg_sl ([.ref h0, .int i1, .int i2, .int i3]) ++ List.replicate (5 - (lg_sl ([.ref h0, .int i1, .int i2, .int i3])).length) Slot.unset).toArray = ls at hl ⊢
  have hl : lv_has ls 5 [(0, .ref h0), (1, .int i1), (2, .int i2), (3, .int i3)] := hl
  refine lv_aload_n hx hb dX3_suitsBetter_0 rfl (lv_at hl 0 rfl) ?_
  refine va_get (D := D) (ci := 3) (C := RX3) (T := TX3) (N := 9) hx hb hts iX3 hown hK hP 0 rfl rfl 0 (by decide) (hts _ m366) (fun _ h9 => h9) rfl dX3_suitsBetter_1 ?_
  refine va_get (D := D) (ci := 5) (C := RX5) (T := TX5) (N := 19) hx hb hts iX5 hown hK hP 1 rfl rfl 9 (by decide) (hts _ m208) (fun _ h9 => h9) rfl dX3_suitsBetter_4 ?_
  refine lv_iload_n hx hb dX3_suitsBetter_7 rfl (lv_at hl 2 rfl) ?_
  refine va_iald (D := D) hx hb hK hP 2 0 rfl rfl (v_in (x := i2.toInt) rfl (by omega) (by omega)) dX3_suitsBetter_8 ?_
  refine lv_topi (fun x_1 ex_1 => ?_)
  refine lv_aload_n hx hb dX3_suitsBetter_9 rfl (lv_at hl 0 rfl) ?_
  refine va_get (D := D) (ci := 3) (C := RX3) (T := TX3) (N := 9) hx hb hts iX3 hown hK hP 0 rfl rfl 0 (by decide) (hts _ m366) (fun _ h9 => h9) rfl dX3_suitsBetter_10 ?_
  refine va_get (D := D) (ci := 5) (C := RX5) (T := TX5) (N := 19) hx hb hts iX5 hown hK hP 1 rfl rfl 9 (by decide) (hts _ m208) (fun _ h9 => h9) rfl dX3_suitsBetter_13 ?_
  refine lv_iload_n hx hb dX3_suitsBetter_16 rfl (lv_at hl 3 rfl) ?_
  refine va_iald (D := D) hx hb hK hP 2 0 rfl rfl (v_in (x := i3.toInt) rfl (by omega) (by omega)) dX3_suitsBetter_17 ?_
  refine lv_topi (fun x_2 ex_2 => ?_)
  refine lv_isub hx hb dX3_suitsBetter_18 ?_
  refine lv_topi (fun x_3 ex_3 => ?_)
  refine lv_istore (lv' := [(4, .int x_3), (0, .ref h0), (1, .int i1), (2, .int i2), (3, .int i3)]) hx hb dX3_suitsBetter_19 hl (by decide) rfl (fun ls hl => ?_)
  refine lv_aload_n hx hb dX3_suitsBetter_21 rfl (lv_at hl 1 rfl) ?_
  refine va_get (D := D) (ci := 3) (C := RX3) (T := TX3) (N := 9) hx hb hts iX3 hown hK hP 0 rfl rfl 0 (by decide) (hts _ m366) (fun _ h9 => h9) rfl dX3_suitsBetter_22 ?_
  refine va_get (D := D) (ci := 5) (C := RX5) (T := TX5) (N := 19) hx hb hts iX5 hown hK hP 1 rfl rfl 14 (by decide) (hts _ m223) (fun _ h9 => h9) rfl dX3_suitsBetter_25 ?_
  refine lv_iload_n hx hb dX3_suitsBetter_28 rfl (lv_at hl 2 rfl) ?_
  refine va_iald (D := D) hx hb hK hP 3 0 rfl rfl (v_in (x := i1.toInt) rfl (by omega) (by omega)) dX3_suitsBetter_29 ?_
  refine lv_topi (fun x_4 ex_4 => ?_)
  refine lv_iconst (v := 1) hx hb dX3_suitsBetter_30 (by decide) ?_
  refine lv_icmp_ne (tgt := 47) hx hb dX3_suitsBetter_31 (by decide) (fun c_5 => ?_) (fun c_5 => ?_)
  · have c_5 : ¬ x_4.toInt = 1 := fun h => c_5 ((c_eq (x := x_4.toInt) (y := 1) rfl rfl).mpr h)
    refine lv_iload hx hb dX3_suitsBetter_47 (lv_at hl 0 rfl) ?_
    refine lv_if_ge (tgt := 56) hx hb dX3_suitsBetter_49 (by decide) (fun c_6 => ?_) (fun c_6 => ?_)
    · have c_6 : 0 ≤ x_3.toInt := (c_le (x := 0) (y := x_3.toInt) rfl rfl).mp c_6
      refine lv_iconst (v := 0) hx hb dX3_suitsBetter_56 (by decide) ?_
      exact W.zret (v := 0) hx hb hr rfl (fun t ht hW => ⟨⟨0, (), rfl, (Or.inr rfl), trivial⟩, hS.F ht⟩) hS.2.2 dX3_suitsBetter_57
    · have c_6 : x_3.toInt < 0 := by have h := mt (c_le (x := 0) (y := x_3.toInt) rfl rfl).mpr c_6; omega
      refine lv_iconst (v := 1) hx hb dX3_suitsBetter_52 (by decide) ?_
      refine lv_goto (tgt := 57) hx hb dX3_suitsBetter_53 (by decide) ?_
      exact W.zret (v := 1) hx hb hr rfl (fun t ht hW => ⟨⟨1, (), rfl, (Or.inl rfl), trivial⟩, hS.F ht⟩) hS.2.2 dX3_suitsBetter_57
  · have c_5 : x_4.toInt = 1 := (c_eq (x := x_4.toInt) (y := 1) rfl rfl).mp c_5
    refine lv_iload hx hb dX3_suitsBetter_34 (lv_at hl 0 rfl) ?_
    refine lv_if_le (tgt := 43) hx hb dX3_suitsBetter_36 (by decide) (fun c_7 => ?_) (fun c_7 => ?_)
    · have c_7 : x_3.toInt ≤ 0 := (c_le (x := x_3.toInt) (y := 0) rfl rfl).mp c_7
      refine lv_iconst (v := 0) hx hb dX3_suitsBetter_43 (by decide) ?_
      refine lv_goto (tgt := 57) hx hb dX3_suitsBetter_44 (by decide) ?_
      exact W.zret (v := 0) hx hb hr rfl (fun t ht hW => ⟨⟨0, (), rfl, (Or.inr rfl), trivial⟩, hS.F ht⟩) hS.2.2 dX3_suitsBetter_57
    · have c_7 : 0 < x_3.toInt := by have h := mt (c_le (x := x_3.toInt) (y := 0) rfl rfl).mpr c_7; omega
      refine lv_iconst (v := 1) hx hb dX3_suitsBetter_39 (by decide) ?_
      refine lv_goto (tgt := 57) hx hb dX3_suitsBetter_40 (by decide) ?_
      exact W.zret (v := 1) hx hb hr rfl (fun t ht hW => ⟨⟨1, (), rfl, (Or.inl rfl), trivial⟩, hS.F ht⟩) hS.2.2 dX3_suitsBetter_57

set_option maxHeartbeats 4000000 in
set_option maxRecDepth 100000 in
theorem c_X3_sortOf (l : Launch) (D : va_G) (T : Nat → ClassId) (b0 b1 b2 b3 b4 b5 b6 b7 b8 b9 bl e0 e1 e2 e3 e4 e5 e6 e7 h0 sw tw wa : Nat) (i1 s2 s3 s4 s6 t0 t1 t2 t3 t4 t5 t6 t7 t8 : Int32) (s5 : Int64) (f0 f5 f6 p1 : Nat → Int32) (h_t1 : 0 ≤ t1.toInt ∧ t1.toInt ≤ 8) (h_t2 : 0 ≤ t2.toInt ∧ t2.toInt ≤ 12) (h_t4 : 0 ≤ t4.toInt ∧ t4.toInt ≤ 5) (h_t5 : 0 ≤ t5.toInt ∧ t5.toInt ≤ 10) (h_s2 : 0 ≤ s2.toInt ∧ s2.toInt ≤ 100) (h_i1 : 0 ≤ i1.toInt ∧ i1.toInt ≤ 9) : Met l yX3_sortOf (wM yX3_sortOf cX3_sortOf 5 (some .int)) ({ frames := 1, cells := 0, slots := 0, locals := 24 }) (va_Pc [.ref h0, .int i1] (pwP D T [(h0, .inr (3, [.ref tw, .ref wa, .int s2, .int s3, .int s4, .long s5, .int s6, .ref sw, .ref bl])), (tw, .inr (5, [.int t0, .int t1, .int t2, .int t3, .int t4, .int t5, .int t6, .int t7, .int t8, .ref b0, .ref b1, .ref b2, .ref b3, .ref b4, .ref b5, .ref b6, .ref b7, .ref b8, .ref b9])), (b0, .inl (T 0, 5, .inl f0)), (b5, .inl (T 0, 10, .inl f5)), (b6, .inl (T 0, 10, .inl f6)), (wa, .inr (7, [.ref tw, .ref e0, .ref e1, .ref e2, .ref e3, .ref e4, .ref e5, .ref e6, .ref e7])), (e1, .inl (T 0, 5, .inl p1))])) (va_Qi (fun (r : Int32) (u : Unit) => ((-1) ≤ r.toInt ∧ r.toInt ≤ 4)) (fun _ _ => True) (fun _ => False)) 0 0 (fun _ => False) := by
  refine Met.ofW (cc := cX3_sortOf) (maxL := 5) (ret := (some .int)) (by decide) rfl ?_
  intro p e s m args below meth c s₁ B hml hv
  obtain ⟨rfl, hP, hC⟩ := hv
  have hx := B.exec
  have hb := B.bytes
  have hr := B.returns
  have hts : ∀ w ∈ gt, w.before _ s = true := fun w hw => atoms_spec (ws := (wM yX3_sortOf cX3_sortOf 5 (some .int))) B.pre w (List.mem_cons_of_mem _ hw)
  have hown : s.vm.findClass RX3 = some m.cls := findClass_of_methodNamed B.named
  have hlocks := B.notSynchronized
  have hK := hC.1
  have hS : va_S (fun _ => False) s.heap s.heap [] := va_S.rf
  have hl := lv_entry ([.ref h0, .int i1]) (n := 5) (Nat.le_of_ble_eq_true rfl)
  rw [lg_entry_eq]
  generalize (lg_sl ([.ref h0, .int i1]) ++ List.replicate (5 - (lg_sl ([.ref h0, .int i1])).length) Slot.unset).toArray = ls at hl ⊢
  have hl : lv_has ls 5 [(0, .ref h0), (1, .int i1)] := hl
  refine lv_iconst (v := (-1)) hx hb dX3_sortOf_0 (by decide) ?_
  refine lv_istore_n (lv' := [(2, .int (-1)), (0, .ref h0), (1, .int i1)]) hx hb dX3_sortOf_1 rfl hl (by decide) rfl (fun ls hl => ?_)
  refine lv_iconst (v := 0) hx hb dX3_sortOf_2 (by decide) ?_
  refine lv_istore_n (lv' := [(3, .int 0), (2, .int (-1)), (0, .ref h0), (1, .int i1)]) hx hb dX3_sortOf_3 rfl hl (by decide) rfl (fun ls hl => ?_)
  refine lp_ind (fun (a : Heap × List Loc × Array Slot × (Int32) × (Int32)) => match a with | (H, locs, ls, i_1, i_2) => W p l e _ s m _ below meth c H locs 0 0 _ (F0 m 4 ls [])) (fun (a : Heap × List Loc × Array Slot × (Int32) × (Int32)) => match a with | (H, locs, ls, i_1, i_2) => 0 ≤ i_1.toInt ∧ i_1.toInt ≤ 5 ∧ (-1) ≤ i_2.toInt ∧ i_2.toInt ≤ 4 ∧ va_P D vwCl [(h0, .inr (3, [.ref tw, .ref wa, .int s2, .int s3, .int s4, .long s5, .int s6, .ref sw, .ref bl])), (tw, .inr (5, [.int t0, .int t1, .int t2, .int t3, .int t4, .int t5, .int t6, .int t7, .int t8, .ref b0, .ref b1, .ref b2, .ref b3, .ref b4, .ref b5, .ref b6, .ref b7, .ref b8, .ref b9])), (b0, .inl (T 0, 5, .inl f0)), (b5, .inl (T 0, 10, .inl f5)), (b6, .inl (T 0, 10, .inl f6)), (wa, .inr (7, [.ref tw, .ref e0, .ref e1, .ref e2, .ref e3, .ref e4, .ref e5, .ref e6, .ref e7])), (e1, .inl (T 0, 5, .inl p1))] H ∧ va_S (fun _ => False) s.heap H locs ∧ lv_has ls 5 [(3, .int i_1), (2, .int i_2), (0, .ref h0), (1, .int i1)]) (fun (a : Heap × List Loc × Array Slot × (Int32) × (Int32)) => match a with | (H, locs, ls, i_1, i_2) => (5 - i_1.toInt).toNat) ?_ (_, _, ls, (0 : Int32), ((-1) : Int32)) ⟨(show 0 ≤ 0 by omega), (show 0 ≤ 5 by omega), (show (-1) ≤ (-1) by omega), (show (-1) ≤ 4 by omega), hP, hS, lv_sub hl [0, 1, 2, 3] rfl⟩
  rintro ⟨H, locs, ls, i_1, i_2⟩ ⟨c_3, c_4, c_5, c_6, hP, hS, hl⟩ ih_7
  refine lv_iload_n hx hb dX3_sortOf_4 rfl (lv_at hl 0 rfl) ?_
  refine lv_aload_n hx hb dX3_sortOf_5 rfl (lv_at hl 2 rfl) ?_
  refine va_get (D := D) (ci := 3) (C := RX3) (T := TX3) (N := 9) hx hb hts iX3 hown hK hP 0 rfl rfl 0 (by decide) (hts _ m366) (fun _ h9 => h9) rfl dX3_sortOf_6 ?_
  refine va_get (D := D) (ci := 5) (C := RX5) (T := TX5) (N := 19) hx hb hts iX5 hown hK hP 1 rfl rfl 4 (by decide) (hts _ m185) (fun _ h9 => h9) rfl dX3_sortOf_9 ?_
  refine lv_icmp_ge (tgt := 83) hx hb dX3_sortOf_12 (by decide) (fun c_8 => ?_) (fun c_8 => ?_)
  · have c_8 : t4.toInt ≤ i_1.toInt := (c_le (x := t4.toInt) (y := i_1.toInt) rfl rfl).mp c_8
    refine lv_iload_n hx hb dX3_sortOf_83 rfl (lv_at hl 1 rfl) ?_
    exact W.iret (v := i_2) hx hb hr (fun t ht hW => ⟨⟨i_2, (), rfl, (show (-1) ≤ i_2.toInt ∧ i_2.toInt ≤ 4 by omega), trivial⟩, hS.F ht⟩) hS.2.2 dX3_sortOf_84
  · have c_8 : i_1.toInt < t4.toInt := by have h := mt (c_le (x := t4.toInt) (y := i_1.toInt) rfl rfl).mpr c_8; omega
    refine lv_aload_n hx hb dX3_sortOf_15 rfl (lv_at hl 2 rfl) ?_
    refine va_get (D := D) (ci := 3) (C := RX3) (T := TX3) (N := 9) hx hb hts iX3 hown hK hP 0 rfl rfl 1 (by decide) (hts _ m372) (fun _ h9 => h9) rfl dX3_sortOf_16 ?_
    refine va_get (D := D) (ci := 7) (C := RX7) (T := TX7) (N := 9) hx hb hts iX7 hown hK hP 5 rfl rfl 2 (by decide) (hts _ m333) (fun _ h9 => h9) rfl dX3_sortOf_19 ?_
    refine lv_iload_n hx hb dX3_sortOf_22 rfl (lv_at hl 0 rfl) ?_
    refine va_iald (D := D) hx hb hK hP 6 0 rfl rfl (v_in (x := i_1.toInt) rfl (by omega) (by omega)) dX3_sortOf_23 ?_
    refine lv_topi (fun x_9 ex_9 => ?_)
    refine lv_if_le (tgt := 52) hx hb dX3_sortOf_24 (by decide) (fun c_10 => ?_) (fun c_10 => ?_)
    · have c_10 : x_9.toInt ≤ 0 := (c_le (x := x_9.toInt) (y := 0) rfl rfl).mp c_10
      refine lv_iconst (v := 0) hx hb dX3_sortOf_52 (by decide) ?_
      refine lv_istore (lv' := [(4, .int 0), (3, .int i_1), (2, .int i_2), (0, .ref h0), (1, .int i1)]) hx hb dX3_sortOf_53 hl (by decide) rfl (fun ls hl => ?_)
      refine lv_iload hx hb dX3_sortOf_55 (lv_at hl 0 rfl) ?_
      refine lv_if_eq (tgt := 77) hx hb dX3_sortOf_57 (by decide) (fun _ => ?_) (fun c_11 => absurd (by decide) c_11)
      obtain ⟨x_12, ex_12⟩ : ∃ y : Int32, y = i_1 + 1 := ⟨_, rfl⟩
      have tx_12 : x_12.toInt = i_1.toInt + 1 := t_add (x := i_1.toInt) (y := 1) ex_12 rfl rfl (by omega) (by omega)
      refine lv_iinc (v := x_12) (lv' := [(3, .int x_12), (4, .int 0), (2, .int i_2), (0, .ref h0), (1, .int i1)]) hx hb dX3_sortOf_77 hl (k := 1) rfl (by rw [ex_12]; rfl) (by decide) rfl (fun ls hl => ?_)
      refine lv_goto (tgt := 4) hx hb dX3_sortOf_80 (by decide) ?_
      exact ih_7 (_, _, _, x_12, i_2) ⟨(show 0 ≤ x_12.toInt by omega), (show x_12.toInt ≤ 5 by omega), (show (-1) ≤ i_2.toInt by omega), (show i_2.toInt ≤ 4 by omega), hP, hS, lv_sub hl [0, 2, 3, 4] rfl⟩ (show (5 - x_12.toInt).toNat < (5 - i_1.toInt).toNat by omega)
    · have c_10 : 0 < x_9.toInt := by have h := mt (c_le (x := x_9.toInt) (y := 0) rfl rfl).mpr c_10; omega
      refine lv_aload_n hx hb dX3_sortOf_27 rfl (lv_at hl 2 rfl) ?_
      refine va_get (D := D) (ci := 3) (C := RX3) (T := TX3) (N := 9) hx hb hts iX3 hown hK hP 0 rfl rfl 0 (by decide) (hts _ m366) (fun _ h9 => h9) rfl dX3_sortOf_28 ?_
      refine va_get (D := D) (ci := 5) (C := RX5) (T := TX5) (N := 19) hx hb hts iX5 hown hK hP 1 rfl rfl 9 (by decide) (hts _ m208) (fun _ h9 => h9) rfl dX3_sortOf_31 ?_
      refine lv_iload_n hx hb dX3_sortOf_34 rfl (lv_at hl 0 rfl) ?_
      refine va_iald (D := D) hx hb hK hP 2 0 rfl rfl (v_in (x := i_1.toInt) rfl (by omega) (by omega)) dX3_sortOf_35 ?_
      refine lv_topi (fun x_13 ex_13 => ?_)
      refine lv_aload_n hx hb dX3_sortOf_36 rfl (lv_at hl 2 rfl) ?_
      refine va_get (D := D) (ci := 3) (C := RX3) (T := TX3) (N := 9) hx hb hts iX3 hown hK hP 0 rfl rfl 0 (by decide) (hts _ m366) (fun _ h9 => h9) rfl dX3_sortOf_37 ?_
      refine va_get (D := D) (ci := 5) (C := RX5) (T := TX5) (N := 19) hx hb hts iX5 hown hK hP 1 rfl rfl 15 (by decide) (hts _ m226) (fun _ h9 => h9) rfl dX3_sortOf_40 ?_
      refine lv_iload_n hx hb dX3_sortOf_43 rfl (lv_at hl 3 rfl) ?_
      refine va_iald (D := D) hx hb hK hP 4 0 rfl rfl (v_in (x := i1.toInt) rfl (by omega) (by omega)) dX3_sortOf_44 ?_
      refine lv_topi (fun x_14 ex_14 => ?_)
      refine lv_icmp_gt (tgt := 52) hx hb dX3_sortOf_45 (by decide) (fun c_15 => ?_) (fun c_15 => ?_)
      · have c_15 : x_14.toInt < x_13.toInt := (c_lt (x := x_14.toInt) (y := x_13.toInt) rfl rfl).mp c_15
        refine lv_iconst (v := 0) hx hb dX3_sortOf_52 (by decide) ?_
        refine lv_istore (lv' := [(4, .int 0), (3, .int i_1), (2, .int i_2), (0, .ref h0), (1, .int i1)]) hx hb dX3_sortOf_53 hl (by decide) rfl (fun ls hl => ?_)
        refine lv_iload hx hb dX3_sortOf_55 (lv_at hl 0 rfl) ?_
        refine lv_if_eq (tgt := 77) hx hb dX3_sortOf_57 (by decide) (fun _ => ?_) (fun c_16 => absurd (by decide) c_16)
        obtain ⟨x_17, ex_17⟩ : ∃ y : Int32, y = i_1 + 1 := ⟨_, rfl⟩
        have tx_17 : x_17.toInt = i_1.toInt + 1 := t_add (x := i_1.toInt) (y := 1) ex_17 rfl rfl (by omega) (by omega)
        refine lv_iinc (v := x_17) (lv' := [(3, .int x_17), (4, .int 0), (2, .int i_2), (0, .ref h0), (1, .int i1)]) hx hb dX3_sortOf_77 hl (k := 1) rfl (by rw [ex_17]; rfl) (by decide) rfl (fun ls hl => ?_)
        refine lv_goto (tgt := 4) hx hb dX3_sortOf_80 (by decide) ?_
        exact ih_7 (_, _, _, x_17, i_2) ⟨(show 0 ≤ x_17.toInt by omega), (show x_17.toInt ≤ 5 by omega), (show (-1) ≤ i_2.toInt by omega), (show i_2.toInt ≤ 4 by omega), hP, hS, lv_sub hl [0, 2, 3, 4] rfl⟩ (show (5 - x_17.toInt).toNat < (5 - i_1.toInt).toNat by omega)
      · have c_15 : x_13.toInt ≤ x_14.toInt := by have h := mt (c_lt (x := x_14.toInt) (y := x_13.toInt) rfl rfl).mpr c_15; omega
        refine lv_iconst (v := 1) hx hb dX3_sortOf_48 (by decide) ?_
        refine lv_goto (tgt := 53) hx hb dX3_sortOf_49 (by decide) ?_
        refine lv_istore (lv' := [(4, .int 1), (3, .int i_1), (2, .int i_2), (0, .ref h0), (1, .int i1)]) hx hb dX3_sortOf_53 hl (by decide) rfl (fun ls hl => ?_)
        refine lv_iload hx hb dX3_sortOf_55 (lv_at hl 0 rfl) ?_
        refine lv_if_eq (tgt := 77) hx hb dX3_sortOf_57 (by decide) (fun c_18 => absurd c_18 (by decide)) (fun _ => ?_)
        refine lv_iload_n hx hb dX3_sortOf_60 rfl (lv_at hl 2 rfl) ?_
        refine lv_iconst (v := (-1)) hx hb dX3_sortOf_61 (by decide) ?_
        refine lv_icmp_eq (tgt := 75) hx hb dX3_sortOf_62 (by decide) (fun c_19 => ?_) (fun c_19 => ?_)
        · have c_19 : i_2.toInt = (-1) := (c_eq (x := i_2.toInt) (y := (-1)) rfl rfl).mp c_19
          refine lv_iload_n hx hb dX3_sortOf_75 rfl (lv_at hl 1 rfl) ?_
          refine lv_istore_n (lv' := [(2, .int i_1), (4, .int 1), (3, .int i_1), (0, .ref h0), (1, .int i1)]) hx hb dX3_sortOf_76 rfl hl (by decide) rfl (fun ls hl => ?_)
          obtain ⟨x_20, ex_20⟩ : ∃ y : Int32, y = i_1 + 1 := ⟨_, rfl⟩
          have tx_20 : x_20.toInt = i_1.toInt + 1 := t_add (x := i_1.toInt) (y := 1) ex_20 rfl rfl (by omega) (by omega)
          refine lv_iinc (v := x_20) (lv' := [(3, .int x_20), (2, .int i_1), (4, .int 1), (0, .ref h0), (1, .int i1)]) hx hb dX3_sortOf_77 hl (k := 2) rfl (by rw [ex_20]; rfl) (by decide) rfl (fun ls hl => ?_)
          refine lv_goto (tgt := 4) hx hb dX3_sortOf_80 (by decide) ?_
          exact ih_7 (_, _, _, x_20, i_1) ⟨(show 0 ≤ x_20.toInt by omega), (show x_20.toInt ≤ 5 by omega), (show (-1) ≤ i_1.toInt by omega), (show i_1.toInt ≤ 4 by omega), hP, hS, lv_sub hl [0, 1, 3, 4] rfl⟩ (show (5 - x_20.toInt).toNat < (5 - i_1.toInt).toNat by omega)
        · have c_19 : ¬ i_2.toInt = (-1) := fun h => c_19 ((c_eq (x := i_2.toInt) (y := (-1)) rfl rfl).mpr h)
          refine lv_aload_n hx hb dX3_sortOf_65 rfl (lv_at hl 3 rfl) ?_
          refine lv_iload_n hx hb dX3_sortOf_66 rfl (lv_at hl 4 rfl) ?_
          refine lv_iload_n hx hb dX3_sortOf_67 rfl (lv_at hl 1 rfl) ?_
          refine lv_iload_n hx hb dX3_sortOf_68 rfl (lv_at hl 2 rfl) ?_
          refine puI (cV (As := [.int i1, .int i_1, .int i_2]) (rest := []) ⟨hx, hb, hml, hown, hts⟩ (c_X3_suitsBetter l D T b0 b1 b2 b3 b4 b5 b6 b7 b8 b9 bl h0 sw tw wa i1 i_1 i_2 s2 s3 s4 s6 t0 t1 t2 t3 t4 t5 t6 t7 t8 s5 f0 f5 ⟨by omega, by omega⟩ ⟨by omega, by omega⟩ ⟨by omega, by omega⟩ ⟨by omega, by omega⟩ ⟨by omega, by omega⟩ ⟨by omega, by omega⟩ ⟨by omega, by omega⟩ ⟨by omega, by omega⟩) k_X3_suitsBetter v_X3_suitsBetter m894 rfl rfl ⟨(Nat.le_of_ble_eq_true rfl), (Nat.le_of_ble_eq_true rfl)⟩ (preP hC (hP.sub (ws' := [(h0, .inr (3, [.ref tw, .ref wa, .int s2, .int s3, .int s4, .long s5, .int s6, .ref sw, .ref bl])), (tw, .inr (5, [.int t0, .int t1, .int t2, .int t3, .int t4, .int t5, .int t6, .int t7, .int t8, .ref b0, .ref b1, .ref b2, .ref b3, .ref b4, .ref b5, .ref b6, .ref b7, .ref b8, .ref b9])), (b0, .inl (T 0, 5, .inl f0)), (b5, .inl (T 0, 10, .inl f5))]) [0, 1, 2, 3] rfl)) (va_recv hK hP (ci := 3) (q0 := 0) rfl rfl) rfl hl.1 rfl (Nat.le_of_ble_eq_true rfl) dX3_sortOf_69 ⟨(Nat.le_of_ble_eq_true rfl), (Nat.le_of_ble_eq_true rfl)⟩) hS hP (fun r_21 H locs hw hP hS => ?_)
          have w_23 : (r_21 = 1) ∨ (r_21 = 0) := hw
          rcases w_23 with rfl | rfl
          · refine lv_if_eq (tgt := 77) hx hb dX3_sortOf_72 (by decide) (fun c_24 => absurd c_24 (by decide)) (fun _ => ?_)
            refine lv_iload_n hx hb dX3_sortOf_75 rfl (lv_at hl 1 rfl) ?_
            refine lv_istore_n (lv' := [(2, .int i_1), (4, .int 1), (3, .int i_1), (0, .ref h0), (1, .int i1)]) hx hb dX3_sortOf_76 rfl hl (by decide) rfl (fun ls hl => ?_)
            obtain ⟨x_25, ex_25⟩ : ∃ y : Int32, y = i_1 + 1 := ⟨_, rfl⟩
            have tx_25 : x_25.toInt = i_1.toInt + 1 := t_add (x := i_1.toInt) (y := 1) ex_25 rfl rfl (by omega) (by omega)
            refine lv_iinc (v := x_25) (lv' := [(3, .int x_25), (2, .int i_1), (4, .int 1), (0, .ref h0), (1, .int i1)]) hx hb dX3_sortOf_77 hl (k := 2) rfl (by rw [ex_25]; rfl) (by decide) rfl (fun ls hl => ?_)
            refine lv_goto (tgt := 4) hx hb dX3_sortOf_80 (by decide) ?_
            exact ih_7 (_, _, _, x_25, i_1) ⟨(show 0 ≤ x_25.toInt by omega), (show x_25.toInt ≤ 5 by omega), (show (-1) ≤ i_1.toInt by omega), (show i_1.toInt ≤ 4 by omega), hP, hS, lv_sub hl [0, 1, 3, 4] rfl⟩ (show (5 - x_25.toInt).toNat < (5 - i_1.toInt).toNat by omega)
          · refine lv_if_eq (tgt := 77) hx hb dX3_sortOf_72 (by decide) (fun _ => ?_) (fun c_26 => absurd (by decide) c_26)
            obtain ⟨x_27, ex_27⟩ : ∃ y : Int32, y = i_1 + 1 := ⟨_, rfl⟩
            have tx_27 : x_27.toInt = i_1.toInt + 1 := t_add (x := i_1.toInt) (y := 1) ex_27 rfl rfl (by omega) (by omega)
            refine lv_iinc (v := x_27) (lv' := [(3, .int x_27), (4, .int 1), (2, .int i_2), (0, .ref h0), (1, .int i1)]) hx hb dX3_sortOf_77 hl (k := 1) rfl (by rw [ex_27]; rfl) (by decide) rfl (fun ls hl => ?_)
            refine lv_goto (tgt := 4) hx hb dX3_sortOf_80 (by decide) ?_
            exact ih_7 (_, _, _, x_27, i_2) ⟨(show 0 ≤ x_27.toInt by omega), (show x_27.toInt ≤ 5 by omega), (show (-1) ≤ i_2.toInt by omega), (show i_2.toInt ≤ 4 by omega), hP, hS, lv_sub hl [0, 2, 3, 4] rfl⟩ (show (5 - x_27.toInt).toNat < (5 - i_1.toInt).toNat by omega)

set_option maxHeartbeats 4000000 in
set_option maxRecDepth 100000 in
theorem c_X3_draw (l : Launch) (D : va_G) (T : Nat → ClassId) (bl h0 sw tw wa : Nat) (s2 s3 s4 s6 : Int32) (s5 : Int64) (sz : Nat) (h_s2 : 0 ≤ s2.toInt ∧ s2.toInt ≤ 100) : Met l yX3_draw (wM yX3_draw cX3_draw 1 (some .int)) ({ frames := 0, cells := 0, slots := 0, locals := 0 }) (va_Pc [.ref h0] (pwM D T [(h0, .inr (3, [.ref tw, .ref wa, .int s2, .int s3, .int s4, .long s5, .int s6, .ref sw, .ref bl]))] sz)) (va_Qi (fun (r : Int32) (u : U5) => True) (fun u t => pwE D (va_A [(h0, .inr (3, [.ref tw, .ref wa, .int s2, .int s3, .int s4, .long s5, .int s6, .ref sw, .ref bl]))] sz) [(h0, .inr (3, [.ref tw, .ref wa, .int s2, .int s3, .int s4, .long (u.2.2.2.2 0), .int s6, .ref sw, .ref bl]))] t) (va_A [(h0, .inr (3, [.ref tw, .ref wa, .int s2, .int s3, .int s4, .long s5, .int s6, .ref sw, .ref bl]))] sz)) 0 0 (va_A [(h0, .inr (3, [.ref tw, .ref wa, .int s2, .int s3, .int s4, .long s5, .int s6, .ref sw, .ref bl]))] sz) := by
  refine Met.ofW (cc := cX3_draw) (maxL := 1) (ret := (some .int)) (by decide) rfl ?_
  intro p e s m args below meth c s₁ B hml hv
  obtain ⟨rfl, hsz, hP, hC, hD0⟩ := hv
  have hx := B.exec
  have hb := B.bytes
  have hr := B.returns
  have hts : ∀ w ∈ gt, w.before _ s = true := fun w hw => atoms_spec (ws := (wM yX3_draw cX3_draw 1 (some .int))) B.pre w (List.mem_cons_of_mem _ hw)
  have hown : s.vm.findClass RX3 = some m.cls := findClass_of_methodNamed B.named
  have hlocks := B.notSynchronized
  have hK := hC.1
  subst hsz
  have hD := hD0.self (sz := s.heap.size)
  generalize hAe : va_A [(h0, .inr (3, [.ref tw, .ref wa, .int s2, .int s3, .int s4, .long s5, .int s6, .ref sw, .ref bl]))] s.heap.size = A at hD ⊢
  have hA : ∀ q : Nat, s.heap.size ≤ q → A q := fun q h => by rw [← hAe]; exact Or.inr h
  have hS : va_S A s.heap s.heap [] := va_S.rf
  have hl := lv_entry ([.ref h0]) (n := 1) (Nat.le_of_ble_eq_true rfl)
  rw [lg_entry_eq]
  generalize (lg_sl ([.ref h0]) ++ List.replicate (1 - (lg_sl ([.ref h0])).length) Slot.unset).toArray = ls at hl ⊢
  have hl : lv_has ls 1 [(0, .ref h0)] := hl
  refine lv_aload_n hx hb dX3_draw_0 rfl (lv_at hl 0 rfl) ?_
  refine lv_ldc2 (v := 1103515245) hx hb hown (hts _ m1203) dX3_draw_1 ?_
  refine lv_aload_n hx hb dX3_draw_4 rfl (lv_at hl 0 rfl) ?_
  refine va_get (D := D) (ci := 3) (C := RX3) (T := TX3) (N := 9) hx hb hts iX3 hown hK hP 0 rfl rfl 5 (by decide) (hts _ m390) (fun _ h9 => h9) rfl dX3_draw_5 ?_
  refine lv_lmul hx hb dX3_draw_8 ?_
  refine lv_topl (fun x_1 ex_1 => ?_)
  refine lv_ldc2 (v := 12345) hx hb hown (hts _ m1204) dX3_draw_9 ?_
  refine lv_ladd hx hb dX3_draw_12 ?_
  refine lv_topl (fun x_2 ex_2 => ?_)
  refine lv_ldc2 (v := 2147483648) hx hb hown (hts _ m1205) dX3_draw_13 ?_
  refine lv_lrem hx hb dX3_draw_16 (by decide) ?_
  refine lv_topl (fun x_3 ex_3 => ?_)
  refine va_put (D := D) (ci := 3) (v := .long x_3) (ty := .long) (C := RX3) (T := TX3) (N := 9) hx hb hts iX3 tyX3 tyX3_ok nmX3 hown hK hP hD hS 0 rfl rfl 5 (by decide) (hts _ m390) (fun _ h9 => h9) rfl (by decide +kernel) rfl rfl (Nat.le_of_ble_eq_true rfl) dX3_draw_17 (fun H locs hP hD hS => ?_)
  have hP : va_P D vwCl [(h0, .inr (3, [.ref tw, .ref wa, .int s2, .int s3, .int s4, .long x_3, .int s6, .ref sw, .ref bl]))] H := hP
  have hD : va_D A [(h0, .inr (3, [.ref tw, .ref wa, .int s2, .int s3, .int s4, .long x_3, .int s6, .ref sw, .ref bl]))] := hD
  refine lv_aload_n hx hb dX3_draw_20 rfl (lv_at hl 0 rfl) ?_
  refine va_get (D := D) (ci := 3) (C := RX3) (T := TX3) (N := 9) hx hb hts iX3 hown hK hP 0 rfl rfl 5 (by decide) (hts _ m390) (fun _ h9 => h9) rfl dX3_draw_21 ?_
  refine lv_ldc2 (v := 65536) hx hb hown (hts _ m1206) dX3_draw_24 ?_
  refine lv_ldiv hx hb dX3_draw_27 (by decide) ?_
  refine lv_topl (fun x_4 ex_4 => ?_)
  refine lv_ldc2 (v := 100) hx hb hown (hts _ m1207) dX3_draw_28 ?_
  refine lv_lrem hx hb dX3_draw_31 (by decide) ?_
  refine lv_topl (fun x_5 ex_5 => ?_)
  refine lv_l2i hx hb dX3_draw_32 rfl ?_
  refine lv_topi (fun x_6 ex_6 => ?_)
  have hP9 := hP.sub (ws' := [(h0, .inr (3, [.ref tw, .ref wa, .int s2, .int s3, .int s4, .long x_3, .int s6, .ref sw, .ref bl]))]) [0] rfl
  have hD9 := hD.sub (ws' := [(h0, .inr (3, [.ref tw, .ref wa, .int s2, .int s3, .int s4, .long x_3, .int s6, .ref sw, .ref bl]))]) [0] (by decide) rfl
  exact W.iret (v := x_6) hx hb hr (fun t ht hW => ⟨⟨x_6, (fun k => ([] : List (Nat)).getD k 0, fun k => ([] : List (Nat → Int32)).getD k (fun _ => 0), fun k => ([] : List (Nat → Int64)).getD k (fun _ => 0), fun k => ([] : List (Int32)).getD k 0, fun k => ([x_3] : List (Int64)).getD k 0), rfl, trivial, by rw [ht]; exact hP9, hD9⟩, hS.F ht⟩) hS.2.2 dX3_draw_33
