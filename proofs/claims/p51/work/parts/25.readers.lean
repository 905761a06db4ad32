set_option maxHeartbeats 4000000 in
set_option maxRecDepth 100000 in
theorem c_X10_hasTown (l : Launch) (D : va_G) (T : Nat → ClassId) (b0 b1 b2 b3 b4 b5 b6 b7 b8 b9 bl im kp ma rd sl st sw th tp tu tw wa wn wr x0 : Nat) (s2 s3 s4 s6 t0 t1 t2 t3 t4 t5 t6 t7 t8 : Int32) (s5 : Int64) (h_t1 : 0 ≤ t1.toInt ∧ t1.toInt ≤ 8) (h_t2 : 0 ≤ t2.toInt ∧ t2.toInt ≤ 12) (h_t4 : 0 ≤ t4.toInt ∧ t4.toInt ≤ 5) (h_t5 : 0 ≤ t5.toInt ∧ t5.toInt ≤ 10) (h_s2 : 0 ≤ s2.toInt ∧ s2.toInt ≤ 100) : Met l yX10_hasTown (wM yX10_hasTown cX10_hasTown 1 (some .boolean)) ({ frames := 0, cells := 0, slots := 0, locals := 0 }) (va_Pc [.ref x0] (pwP D T [(x0, .inr (10, [.ref tp, .ref rd, .ref st, .ref th, .ref im, .ref kp, .ref sl, .ref tu, .ref wn, .ref ma, .ref wr])), (st, .inr (3, [.ref tw, .ref wa, .int s2, .int s3, .int s4, .long s5, .int s6, .ref sw, .ref bl])), (tw, .inr (5, [.int t0, .int t1, .int t2, .int t3, .int t4, .int t5, .int t6, .int t7, .int t8, .ref b0, .ref b1, .ref b2, .ref b3, .ref b4, .ref b5, .ref b6, .ref b7, .ref b8, .ref b9]))])) (va_Qi (fun (r : Int32) (u : Unit) => (r = 1 ∧ 0 < t1.toInt) ∨ (r = 0)) (fun _ _ => True) (fun _ => False)) 0 0 (fun _ => False) := by
  refine Met.ofW (cc := cX10_hasTown) (maxL := 1) (ret := (some .boolean)) (by decide) rfl ?_
  intro p e s m args below meth c s₁ B hml hv
  obtain ⟨rfl, hP, hC⟩ := hv
  have hx := B.exec
  have hb := B.bytes
  have hr := B.returns
  have hts : ∀ w ∈ gt, w.before _ s = true := fun w hw => atoms_spec (ws := (wM yX10_hasTown cX10_hasTown 1 (some .boolean))) B.pre w (List.mem_cons_of_mem _ hw)
  have hown : s.vm.findClass RX10 = some m.cls := findClass_of_methodNamed B.named
  have hlocks := B.notSynchronized
  have hK := hC.1
  have hS : va_S (fun _ => False) s.heap s.heap [] := va_S.rf
  have hl := lv_entry ([.ref x0]) (n := 1) (Nat.le_of_ble_eq_true rfl)
  rw [lg_entry_eq]
  generalize (lg_sl ([.ref x0]) ++ List.replicate (1 - (lg_sl ([.ref x0])).length) Slot.unset).toArray = ls at hl ⊢
  have hl : lv_has ls 1 [(0, .ref x0)] := hl
  refine lv_aload_n hx hb dX10_hasTown_0 rfl (lv_at hl 0 rfl) ?_
  refine va_get (D := D) (ci := 10) (C := RX10) (T := TX10) (N := 11) hx hb hts iX10 hown hK hP 0 rfl rfl 2 (by decide) (hts _ m527) (fun _ h9 => h9) rfl dX10_hasTown_1 ?_
  refine va_get (D := D) (ci := 3) (C := RX3) (T := TX3) (N := 9) hx hb hts iX3 hown hK hP 1 rfl rfl 0 (by decide) (hts _ m371) (fun _ h9 => h9) rfl dX10_hasTown_4 ?_
  refine va_get (D := D) (ci := 5) (C := RX5) (T := TX5) (N := 19) hx hb hts iX5 hown hK hP 2 rfl rfl 1 (by decide) (hts _ m173) (fun _ h9 => h9) rfl dX10_hasTown_7 ?_
  refine lv_if_le (tgt := 17) hx hb dX10_hasTown_10 (by decide) (fun c_1 => ?_) (fun c_1 => ?_)
  · have c_1 : t1.toInt ≤ 0 := (c_le (x := t1.toInt) (y := 0) rfl rfl).mp c_1
    refine lv_iconst (v := 0) hx hb dX10_hasTown_17 (by decide) ?_
    exact W.zret (v := 0) hx hb hr rfl (fun t ht hW => ⟨⟨0, (), rfl, (Or.inr rfl), trivial⟩, hS.F ht⟩) hS.2.2 dX10_hasTown_18
  · have c_1 : 0 < t1.toInt := by have h := mt (c_le (x := t1.toInt) (y := 0) rfl rfl).mpr c_1; omega
    refine lv_iconst (v := 1) hx hb dX10_hasTown_13 (by decide) ?_
    refine lv_goto (tgt := 18) hx hb dX10_hasTown_14 (by decide) ?_
    exact W.zret (v := 1) hx hb hr rfl (fun t ht hW => ⟨⟨1, (), rfl, (Or.inl (⟨rfl, (show 0 < t1.toInt by omega)⟩)), trivial⟩, hS.F ht⟩) hS.2.2 dX10_hasTown_18

set_option maxHeartbeats 4000000 in
set_option maxRecDepth 100000 in
theorem c_X10_hasSide (l : Launch) (D : va_G) (T : Nat → ClassId) (b0 b1 b2 b3 b4 b5 b6 b7 b8 b9 bl im kp ma rd sl st sw th tp tu tw wa wn wr x0 : Nat) (i1 s2 s3 s4 s6 t0 t1 t2 t3 t4 t5 t6 t7 t8 : Int32) (s5 : Int64) (h_t1 : 0 ≤ t1.toInt ∧ t1.toInt ≤ 8) (h_t2 : 0 ≤ t2.toInt ∧ t2.toInt ≤ 12) (h_t4 : 0 ≤ t4.toInt ∧ t4.toInt ≤ 5) (h_t5 : 0 ≤ t5.toInt ∧ t5.toInt ≤ 10) (h_s2 : 0 ≤ s2.toInt ∧ s2.toInt ≤ 100) : Met l yX10_hasSide (wM yX10_hasSide cX10_hasSide 2 (some .boolean)) ({ frames := 1, cells := 0, slots := 0, locals := 20 }) (va_Pc [.ref x0, .int i1] (pwP D T [(x0, .inr (10, [.ref tp, .ref rd, .ref st, .ref th, .ref im, .ref kp, .ref sl, .ref tu, .ref wn, .ref ma, .ref wr])), (st, .inr (3, [.ref tw, .ref wa, .int s2, .int s3, .int s4, .long s5, .int s6, .ref sw, .ref bl])), (tw, .inr (5, [.int t0, .int t1, .int t2, .int t3, .int t4, .int t5, .int t6, .int t7, .int t8, .ref b0, .ref b1, .ref b2, .ref b3, .ref b4, .ref b5, .ref b6, .ref b7, .ref b8, .ref b9]))])) (va_Qi (fun (r : Int32) (u : Unit) => (r = 1 ∧ 0 ≤ i1.toInt ∧ i1.toInt ≤ 1) ∨ (r = 0)) (fun _ _ => True) (fun _ => False)) 0 0 (fun _ => False) := by
  refine Met.ofW (cc := cX10_hasSide) (maxL := 2) (ret := (some .boolean)) (by decide) rfl ?_
  intro p e s m args below meth c s₁ B hml hv
  obtain ⟨rfl, hP, hC⟩ := hv
  have hx := B.exec
  have hb := B.bytes
  have hr := B.returns
  have hts : ∀ w ∈ gt, w.before _ s = true := fun w hw => atoms_spec (ws := (wM yX10_hasSide cX10_hasSide 2 (some .boolean))) B.pre w (List.mem_cons_of_mem _ hw)
  have hown : s.vm.findClass RX10 = some m.cls := findClass_of_methodNamed B.named
  have hlocks := B.notSynchronized
  have hK := hC.1
  have hS : va_S (fun _ => False) s.heap s.heap [] := va_S.rf
  have hl := lv_entry ([.ref x0, .int i1]) (n := 2) (Nat.le_of_ble_eq_true rfl)
  rw [lg_entry_eq]
  generalize (lg_sl ([.ref x0, .int i1]) ++ List.replicate (2 - (lg_sl ([.ref x0, .int i1])).length) Slot.unset).toArray = ls at hl ⊢
  have hl : lv_has ls 2 [(0, .ref x0), (1, .int i1)] := hl
  refine lv_aload_n hx hb dX10_hasSide_0 rfl (lv_at hl 0 rfl) ?_
  refine puI (cV (As := []) (rest := []) ⟨hx, hb, hml, hown, hts⟩ (c_X10_hasTown l D T b0 b1 b2 b3 b4 b5 b6 b7 b8 b9 bl im kp ma rd sl st sw th tp tu tw wa wn wr x0 s2 s3 s4 s6 t0 t1 t2 t3 t4 t5 t6 t7 t8 s5 ⟨by omega, by omega⟩ ⟨by omega, by omega⟩ ⟨by omega, by omega⟩ ⟨by omega, by omega⟩ ⟨by omega, by omega⟩) k_X10_hasTown v_X10_hasTown m760 rfl rfl ⟨(Nat.le_of_ble_eq_true rfl), (Nat.le_of_ble_eq_true rfl)⟩ (preP hC (hP.sub (ws' := [(x0, .inr (10, [.ref tp, .ref rd, .ref st, .ref th, .ref im, .ref kp, .ref sl, .ref tu, .ref wn, .ref ma, .ref wr])), (st, .inr (3, [.ref tw, .ref wa, .int s2, .int s3, .int s4, .long s5, .int s6, .ref sw, .ref bl])), (tw, .inr (5, [.int t0, .int t1, .int t2, .int t3, .int t4, .int t5, .int t6, .int t7, .int t8, .ref b0, .ref b1, .ref b2, .ref b3, .ref b4, .ref b5, .ref b6, .ref b7, .ref b8, .ref b9]))]) [0, 1, 2] rfl)) (va_recv hK hP (ci := 10) (q0 := 0) rfl rfl) rfl hl.1 rfl (Nat.le_of_ble_eq_true rfl) dX10_hasSide_1 ⟨(Nat.le_of_ble_eq_true rfl), (Nat.le_of_ble_eq_true rfl)⟩) hS hP (fun r_1 H locs hw hP hS => ?_)
  have w_3 : (r_1 = 1 ∧ 0 < t1.toInt) ∨ (r_1 = 0) := hw
  rcases w_3 with ⟨rfl, c_4⟩ | rfl
  · refine lv_if_eq (tgt := 20) hx hb dX10_hasSide_4 (by decide) (fun c_5 => absurd c_5 (by decide)) (fun _ => ?_)
    refine lv_iload_n hx hb dX10_hasSide_7 rfl (lv_at hl 1 rfl) ?_
    refine lv_if_eq (tgt := 16) hx hb dX10_hasSide_8 (by decide) (fun c_6 => ?_) (fun c_6 => ?_)
    · have c_6 : i1.toInt = 0 := (c_eq (x := i1.toInt) (y := 0) rfl rfl).mp c_6
      refine lv_iconst (v := 1) hx hb dX10_hasSide_16 (by decide) ?_
      refine lv_goto (tgt := 21) hx hb dX10_hasSide_17 (by decide) ?_
      exact W.zret (v := 1) hx hb hr rfl (fun t ht hW => ⟨⟨1, (), rfl, (Or.inl (⟨rfl, (show 0 ≤ i1.toInt by omega), (show i1.toInt ≤ 1 by omega)⟩)), trivial⟩, hS.F ht⟩) hS.2.2 dX10_hasSide_21
    · have c_6 : ¬ i1.toInt = 0 := fun h => c_6 ((c_eq (x := i1.toInt) (y := 0) rfl rfl).mpr h)
      refine lv_iload_n hx hb dX10_hasSide_11 rfl (lv_at hl 1 rfl) ?_
      refine lv_iconst (v := 1) hx hb dX10_hasSide_12 (by decide) ?_
      refine lv_icmp_ne (tgt := 20) hx hb dX10_hasSide_13 (by decide) (fun c_7 => ?_) (fun c_7 => ?_)
      · have c_7 : ¬ i1.toInt = 1 := fun h => c_7 ((c_eq (x := i1.toInt) (y := 1) rfl rfl).mpr h)
        refine lv_iconst (v := 0) hx hb dX10_hasSide_20 (by decide) ?_
        exact W.zret (v := 0) hx hb hr rfl (fun t ht hW => ⟨⟨0, (), rfl, (Or.inr rfl), trivial⟩, hS.F ht⟩) hS.2.2 dX10_hasSide_21
      · have c_7 : i1.toInt = 1 := (c_eq (x := i1.toInt) (y := 1) rfl rfl).mp c_7
        refine lv_iconst (v := 1) hx hb dX10_hasSide_16 (by decide) ?_
        refine lv_goto (tgt := 21) hx hb dX10_hasSide_17 (by decide) ?_
        exact W.zret (v := 1) hx hb hr rfl (fun t ht hW => ⟨⟨1, (), rfl, (Or.inl (⟨rfl, (show 0 ≤ i1.toInt by omega), (show i1.toInt ≤ 1 by omega)⟩)), trivial⟩, hS.F ht⟩) hS.2.2 dX10_hasSide_21
  · refine lv_if_eq (tgt := 20) hx hb dX10_hasSide_4 (by decide) (fun _ => ?_) (fun c_8 => absurd (by decide) c_8)
    refine lv_iconst (v := 0) hx hb dX10_hasSide_20 (by decide) ?_
    exact W.zret (v := 0) hx hb hr rfl (fun t ht hW => ⟨⟨0, (), rfl, (Or.inr rfl), trivial⟩, hS.F ht⟩) hS.2.2 dX10_hasSide_21

set_option maxHeartbeats 4000000 in
set_option maxRecDepth 100000 in
theorem c_X10_hasColumn (l : Launch) (D : va_G) (T : Nat → ClassId) (b0 b1 b2 b3 b4 b5 b6 b7 b8 b9 bl im kp ma rd sl st sw th tp tu tw wa wn wr x0 : Nat) (i1 i2 s2 s3 s4 s6 t0 t1 t2 t3 t4 t5 t6 t7 t8 : Int32) (s5 : Int64) (h_t1 : 0 ≤ t1.toInt ∧ t1.toInt ≤ 8) (h_t2 : 0 ≤ t2.toInt ∧ t2.toInt ≤ 12) (h_t4 : 0 ≤ t4.toInt ∧ t4.toInt ≤ 5) (h_t5 : 0 ≤ t5.toInt ∧ t5.toInt ≤ 10) (h_s2 : 0 ≤ s2.toInt ∧ s2.toInt ≤ 100) : Met l yX10_hasColumn (wM yX10_hasColumn cX10_hasColumn 3 (some .boolean)) ({ frames := 2, cells := 0, slots := 0, locals := 41 }) (va_Pc [.ref x0, .int i1, .int i2] (pwP D T [(x0, .inr (10, [.ref tp, .ref rd, .ref st, .ref th, .ref im, .ref kp, .ref sl, .ref tu, .ref wn, .ref ma, .ref wr])), (st, .inr (3, [.ref tw, .ref wa, .int s2, .int s3, .int s4, .long s5, .int s6, .ref sw, .ref bl])), (tw, .inr (5, [.int t0, .int t1, .int t2, .int t3, .int t4, .int t5, .int t6, .int t7, .int t8, .ref b0, .ref b1, .ref b2, .ref b3, .ref b4, .ref b5, .ref b6, .ref b7, .ref b8, .ref b9]))])) (va_Qi (fun (r : Int32) (u : Unit) => (r = 1 ∧ 0 ≤ i1.toInt ∧ i1.toInt ≤ 1 ∧ 0 ≤ i2.toInt ∧ i2.toInt < t1.toInt) ∨ (r = 0)) (fun _ _ => True) (fun _ => False)) 0 0 (fun _ => False) := by
  refine Met.ofW (cc := cX10_hasColumn) (maxL := 3) (ret := (some .boolean)) (by decide) rfl ?_
  intro p e s m args below meth c s₁ B hml hv
  obtain ⟨rfl, hP, hC⟩ := hv
  have hx := B.exec
  have hb := B.bytes
  have hr := B.returns
  have hts : ∀ w ∈ gt, w.before _ s = true := fun w hw => atoms_spec (ws := (wM yX10_hasColumn cX10_hasColumn 3 (some .boolean))) B.pre w (List.mem_cons_of_mem _ hw)
  have hown : s.vm.findClass RX10 = some m.cls := findClass_of_methodNamed B.named
  have hlocks := B.notSynchronized
  have hK := hC.1
  have hS : va_S (fun _ => False) s.heap s.heap [] := va_S.rf
  have hl := lv_entry ([.ref x0, .int i1, .int i2]) (n := 3) (Nat.le_of_ble_eq_true rfl)
  rw [lg_entry_eq]
  generalize (lg_sl ([.ref x0, .int i1, .int i2]) ++ List.replicate (3 - (lg_sl ([.ref x0, .int i1, .int i2])).length) Slot.unset).toArray = ls at hl ⊢
  have hl : lv_has ls 3 [(0, .ref x0), (1, .int i1), (2, .int i2)] := hl
  refine lv_aload_n hx hb dX10_hasColumn_0 rfl (lv_at hl 0 rfl) ?_
  refine lv_iload_n hx hb dX10_hasColumn_1 rfl (lv_at hl 1 rfl) ?_
  refine puI (cV (As := [.int i1]) (rest := []) ⟨hx, hb, hml, hown, hts⟩ (c_X10_hasSide l D T b0 b1 b2 b3 b4 b5 b6 b7 b8 b9 bl im kp ma rd sl st sw th tp tu tw wa wn wr x0 i1 s2 s3 s4 s6 t0 t1 t2 t3 t4 t5 t6 t7 t8 s5 ⟨by omega, by omega⟩ ⟨by omega, by omega⟩ ⟨by omega, by omega⟩ ⟨by omega, by omega⟩ ⟨by omega, by omega⟩) k_X10_hasSide v_X10_hasSide m756 rfl rfl ⟨(Nat.le_of_ble_eq_true rfl), (Nat.le_of_ble_eq_true rfl)⟩ (preP hC (hP.sub (ws' := [(x0, .inr (10, [.ref tp, .ref rd, .ref st, .ref th, .ref im, .ref kp, .ref sl, .ref tu, .ref wn, .ref ma, .ref wr])), (st, .inr (3, [.ref tw, .ref wa, .int s2, .int s3, .int s4, .long s5, .int s6, .ref sw, .ref bl])), (tw, .inr (5, [.int t0, .int t1, .int t2, .int t3, .int t4, .int t5, .int t6, .int t7, .int t8, .ref b0, .ref b1, .ref b2, .ref b3, .ref b4, .ref b5, .ref b6, .ref b7, .ref b8, .ref b9]))]) [0, 1, 2] rfl)) (va_recv hK hP (ci := 10) (q0 := 0) rfl rfl) rfl hl.1 rfl (Nat.le_of_ble_eq_true rfl) dX10_hasColumn_2 ⟨(Nat.le_of_ble_eq_true rfl), (Nat.le_of_ble_eq_true rfl)⟩) hS hP (fun r_1 H locs hw hP hS => ?_)
  have w_3 : (r_1 = 1 ∧ 0 ≤ i1.toInt ∧ i1.toInt ≤ 1) ∨ (r_1 = 0) := hw
  rcases w_3 with ⟨rfl, c_4, c_5⟩ | rfl
  · refine lv_if_eq (tgt := 30) hx hb dX10_hasColumn_5 (by decide) (fun c_6 => absurd c_6 (by decide)) (fun _ => ?_)
    refine lv_iload_n hx hb dX10_hasColumn_8 rfl (lv_at hl 2 rfl) ?_
    refine lv_if_lt (tgt := 30) hx hb dX10_hasColumn_9 (by decide) (fun c_7 => ?_) (fun c_7 => ?_)
    · have c_7 : i2.toInt < 0 := (c_lt (x := i2.toInt) (y := 0) rfl rfl).mp c_7
      refine lv_iconst (v := 0) hx hb dX10_hasColumn_30 (by decide) ?_
      exact W.zret (v := 0) hx hb hr rfl (fun t ht hW => ⟨⟨0, (), rfl, (Or.inr rfl), trivial⟩, hS.F ht⟩) hS.2.2 dX10_hasColumn_31
    · have c_7 : 0 ≤ i2.toInt := by have h := mt (c_lt (x := i2.toInt) (y := 0) rfl rfl).mpr c_7; omega
      refine lv_iload_n hx hb dX10_hasColumn_12 rfl (lv_at hl 2 rfl) ?_
      refine lv_aload_n hx hb dX10_hasColumn_13 rfl (lv_at hl 0 rfl) ?_
      refine va_get (D := D) (ci := 10) (C := RX10) (T := TX10) (N := 11) hx hb hts iX10 hown hK hP 0 rfl rfl 2 (by decide) (hts _ m527) (fun _ h9 => h9) rfl dX10_hasColumn_14 ?_
      refine va_get (D := D) (ci := 3) (C := RX3) (T := TX3) (N := 9) hx hb hts iX3 hown hK hP 1 rfl rfl 0 (by decide) (hts _ m371) (fun _ h9 => h9) rfl dX10_hasColumn_17 ?_
      refine va_get (D := D) (ci := 5) (C := RX5) (T := TX5) (N := 19) hx hb hts iX5 hown hK hP 2 rfl rfl 1 (by decide) (hts _ m173) (fun _ h9 => h9) rfl dX10_hasColumn_20 ?_
      refine lv_icmp_ge (tgt := 30) hx hb dX10_hasColumn_23 (by decide) (fun c_8 => ?_) (fun c_8 => ?_)
      · have c_8 : t1.toInt ≤ i2.toInt := (c_le (x := t1.toInt) (y := i2.toInt) rfl rfl).mp c_8
        refine lv_iconst (v := 0) hx hb dX10_hasColumn_30 (by decide) ?_
        exact W.zret (v := 0) hx hb hr rfl (fun t ht hW => ⟨⟨0, (), rfl, (Or.inr rfl), trivial⟩, hS.F ht⟩) hS.2.2 dX10_hasColumn_31
      · have c_8 : i2.toInt < t1.toInt := by have h := mt (c_le (x := t1.toInt) (y := i2.toInt) rfl rfl).mpr c_8; omega
        refine lv_iconst (v := 1) hx hb dX10_hasColumn_26 (by decide) ?_
        refine lv_goto (tgt := 31) hx hb dX10_hasColumn_27 (by decide) ?_
        exact W.zret (v := 1) hx hb hr rfl (fun t ht hW => ⟨⟨1, (), rfl, (Or.inl (⟨rfl, (show 0 ≤ i1.toInt by omega), (show i1.toInt ≤ 1 by omega), (show 0 ≤ i2.toInt by omega), (show i2.toInt < t1.toInt by omega)⟩)), trivial⟩, hS.F ht⟩) hS.2.2 dX10_hasColumn_31
  · refine lv_if_eq (tgt := 30) hx hb dX10_hasColumn_5 (by decide) (fun _ => ?_) (fun c_9 => absurd (by decide) c_9)
    refine lv_iconst (v := 0) hx hb dX10_hasColumn_30 (by decide) ?_
    exact W.zret (v := 0) hx hb hr rfl (fun t ht hW => ⟨⟨0, (), rfl, (Or.inr rfl), trivial⟩, hS.F ht⟩) hS.2.2 dX10_hasColumn_31

set_option maxHeartbeats 4000000 in
set_option maxRecDepth 100000 in
theorem c_X10_hasSort (l : Launch) (D : va_G) (T : Nat → ClassId) (b0 b1 b2 b3 b4 b5 b6 b7 b8 b9 bl im kp ma rd sl st sw th tp tu tw wa wn wr x0 : Nat) (i1 s2 s3 s4 s6 t0 t1 t2 t3 t4 t5 t6 t7 t8 : Int32) (s5 : Int64) (h_t1 : 0 ≤ t1.toInt ∧ t1.toInt ≤ 8) (h_t2 : 0 ≤ t2.toInt ∧ t2.toInt ≤ 12) (h_t4 : 0 ≤ t4.toInt ∧ t4.toInt ≤ 5) (h_t5 : 0 ≤ t5.toInt ∧ t5.toInt ≤ 10) (h_s2 : 0 ≤ s2.toInt ∧ s2.toInt ≤ 100) : Met l yX10_hasSort (wM yX10_hasSort cX10_hasSort 2 (some .boolean)) ({ frames := 0, cells := 0, slots := 0, locals := 0 }) (va_Pc [.ref x0, .int i1] (pwP D T [(x0, .inr (10, [.ref tp, .ref rd, .ref st, .ref th, .ref im, .ref kp, .ref sl, .ref tu, .ref wn, .ref ma, .ref wr])), (st, .inr (3, [.ref tw, .ref wa, .int s2, .int s3, .int s4, .long s5, .int s6, .ref sw, .ref bl])), (tw, .inr (5, [.int t0, .int t1, .int t2, .int t3, .int t4, .int t5, .int t6, .int t7, .int t8, .ref b0, .ref b1, .ref b2, .ref b3, .ref b4, .ref b5, .ref b6, .ref b7, .ref b8, .ref b9]))])) (va_Qi (fun (r : Int32) (u : Unit) => (r = 1 ∧ 0 ≤ i1.toInt ∧ i1.toInt < t4.toInt) ∨ (r = 0)) (fun _ _ => True) (fun _ => False)) 0 0 (fun _ => False) := by
  refine Met.ofW (cc := cX10_hasSort) (maxL := 2) (ret := (some .boolean)) (by decide) rfl ?_
  intro p e s m args below meth c s₁ B hml hv
  obtain ⟨rfl, hP, hC⟩ := hv
  have hx := B.exec
  have hb := B.bytes
  have hr := B.returns
  have hts : ∀ w ∈ gt, w.before _ s = true := fun w hw => atoms_spec (ws := (wM yX10_hasSort cX10_hasSort 2 (some .boolean))) B.pre w (List.mem_cons_of_mem _ hw)
  have hown : s.vm.findClass RX10 = some m.cls := findClass_of_methodNamed B.named
  have hlocks := B.notSynchronized
  have hK := hC.1
  have hS : va_S (fun _ => False) s.heap s.heap [] := va_S.rf
  have hl := lv_entry ([.ref x0, .int i1]) (n := 2) (Nat.le_of_ble_eq_true rfl)
  rw [lg_entry_eq]
  generalize (lg_sl ([.ref x0, .int i1]) ++ List.replicate (2 - (lg_sl ([.ref x0, .int i1])).length) Slot.unset).toArray = ls at hl ⊢
  have hl : lv_has ls 2 [(0, .ref x0), (1, .int i1)] := hl
  refine lv_iload_n hx hb dX10_hasSort_0 rfl (lv_at hl 1 rfl) ?_
  refine lv_if_lt (tgt := 22) hx hb dX10_hasSort_1 (by decide) (fun c_1 => ?_) (fun c_1 => ?_)
  · have c_1 : i1.toInt < 0 := (c_lt (x := i1.toInt) (y := 0) rfl rfl).mp c_1
    refine lv_iconst (v := 0) hx hb dX10_hasSort_22 (by decide) ?_
    exact W.zret (v := 0) hx hb hr rfl (fun t ht hW => ⟨⟨0, (), rfl, (Or.inr rfl), trivial⟩, hS.F ht⟩) hS.2.2 dX10_hasSort_23
  · have c_1 : 0 ≤ i1.toInt := by have h := mt (c_lt (x := i1.toInt) (y := 0) rfl rfl).mpr c_1; omega
    refine lv_iload_n hx hb dX10_hasSort_4 rfl (lv_at hl 1 rfl) ?_
    refine lv_aload_n hx hb dX10_hasSort_5 rfl (lv_at hl 0 rfl) ?_
    refine va_get (D := D) (ci := 10) (C := RX10) (T := TX10) (N := 11) hx hb hts iX10 hown hK hP 0 rfl rfl 2 (by decide) (hts _ m527) (fun _ h9 => h9) rfl dX10_hasSort_6 ?_
    refine va_get (D := D) (ci := 3) (C := RX3) (T := TX3) (N := 9) hx hb hts iX3 hown hK hP 1 rfl rfl 0 (by decide) (hts _ m371) (fun _ h9 => h9) rfl dX10_hasSort_9 ?_
    refine va_get (D := D) (ci := 5) (C := RX5) (T := TX5) (N := 19) hx hb hts iX5 hown hK hP 2 rfl rfl 4 (by decide) (hts _ m186) (fun _ h9 => h9) rfl dX10_hasSort_12 ?_
    refine lv_icmp_ge (tgt := 22) hx hb dX10_hasSort_15 (by decide) (fun c_2 => ?_) (fun c_2 => ?_)
    · have c_2 : t4.toInt ≤ i1.toInt := (c_le (x := t4.toInt) (y := i1.toInt) rfl rfl).mp c_2
      refine lv_iconst (v := 0) hx hb dX10_hasSort_22 (by decide) ?_
      exact W.zret (v := 0) hx hb hr rfl (fun t ht hW => ⟨⟨0, (), rfl, (Or.inr rfl), trivial⟩, hS.F ht⟩) hS.2.2 dX10_hasSort_23
    · have c_2 : i1.toInt < t4.toInt := by have h := mt (c_le (x := t4.toInt) (y := i1.toInt) rfl rfl).mpr c_2; omega
      refine lv_iconst (v := 1) hx hb dX10_hasSort_18 (by decide) ?_
      refine lv_goto (tgt := 23) hx hb dX10_hasSort_19 (by decide) ?_
      exact W.zret (v := 1) hx hb hr rfl (fun t ht hW => ⟨⟨1, (), rfl, (Or.inl (⟨rfl, (show 0 ≤ i1.toInt by omega), (show i1.toInt < t4.toInt by omega)⟩)), trivial⟩, hS.F ht⟩) hS.2.2 dX10_hasSort_23

set_option maxHeartbeats 4000000 in
set_option maxRecDepth 100000 in
theorem c_X10_hasVoter (l : Launch) (D : va_G) (T : Nat → ClassId) (b0 b1 b2 b3 b4 b5 b6 b7 b8 b9 bl im kp ma rd sl st sw th tp tu tw wa wn wr x0 : Nat) (i1 s2 s3 s4 s6 t0 t1 t2 t3 t4 t5 t6 t7 t8 : Int32) (s5 : Int64) (h_t1 : 0 ≤ t1.toInt ∧ t1.toInt ≤ 8) (h_t2 : 0 ≤ t2.toInt ∧ t2.toInt ≤ 12) (h_t4 : 0 ≤ t4.toInt ∧ t4.toInt ≤ 5) (h_t5 : 0 ≤ t5.toInt ∧ t5.toInt ≤ 10) (h_s2 : 0 ≤ s2.toInt ∧ s2.toInt ≤ 100) : Met l yX10_hasVoter (wM yX10_hasVoter cX10_hasVoter 2 (some .boolean)) ({ frames := 0, cells := 0, slots := 0, locals := 0 }) (va_Pc [.ref x0, .int i1] (pwP D T [(x0, .inr (10, [.ref tp, .ref rd, .ref st, .ref th, .ref im, .ref kp, .ref sl, .ref tu, .ref wn, .ref ma, .ref wr])), (st, .inr (3, [.ref tw, .ref wa, .int s2, .int s3, .int s4, .long s5, .int s6, .ref sw, .ref bl])), (tw, .inr (5, [.int t0, .int t1, .int t2, .int t3, .int t4, .int t5, .int t6, .int t7, .int t8, .ref b0, .ref b1, .ref b2, .ref b3, .ref b4, .ref b5, .ref b6, .ref b7, .ref b8, .ref b9]))])) (va_Qi (fun (r : Int32) (u : Unit) => (r = 1 ∧ 0 ≤ i1.toInt ∧ i1.toInt < t5.toInt) ∨ (r = 0)) (fun _ _ => True) (fun _ => False)) 0 0 (fun _ => False) := by
  refine Met.ofW (cc := cX10_hasVoter) (maxL := 2) (ret := (some .boolean)) (by decide) rfl ?_
  intro p e s m args below meth c s₁ B hml hv
  obtain ⟨rfl, hP, hC⟩ := hv
  have hx := B.exec
  have hb := B.bytes
  have hr := B.returns
  have hts : ∀ w ∈ gt, w.before _ s = true := fun w hw => atoms_spec (ws := (wM yX10_hasVoter cX10_hasVoter 2 (some .boolean))) B.pre w (List.mem_cons_of_mem _ hw)
  have hown : s.vm.findClass RX10 = some m.cls := findClass_of_methodNamed B.named
  have hlocks := B.notSynchronized
  have hK := hC.1
  have hS : va_S (fun _ => False) s.heap s.heap [] := va_S.rf
  have hl := lv_entry ([.ref x0, .int i1]) (n := 2) (Nat.le_of_ble_eq_true rfl)
  rw [lg_entry_eq]
  generalize (lg_sl ([.ref x0, .int i1]) ++ List.replicate (2 - (lg_sl ([.ref x0, .int i1])).length) Slot.unset).toArray = ls at hl ⊢
  have hl : lv_has ls 2 [(0, .ref x0), (1, .int i1)] := hl
  refine lv_iload_n hx hb dX10_hasVoter_0 rfl (lv_at hl 1 rfl) ?_
  refine lv_if_lt (tgt := 22) hx hb dX10_hasVoter_1 (by decide) (fun c_1 => ?_) (fun c_1 => ?_)
  · have c_1 : i1.toInt < 0 := (c_lt (x := i1.toInt) (y := 0) rfl rfl).mp c_1
    refine lv_iconst (v := 0) hx hb dX10_hasVoter_22 (by decide) ?_
    exact W.zret (v := 0) hx hb hr rfl (fun t ht hW => ⟨⟨0, (), rfl, (Or.inr rfl), trivial⟩, hS.F ht⟩) hS.2.2 dX10_hasVoter_23
  · have c_1 : 0 ≤ i1.toInt := by have h := mt (c_lt (x := i1.toInt) (y := 0) rfl rfl).mpr c_1; omega
    refine lv_iload_n hx hb dX10_hasVoter_4 rfl (lv_at hl 1 rfl) ?_
    refine lv_aload_n hx hb dX10_hasVoter_5 rfl (lv_at hl 0 rfl) ?_
    refine va_get (D := D) (ci := 10) (C := RX10) (T := TX10) (N := 11) hx hb hts iX10 hown hK hP 0 rfl rfl 2 (by decide) (hts _ m527) (fun _ h9 => h9) rfl dX10_hasVoter_6 ?_
    refine va_get (D := D) (ci := 3) (C := RX3) (T := TX3) (N := 9) hx hb hts iX3 hown hK hP 1 rfl rfl 0 (by decide) (hts _ m371) (fun _ h9 => h9) rfl dX10_hasVoter_9 ?_
    refine va_get (D := D) (ci := 5) (C := RX5) (T := TX5) (N := 19) hx hb hts iX5 hown hK hP 2 rfl rfl 5 (by decide) (hts _ m191) (fun _ h9 => h9) rfl dX10_hasVoter_12 ?_
    refine lv_icmp_ge (tgt := 22) hx hb dX10_hasVoter_15 (by decide) (fun c_2 => ?_) (fun c_2 => ?_)
    · have c_2 : t5.toInt ≤ i1.toInt := (c_le (x := t5.toInt) (y := i1.toInt) rfl rfl).mp c_2
      refine lv_iconst (v := 0) hx hb dX10_hasVoter_22 (by decide) ?_
      exact W.zret (v := 0) hx hb hr rfl (fun t ht hW => ⟨⟨0, (), rfl, (Or.inr rfl), trivial⟩, hS.F ht⟩) hS.2.2 dX10_hasVoter_23
    · have c_2 : i1.toInt < t5.toInt := by have h := mt (c_le (x := t5.toInt) (y := i1.toInt) rfl rfl).mpr c_2; omega
      refine lv_iconst (v := 1) hx hb dX10_hasVoter_18 (by decide) ?_
      refine lv_goto (tgt := 23) hx hb dX10_hasVoter_19 (by decide) ?_
      exact W.zret (v := 1) hx hb hr rfl (fun t ht hW => ⟨⟨1, (), rfl, (Or.inl (⟨rfl, (show 0 ≤ i1.toInt by omega), (show i1.toInt < t5.toInt by omega)⟩)), trivial⟩, hS.F ht⟩) hS.2.2 dX10_hasVoter_23

set_option maxHeartbeats 4000000 in
set_option maxRecDepth 100000 in
theorem c_X10_hasSet (l : Launch) (D : va_G) (T : Nat → ClassId) (b0 b1 b2 b3 b4 b5 b6 b7 b8 b9 bl im kp ma rd sl st sw th tp tu tw wa wn wr x0 : Nat) (i1 s2 s3 s4 s6 t0 t1 t2 t3 t4 t5 t6 t7 t8 : Int32) (s5 : Int64) (h_t1 : 0 ≤ t1.toInt ∧ t1.toInt ≤ 8) (h_t2 : 0 ≤ t2.toInt ∧ t2.toInt ≤ 12) (h_t4 : 0 ≤ t4.toInt ∧ t4.toInt ≤ 5) (h_t5 : 0 ≤ t5.toInt ∧ t5.toInt ≤ 10) (h_s2 : 0 ≤ s2.toInt ∧ s2.toInt ≤ 100) : Met l yX10_hasSet (wM yX10_hasSet cX10_hasSet 2 (some .boolean)) ({ frames := 1, cells := 0, slots := 0, locals := 20 }) (va_Pc [.ref x0, .int i1] (pwP D T [(x0, .inr (10, [.ref tp, .ref rd, .ref st, .ref th, .ref im, .ref kp, .ref sl, .ref tu, .ref wn, .ref ma, .ref wr])), (st, .inr (3, [.ref tw, .ref wa, .int s2, .int s3, .int s4, .long s5, .int s6, .ref sw, .ref bl])), (tw, .inr (5, [.int t0, .int t1, .int t2, .int t3, .int t4, .int t5, .int t6, .int t7, .int t8, .ref b0, .ref b1, .ref b2, .ref b3, .ref b4, .ref b5, .ref b6, .ref b7, .ref b8, .ref b9]))])) (va_Qi (fun (r : Int32) (u : Unit) => (r = 1) ∨ (r = 0)) (fun _ _ => True) (fun _ => False)) 0 0 (fun _ => False) := by
  refine Met.ofW (cc := cX10_hasSet) (maxL := 2) (ret := (some .boolean)) (by decide) rfl ?_
  intro p e s m args below meth c s₁ B hml hv
  obtain ⟨rfl, hP, hC⟩ := hv
  have hx := B.exec
  have hb := B.bytes
  have hr := B.returns
  have hts : ∀ w ∈ gt, w.before _ s = true := fun w hw => atoms_spec (ws := (wM yX10_hasSet cX10_hasSet 2 (some .boolean))) B.pre w (List.mem_cons_of_mem _ hw)
  have hown : s.vm.findClass RX10 = some m.cls := findClass_of_methodNamed B.named
  have hlocks := B.notSynchronized
  have hK := hC.1
  have hS : va_S (fun _ => False) s.heap s.heap [] := va_S.rf
  have hl := lv_entry ([.ref x0, .int i1]) (n := 2) (Nat.le_of_ble_eq_true rfl)
  rw [lg_entry_eq]
  generalize (lg_sl ([.ref x0, .int i1]) ++ List.replicate (2 - (lg_sl ([.ref x0, .int i1])).length) Slot.unset).toArray = ls at hl ⊢
  have hl : lv_has ls 2 [(0, .ref x0), (1, .int i1)] := hl
  refine lv_aload_n hx hb dX10_hasSet_0 rfl (lv_at hl 0 rfl) ?_
  refine puI (cV (As := []) (rest := []) ⟨hx, hb, hml, hown, hts⟩ (c_X10_hasTown l D T b0 b1 b2 b3 b4 b5 b6 b7 b8 b9 bl im kp ma rd sl st sw th tp tu tw wa wn wr x0 s2 s3 s4 s6 t0 t1 t2 t3 t4 t5 t6 t7 t8 s5 ⟨by omega, by omega⟩ ⟨by omega, by omega⟩ ⟨by omega, by omega⟩ ⟨by omega, by omega⟩ ⟨by omega, by omega⟩) k_X10_hasTown v_X10_hasTown m760 rfl rfl ⟨(Nat.le_of_ble_eq_true rfl), (Nat.le_of_ble_eq_true rfl)⟩ (preP hC (hP.sub (ws' := [(x0, .inr (10, [.ref tp, .ref rd, .ref st, .ref th, .ref im, .ref kp, .ref sl, .ref tu, .ref wn, .ref ma, .ref wr])), (st, .inr (3, [.ref tw, .ref wa, .int s2, .int s3, .int s4, .long s5, .int s6, .ref sw, .ref bl])), (tw, .inr (5, [.int t0, .int t1, .int t2, .int t3, .int t4, .int t5, .int t6, .int t7, .int t8, .ref b0, .ref b1, .ref b2, .ref b3, .ref b4, .ref b5, .ref b6, .ref b7, .ref b8, .ref b9]))]) [0, 1, 2] rfl)) (va_recv hK hP (ci := 10) (q0 := 0) rfl rfl) rfl hl.1 rfl (Nat.le_of_ble_eq_true rfl) dX10_hasSet_1 ⟨(Nat.le_of_ble_eq_true rfl), (Nat.le_of_ble_eq_true rfl)⟩) hS hP (fun r_1 H locs hw hP hS => ?_)
  have w_3 : (r_1 = 1 ∧ 0 < t1.toInt) ∨ (r_1 = 0) := hw
  rcases w_3 with ⟨rfl, c_4⟩ | rfl
  · refine lv_if_eq (tgt := 31) hx hb dX10_hasSet_4 (by decide) (fun c_5 => absurd c_5 (by decide)) (fun _ => ?_)
    refine lv_iload_n hx hb dX10_hasSet_7 rfl (lv_at hl 1 rfl) ?_
    refine lv_if_lt (tgt := 31) hx hb dX10_hasSet_8 (by decide) (fun c_6 => ?_) (fun c_6 => ?_)
    · have c_6 : i1.toInt < 0 := (c_lt (x := i1.toInt) (y := 0) rfl rfl).mp c_6
      refine lv_iconst (v := 0) hx hb dX10_hasSet_31 (by decide) ?_
      exact W.zret (v := 0) hx hb hr rfl (fun t ht hW => ⟨⟨0, (), rfl, (Or.inr rfl), trivial⟩, hS.F ht⟩) hS.2.2 dX10_hasSet_32
    · have c_6 : 0 ≤ i1.toInt := by have h := mt (c_lt (x := i1.toInt) (y := 0) rfl rfl).mpr c_6; omega
      refine lv_iload_n hx hb dX10_hasSet_11 rfl (lv_at hl 1 rfl) ?_
      refine lv_iconst (v := 1) hx hb dX10_hasSet_12 (by decide) ?_
      refine lv_aload_n hx hb dX10_hasSet_13 rfl (lv_at hl 0 rfl) ?_
      refine va_get (D := D) (ci := 10) (C := RX10) (T := TX10) (N := 11) hx hb hts iX10 hown hK hP 0 rfl rfl 2 (by decide) (hts _ m527) (fun _ h9 => h9) rfl dX10_hasSet_14 ?_
      refine va_get (D := D) (ci := 3) (C := RX3) (T := TX3) (N := 9) hx hb hts iX3 hown hK hP 1 rfl rfl 0 (by decide) (hts _ m371) (fun _ h9 => h9) rfl dX10_hasSet_17 ?_
      refine va_get (D := D) (ci := 5) (C := RX5) (T := TX5) (N := 19) hx hb hts iX5 hown hK hP 2 rfl rfl 5 (by decide) (hts _ m191) (fun _ h9 => h9) rfl dX10_hasSet_20 ?_
      refine lv_ishl hx hb dX10_hasSet_23 ?_
      refine lv_topi (fun x_7 ex_7 => ?_)
      have tx_7 := t_shl1 ex_7 (by omega) (by omega)
      refine lv_icmp_ge (tgt := 31) hx hb dX10_hasSet_24 (by decide) (fun c_8 => ?_) (fun c_8 => ?_)
      · have c_8 : x_7.toInt ≤ i1.toInt := (c_le (x := x_7.toInt) (y := i1.toInt) rfl rfl).mp c_8
        refine lv_iconst (v := 0) hx hb dX10_hasSet_31 (by decide) ?_
        exact W.zret (v := 0) hx hb hr rfl (fun t ht hW => ⟨⟨0, (), rfl, (Or.inr rfl), trivial⟩, hS.F ht⟩) hS.2.2 dX10_hasSet_32
      · have c_8 : i1.toInt < x_7.toInt := by have h := mt (c_le (x := x_7.toInt) (y := i1.toInt) rfl rfl).mpr c_8; omega
        refine lv_iconst (v := 1) hx hb dX10_hasSet_27 (by decide) ?_
        refine lv_goto (tgt := 32) hx hb dX10_hasSet_28 (by decide) ?_
        exact W.zret (v := 1) hx hb hr rfl (fun t ht hW => ⟨⟨1, (), rfl, (Or.inl rfl), trivial⟩, hS.F ht⟩) hS.2.2 dX10_hasSet_32
  · refine lv_if_eq (tgt := 31) hx hb dX10_hasSet_4 (by decide) (fun _ => ?_) (fun c_9 => absurd (by decide) c_9)
    refine lv_iconst (v := 0) hx hb dX10_hasSet_31 (by decide) ?_
    exact W.zret (v := 0) hx hb hr rfl (fun t ht hW => ⟨⟨0, (), rfl, (Or.inr rfl), trivial⟩, hS.F ht⟩) hS.2.2 dX10_hasSet_32

set_option maxHeartbeats 4000000 in
set_option maxRecDepth 100000 in
theorem c_X10_hadElection (l : Launch) (D : va_G) (T : Nat → ClassId) (bl im kp ma rd sl st sw th tp tu tw wa wn wr x0 : Nat) (i1 s2 s3 s4 s6 : Int32) (s5 : Int64) (h_s2 : 0 ≤ s2.toInt ∧ s2.toInt ≤ 100) : Met l yX10_hadElection (wM yX10_hadElection cX10_hadElection 2 (some .boolean)) ({ frames := 0, cells := 0, slots := 0, locals := 0 }) (va_Pc [.ref x0, .int i1] (pwP D T [(x0, .inr (10, [.ref tp, .ref rd, .ref st, .ref th, .ref im, .ref kp, .ref sl, .ref tu, .ref wn, .ref ma, .ref wr])), (st, .inr (3, [.ref tw, .ref wa, .int s2, .int s3, .int s4, .long s5, .int s6, .ref sw, .ref bl]))])) (va_Qi (fun (r : Int32) (u : Unit) => (r = 1 ∧ 0 ≤ i1.toInt ∧ i1.toInt < s2.toInt) ∨ (r = 0)) (fun _ _ => True) (fun _ => False)) 0 0 (fun _ => False) := by
  refine Met.ofW (cc := cX10_hadElection) (maxL := 2) (ret := (some .boolean)) (by decide) rfl ?_
  intro p e s m args below meth c s₁ B hml hv
  obtain ⟨rfl, hP, hC⟩ := hv
  have hx := B.exec
  have hb := B.bytes
  have hr := B.returns
  have hts : ∀ w ∈ gt, w.before _ s = true := fun w hw => atoms_spec (ws := (wM yX10_hadElection cX10_hadElection 2 (some .boolean))) B.pre w (List.mem_cons_of_mem _ hw)
  have hown : s.vm.findClass RX10 = some m.cls := findClass_of_methodNamed B.named
  have hlocks := B.notSynchronized
  have hK := hC.1
  have hS : va_S (fun _ => False) s.heap s.heap [] := va_S.rf
  have hl := lv_entry ([.ref x0, .int i1]) (n := 2) (Nat.le_of_ble_eq_true rfl)
  rw [lg_entry_eq]
  generalize (lg_sl ([.ref x0, .int i1]) ++ List.replicate (2 - (lg_sl ([.ref x0, .int i1])).length) Slot.unset).toArray = ls at hl ⊢
  have hl : lv_has ls 2 [(0, .ref x0), (1, .int i1)] := hl
  refine lv_iload_n hx hb dX10_hadElection_0 rfl (lv_at hl 1 rfl) ?_
  refine lv_if_lt (tgt := 19) hx hb dX10_hadElection_1 (by decide) (fun c_1 => ?_) (fun c_1 => ?_)
  · have c_1 : i1.toInt < 0 := (c_lt (x := i1.toInt) (y := 0) rfl rfl).mp c_1
    refine lv_iconst (v := 0) hx hb dX10_hadElection_19 (by decide) ?_
    exact W.zret (v := 0) hx hb hr rfl (fun t ht hW => ⟨⟨0, (), rfl, (Or.inr rfl), trivial⟩, hS.F ht⟩) hS.2.2 dX10_hadElection_20
  · have c_1 : 0 ≤ i1.toInt := by have h := mt (c_lt (x := i1.toInt) (y := 0) rfl rfl).mpr c_1; omega
    refine lv_iload_n hx hb dX10_hadElection_4 rfl (lv_at hl 1 rfl) ?_
    refine lv_aload_n hx hb dX10_hadElection_5 rfl (lv_at hl 0 rfl) ?_
    refine va_get (D := D) (ci := 10) (C := RX10) (T := TX10) (N := 11) hx hb hts iX10 hown hK hP 0 rfl rfl 2 (by decide) (hts _ m527) (fun _ h9 => h9) rfl dX10_hadElection_6 ?_
    refine va_get (D := D) (ci := 3) (C := RX3) (T := TX3) (N := 9) hx hb hts iX3 hown hK hP 1 rfl rfl 2 (by decide) (hts _ m380) (fun _ h9 => h9) rfl dX10_hadElection_9 ?_
    refine lv_icmp_ge (tgt := 19) hx hb dX10_hadElection_12 (by decide) (fun c_2 => ?_) (fun c_2 => ?_)
    · have c_2 : s2.toInt ≤ i1.toInt := (c_le (x := s2.toInt) (y := i1.toInt) rfl rfl).mp c_2
      refine lv_iconst (v := 0) hx hb dX10_hadElection_19 (by decide) ?_
      exact W.zret (v := 0) hx hb hr rfl (fun t ht hW => ⟨⟨0, (), rfl, (Or.inr rfl), trivial⟩, hS.F ht⟩) hS.2.2 dX10_hadElection_20
    · have c_2 : i1.toInt < s2.toInt := by have h := mt (c_le (x := s2.toInt) (y := i1.toInt) rfl rfl).mpr c_2; omega
      refine lv_iconst (v := 1) hx hb dX10_hadElection_15 (by decide) ?_
      refine lv_goto (tgt := 20) hx hb dX10_hadElection_16 (by decide) ?_
      exact W.zret (v := 1) hx hb hr rfl (fun t ht hW => ⟨⟨1, (), rfl, (Or.inl (⟨rfl, (show 0 ≤ i1.toInt by omega), (show i1.toInt < s2.toInt by omega)⟩)), trivial⟩, hS.F ht⟩) hS.2.2 dX10_hadElection_20

set_option maxHeartbeats 4000000 in
set_option maxRecDepth 100000 in
theorem c_X10_isOver (l : Launch) (D : va_G) (T : Nat → ClassId) (bl im kp ma rd sl st sw th tp tu tw wa wn wr x0 : Nat) (s2 s3 s4 s6 : Int32) (s5 : Int64) (h_s2 : 0 ≤ s2.toInt ∧ s2.toInt ≤ 100) : Met l yX10_isOver (wM yX10_isOver cX10_isOver 1 (some .boolean)) ({ frames := 0, cells := 0, slots := 0, locals := 0 }) (va_Pc [.ref x0] (pwP D T [(x0, .inr (10, [.ref tp, .ref rd, .ref st, .ref th, .ref im, .ref kp, .ref sl, .ref tu, .ref wn, .ref ma, .ref wr])), (st, .inr (3, [.ref tw, .ref wa, .int s2, .int s3, .int s4, .long s5, .int s6, .ref sw, .ref bl]))])) (va_Qi (fun (r : Int32) (u : Unit) => (r = 1) ∨ (r = 0 ∧ s2.toInt < 100)) (fun _ _ => True) (fun _ => False)) 0 0 (fun _ => False) := by
  refine Met.ofW (cc := cX10_isOver) (maxL := 1) (ret := (some .boolean)) (by decide) rfl ?_
  intro p e s m args below meth c s₁ B hml hv
  obtain ⟨rfl, hP, hC⟩ := hv
  have hx := B.exec
  have hb := B.bytes
  have hr := B.returns
  have hts : ∀ w ∈ gt, w.before _ s = true := fun w hw => atoms_spec (ws := (wM yX10_isOver cX10_isOver 1 (some .boolean))) B.pre w (List.mem_cons_of_mem _ hw)
  have hown : s.vm.findClass RX10 = some m.cls := findClass_of_methodNamed B.named
  have hlocks := B.notSynchronized
  have hK := hC.1
  have hS : va_S (fun _ => False) s.heap s.heap [] := va_S.rf
  have hl := lv_entry ([.ref x0]) (n := 1) (Nat.le_of_ble_eq_true rfl)
  rw [lg_entry_eq]
  generalize (lg_sl ([.ref x0]) ++ List.replicate (1 - (lg_sl ([.ref x0])).length) Slot.unset).toArray = ls at hl ⊢
  have hl : lv_has ls 1 [(0, .ref x0)] := hl
  refine lv_aload_n hx hb dX10_isOver_0 rfl (lv_at hl 0 rfl) ?_
  refine va_get (D := D) (ci := 10) (C := RX10) (T := TX10) (N := 11) hx hb hts iX10 hown hK hP 0 rfl rfl 2 (by decide) (hts _ m527) (fun _ h9 => h9) rfl dX10_isOver_1 ?_
  refine va_get (D := D) (ci := 3) (C := RX3) (T := TX3) (N := 9) hx hb hts iX3 hown hK hP 1 rfl rfl 2 (by decide) (hts _ m380) (fun _ h9 => h9) rfl dX10_isOver_4 ?_
  refine lv_bipush (v := 100) hx hb dX10_isOver_7 (by decide) ?_
  refine lv_icmp_lt (tgt := 16) hx hb dX10_isOver_9 (by decide) (fun c_1 => ?_) (fun c_1 => ?_)
  · have c_1 : s2.toInt < 100 := (c_lt (x := s2.toInt) (y := 100) rfl rfl).mp c_1
    refine lv_iconst (v := 0) hx hb dX10_isOver_16 (by decide) ?_
    exact W.zret (v := 0) hx hb hr rfl (fun t ht hW => ⟨⟨0, (), rfl, (Or.inr (⟨rfl, (show s2.toInt < 100 by omega)⟩)), trivial⟩, hS.F ht⟩) hS.2.2 dX10_isOver_17
  · have c_1 : 100 ≤ s2.toInt := by have h := mt (c_lt (x := s2.toInt) (y := 100) rfl rfl).mpr c_1; omega
    refine lv_iconst (v := 1) hx hb dX10_isOver_12 (by decide) ?_
    refine lv_goto (tgt := 17) hx hb dX10_isOver_13 (by decide) ?_
    exact W.zret (v := 1) hx hb hr rfl (fun t ht hW => ⟨⟨1, (), rfl, (Or.inl rfl), trivial⟩, hS.F ht⟩) hS.2.2 dX10_isOver_17

set_option maxHeartbeats 4000000 in
set_option maxRecDepth 100000 in
theorem c_X10_isSlot (l : Launch) (D : va_G) (T : Nat → ClassId) (im kp ma rd sl sl0 sl1 sl2 sl3 st th tp tu wn wr x0 : Nat) (i1 : Int32) : Met l yX10_isSlot (wM yX10_isSlot cX10_isSlot 2 (some .boolean)) ({ frames := 0, cells := 0, slots := 0, locals := 0 }) (va_Pc [.ref x0, .int i1] (pwP D T [(x0, .inr (10, [.ref tp, .ref rd, .ref st, .ref th, .ref im, .ref kp, .ref sl, .ref tu, .ref wn, .ref ma, .ref wr])), (sl, .inl (T 4, 4, .inr (.inr (.inr (.inr (va_up (va_up (va_up (va_up (fun _ => none) 0 (some sl0)) 1 (some sl1)) 2 (some sl2)) 3 (some sl3)))))))])) (va_Qi (fun (r : Int32) (u : Unit) => (r = 1 ∧ 0 ≤ i1.toInt ∧ i1.toInt ≤ 3) ∨ (r = 0)) (fun _ _ => True) (fun _ => False)) 0 0 (fun _ => False) := by
  refine Met.ofW (cc := cX10_isSlot) (maxL := 2) (ret := (some .boolean)) (by decide) rfl ?_
  intro p e s m args below meth c s₁ B hml hv
  obtain ⟨rfl, hP, hC⟩ := hv
  have hx := B.exec
  have hb := B.bytes
  have hr := B.returns
  have hts : ∀ w ∈ gt, w.before _ s = true := fun w hw => atoms_spec (ws := (wM yX10_isSlot cX10_isSlot 2 (some .boolean))) B.pre w (List.mem_cons_of_mem _ hw)
  have hown : s.vm.findClass RX10 = some m.cls := findClass_of_methodNamed B.named
  have hlocks := B.notSynchronized
  have hK := hC.1
  have hS : va_S (fun _ => False) s.heap s.heap [] := va_S.rf
  have hl := lv_entry ([.ref x0, .int i1]) (n := 2) (Nat.le_of_ble_eq_true rfl)
  rw [lg_entry_eq]
  generalize (lg_sl ([.ref x0, .int i1]) ++ List.replicate (2 - (lg_sl ([.ref x0, .int i1])).length) Slot.unset).toArray = ls at hl ⊢
  have hl : lv_has ls 2 [(0, .ref x0), (1, .int i1)] := hl
  refine lv_iload_n hx hb dX10_isSlot_0 rfl (lv_at hl 1 rfl) ?_
  refine lv_if_lt (tgt := 17) hx hb dX10_isSlot_1 (by decide) (fun c_1 => ?_) (fun c_1 => ?_)
  · have c_1 : i1.toInt < 0 := (c_lt (x := i1.toInt) (y := 0) rfl rfl).mp c_1
    refine lv_iconst (v := 0) hx hb dX10_isSlot_17 (by decide) ?_
    exact W.zret (v := 0) hx hb hr rfl (fun t ht hW => ⟨⟨0, (), rfl, (Or.inr rfl), trivial⟩, hS.F ht⟩) hS.2.2 dX10_isSlot_18
  · have c_1 : 0 ≤ i1.toInt := by have h := mt (c_lt (x := i1.toInt) (y := 0) rfl rfl).mpr c_1; omega
    refine lv_iload_n hx hb dX10_isSlot_4 rfl (lv_at hl 1 rfl) ?_
    refine lv_aload_n hx hb dX10_isSlot_5 rfl (lv_at hl 0 rfl) ?_
    refine va_get (D := D) (ci := 10) (C := RX10) (T := TX10) (N := 11) hx hb hts iX10 hown hK hP 0 rfl rfl 6 (by decide) (hts _ m531) (fun _ h9 => h9) rfl dX10_isSlot_6 ?_
    refine va_alen (D := D) hx hb hK hP 1 4 rfl rfl (v := 4) rfl dX10_isSlot_9 ?_
    refine lv_icmp_ge (tgt := 17) hx hb dX10_isSlot_10 (by decide) (fun c_2 => ?_) (fun c_2 => ?_)
    · have c_2 : 4 ≤ i1.toInt := (c_le (x := 4) (y := i1.toInt) rfl rfl).mp c_2
      refine lv_iconst (v := 0) hx hb dX10_isSlot_17 (by decide) ?_
      exact W.zret (v := 0) hx hb hr rfl (fun t ht hW => ⟨⟨0, (), rfl, (Or.inr rfl), trivial⟩, hS.F ht⟩) hS.2.2 dX10_isSlot_18
    · have c_2 : i1.toInt < 4 := by have h := mt (c_le (x := 4) (y := i1.toInt) rfl rfl).mpr c_2; omega
      refine lv_iconst (v := 1) hx hb dX10_isSlot_13 (by decide) ?_
      refine lv_goto (tgt := 18) hx hb dX10_isSlot_14 (by decide) ?_
      exact W.zret (v := 1) hx hb hr rfl (fun t ht hW => ⟨⟨1, (), rfl, (Or.inl (⟨rfl, (show 0 ≤ i1.toInt by omega), (show i1.toInt ≤ 3 by omega)⟩)), trivial⟩, hS.F ht⟩) hS.2.2 dX10_isSlot_18

set_option maxHeartbeats 4000000 in
set_option maxRecDepth 100000 in
theorem c_X10_isSeed (l : Launch) (D : va_G) (T : Nat → ClassId) (i1 : Int32) : Met l yX10_isSeed (wM yX10_isSeed cX10_isSeed 1 (some .boolean)) ({ frames := 0, cells := 0, slots := 0, locals := 0 }) (va_Pc [.int i1] (pwP D T [])) (va_Qi (fun (r : Int32) (u : Unit) => (r = 1) ∨ (r = 0)) (fun _ _ => True) (fun _ => False)) 0 0 (fun _ => False) := by
  refine Met.ofW (cc := cX10_isSeed) (maxL := 1) (ret := (some .boolean)) (by decide) rfl ?_
  intro p e s m args below meth c s₁ B hml hv
  obtain ⟨rfl, hP, hC⟩ := hv
  have hx := B.exec
  have hb := B.bytes
  have hr := B.returns
  have hts : ∀ w ∈ gt, w.before _ s = true := fun w hw => atoms_spec (ws := (wM yX10_isSeed cX10_isSeed 1 (some .boolean))) B.pre w (List.mem_cons_of_mem _ hw)
  have hown : s.vm.findClass RX10 = some m.cls := findClass_of_methodNamed B.named
  have hlocks := B.notSynchronized
  have hK := hC.1
  have hS : va_S (fun _ => False) s.heap s.heap [] := va_S.rf
  have hl := lv_entry ([.int i1]) (n := 1) (Nat.le_of_ble_eq_true rfl)
  rw [lg_entry_eq]
  generalize (lg_sl ([.int i1]) ++ List.replicate (1 - (lg_sl ([.int i1])).length) Slot.unset).toArray = ls at hl ⊢
  have hl : lv_has ls 1 [(0, .int i1)] := hl
  refine lv_iload_n hx hb dX10_isSeed_0 rfl (lv_at hl 0 rfl) ?_
  refine lv_if_lt (tgt := 15) hx hb dX10_isSeed_1 (by decide) (fun c_1 => ?_) (fun c_1 => ?_)
  · have c_1 : i1.toInt < 0 := (c_lt (x := i1.toInt) (y := 0) rfl rfl).mp c_1
    refine lv_iconst (v := 0) hx hb dX10_isSeed_15 (by decide) ?_
    exact W.zret (v := 0) hx hb hr rfl (fun t ht hW => ⟨⟨0, (), rfl, (Or.inr rfl), trivial⟩, hS.F ht⟩) hS.2.2 dX10_isSeed_16
  · have c_1 : 0 ≤ i1.toInt := by have h := mt (c_lt (x := i1.toInt) (y := 0) rfl rfl).mpr c_1; omega
    refine lv_iload_n hx hb dX10_isSeed_4 rfl (lv_at hl 0 rfl) ?_
    refine lv_ldcw (v := 2000000000) hx hb hown (hts _ m1194) dX10_isSeed_5 ?_
    refine lv_icmp_gt (tgt := 15) hx hb dX10_isSeed_8 (by decide) (fun c_2 => ?_) (fun c_2 => ?_)
    · have c_2 : 2000000000 < i1.toInt := (c_lt (x := 2000000000) (y := i1.toInt) rfl rfl).mp c_2
      refine lv_iconst (v := 0) hx hb dX10_isSeed_15 (by decide) ?_
      exact W.zret (v := 0) hx hb hr rfl (fun t ht hW => ⟨⟨0, (), rfl, (Or.inr rfl), trivial⟩, hS.F ht⟩) hS.2.2 dX10_isSeed_16
    · have c_2 : i1.toInt ≤ 2000000000 := by have h := mt (c_lt (x := 2000000000) (y := i1.toInt) rfl rfl).mpr c_2; omega
      refine lv_iconst (v := 1) hx hb dX10_isSeed_11 (by decide) ?_
      refine lv_goto (tgt := 16) hx hb dX10_isSeed_12 (by decide) ?_
      exact W.zret (v := 1) hx hb hr rfl (fun t ht hW => ⟨⟨1, (), rfl, (Or.inl rfl), trivial⟩, hS.F ht⟩) hS.2.2 dX10_isSeed_16

set_option maxHeartbeats 4000000 in
set_option maxRecDepth 100000 in
theorem c_X10_may (l : Launch) (D : va_G) (T : Nat → ClassId) (b0 b1 b2 b3 b4 b5 b6 b7 b8 b9 bl e0 e1 e2 e3 e4 e5 e6 e7 im kp ma rd sl st sw th tp tu tw wa wn wr x0 : Nat) (i1 i2 i3 s2 s3 s4 s6 t0 t1 t2 t3 t4 t5 t6 t7 t8 : Int32) (s5 : Int64) (f0 p0 p7 : Nat → Int32) (h_t1 : 0 ≤ t1.toInt ∧ t1.toInt ≤ 8) (h_t2 : 0 ≤ t2.toInt ∧ t2.toInt ≤ 12) (h_t4 : 0 ≤ t4.toInt ∧ t4.toInt ≤ 5) (h_t5 : 0 ≤ t5.toInt ∧ t5.toInt ≤ 10) (h_s2 : 0 ≤ s2.toInt ∧ s2.toInt ≤ 100) (R_p0 : rg 0 12 p0) : Met l yX10_may (wM yX10_may cX10_may 4 (some .int)) ({ frames := 3, cells := 0, slots := 0, locals := 63 }) (va_Pc [.ref x0, .int i1, .int i2, .int i3] (pwP D T [(x0, .inr (10, [.ref tp, .ref rd, .ref st, .ref th, .ref im, .ref kp, .ref sl, .ref tu, .ref wn, .ref ma, .ref wr])), (st, .inr (3, [.ref tw, .ref wa, .int s2, .int s3, .int s4, .long s5, .int s6, .ref sw, .ref bl])), (tw, .inr (5, [.int t0, .int t1, .int t2, .int t3, .int t4, .int t5, .int t6, .int t7, .int t8, .ref b0, .ref b1, .ref b2, .ref b3, .ref b4, .ref b5, .ref b6, .ref b7, .ref b8, .ref b9])), (b0, .inl (T 0, 5, .inl f0)), (wa, .inr (7, [.ref tw, .ref e0, .ref e1, .ref e2, .ref e3, .ref e4, .ref e5, .ref e6, .ref e7])), (e0, .inl (T 0, 16, .inl p0)), (e7, .inl (T 0, 208, .inl p7))])) (va_Qi (fun (r : Int32) (u : Unit) => True) (fun _ _ => True) (fun _ => False)) 0 0 (fun _ => False) := by
  refine Met.ofW (cc := cX10_may) (maxL := 4) (ret := (some .int)) (by decide) rfl ?_
  intro p e s m args below meth c s₁ B hml hv
  obtain ⟨rfl, hP, hC⟩ := hv
  have hx := B.exec
  have hb := B.bytes
  have hr := B.returns
  have hts : ∀ w ∈ gt, w.before _ s = true := fun w hw => atoms_spec (ws := (wM yX10_may cX10_may 4 (some .int))) B.pre w (List.mem_cons_of_mem _ hw)
  have hown : s.vm.findClass RX10 = some m.cls := findClass_of_methodNamed B.named
  have hlocks := B.notSynchronized
  have hK := hC.1
  have hS : va_S (fun _ => False) s.heap s.heap [] := va_S.rf
  have hl := lv_entry ([.ref x0, .int i1, .int i2, .int i3]) (n := 4) (Nat.le_of_ble_eq_true rfl)
  rw [lg_entry_eq]
  generalize (lg_sl ([.ref x0, .int i1, .int i2, .int i3]) ++ List.replicate (4 - (lg_sl ([.ref x0, .int i1, .int i2, .int i3])).length) Slot.unset).toArray = ls at hl ⊢
  have hl : lv_has ls 4 [(0, .ref x0), (1, .int i1), (2, .int i2), (3, .int i3)] := hl
  refine lv_aload_n hx hb dX10_may_0 rfl (lv_at hl 0 rfl) ?_
  refine lv_iload_n hx hb dX10_may_1 rfl (lv_at hl 1 rfl) ?_
  refine lv_iload_n hx hb dX10_may_2 rfl (lv_at hl 2 rfl) ?_
  refine puI (cV (As := [.int i1, .int i2]) (rest := []) ⟨hx, hb, hml, hown, hts⟩ (c_X10_hasColumn l D T b0 b1 b2 b3 b4 b5 b6 b7 b8 b9 bl im kp ma rd sl st sw th tp tu tw wa wn wr x0 i1 i2 s2 s3 s4 s6 t0 t1 t2 t3 t4 t5 t6 t7 t8 s5 ⟨by omega, by omega⟩ ⟨by omega, by omega⟩ ⟨by omega, by omega⟩ ⟨by omega, by omega⟩ ⟨by omega, by omega⟩) k_X10_hasColumn v_X10_hasColumn m752 rfl rfl ⟨(Nat.le_of_ble_eq_true rfl), (Nat.le_of_ble_eq_true rfl)⟩ (preP hC (hP.sub (ws' := [(x0, .inr (10, [.ref tp, .ref rd, .ref st, .ref th, .ref im, .ref kp, .ref sl, .ref tu, .ref wn, .ref ma, .ref wr])), (st, .inr (3, [.ref tw, .ref wa, .int s2, .int s3, .int s4, .long s5, .int s6, .ref sw, .ref bl])), (tw, .inr (5, [.int t0, .int t1, .int t2, .int t3, .int t4, .int t5, .int t6, .int t7, .int t8, .ref b0, .ref b1, .ref b2, .ref b3, .ref b4, .ref b5, .ref b6, .ref b7, .ref b8, .ref b9]))]) [0, 1, 2] rfl)) (va_recv hK hP (ci := 10) (q0 := 0) rfl rfl) rfl hl.1 rfl (Nat.le_of_ble_eq_true rfl) dX10_may_3 ⟨(Nat.le_of_ble_eq_true rfl), (Nat.le_of_ble_eq_true rfl)⟩) hS hP (fun r_1 H locs hw hP hS => ?_)
  have w_3 : (r_1 = 1 ∧ 0 ≤ i1.toInt ∧ i1.toInt ≤ 1 ∧ 0 ≤ i2.toInt ∧ i2.toInt < t1.toInt) ∨ (r_1 = 0) := hw
  rcases w_3 with ⟨rfl, c_4, c_5, c_6, c_7⟩ | rfl
  · refine lv_if_eq (tgt := 17) hx hb dX10_may_6 (by decide) (fun c_8 => absurd c_8 (by decide)) (fun _ => ?_)
    refine lv_aload_n hx hb dX10_may_9 rfl (lv_at hl 0 rfl) ?_
    refine lv_iload_n hx hb dX10_may_10 rfl (lv_at hl 3 rfl) ?_
    refine puI (cV (As := [.int i3]) (rest := []) ⟨hx, hb, hml, hown, hts⟩ (c_X10_hasSort l D T b0 b1 b2 b3 b4 b5 b6 b7 b8 b9 bl im kp ma rd sl st sw th tp tu tw wa wn wr x0 i3 s2 s3 s4 s6 t0 t1 t2 t3 t4 t5 t6 t7 t8 s5 ⟨by omega, by omega⟩ ⟨by omega, by omega⟩ ⟨by omega, by omega⟩ ⟨by omega, by omega⟩ ⟨by omega, by omega⟩) k_X10_hasSort v_X10_hasSort m764 rfl rfl ⟨(Nat.le_of_ble_eq_true rfl), (Nat.le_of_ble_eq_true rfl)⟩ (preP hC (hP.sub (ws' := [(x0, .inr (10, [.ref tp, .ref rd, .ref st, .ref th, .ref im, .ref kp, .ref sl, .ref tu, .ref wn, .ref ma, .ref wr])), (st, .inr (3, [.ref tw, .ref wa, .int s2, .int s3, .int s4, .long s5, .int s6, .ref sw, .ref bl])), (tw, .inr (5, [.int t0, .int t1, .int t2, .int t3, .int t4, .int t5, .int t6, .int t7, .int t8, .ref b0, .ref b1, .ref b2, .ref b3, .ref b4, .ref b5, .ref b6, .ref b7, .ref b8, .ref b9]))]) [0, 1, 2] rfl)) (va_recv hK hP (ci := 10) (q0 := 0) rfl rfl) rfl hl.1 rfl (Nat.le_of_ble_eq_true rfl) dX10_may_11 ⟨(Nat.le_of_ble_eq_true rfl), (Nat.le_of_ble_eq_true rfl)⟩) hS hP (fun r_9 H locs hw hP hS => ?_)
    have w_11 : (r_9 = 1 ∧ 0 ≤ i3.toInt ∧ i3.toInt < t4.toInt) ∨ (r_9 = 0) := hw
    rcases w_11 with ⟨rfl, c_12, c_13⟩ | rfl
    · refine lv_if_ne (tgt := 20) hx hb dX10_may_14 (by decide) (fun _ => ?_) (fun c_14 => absurd c_14 (by decide))
      refine lv_aload_n hx hb dX10_may_20 rfl (lv_at hl 0 rfl) ?_
      refine va_get (D := D) (ci := 10) (C := RX10) (T := TX10) (N := 11) hx hb hts iX10 hown hK hP 0 rfl rfl 2 (by decide) (hts _ m527) (fun _ h9 => h9) rfl dX10_may_21 ?_
      refine va_get (D := D) (ci := 3) (C := RX3) (T := TX3) (N := 9) hx hb hts iX3 hown hK hP 1 rfl rfl 1 (by decide) (hts _ m377) (fun _ h9 => h9) rfl dX10_may_24 ?_
      refine lv_iload_n hx hb dX10_may_27 rfl (lv_at hl 1 rfl) ?_
      refine lv_iload_n hx hb dX10_may_28 rfl (lv_at hl 2 rfl) ?_
      refine puI (cS (As := [.int i1, .int i2]) (rest := [.ref wa]) ⟨hx, hb, hml, hown, hts⟩ (c_X10_placeOf l D T i1 i2 ⟨by omega, by omega⟩ ⟨by omega, by omega⟩) k_X10_placeOf m769 m768 rfl rfl ⟨(Nat.le_of_ble_eq_true rfl), (Nat.le_of_ble_eq_true rfl)⟩ (preP hC (hP.sub (ws' := []) [] rfl)) rfl hl.1 rfl (Nat.le_of_ble_eq_true rfl) dX10_may_29 ⟨(Nat.le_of_ble_eq_true rfl), (Nat.le_of_ble_eq_true rfl)⟩) hS hP (fun r_15 H locs hw hP hS => ?_)
      have w_17 : (r_15.toInt = 8 * i1.toInt + i2.toInt) := hw
      obtain c_18 := w_17
      refine lv_aload_n hx hb dX10_may_32 rfl (lv_at hl 0 rfl) ?_
      refine va_get (D := D) (ci := 10) (C := RX10) (T := TX10) (N := 11) hx hb hts iX10 hown hK hP 0 rfl rfl 2 (by decide) (hts _ m527) (fun _ h9 => h9) rfl dX10_may_33 ?_
      refine va_get (D := D) (ci := 3) (C := RX3) (T := TX3) (N := 9) hx hb hts iX3 hown hK hP 1 rfl rfl 0 (by decide) (hts _ m371) (fun _ h9 => h9) rfl dX10_may_36 ?_
      refine va_get (D := D) (ci := 5) (C := RX5) (T := TX5) (N := 19) hx hb hts iX5 hown hK hP 2 rfl rfl 9 (by decide) (hts _ m207) (fun _ h9 => h9) rfl dX10_may_39 ?_
      refine lv_iload_n hx hb dX10_may_42 rfl (lv_at hl 3 rfl) ?_
      refine va_iald (D := D) hx hb hK hP 3 0 rfl rfl (v_in (x := i3.toInt) rfl (by omega) (by omega)) dX10_may_43 ?_
      refine lv_topi (fun x_19 ex_19 => ?_)
      refine puI (cV (As := [.int r_15, .int x_19]) (rest := []) ⟨hx, hb, hml, hown, hts⟩ (c_X7_fits l D T b0 b1 b2 b3 b4 b5 b6 b7 b8 b9 e0 e1 e2 e3 e4 e5 e6 e7 wa tw r_15 x_19 t0 t1 t2 t3 t4 t5 t6 t7 t8 p0 p7 ⟨by omega, by omega⟩ ⟨by omega, by omega⟩ ⟨by omega, by omega⟩ ⟨by omega, by omega⟩ ⟨by omega, by omega⟩ R_p0) k_X7_fits v_X7_fits m771 rfl rfl ⟨(Nat.le_of_ble_eq_true rfl), (Nat.le_of_ble_eq_true rfl)⟩ (preP hC (hP.sub (ws' := [(wa, .inr (7, [.ref tw, .ref e0, .ref e1, .ref e2, .ref e3, .ref e4, .ref e5, .ref e6, .ref e7])), (e0, .inl (T 0, 16, .inl p0)), (e7, .inl (T 0, 208, .inl p7)), (tw, .inr (5, [.int t0, .int t1, .int t2, .int t3, .int t4, .int t5, .int t6, .int t7, .int t8, .ref b0, .ref b1, .ref b2, .ref b3, .ref b4, .ref b5, .ref b6, .ref b7, .ref b8, .ref b9]))]) [4, 5, 6, 2] rfl)) (va_recv hK hP (ci := 7) (q0 := 4) rfl rfl) rfl hl.1 rfl (Nat.le_of_ble_eq_true rfl) dX10_may_44 ⟨(Nat.le_of_ble_eq_true rfl), (Nat.le_of_ble_eq_true rfl)⟩) hS hP (fun r_20 H locs hw hP hS => ?_)
      have w_22 : (r_20 = 1 ∧ (p0 r_15.toNatClampNeg).toInt < t2.toInt) ∨ (r_20 = 0) := hw
      rcases w_22 with ⟨rfl, c_23⟩ | rfl
      · refine lv_if_eq (tgt := 54) hx hb dX10_may_47 (by decide) (fun c_24 => absurd c_24 (by decide)) (fun _ => ?_)
        refine lv_iconst (v := 1) hx hb dX10_may_50 (by decide) ?_
        refine lv_goto (tgt := 55) hx hb dX10_may_51 (by decide) ?_
        exact W.iret (v := 1) hx hb hr (fun t ht hW => ⟨⟨1, (), rfl, trivial, trivial⟩, hS.F ht⟩) hS.2.2 dX10_may_55
      · refine lv_if_eq (tgt := 54) hx hb dX10_may_47 (by decide) (fun _ => ?_) (fun c_25 => absurd (by decide) c_25)
        refine lv_iconst (v := 0) hx hb dX10_may_54 (by decide) ?_
        exact W.iret (v := 0) hx hb hr (fun t ht hW => ⟨⟨0, (), rfl, trivial, trivial⟩, hS.F ht⟩) hS.2.2 dX10_may_55
    · refine lv_if_ne (tgt := 20) hx hb dX10_may_14 (by decide) (fun c_26 => absurd c_26 (by decide)) (fun _ => ?_)
      refine lv_bipush (v := (-2)) hx hb dX10_may_17 (by decide) ?_
      exact W.iret (v := (-2)) hx hb hr (fun t ht hW => ⟨⟨(-2), (), rfl, trivial, trivial⟩, hS.F ht⟩) hS.2.2 dX10_may_19
  · refine lv_if_eq (tgt := 17) hx hb dX10_may_6 (by decide) (fun _ => ?_) (fun c_27 => absurd (by decide) c_27)
    refine lv_bipush (v := (-2)) hx hb dX10_may_17 (by decide) ?_
    exact W.iret (v := (-2)) hx hb hr (fun t ht hW => ⟨⟨(-2), (), rfl, trivial, trivial⟩, hS.F ht⟩) hS.2.2 dX10_may_19

set_option maxHeartbeats 4000000 in
set_option maxRecDepth 100000 in
theorem c_X10_stone (l : Launch) (D : va_G) (T : Nat → ClassId) (b0 b1 b2 b3 b4 b5 b6 b7 b8 b9 bl e0 e1 e2 e3 e4 e5 e6 e7 im kp ma rd sl st sw th tp tu tw wa wn wr x0 : Nat) (i1 i2 i3 i4 s2 s3 s4 s6 t0 t1 t2 t3 t4 t5 t6 t7 t8 : Int32) (s5 : Int64) (f0 p0 p2 p3 p4 : Nat → Int32) (h_t1 : 0 ≤ t1.toInt ∧ t1.toInt ≤ 8) (h_t2 : 0 ≤ t2.toInt ∧ t2.toInt ≤ 12) (h_t4 : 0 ≤ t4.toInt ∧ t4.toInt ≤ 5) (h_t5 : 0 ≤ t5.toInt ∧ t5.toInt ≤ 10) (h_s2 : 0 ≤ s2.toInt ∧ s2.toInt ≤ 100) (R_p0 : rg 0 12 p0) (R_p2 : rg 0 4 p2) : Met l yX10_stone (wM yX10_stone cX10_stone 6 (some .int)) ({ frames := 3, cells := 0, slots := 0, locals := 67 }) (va_Pc [.ref x0, .int i1, .int i2, .int i3, .int i4] (pwP D T [(x0, .inr (10, [.ref tp, .ref rd, .ref st, .ref th, .ref im, .ref kp, .ref sl, .ref tu, .ref wn, .ref ma, .ref wr])), (st, .inr (3, [.ref tw, .ref wa, .int s2, .int s3, .int s4, .long s5, .int s6, .ref sw, .ref bl])), (tw, .inr (5, [.int t0, .int t1, .int t2, .int t3, .int t4, .int t5, .int t6, .int t7, .int t8, .ref b0, .ref b1, .ref b2, .ref b3, .ref b4, .ref b5, .ref b6, .ref b7, .ref b8, .ref b9])), (b0, .inl (T 0, 5, .inl f0)), (wa, .inr (7, [.ref tw, .ref e0, .ref e1, .ref e2, .ref e3, .ref e4, .ref e5, .ref e6, .ref e7])), (e0, .inl (T 0, 16, .inl p0)), (e2, .inl (T 0, 192, .inl p2)), (e3, .inl (T 0, 192, .inl p3)), (e4, .inl (T 0, 192, .inl p4))])) (va_Qi (fun (r : Int32) (u : Unit) => True) (fun _ _ => True) (fun _ => False)) 0 0 (fun _ => False) := by
  refine Met.ofW (cc := cX10_stone) (maxL := 6) (ret := (some .int)) (by decide) rfl ?_
  intro p e s m args below meth c s₁ B hml hv
  obtain ⟨rfl, hP, hC⟩ := hv
  have hx := B.exec
  have hb := B.bytes
  have hr := B.returns
  have hts : ∀ w ∈ gt, w.before _ s = true := fun w hw => atoms_spec (ws := (wM yX10_stone cX10_stone 6 (some .int))) B.pre w (List.mem_cons_of_mem _ hw)
  have hown : s.vm.findClass RX10 = some m.cls := findClass_of_methodNamed B.named
  have hlocks := B.notSynchronized
  have hK := hC.1
  have hS : va_S (fun _ => False) s.heap s.heap [] := va_S.rf
  have hl := lv_entry ([.ref x0, .int i1, .int i2, .int i3, .int i4]) (n := 6) (Nat.le_of_ble_eq_true rfl)
  rw [lg_entry_eq]
  generalize (lg_sl ([.ref x0, .int i1, .int i2, .int i3, .int i4]) ++ List.replicate (6 - (lg_sl ([.ref x0, .int i1, .int i2, .int i3, .int i4])).length) Slot.unset).toArray = ls at hl ⊢
  have hl : lv_has ls 6 [(0, .ref x0), (1, .int i1), (2, .int i2), (3, .int i3), (4, .int i4)] := hl
  refine lv_aload_n hx hb dX10_stone_0 rfl (lv_at hl 0 rfl) ?_
  refine lv_iload_n hx hb dX10_stone_1 rfl (lv_at hl 1 rfl) ?_
  refine lv_iload_n hx hb dX10_stone_2 rfl (lv_at hl 2 rfl) ?_
  refine puI (cV (As := [.int i1, .int i2]) (rest := []) ⟨hx, hb, hml, hown, hts⟩ (c_X10_hasColumn l D T b0 b1 b2 b3 b4 b5 b6 b7 b8 b9 bl im kp ma rd sl st sw th tp tu tw wa wn wr x0 i1 i2 s2 s3 s4 s6 t0 t1 t2 t3 t4 t5 t6 t7 t8 s5 ⟨by omega, by omega⟩ ⟨by omega, by omega⟩ ⟨by omega, by omega⟩ ⟨by omega, by omega⟩ ⟨by omega, by omega⟩) k_X10_hasColumn v_X10_hasColumn m752 rfl rfl ⟨(Nat.le_of_ble_eq_true rfl), (Nat.le_of_ble_eq_true rfl)⟩ (preP hC (hP.sub (ws' := [(x0, .inr (10, [.ref tp, .ref rd, .ref st, .ref th, .ref im, .ref kp, .ref sl, .ref tu, .ref wn, .ref ma, .ref wr])), (st, .inr (3, [.ref tw, .ref wa, .int s2, .int s3, .int s4, .long s5, .int s6, .ref sw, .ref bl])), (tw, .inr (5, [.int t0, .int t1, .int t2, .int t3, .int t4, .int t5, .int t6, .int t7, .int t8, .ref b0, .ref b1, .ref b2, .ref b3, .ref b4, .ref b5, .ref b6, .ref b7, .ref b8, .ref b9]))]) [0, 1, 2] rfl)) (va_recv hK hP (ci := 10) (q0 := 0) rfl rfl) rfl hl.1 rfl (Nat.le_of_ble_eq_true rfl) dX10_stone_3 ⟨(Nat.le_of_ble_eq_true rfl), (Nat.le_of_ble_eq_true rfl)⟩) hS hP (fun r_1 H locs hw hP hS => ?_)
  have w_3 : (r_1 = 1 ∧ 0 ≤ i1.toInt ∧ i1.toInt ≤ 1 ∧ 0 ≤ i2.toInt ∧ i2.toInt < t1.toInt) ∨ (r_1 = 0) := hw
  rcases w_3 with ⟨rfl, c_4, c_5, c_6, c_7⟩ | rfl
  · refine lv_if_eq (tgt := 20) hx hb dX10_stone_6 (by decide) (fun c_8 => absurd c_8 (by decide)) (fun _ => ?_)
    refine lv_iload hx hb dX10_stone_9 (lv_at hl 4 rfl) ?_
    refine lv_if_lt (tgt := 20) hx hb dX10_stone_11 (by decide) (fun c_9 => ?_) (fun c_9 => ?_)
    · have c_9 : i4.toInt < 0 := (c_lt (x := i4.toInt) (y := 0) rfl rfl).mp c_9
      refine lv_bipush (v := (-2)) hx hb dX10_stone_20 (by decide) ?_
      exact W.iret (v := (-2)) hx hb hr (fun t ht hW => ⟨⟨(-2), (), rfl, trivial, trivial⟩, hS.F ht⟩) hS.2.2 dX10_stone_22
    · have c_9 : 0 ≤ i4.toInt := by have h := mt (c_lt (x := i4.toInt) (y := 0) rfl rfl).mpr c_9; omega
      refine lv_iload hx hb dX10_stone_14 (lv_at hl 4 rfl) ?_
      refine lv_iconst (v := 3) hx hb dX10_stone_16 (by decide) ?_
      refine lv_icmp_le (tgt := 23) hx hb dX10_stone_17 (by decide) (fun c_10 => ?_) (fun c_10 => ?_)
      · have c_10 : i4.toInt ≤ 3 := (c_le (x := i4.toInt) (y := 3) rfl rfl).mp c_10
        refine lv_iload_n hx hb dX10_stone_23 rfl (lv_at hl 1 rfl) ?_
        refine lv_iload_n hx hb dX10_stone_24 rfl (lv_at hl 2 rfl) ?_
        refine puI (cS (As := [.int i1, .int i2]) (rest := []) ⟨hx, hb, hml, hown, hts⟩ (c_X10_placeOf l D T i1 i2 ⟨by omega, by omega⟩ ⟨by omega, by omega⟩) k_X10_placeOf m769 m768 rfl rfl ⟨(Nat.le_of_ble_eq_true rfl), (Nat.le_of_ble_eq_true rfl)⟩ (preP hC (hP.sub (ws' := []) [] rfl)) rfl hl.1 rfl (Nat.le_of_ble_eq_true rfl) dX10_stone_25 ⟨(Nat.le_of_ble_eq_true rfl), (Nat.le_of_ble_eq_true rfl)⟩) hS hP (fun r_11 H locs hw hP hS => ?_)
        have w_13 : (r_11.toInt = 8 * i1.toInt + i2.toInt) := hw
        obtain c_14 := w_13
        refine lv_istore (lv' := [(5, .int r_11), (0, .ref x0), (1, .int i1), (2, .int i2), (3, .int i3), (4, .int i4)]) hx hb dX10_stone_28 hl (by decide) rfl (fun ls hl => ?_)
        refine lv_iload_n hx hb dX10_stone_30 rfl (lv_at hl 4 rfl) ?_
        refine lv_if_lt (tgt := 51) hx hb dX10_stone_31 (by decide) (fun c_15 => ?_) (fun c_15 => ?_)
        · have c_15 : i3.toInt < 0 := (c_lt (x := i3.toInt) (y := 0) rfl rfl).mp c_15
          refine lv_iconst (v := (-1)) hx hb dX10_stone_51 (by decide) ?_
          exact W.iret (v := (-1)) hx hb hr (fun t ht hW => ⟨⟨(-1), (), rfl, trivial, trivial⟩, hS.F ht⟩) hS.2.2 dX10_stone_52
        · have c_15 : 0 ≤ i3.toInt := by have h := mt (c_lt (x := i3.toInt) (y := 0) rfl rfl).mpr c_15; omega
          refine lv_iload_n hx hb dX10_stone_34 rfl (lv_at hl 4 rfl) ?_
          refine lv_aload_n hx hb dX10_stone_35 rfl (lv_at hl 1 rfl) ?_
          refine va_get (D := D) (ci := 10) (C := RX10) (T := TX10) (N := 11) hx hb hts iX10 hown hK hP 0 rfl rfl 2 (by decide) (hts _ m527) (fun _ h9 => h9) rfl dX10_stone_36 ?_
          refine va_get (D := D) (ci := 3) (C := RX3) (T := TX3) (N := 9) hx hb hts iX3 hown hK hP 1 rfl rfl 1 (by decide) (hts _ m377) (fun _ h9 => h9) rfl dX10_stone_39 ?_
          refine va_get (D := D) (ci := 7) (C := RX7) (T := TX7) (N := 9) hx hb hts iX7 hown hK hP 4 rfl rfl 1 (by decide) (hts _ m328) (fun _ h9 => h9) rfl dX10_stone_42 ?_
          refine lv_iload hx hb dX10_stone_45 (lv_at hl 0 rfl) ?_
          refine va_iald (D := D) hx hb hK hP 5 0 rfl rfl (v_in (x := r_11.toInt) rfl (by omega) (by omega)) dX10_stone_47 ?_
          refine lv_topi (fun x_16 ex_16 => ?_)
          have tx_16 : 0 ≤ x_16.toInt ∧ x_16.toInt ≤ 12 := rg_at R_p0 ex_16
          have qx_16 : x_16.toInt = (p0 r_11.toNatClampNeg).toInt := by rw [ex_16]
          refine lv_icmp_lt (tgt := 53) hx hb dX10_stone_48 (by decide) (fun c_17 => ?_) (fun c_17 => ?_)
          · have c_17 : i3.toInt < x_16.toInt := (c_lt (x := i3.toInt) (y := x_16.toInt) rfl rfl).mp c_17
            refine lv_iload hx hb dX10_stone_53 (lv_at hl 5 rfl) ?_
            rcases (show (i4.toInt = 0) ∨ (i4.toInt = 1) ∨ (i4.toInt = 2) ∨ (¬ i4.toInt = 0 ∧ ¬ i4.toInt = 1 ∧ ¬ i4.toInt = 2) by omega) with c_18 | c_18 | c_18 | c_18
            · refine lv_tableIn (off := 25) (tgt := 80) hx hb dX10_stone_55 (by omega) (by omega) (by rw [c_18]; decide) (by decide) ?_
              refine lv_aload_n hx hb dX10_stone_80 rfl (lv_at hl 1 rfl) ?_
              refine va_get (D := D) (ci := 10) (C := RX10) (T := TX10) (N := 11) hx hb hts iX10 hown hK hP 0 rfl rfl 2 (by decide) (hts _ m527) (fun _ h9 => h9) rfl dX10_stone_81 ?_
              refine va_get (D := D) (ci := 3) (C := RX3) (T := TX3) (N := 9) hx hb hts iX3 hown hK hP 1 rfl rfl 1 (by decide) (hts _ m377) (fun _ h9 => h9) rfl dX10_stone_84 ?_
              refine va_get (D := D) (ci := 7) (C := RX7) (T := TX7) (N := 9) hx hb hts iX7 hown hK hP 4 rfl rfl 3 (by decide) (hts _ m335) (fun _ h9 => h9) rfl dX10_stone_87 ?_
              refine lv_iload hx hb dX10_stone_90 (lv_at hl 0 rfl) ?_
              refine lv_iload_n hx hb dX10_stone_92 rfl (lv_at hl 4 rfl) ?_
              refine puI (cS (As := [.int r_11, .int i3]) (rest := [.ref e2]) ⟨hx, hb, hml, hown, hts⟩ (c_X10_indexOf l D T r_11 i3 ⟨by omega, by omega⟩ ⟨by omega, by omega⟩) k_X10_indexOf m784 m803 rfl rfl ⟨(Nat.le_of_ble_eq_true rfl), (Nat.le_of_ble_eq_true rfl)⟩ (preP hC (hP.sub (ws' := []) [] rfl)) rfl hl.1 rfl (Nat.le_of_ble_eq_true rfl) dX10_stone_93 ⟨(Nat.le_of_ble_eq_true rfl), (Nat.le_of_ble_eq_true rfl)⟩) hS hP (fun r_19 H locs hw hP hS => ?_)
              have w_21 : (r_19.toInt = 12 * r_11.toInt + i3.toInt) := hw
              obtain c_22 := w_21
              refine va_iald (D := D) hx hb hK hP 6 0 rfl rfl (v_in (x := r_19.toInt) rfl (by omega) (by omega)) dX10_stone_96 ?_
              refine lv_topi (fun x_23 ex_23 => ?_)
              have tx_23 : 0 ≤ x_23.toInt ∧ x_23.toInt ≤ 4 := rg_at R_p2 ex_23
              exact W.iret (v := x_23) hx hb hr (fun t ht hW => ⟨⟨x_23, (), rfl, trivial, trivial⟩, hS.F ht⟩) hS.2.2 dX10_stone_97
            · refine lv_tableIn (off := 43) (tgt := 98) hx hb dX10_stone_55 (by omega) (by omega) (by rw [c_18]; decide) (by decide) ?_
              refine lv_aload_n hx hb dX10_stone_98 rfl (lv_at hl 1 rfl) ?_
              refine va_get (D := D) (ci := 10) (C := RX10) (T := TX10) (N := 11) hx hb hts iX10 hown hK hP 0 rfl rfl 2 (by decide) (hts _ m527) (fun _ h9 => h9) rfl dX10_stone_99 ?_
              refine va_get (D := D) (ci := 3) (C := RX3) (T := TX3) (N := 9) hx hb hts iX3 hown hK hP 1 rfl rfl 1 (by decide) (hts _ m377) (fun _ h9 => h9) rfl dX10_stone_102 ?_
              refine va_get (D := D) (ci := 7) (C := RX7) (T := TX7) (N := 9) hx hb hts iX7 hown hK hP 4 rfl rfl 4 (by decide) (hts _ m337) (fun _ h9 => h9) rfl dX10_stone_105 ?_
              refine lv_iload hx hb dX10_stone_108 (lv_at hl 0 rfl) ?_
              refine lv_iload_n hx hb dX10_stone_110 rfl (lv_at hl 4 rfl) ?_
              refine puI (cS (As := [.int r_11, .int i3]) (rest := [.ref e3]) ⟨hx, hb, hml, hown, hts⟩ (c_X10_indexOf l D T r_11 i3 ⟨by omega, by omega⟩ ⟨by omega, by omega⟩) k_X10_indexOf m784 m803 rfl rfl ⟨(Nat.le_of_ble_eq_true rfl), (Nat.le_of_ble_eq_true rfl)⟩ (preP hC (hP.sub (ws' := []) [] rfl)) rfl hl.1 rfl (Nat.le_of_ble_eq_true rfl) dX10_stone_111 ⟨(Nat.le_of_ble_eq_true rfl), (Nat.le_of_ble_eq_true rfl)⟩) hS hP (fun r_24 H locs hw hP hS => ?_)
              have w_26 : (r_24.toInt = 12 * r_11.toInt + i3.toInt) := hw
              obtain c_27 := w_26
              refine va_iald (D := D) hx hb hK hP 7 0 rfl rfl (v_in (x := r_24.toInt) rfl (by omega) (by omega)) dX10_stone_114 ?_
              refine lv_topi (fun x_28 ex_28 => ?_)
              exact W.iret (v := x_28) hx hb hr (fun t ht hW => ⟨⟨x_28, (), rfl, trivial, trivial⟩, hS.F ht⟩) hS.2.2 dX10_stone_115
            · refine lv_tableIn (off := 61) (tgt := 116) hx hb dX10_stone_55 (by omega) (by omega) (by rw [c_18]; decide) (by decide) ?_
              refine lv_aload_n hx hb dX10_stone_116 rfl (lv_at hl 1 rfl) ?_
              refine va_get (D := D) (ci := 10) (C := RX10) (T := TX10) (N := 11) hx hb hts iX10 hown hK hP 0 rfl rfl 2 (by decide) (hts _ m527) (fun _ h9 => h9) rfl dX10_stone_117 ?_
              refine va_get (D := D) (ci := 3) (C := RX3) (T := TX3) (N := 9) hx hb hts iX3 hown hK hP 1 rfl rfl 1 (by decide) (hts _ m377) (fun _ h9 => h9) rfl dX10_stone_120 ?_
              refine va_get (D := D) (ci := 7) (C := RX7) (T := TX7) (N := 9) hx hb hts iX7 hown hK hP 4 rfl rfl 5 (by decide) (hts _ m339) (fun _ h9 => h9) rfl dX10_stone_123 ?_
              refine lv_iload hx hb dX10_stone_126 (lv_at hl 0 rfl) ?_
              refine lv_iload_n hx hb dX10_stone_128 rfl (lv_at hl 4 rfl) ?_
              refine puI (cS (As := [.int r_11, .int i3]) (rest := [.ref e4]) ⟨hx, hb, hml, hown, hts⟩ (c_X10_indexOf l D T r_11 i3 ⟨by omega, by omega⟩ ⟨by omega, by omega⟩) k_X10_indexOf m784 m803 rfl rfl ⟨(Nat.le_of_ble_eq_true rfl), (Nat.le_of_ble_eq_true rfl)⟩ (preP hC (hP.sub (ws' := []) [] rfl)) rfl hl.1 rfl (Nat.le_of_ble_eq_true rfl) dX10_stone_129 ⟨(Nat.le_of_ble_eq_true rfl), (Nat.le_of_ble_eq_true rfl)⟩) hS hP (fun r_29 H locs hw hP hS => ?_)
              have w_31 : (r_29.toInt = 12 * r_11.toInt + i3.toInt) := hw
              obtain c_32 := w_31
              refine va_iald (D := D) hx hb hK hP 8 0 rfl rfl (v_in (x := r_29.toInt) rfl (by omega) (by omega)) dX10_stone_132 ?_
              refine lv_topi (fun x_33 ex_33 => ?_)
              exact W.iret (v := x_33) hx hb hr (fun t ht hW => ⟨⟨x_33, (), rfl, trivial, trivial⟩, hS.F ht⟩) hS.2.2 dX10_stone_133
            · refine lv_tableOut (tgt := 134) hx hb dX10_stone_55 (by omega) (by decide) ?_
              refine lv_aload_n hx hb dX10_stone_134 rfl (lv_at hl 1 rfl) ?_
              refine va_get (D := D) (ci := 10) (C := RX10) (T := TX10) (N := 11) hx hb hts iX10 hown hK hP 0 rfl rfl 2 (by decide) (hts _ m527) (fun _ h9 => h9) rfl dX10_stone_135 ?_
              refine va_get (D := D) (ci := 3) (C := RX3) (T := TX3) (N := 9) hx hb hts iX3 hown hK hP 1 rfl rfl 1 (by decide) (hts _ m377) (fun _ h9 => h9) rfl dX10_stone_138 ?_
              refine lv_iload hx hb dX10_stone_141 (lv_at hl 0 rfl) ?_
              refine lv_iload_n hx hb dX10_stone_143 rfl (lv_at hl 4 rfl) ?_
              refine lv_iconst (v := 1) hx hb dX10_stone_144 (by decide) ?_
              refine lv_iadd hx hb dX10_stone_145 ?_
              refine lv_topi (fun x_34 ex_34 => ?_)
              have tx_34 : x_34.toInt = i3.toInt + 1 := t_add (x := i3.toInt) (y := 1) ex_34 rfl rfl (by omega) (by omega)
              refine puI (cV (As := [.int r_11, .int x_34]) (rest := []) ⟨hx, hb, hml, hown, hts⟩ (c_X7_weightFrom l D T b0 b1 b2 b3 b4 b5 b6 b7 b8 b9 e0 e1 e2 e3 e4 e5 e6 e7 wa tw r_11 x_34 t0 t1 t2 t3 t4 t5 t6 t7 t8 f0 p0 p2 ⟨by omega, by omega⟩ ⟨by omega, by omega⟩ ⟨by omega, by omega⟩ ⟨by omega, by omega⟩ ⟨by omega, by omega⟩ ⟨by omega, by omega⟩ R_p0 R_p2) k_X7_weightFrom v_X7_weightFrom m804 rfl rfl ⟨(Nat.le_of_ble_eq_true rfl), (Nat.le_of_ble_eq_true rfl)⟩ (preP hC (hP.sub (ws' := [(wa, .inr (7, [.ref tw, .ref e0, .ref e1, .ref e2, .ref e3, .ref e4, .ref e5, .ref e6, .ref e7])), (e0, .inl (T 0, 16, .inl p0)), (e2, .inl (T 0, 192, .inl p2)), (tw, .inr (5, [.int t0, .int t1, .int t2, .int t3, .int t4, .int t5, .int t6, .int t7, .int t8, .ref b0, .ref b1, .ref b2, .ref b3, .ref b4, .ref b5, .ref b6, .ref b7, .ref b8, .ref b9])), (b0, .inl (T 0, 5, .inl f0))]) [4, 5, 6, 2, 3] rfl)) (va_recv hK hP (ci := 7) (q0 := 4) rfl rfl) rfl hl.1 rfl (Nat.le_of_ble_eq_true rfl) dX10_stone_146 ⟨(Nat.le_of_ble_eq_true rfl), (Nat.le_of_ble_eq_true rfl)⟩) hS hP (fun r_35 H locs hw hP hS => ?_)
              exact W.iret (v := r_35) hx hb hr (fun t ht hW => ⟨⟨r_35, (), rfl, trivial, trivial⟩, hS.F ht⟩) hS.2.2 dX10_stone_149
          · have c_17 : x_16.toInt ≤ i3.toInt := by have h := mt (c_lt (x := i3.toInt) (y := x_16.toInt) rfl rfl).mpr c_17; omega
            refine lv_iconst (v := (-1)) hx hb dX10_stone_51 (by decide) ?_
            exact W.iret (v := (-1)) hx hb hr (fun t ht hW => ⟨⟨(-1), (), rfl, trivial, trivial⟩, hS.F ht⟩) hS.2.2 dX10_stone_52
      · have c_10 : 3 < i4.toInt := by have h := mt (c_le (x := i4.toInt) (y := 3) rfl rfl).mpr c_10; omega
        refine lv_bipush (v := (-2)) hx hb dX10_stone_20 (by decide) ?_
        exact W.iret (v := (-2)) hx hb hr (fun t ht hW => ⟨⟨(-2), (), rfl, trivial, trivial⟩, hS.F ht⟩) hS.2.2 dX10_stone_22
  · refine lv_if_eq (tgt := 20) hx hb dX10_stone_6 (by decide) (fun _ => ?_) (fun c_37 => absurd (by decide) c_37)
    refine lv_bipush (v := (-2)) hx hb dX10_stone_20 (by decide) ?_
    exact W.iret (v := (-2)) hx hb hr (fun t ht hW => ⟨⟨(-2), (), rfl, trivial, trivial⟩, hS.F ht⟩) hS.2.2 dX10_stone_22

set_option maxHeartbeats 4000000 in
set_option maxRecDepth 100000 in
theorem c_X10_side (l : Launch) (D : va_G) (T : Nat → ClassId) (b0 b1 b2 b3 b4 b5 b6 b7 b8 b9 bl e0 e1 e2 e3 e4 e5 e6 e7 im kp ma rd sl st sw th tp tu tw wa wn wr x0 : Nat) (i1 i2 s2 s3 s4 s6 t0 t1 t2 t3 t4 t5 t6 t7 t8 : Int32) (s5 : Int64) (p0 p5 p6 : Nat → Int32) (h_t1 : 0 ≤ t1.toInt ∧ t1.toInt ≤ 8) (h_t2 : 0 ≤ t2.toInt ∧ t2.toInt ≤ 12) (h_t4 : 0 ≤ t4.toInt ∧ t4.toInt ≤ 5) (h_t5 : 0 ≤ t5.toInt ∧ t5.toInt ≤ 10) (h_s2 : 0 ≤ s2.toInt ∧ s2.toInt ≤ 100) (R_p0 : rg 0 12 p0) : Met l yX10_side (wM yX10_side cX10_side 3 (some .int)) ({ frames := 3, cells := 0, slots := 0, locals := 66 }) (va_Pc [.ref x0, .int i1, .int i2] (pwP D T [(x0, .inr (10, [.ref tp, .ref rd, .ref st, .ref th, .ref im, .ref kp, .ref sl, .ref tu, .ref wn, .ref ma, .ref wr])), (st, .inr (3, [.ref tw, .ref wa, .int s2, .int s3, .int s4, .long s5, .int s6, .ref sw, .ref bl])), (tw, .inr (5, [.int t0, .int t1, .int t2, .int t3, .int t4, .int t5, .int t6, .int t7, .int t8, .ref b0, .ref b1, .ref b2, .ref b3, .ref b4, .ref b5, .ref b6, .ref b7, .ref b8, .ref b9])), (wa, .inr (7, [.ref tw, .ref e0, .ref e1, .ref e2, .ref e3, .ref e4, .ref e5, .ref e6, .ref e7])), (e0, .inl (T 0, 16, .inl p0)), (e5, .inl (T 0, 2, .inl p5)), (e6, .inl (T 0, 2, .inl p6))])) (va_Qi (fun (r : Int32) (u : Unit) => True) (fun _ _ => True) (fun _ => False)) 0 0 (fun _ => False) := by
  refine Met.ofW (cc := cX10_side) (maxL := 3) (ret := (some .int)) (by decide) rfl ?_
  intro p e s m args below meth c s₁ B hml hv
  obtain ⟨rfl, hP, hC⟩ := hv
  have hx := B.exec
  have hb := B.bytes
  have hr := B.returns
  have hts : ∀ w ∈ gt, w.before _ s = true := fun w hw => atoms_spec (ws := (wM yX10_side cX10_side 3 (some .int))) B.pre w (List.mem_cons_of_mem _ hw)
  have hown : s.vm.findClass RX10 = some m.cls := findClass_of_methodNamed B.named
  have hlocks := B.notSynchronized
  have hK := hC.1
  have hS : va_S (fun _ => False) s.heap s.heap [] := va_S.rf
  have hl := lv_entry ([.ref x0, .int i1, .int i2]) (n := 3) (Nat.le_of_ble_eq_true rfl)
  rw [lg_entry_eq]
  generalize (lg_sl ([.ref x0, .int i1, .int i2]) ++ List.replicate (3 - (lg_sl ([.ref x0, .int i1, .int i2])).length) Slot.unset).toArray = ls at hl ⊢
  have hl : lv_has ls 3 [(0, .ref x0), (1, .int i1), (2, .int i2)] := hl
  refine lv_aload_n hx hb dX10_side_0 rfl (lv_at hl 0 rfl) ?_
  refine lv_iload_n hx hb dX10_side_1 rfl (lv_at hl 1 rfl) ?_
  refine puI (cV (As := [.int i1]) (rest := []) ⟨hx, hb, hml, hown, hts⟩ (c_X10_hasSide l D T b0 b1 b2 b3 b4 b5 b6 b7 b8 b9 bl im kp ma rd sl st sw th tp tu tw wa wn wr x0 i1 s2 s3 s4 s6 t0 t1 t2 t3 t4 t5 t6 t7 t8 s5 ⟨by omega, by omega⟩ ⟨by omega, by omega⟩ ⟨by omega, by omega⟩ ⟨by omega, by omega⟩ ⟨by omega, by omega⟩) k_X10_hasSide v_X10_hasSide m756 rfl rfl ⟨(Nat.le_of_ble_eq_true rfl), (Nat.le_of_ble_eq_true rfl)⟩ (preP hC (hP.sub (ws' := [(x0, .inr (10, [.ref tp, .ref rd, .ref st, .ref th, .ref im, .ref kp, .ref sl, .ref tu, .ref wn, .ref ma, .ref wr])), (st, .inr (3, [.ref tw, .ref wa, .int s2, .int s3, .int s4, .long s5, .int s6, .ref sw, .ref bl])), (tw, .inr (5, [.int t0, .int t1, .int t2, .int t3, .int t4, .int t5, .int t6, .int t7, .int t8, .ref b0, .ref b1, .ref b2, .ref b3, .ref b4, .ref b5, .ref b6, .ref b7, .ref b8, .ref b9]))]) [0, 1, 2] rfl)) (va_recv hK hP (ci := 10) (q0 := 0) rfl rfl) rfl hl.1 rfl (Nat.le_of_ble_eq_true rfl) dX10_side_2 ⟨(Nat.le_of_ble_eq_true rfl), (Nat.le_of_ble_eq_true rfl)⟩) hS hP (fun r_1 H locs hw hP hS => ?_)
  have w_3 : (r_1 = 1 ∧ 0 ≤ i1.toInt ∧ i1.toInt ≤ 1) ∨ (r_1 = 0) := hw
  rcases w_3 with ⟨rfl, c_4, c_5⟩ | rfl
  · refine lv_if_ne (tgt := 11) hx hb dX10_side_5 (by decide) (fun _ => ?_) (fun c_6 => absurd c_6 (by decide))
    refine lv_iload_n hx hb dX10_side_11 rfl (lv_at hl 2 rfl) ?_
    rcases (show (i2.toInt = 0) ∨ (i2.toInt = 1) ∨ (i2.toInt = 2) ∨ (i2.toInt = 3) ∨ (i2.toInt = 4) ∨ (¬ i2.toInt = 0 ∧ ¬ i2.toInt = 1 ∧ ¬ i2.toInt = 2 ∧ ¬ i2.toInt = 3 ∧ ¬ i2.toInt = 4) by omega) with c_7 | c_7 | c_7 | c_7 | c_7 | c_7
    · refine lv_tableIn (off := 36) (tgt := 48) hx hb dX10_side_12 (by omega) (by omega) (by rw [c_7]; decide) (by decide) ?_
      refine lv_aload_n hx hb dX10_side_48 rfl (lv_at hl 0 rfl) ?_
      refine va_get (D := D) (ci := 10) (C := RX10) (T := TX10) (N := 11) hx hb hts iX10 hown hK hP 0 rfl rfl 2 (by decide) (hts _ m527) (fun _ h9 => h9) rfl dX10_side_49 ?_
      refine va_get (D := D) (ci := 3) (C := RX3) (T := TX3) (N := 9) hx hb hts iX3 hown hK hP 1 rfl rfl 1 (by decide) (hts _ m377) (fun _ h9 => h9) rfl dX10_side_52 ?_
      refine lv_iload_n hx hb dX10_side_55 rfl (lv_at hl 1 rfl) ?_
      refine lv_iconst (v := 0) hx hb dX10_side_56 (by decide) ?_
      refine puI (cV (As := [.int i1, .int 0]) (rest := []) ⟨hx, hb, hml, hown, hts⟩ (c_X7_tally l D T b0 b1 b2 b3 b4 b5 b6 b7 b8 b9 e0 e1 e2 e3 e4 e5 e6 e7 wa tw i1 0 t0 t1 t2 t3 t4 t5 t6 t7 t8 p0 p5 p6 ⟨by omega, by omega⟩ ⟨by omega, by omega⟩ ⟨by omega, by omega⟩ ⟨by omega, by omega⟩ ⟨by omega, by omega⟩ R_p0) k_X7_tally v_X7_tally m816 rfl rfl ⟨(Nat.le_of_ble_eq_true rfl), (Nat.le_of_ble_eq_true rfl)⟩ (preP hC (hP.sub (ws' := [(wa, .inr (7, [.ref tw, .ref e0, .ref e1, .ref e2, .ref e3, .ref e4, .ref e5, .ref e6, .ref e7])), (e0, .inl (T 0, 16, .inl p0)), (e5, .inl (T 0, 2, .inl p5)), (e6, .inl (T 0, 2, .inl p6)), (tw, .inr (5, [.int t0, .int t1, .int t2, .int t3, .int t4, .int t5, .int t6, .int t7, .int t8, .ref b0, .ref b1, .ref b2, .ref b3, .ref b4, .ref b5, .ref b6, .ref b7, .ref b8, .ref b9]))]) [3, 4, 5, 6, 2] rfl)) (va_recv hK hP (ci := 7) (q0 := 3) rfl rfl) rfl hl.1 rfl (Nat.le_of_ble_eq_true rfl) dX10_side_57 ⟨(Nat.le_of_ble_eq_true rfl), (Nat.le_of_ble_eq_true rfl)⟩) hS hP (fun r_8 H locs hw hP hS => ?_)
      exact W.iret (v := r_8) hx hb hr (fun t ht hW => ⟨⟨r_8, (), rfl, trivial, trivial⟩, hS.F ht⟩) hS.2.2 dX10_side_60
    · refine lv_tableIn (off := 49) (tgt := 61) hx hb dX10_side_12 (by omega) (by omega) (by rw [c_7]; decide) (by decide) ?_
      refine lv_aload_n hx hb dX10_side_61 rfl (lv_at hl 0 rfl) ?_
      refine va_get (D := D) (ci := 10) (C := RX10) (T := TX10) (N := 11) hx hb hts iX10 hown hK hP 0 rfl rfl 2 (by decide) (hts _ m527) (fun _ h9 => h9) rfl dX10_side_62 ?_
      refine va_get (D := D) (ci := 3) (C := RX3) (T := TX3) (N := 9) hx hb hts iX3 hown hK hP 1 rfl rfl 1 (by decide) (hts _ m377) (fun _ h9 => h9) rfl dX10_side_65 ?_
      refine lv_iload_n hx hb dX10_side_68 rfl (lv_at hl 1 rfl) ?_
      refine lv_iconst (v := 1) hx hb dX10_side_69 (by decide) ?_
      refine puI (cV (As := [.int i1, .int 1]) (rest := []) ⟨hx, hb, hml, hown, hts⟩ (c_X7_tally l D T b0 b1 b2 b3 b4 b5 b6 b7 b8 b9 e0 e1 e2 e3 e4 e5 e6 e7 wa tw i1 1 t0 t1 t2 t3 t4 t5 t6 t7 t8 p0 p5 p6 ⟨by omega, by omega⟩ ⟨by omega, by omega⟩ ⟨by omega, by omega⟩ ⟨by omega, by omega⟩ ⟨by omega, by omega⟩ R_p0) k_X7_tally v_X7_tally m816 rfl rfl ⟨(Nat.le_of_ble_eq_true rfl), (Nat.le_of_ble_eq_true rfl)⟩ (preP hC (hP.sub (ws' := [(wa, .inr (7, [.ref tw, .ref e0, .ref e1, .ref e2, .ref e3, .ref e4, .ref e5, .ref e6, .ref e7])), (e0, .inl (T 0, 16, .inl p0)), (e5, .inl (T 0, 2, .inl p5)), (e6, .inl (T 0, 2, .inl p6)), (tw, .inr (5, [.int t0, .int t1, .int t2, .int t3, .int t4, .int t5, .int t6, .int t7, .int t8, .ref b0, .ref b1, .ref b2, .ref b3, .ref b4, .ref b5, .ref b6, .ref b7, .ref b8, .ref b9]))]) [3, 4, 5, 6, 2] rfl)) (va_recv hK hP (ci := 7) (q0 := 3) rfl rfl) rfl hl.1 rfl (Nat.le_of_ble_eq_true rfl) dX10_side_70 ⟨(Nat.le_of_ble_eq_true rfl), (Nat.le_of_ble_eq_true rfl)⟩) hS hP (fun r_10 H locs hw hP hS => ?_)
      exact W.iret (v := r_10) hx hb hr (fun t ht hW => ⟨⟨r_10, (), rfl, trivial, trivial⟩, hS.F ht⟩) hS.2.2 dX10_side_73
    · refine lv_tableIn (off := 62) (tgt := 74) hx hb dX10_side_12 (by omega) (by omega) (by rw [c_7]; decide) (by decide) ?_
      refine lv_aload_n hx hb dX10_side_74 rfl (lv_at hl 0 rfl) ?_
      refine va_get (D := D) (ci := 10) (C := RX10) (T := TX10) (N := 11) hx hb hts iX10 hown hK hP 0 rfl rfl 2 (by decide) (hts _ m527) (fun _ h9 => h9) rfl dX10_side_75 ?_
      refine va_get (D := D) (ci := 3) (C := RX3) (T := TX3) (N := 9) hx hb hts iX3 hown hK hP 1 rfl rfl 1 (by decide) (hts _ m377) (fun _ h9 => h9) rfl dX10_side_78 ?_
      refine lv_iload_n hx hb dX10_side_81 rfl (lv_at hl 1 rfl) ?_
      refine lv_iconst (v := 2) hx hb dX10_side_82 (by decide) ?_
      refine puI (cV (As := [.int i1, .int 2]) (rest := []) ⟨hx, hb, hml, hown, hts⟩ (c_X7_tally l D T b0 b1 b2 b3 b4 b5 b6 b7 b8 b9 e0 e1 e2 e3 e4 e5 e6 e7 wa tw i1 2 t0 t1 t2 t3 t4 t5 t6 t7 t8 p0 p5 p6 ⟨by omega, by omega⟩ ⟨by omega, by omega⟩ ⟨by omega, by omega⟩ ⟨by omega, by omega⟩ ⟨by omega, by omega⟩ R_p0) k_X7_tally v_X7_tally m816 rfl rfl ⟨(Nat.le_of_ble_eq_true rfl), (Nat.le_of_ble_eq_true rfl)⟩ (preP hC (hP.sub (ws' := [(wa, .inr (7, [.ref tw, .ref e0, .ref e1, .ref e2, .ref e3, .ref e4, .ref e5, .ref e6, .ref e7])), (e0, .inl (T 0, 16, .inl p0)), (e5, .inl (T 0, 2, .inl p5)), (e6, .inl (T 0, 2, .inl p6)), (tw, .inr (5, [.int t0, .int t1, .int t2, .int t3, .int t4, .int t5, .int t6, .int t7, .int t8, .ref b0, .ref b1, .ref b2, .ref b3, .ref b4, .ref b5, .ref b6, .ref b7, .ref b8, .ref b9]))]) [3, 4, 5, 6, 2] rfl)) (va_recv hK hP (ci := 7) (q0 := 3) rfl rfl) rfl hl.1 rfl (Nat.le_of_ble_eq_true rfl) dX10_side_83 ⟨(Nat.le_of_ble_eq_true rfl), (Nat.le_of_ble_eq_true rfl)⟩) hS hP (fun r_12 H locs hw hP hS => ?_)
      exact W.iret (v := r_12) hx hb hr (fun t ht hW => ⟨⟨r_12, (), rfl, trivial, trivial⟩, hS.F ht⟩) hS.2.2 dX10_side_86
    · refine lv_tableIn (off := 75) (tgt := 87) hx hb dX10_side_12 (by omega) (by omega) (by rw [c_7]; decide) (by decide) ?_
      refine lv_aload_n hx hb dX10_side_87 rfl (lv_at hl 0 rfl) ?_
      refine va_get (D := D) (ci := 10) (C := RX10) (T := TX10) (N := 11) hx hb hts iX10 hown hK hP 0 rfl rfl 2 (by decide) (hts _ m527) (fun _ h9 => h9) rfl dX10_side_88 ?_
      refine va_get (D := D) (ci := 3) (C := RX3) (T := TX3) (N := 9) hx hb hts iX3 hown hK hP 1 rfl rfl 1 (by decide) (hts _ m377) (fun _ h9 => h9) rfl dX10_side_91 ?_
      refine lv_iload_n hx hb dX10_side_94 rfl (lv_at hl 1 rfl) ?_
      refine lv_aload_n hx hb dX10_side_95 rfl (lv_at hl 0 rfl) ?_
      refine va_get (D := D) (ci := 10) (C := RX10) (T := TX10) (N := 11) hx hb hts iX10 hown hK hP 0 rfl rfl 2 (by decide) (hts _ m527) (fun _ h9 => h9) rfl dX10_side_96 ?_
      refine va_get (D := D) (ci := 3) (C := RX3) (T := TX3) (N := 9) hx hb hts iX3 hown hK hP 1 rfl rfl 3 (by decide) (hts _ m386) (fun _ h9 => h9) rfl dX10_side_99 ?_
      refine puI (cV (As := [.int i1, .int s3]) (rest := []) ⟨hx, hb, hml, hown, hts⟩ (c_X7_tally l D T b0 b1 b2 b3 b4 b5 b6 b7 b8 b9 e0 e1 e2 e3 e4 e5 e6 e7 wa tw i1 s3 t0 t1 t2 t3 t4 t5 t6 t7 t8 p0 p5 p6 ⟨by omega, by omega⟩ ⟨by omega, by omega⟩ ⟨by omega, by omega⟩ ⟨by omega, by omega⟩ ⟨by omega, by omega⟩ R_p0) k_X7_tally v_X7_tally m816 rfl rfl ⟨(Nat.le_of_ble_eq_true rfl), (Nat.le_of_ble_eq_true rfl)⟩ (preP hC (hP.sub (ws' := [(wa, .inr (7, [.ref tw, .ref e0, .ref e1, .ref e2, .ref e3, .ref e4, .ref e5, .ref e6, .ref e7])), (e0, .inl (T 0, 16, .inl p0)), (e5, .inl (T 0, 2, .inl p5)), (e6, .inl (T 0, 2, .inl p6)), (tw, .inr (5, [.int t0, .int t1, .int t2, .int t3, .int t4, .int t5, .int t6, .int t7, .int t8, .ref b0, .ref b1, .ref b2, .ref b3, .ref b4, .ref b5, .ref b6, .ref b7, .ref b8, .ref b9]))]) [3, 4, 5, 6, 2] rfl)) (va_recv hK hP (ci := 7) (q0 := 3) rfl rfl) rfl hl.1 rfl (Nat.le_of_ble_eq_true rfl) dX10_side_102 ⟨(Nat.le_of_ble_eq_true rfl), (Nat.le_of_ble_eq_true rfl)⟩) hS hP (fun r_14 H locs hw hP hS => ?_)
      exact W.iret (v := r_14) hx hb hr (fun t ht hW => ⟨⟨r_14, (), rfl, trivial, trivial⟩, hS.F ht⟩) hS.2.2 dX10_side_105
    · refine lv_tableIn (off := 94) (tgt := 106) hx hb dX10_side_12 (by omega) (by omega) (by rw [c_7]; decide) (by decide) ?_
      refine lv_aload_n hx hb dX10_side_106 rfl (lv_at hl 0 rfl) ?_
      refine va_get (D := D) (ci := 10) (C := RX10) (T := TX10) (N := 11) hx hb hts iX10 hown hK hP 0 rfl rfl 2 (by decide) (hts _ m527) (fun _ h9 => h9) rfl dX10_side_107 ?_
      refine va_get (D := D) (ci := 3) (C := RX3) (T := TX3) (N := 9) hx hb hts iX3 hown hK hP 1 rfl rfl 1 (by decide) (hts _ m377) (fun _ h9 => h9) rfl dX10_side_110 ?_
      refine lv_iload_n hx hb dX10_side_113 rfl (lv_at hl 1 rfl) ?_
      refine puI (cV (As := [.int i1]) (rest := []) ⟨hx, hb, hml, hown, hts⟩ (c_X7_openJoints l D T b0 b1 b2 b3 b4 b5 b6 b7 b8 b9 e0 e1 e2 e3 e4 e5 e6 e7 wa tw i1 t0 t1 t2 t3 t4 t5 t6 t7 t8 p0 ⟨by omega, by omega⟩ ⟨by omega, by omega⟩ ⟨by omega, by omega⟩ ⟨by omega, by omega⟩ ⟨by omega, by omega⟩ R_p0) k_X7_openJoints v_X7_openJoints m828 rfl rfl ⟨(Nat.le_of_ble_eq_true rfl), (Nat.le_of_ble_eq_true rfl)⟩ (preP hC (hP.sub (ws' := [(wa, .inr (7, [.ref tw, .ref e0, .ref e1, .ref e2, .ref e3, .ref e4, .ref e5, .ref e6, .ref e7])), (e0, .inl (T 0, 16, .inl p0)), (tw, .inr (5, [.int t0, .int t1, .int t2, .int t3, .int t4, .int t5, .int t6, .int t7, .int t8, .ref b0, .ref b1, .ref b2, .ref b3, .ref b4, .ref b5, .ref b6, .ref b7, .ref b8, .ref b9]))]) [3, 4, 2] rfl)) (va_recv hK hP (ci := 7) (q0 := 3) rfl rfl) rfl hl.1 rfl (Nat.le_of_ble_eq_true rfl) dX10_side_114 ⟨(Nat.le_of_ble_eq_true rfl), (Nat.le_of_ble_eq_true rfl)⟩) hS hP (fun r_16 H locs hw hP hS => ?_)
      exact W.iret (v := r_16) hx hb hr (fun t ht hW => ⟨⟨r_16, (), rfl, trivial, trivial⟩, hS.F ht⟩) hS.2.2 dX10_side_117
    · refine lv_tableOut (tgt := 118) hx hb dX10_side_12 (by omega) (by decide) ?_
      refine lv_bipush (v := (-2)) hx hb dX10_side_118 (by decide) ?_
      exact W.iret (v := (-2)) hx hb hr (fun t ht hW => ⟨⟨(-2), (), rfl, trivial, trivial⟩, hS.F ht⟩) hS.2.2 dX10_side_120
  · refine lv_if_ne (tgt := 11) hx hb dX10_side_5 (by decide) (fun c_18 => absurd c_18 (by decide)) (fun _ => ?_)
    refine lv_bipush (v := (-2)) hx hb dX10_side_8 (by decide) ?_
    exact W.iret (v := (-2)) hx hb hr (fun t ht hW => ⟨⟨(-2), (), rfl, trivial, trivial⟩, hS.F ht⟩) hS.2.2 dX10_side_10

set_option maxHeartbeats 4000000 in
set_option maxRecDepth 100000 in
theorem c_X10_pile (l : Launch) (D : va_G) (T : Nat → ClassId) (b0 b1 b2 b3 b4 b5 b6 b7 b8 b9 bl e0 e1 e2 e3 e4 e5 e6 e7 im kp ma rd sl st sw th tp tu tw wa wn wr x0 : Nat) (i1 s2 s3 s4 s6 t0 t1 t2 t3 t4 t5 t6 t7 t8 : Int32) (s5 : Int64) (p1 : Nat → Int32) (h_t1 : 0 ≤ t1.toInt ∧ t1.toInt ≤ 8) (h_t2 : 0 ≤ t2.toInt ∧ t2.toInt ≤ 12) (h_t4 : 0 ≤ t4.toInt ∧ t4.toInt ≤ 5) (h_t5 : 0 ≤ t5.toInt ∧ t5.toInt ≤ 10) (h_s2 : 0 ≤ s2.toInt ∧ s2.toInt ≤ 100) : Met l yX10_pile (wM yX10_pile cX10_pile 2 (some .int)) ({ frames := 1, cells := 0, slots := 0, locals := 21 }) (va_Pc [.ref x0, .int i1] (pwP D T [(x0, .inr (10, [.ref tp, .ref rd, .ref st, .ref th, .ref im, .ref kp, .ref sl, .ref tu, .ref wn, .ref ma, .ref wr])), (st, .inr (3, [.ref tw, .ref wa, .int s2, .int s3, .int s4, .long s5, .int s6, .ref sw, .ref bl])), (tw, .inr (5, [.int t0, .int t1, .int t2, .int t3, .int t4, .int t5, .int t6, .int t7, .int t8, .ref b0, .ref b1, .ref b2, .ref b3, .ref b4, .ref b5, .ref b6, .ref b7, .ref b8, .ref b9])), (wa, .inr (7, [.ref tw, .ref e0, .ref e1, .ref e2, .ref e3, .ref e4, .ref e5, .ref e6, .ref e7])), (e1, .inl (T 0, 5, .inl p1))])) (va_Qi (fun (r : Int32) (u : Unit) => True) (fun _ _ => True) (fun _ => False)) 0 0 (fun _ => False) := by
  refine Met.ofW (cc := cX10_pile) (maxL := 2) (ret := (some .int)) (by decide) rfl ?_
  intro p e s m args below meth c s₁ B hml hv
  obtain ⟨rfl, hP, hC⟩ := hv
  have hx := B.exec
  have hb := B.bytes
  have hr := B.returns
  have hts : ∀ w ∈ gt, w.before _ s = true := fun w hw => atoms_spec (ws := (wM yX10_pile cX10_pile 2 (some .int))) B.pre w (List.mem_cons_of_mem _ hw)
  have hown : s.vm.findClass RX10 = some m.cls := findClass_of_methodNamed B.named
  have hlocks := B.notSynchronized
  have hK := hC.1
  have hS : va_S (fun _ => False) s.heap s.heap [] := va_S.rf
  have hl := lv_entry ([.ref x0, .int i1]) (n := 2) (Nat.le_of_ble_eq_true rfl)
  rw [lg_entry_eq]
  generalize (lg_sl ([.ref x0, .int i1]) ++ List.replicate (2 - (lg_sl ([.ref x0, .int i1])).length) Slot.unset).toArray = ls at hl ⊢
  have hl : lv_has ls 2 [(0, .ref x0), (1, .int i1)] := hl
  refine lv_aload_n hx hb dX10_pile_0 rfl (lv_at hl 0 rfl) ?_
  refine lv_iload_n hx hb dX10_pile_1 rfl (lv_at hl 1 rfl) ?_
  refine puI (cV (As := [.int i1]) (rest := []) ⟨hx, hb, hml, hown, hts⟩ (c_X10_hasSort l D T b0 b1 b2 b3 b4 b5 b6 b7 b8 b9 bl im kp ma rd sl st sw th tp tu tw wa wn wr x0 i1 s2 s3 s4 s6 t0 t1 t2 t3 t4 t5 t6 t7 t8 s5 ⟨by omega, by omega⟩ ⟨by omega, by omega⟩ ⟨by omega, by omega⟩ ⟨by omega, by omega⟩ ⟨by omega, by omega⟩) k_X10_hasSort v_X10_hasSort m764 rfl rfl ⟨(Nat.le_of_ble_eq_true rfl), (Nat.le_of_ble_eq_true rfl)⟩ (preP hC (hP.sub (ws' := [(x0, .inr (10, [.ref tp, .ref rd, .ref st, .ref th, .ref im, .ref kp, .ref sl, .ref tu, .ref wn, .ref ma, .ref wr])), (st, .inr (3, [.ref tw, .ref wa, .int s2, .int s3, .int s4, .long s5, .int s6, .ref sw, .ref bl])), (tw, .inr (5, [.int t0, .int t1, .int t2, .int t3, .int t4, .int t5, .int t6, .int t7, .int t8, .ref b0, .ref b1, .ref b2, .ref b3, .ref b4, .ref b5, .ref b6, .ref b7, .ref b8, .ref b9]))]) [0, 1, 2] rfl)) (va_recv hK hP (ci := 10) (q0 := 0) rfl rfl) rfl hl.1 rfl (Nat.le_of_ble_eq_true rfl) dX10_pile_2 ⟨(Nat.le_of_ble_eq_true rfl), (Nat.le_of_ble_eq_true rfl)⟩) hS hP (fun r_1 H locs hw hP hS => ?_)
  have w_3 : (r_1 = 1 ∧ 0 ≤ i1.toInt ∧ i1.toInt < t4.toInt) ∨ (r_1 = 0) := hw
  rcases w_3 with ⟨rfl, c_4, c_5⟩ | rfl
  · refine lv_if_eq (tgt := 23) hx hb dX10_pile_5 (by decide) (fun c_6 => absurd c_6 (by decide)) (fun _ => ?_)
    refine lv_aload_n hx hb dX10_pile_8 rfl (lv_at hl 0 rfl) ?_
    refine va_get (D := D) (ci := 10) (C := RX10) (T := TX10) (N := 11) hx hb hts iX10 hown hK hP 0 rfl rfl 2 (by decide) (hts _ m527) (fun _ h9 => h9) rfl dX10_pile_9 ?_
    refine va_get (D := D) (ci := 3) (C := RX3) (T := TX3) (N := 9) hx hb hts iX3 hown hK hP 1 rfl rfl 1 (by decide) (hts _ m377) (fun _ h9 => h9) rfl dX10_pile_12 ?_
    refine va_get (D := D) (ci := 7) (C := RX7) (T := TX7) (N := 9) hx hb hts iX7 hown hK hP 3 rfl rfl 2 (by decide) (hts _ m331) (fun _ h9 => h9) rfl dX10_pile_15 ?_
    refine lv_iload_n hx hb dX10_pile_18 rfl (lv_at hl 1 rfl) ?_
    refine va_iald (D := D) hx hb hK hP 4 0 rfl rfl (v_in (x := i1.toInt) rfl (by omega) (by omega)) dX10_pile_19 ?_
    refine lv_topi (fun x_7 ex_7 => ?_)
    refine lv_goto (tgt := 25) hx hb dX10_pile_20 (by decide) ?_
    exact W.iret (v := x_7) hx hb hr (fun t ht hW => ⟨⟨x_7, (), rfl, trivial, trivial⟩, hS.F ht⟩) hS.2.2 dX10_pile_25
  · refine lv_if_eq (tgt := 23) hx hb dX10_pile_5 (by decide) (fun _ => ?_) (fun c_8 => absurd (by decide) c_8)
    refine lv_bipush (v := (-2)) hx hb dX10_pile_23 (by decide) ?_
    exact W.iret (v := (-2)) hx hb hr (fun t ht hW => ⟨⟨(-2), (), rfl, trivial, trivial⟩, hS.F ht⟩) hS.2.2 dX10_pile_25

set_option maxHeartbeats 4000000 in
set_option maxRecDepth 100000 in
theorem c_X10_spare (l : Launch) (D : va_G) (T : Nat → ClassId) (b0 b1 b2 b3 b4 b5 b6 b7 b8 b9 bl e0 e1 e2 e3 e4 e5 e6 e7 im kp ma rd sl st sw th tp tu tw wa wn wr x0 : Nat) (i1 i2 s2 s3 s4 s6 t0 t1 t2 t3 t4 t5 t6 t7 t8 : Int32) (s5 : Int64) (p0 p7 : Nat → Int32) (h_t1 : 0 ≤ t1.toInt ∧ t1.toInt ≤ 8) (h_t2 : 0 ≤ t2.toInt ∧ t2.toInt ≤ 12) (h_t4 : 0 ≤ t4.toInt ∧ t4.toInt ≤ 5) (h_t5 : 0 ≤ t5.toInt ∧ t5.toInt ≤ 10) (h_s2 : 0 ≤ s2.toInt ∧ s2.toInt ≤ 100) (R_p0 : rg 0 12 p0) : Met l yX10_spare (wM yX10_spare cX10_spare 5 (some .int)) ({ frames := 3, cells := 0, slots := 0, locals := 63 }) (va_Pc [.ref x0, .int i1, .int i2] (pwP D T [(x0, .inr (10, [.ref tp, .ref rd, .ref st, .ref th, .ref im, .ref kp, .ref sl, .ref tu, .ref wn, .ref ma, .ref wr])), (st, .inr (3, [.ref tw, .ref wa, .int s2, .int s3, .int s4, .long s5, .int s6, .ref sw, .ref bl])), (tw, .inr (5, [.int t0, .int t1, .int t2, .int t3, .int t4, .int t5, .int t6, .int t7, .int t8, .ref b0, .ref b1, .ref b2, .ref b3, .ref b4, .ref b5, .ref b6, .ref b7, .ref b8, .ref b9])), (wa, .inr (7, [.ref tw, .ref e0, .ref e1, .ref e2, .ref e3, .ref e4, .ref e5, .ref e6, .ref e7])), (e0, .inl (T 0, 16, .inl p0)), (e7, .inl (T 0, 208, .inl p7))])) (va_Qi (fun (r : Int32) (u : Unit) => True) (fun _ _ => True) (fun _ => False)) 0 0 (fun _ => False) := by
  refine Met.ofW (cc := cX10_spare) (maxL := 5) (ret := (some .int)) (by decide) rfl ?_
  intro p e s m args below meth c s₁ B hml hv
  obtain ⟨rfl, hP, hC⟩ := hv
  have hx := B.exec
  have hb := B.bytes
  have hr := B.returns
  have hts : ∀ w ∈ gt, w.before _ s = true := fun w hw => atoms_spec (ws := (wM yX10_spare cX10_spare 5 (some .int))) B.pre w (List.mem_cons_of_mem _ hw)
  have hown : s.vm.findClass RX10 = some m.cls := findClass_of_methodNamed B.named
  have hlocks := B.notSynchronized
  have hK := hC.1
  have hS : va_S (fun _ => False) s.heap s.heap [] := va_S.rf
  have hl := lv_entry ([.ref x0, .int i1, .int i2]) (n := 5) (Nat.le_of_ble_eq_true rfl)
  rw [lg_entry_eq]
  generalize (lg_sl ([.ref x0, .int i1, .int i2]) ++ List.replicate (5 - (lg_sl ([.ref x0, .int i1, .int i2])).length) Slot.unset).toArray = ls at hl ⊢
  have hl : lv_has ls 5 [(0, .ref x0), (1, .int i1), (2, .int i2)] := hl
  refine lv_aload_n hx hb dX10_spare_0 rfl (lv_at hl 0 rfl) ?_
  refine lv_iload_n hx hb dX10_spare_1 rfl (lv_at hl 1 rfl) ?_
  refine lv_iload_n hx hb dX10_spare_2 rfl (lv_at hl 2 rfl) ?_
  refine puI (cV (As := [.int i1, .int i2]) (rest := []) ⟨hx, hb, hml, hown, hts⟩ (c_X10_hasColumn l D T b0 b1 b2 b3 b4 b5 b6 b7 b8 b9 bl im kp ma rd sl st sw th tp tu tw wa wn wr x0 i1 i2 s2 s3 s4 s6 t0 t1 t2 t3 t4 t5 t6 t7 t8 s5 ⟨by omega, by omega⟩ ⟨by omega, by omega⟩ ⟨by omega, by omega⟩ ⟨by omega, by omega⟩ ⟨by omega, by omega⟩) k_X10_hasColumn v_X10_hasColumn m752 rfl rfl ⟨(Nat.le_of_ble_eq_true rfl), (Nat.le_of_ble_eq_true rfl)⟩ (preP hC (hP.sub (ws' := [(x0, .inr (10, [.ref tp, .ref rd, .ref st, .ref th, .ref im, .ref kp, .ref sl, .ref tu, .ref wn, .ref ma, .ref wr])), (st, .inr (3, [.ref tw, .ref wa, .int s2, .int s3, .int s4, .long s5, .int s6, .ref sw, .ref bl])), (tw, .inr (5, [.int t0, .int t1, .int t2, .int t3, .int t4, .int t5, .int t6, .int t7, .int t8, .ref b0, .ref b1, .ref b2, .ref b3, .ref b4, .ref b5, .ref b6, .ref b7, .ref b8, .ref b9]))]) [0, 1, 2] rfl)) (va_recv hK hP (ci := 10) (q0 := 0) rfl rfl) rfl hl.1 rfl (Nat.le_of_ble_eq_true rfl) dX10_spare_3 ⟨(Nat.le_of_ble_eq_true rfl), (Nat.le_of_ble_eq_true rfl)⟩) hS hP (fun r_1 H locs hw hP hS => ?_)
  have w_3 : (r_1 = 1 ∧ 0 ≤ i1.toInt ∧ i1.toInt ≤ 1 ∧ 0 ≤ i2.toInt ∧ i2.toInt < t1.toInt) ∨ (r_1 = 0) := hw
  rcases w_3 with ⟨rfl, c_4, c_5, c_6, c_7⟩ | rfl
  · refine lv_if_ne (tgt := 12) hx hb dX10_spare_6 (by decide) (fun _ => ?_) (fun c_8 => absurd c_8 (by decide))
    refine lv_iload_n hx hb dX10_spare_12 rfl (lv_at hl 1 rfl) ?_
    refine lv_iload_n hx hb dX10_spare_13 rfl (lv_at hl 2 rfl) ?_
    refine puI (cS (As := [.int i1, .int i2]) (rest := []) ⟨hx, hb, hml, hown, hts⟩ (c_X10_placeOf l D T i1 i2 ⟨by omega, by omega⟩ ⟨by omega, by omega⟩) k_X10_placeOf m769 m768 rfl rfl ⟨(Nat.le_of_ble_eq_true rfl), (Nat.le_of_ble_eq_true rfl)⟩ (preP hC (hP.sub (ws' := []) [] rfl)) rfl hl.1 rfl (Nat.le_of_ble_eq_true rfl) dX10_spare_14 ⟨(Nat.le_of_ble_eq_true rfl), (Nat.le_of_ble_eq_true rfl)⟩) hS hP (fun r_9 H locs hw hP hS => ?_)
    have w_11 : (r_9.toInt = 8 * i1.toInt + i2.toInt) := hw
    obtain c_12 := w_11
    refine lv_istore_n (lv' := [(3, .int r_9), (0, .ref x0), (1, .int i1), (2, .int i2)]) hx hb dX10_spare_17 rfl hl (by decide) rfl (fun ls hl => ?_)
    refine lv_bipush (v := 9) hx hb dX10_spare_18 (by decide) ?_
    refine lv_istore (lv' := [(4, .int 9), (3, .int r_9), (0, .ref x0), (1, .int i1), (2, .int i2)]) hx hb dX10_spare_20 hl (by decide) rfl (fun ls hl => ?_)
    refine lp_ind (fun (a : Heap × List Loc × Array Slot × (Int32)) => match a with | (H, locs, ls, i_13) => W p l e _ s m _ below meth c H locs 0 0 _ (F0 m 22 ls [])) (fun (a : Heap × List Loc × Array Slot × (Int32)) => match a with | (H, locs, ls, i_13) => 0 ≤ i_13.toInt ∧ i_13.toInt ≤ 9 ∧ va_P D vwCl [(x0, .inr (10, [.ref tp, .ref rd, .ref st, .ref th, .ref im, .ref kp, .ref sl, .ref tu, .ref wn, .ref ma, .ref wr])), (st, .inr (3, [.ref tw, .ref wa, .int s2, .int s3, .int s4, .long s5, .int s6, .ref sw, .ref bl])), (tw, .inr (5, [.int t0, .int t1, .int t2, .int t3, .int t4, .int t5, .int t6, .int t7, .int t8, .ref b0, .ref b1, .ref b2, .ref b3, .ref b4, .ref b5, .ref b6, .ref b7, .ref b8, .ref b9])), (wa, .inr (7, [.ref tw, .ref e0, .ref e1, .ref e2, .ref e3, .ref e4, .ref e5, .ref e6, .ref e7])), (e0, .inl (T 0, 16, .inl p0)), (e7, .inl (T 0, 208, .inl p7))] H ∧ va_S (fun _ => False) s.heap H locs ∧ lv_has ls 5 [(4, .int i_13), (3, .int r_9), (0, .ref x0), (1, .int i1), (2, .int i2)]) (fun (a : Heap × List Loc × Array Slot × (Int32)) => match a with | (H, locs, ls, i_13) => (i_13.toInt - 0).toNat) ?_ (_, _, ls, (9 : Int32)) ⟨(show 0 ≤ 9 by omega), (show 9 ≤ 9 by omega), hP, hS, lv_sub hl [0, 1, 2, 3, 4] rfl⟩
    rintro ⟨H, locs, ls, i_13⟩ ⟨c_14, c_15, hP, hS, hl⟩ ih_16
    refine lv_iload hx hb dX10_spare_22 (lv_at hl 0 rfl) ?_
    refine lv_if_le (tgt := 49) hx hb dX10_spare_24 (by decide) (fun c_17 => ?_) (fun c_17 => ?_)
    · have c_17 : i_13.toInt ≤ 0 := (c_le (x := i_13.toInt) (y := 0) rfl rfl).mp c_17
      refine lv_iload hx hb dX10_spare_49 (lv_at hl 0 rfl) ?_
      exact W.iret (v := i_13) hx hb hr (fun t ht hW => ⟨⟨i_13, (), rfl, trivial, trivial⟩, hS.F ht⟩) hS.2.2 dX10_spare_51
    · have c_17 : 0 < i_13.toInt := by have h := mt (c_le (x := i_13.toInt) (y := 0) rfl rfl).mpr c_17; omega
      refine lv_aload_n hx hb dX10_spare_27 rfl (lv_at hl 2 rfl) ?_
      refine va_get (D := D) (ci := 10) (C := RX10) (T := TX10) (N := 11) hx hb hts iX10 hown hK hP 0 rfl rfl 2 (by decide) (hts _ m527) (fun _ h9 => h9) rfl dX10_spare_28 ?_
      refine va_get (D := D) (ci := 3) (C := RX3) (T := TX3) (N := 9) hx hb hts iX3 hown hK hP 1 rfl rfl 1 (by decide) (hts _ m377) (fun _ h9 => h9) rfl dX10_spare_31 ?_
      refine lv_iload_n hx hb dX10_spare_34 rfl (lv_at hl 1 rfl) ?_
      refine lv_iload hx hb dX10_spare_35 (lv_at hl 0 rfl) ?_
      refine puI (cV (As := [.int r_9, .int i_13]) (rest := []) ⟨hx, hb, hml, hown, hts⟩ (c_X7_fits l D T b0 b1 b2 b3 b4 b5 b6 b7 b8 b9 e0 e1 e2 e3 e4 e5 e6 e7 wa tw r_9 i_13 t0 t1 t2 t3 t4 t5 t6 t7 t8 p0 p7 ⟨by omega, by omega⟩ ⟨by omega, by omega⟩ ⟨by omega, by omega⟩ ⟨by omega, by omega⟩ ⟨by omega, by omega⟩ R_p0) k_X7_fits v_X7_fits m771 rfl rfl ⟨(Nat.le_of_ble_eq_true rfl), (Nat.le_of_ble_eq_true rfl)⟩ (preP hC (hP.sub (ws' := [(wa, .inr (7, [.ref tw, .ref e0, .ref e1, .ref e2, .ref e3, .ref e4, .ref e5, .ref e6, .ref e7])), (e0, .inl (T 0, 16, .inl p0)), (e7, .inl (T 0, 208, .inl p7)), (tw, .inr (5, [.int t0, .int t1, .int t2, .int t3, .int t4, .int t5, .int t6, .int t7, .int t8, .ref b0, .ref b1, .ref b2, .ref b3, .ref b4, .ref b5, .ref b6, .ref b7, .ref b8, .ref b9]))]) [3, 4, 5, 2] rfl)) (va_recv hK hP (ci := 7) (q0 := 3) rfl rfl) rfl hl.1 rfl (Nat.le_of_ble_eq_true rfl) dX10_spare_37 ⟨(Nat.le_of_ble_eq_true rfl), (Nat.le_of_ble_eq_true rfl)⟩) hS hP (fun r_18 H locs hw hP hS => ?_)
      have w_20 : (r_18 = 1 ∧ (p0 r_9.toNatClampNeg).toInt < t2.toInt) ∨ (r_18 = 0) := hw
      rcases w_20 with ⟨rfl, c_21⟩ | rfl
      · refine lv_if_ne (tgt := 49) hx hb dX10_spare_40 (by decide) (fun _ => ?_) (fun c_22 => absurd c_22 (by decide))
        refine lv_iload hx hb dX10_spare_49 (lv_at hl 0 rfl) ?_
        exact W.iret (v := i_13) hx hb hr (fun t ht hW => ⟨⟨i_13, (), rfl, trivial, trivial⟩, hS.F ht⟩) hS.2.2 dX10_spare_51
      · refine lv_if_ne (tgt := 49) hx hb dX10_spare_40 (by decide) (fun c_23 => absurd c_23 (by decide)) (fun _ => ?_)
        obtain ⟨x_24, ex_24⟩ : ∃ y : Int32, y = i_13 + (-1) := ⟨_, rfl⟩
        have tx_24 : x_24.toInt = i_13.toInt + (-1) := t_add (x := i_13.toInt) (y := (-1)) ex_24 rfl rfl (by omega) (by omega)
        refine lv_iinc (v := x_24) (lv' := [(4, .int x_24), (3, .int r_9), (0, .ref x0), (1, .int i1), (2, .int i2)]) hx hb dX10_spare_43 hl (k := 0) rfl (by rw [ex_24]; rfl) (by decide) rfl (fun ls hl => ?_)
        refine lv_goto (tgt := 22) hx hb dX10_spare_46 (by decide) ?_
        exact ih_16 (_, _, _, x_24) ⟨(show 0 ≤ x_24.toInt by omega), (show x_24.toInt ≤ 9 by omega), hP, hS, lv_sub hl [0, 1, 2, 3, 4] rfl⟩ (show (x_24.toInt - 0).toNat < (i_13.toInt - 0).toNat by omega)
  · refine lv_if_ne (tgt := 12) hx hb dX10_spare_6 (by decide) (fun c_25 => absurd c_25 (by decide)) (fun _ => ?_)
    refine lv_bipush (v := (-2)) hx hb dX10_spare_9 (by decide) ?_
    exact W.iret (v := (-2)) hx hb hr (fun t ht hW => ⟨⟨(-2), (), rfl, trivial, trivial⟩, hS.F ht⟩) hS.2.2 dX10_spare_11

set_option maxHeartbeats 4000000 in
set_option maxRecDepth 100000 in
theorem c_X10_slack (l : Launch) (D : va_G) (T : Nat → ClassId) (b0 b1 b2 b3 b4 b5 b6 b7 b8 b9 bl e0 e1 e2 e3 e4 e5 e6 e7 im kp ma rd sl st sw th tp tu tw wa wn wr x0 : Nat) (i1 s2 s3 s4 s6 t0 t1 t2 t3 t4 t5 t6 t7 t8 : Int32) (s5 : Int64) (p0 p7 : Nat → Int32) (h_t1 : 0 ≤ t1.toInt ∧ t1.toInt ≤ 8) (h_t2 : 0 ≤ t2.toInt ∧ t2.toInt ≤ 12) (h_t4 : 0 ≤ t4.toInt ∧ t4.toInt ≤ 5) (h_t5 : 0 ≤ t5.toInt ∧ t5.toInt ≤ 10) (h_s2 : 0 ≤ s2.toInt ∧ s2.toInt ≤ 100) (R_p0 : rg 0 12 p0) : Met l yX10_slack (wM yX10_slack cX10_slack 6 (some .int)) ({ frames := 2, cells := 0, slots := 0, locals := 41 }) (va_Pc [.ref x0, .int i1] (pwP D T [(x0, .inr (10, [.ref tp, .ref rd, .ref st, .ref th, .ref im, .ref kp, .ref sl, .ref tu, .ref wn, .ref ma, .ref wr])), (st, .inr (3, [.ref tw, .ref wa, .int s2, .int s3, .int s4, .long s5, .int s6, .ref sw, .ref bl])), (tw, .inr (5, [.int t0, .int t1, .int t2, .int t3, .int t4, .int t5, .int t6, .int t7, .int t8, .ref b0, .ref b1, .ref b2, .ref b3, .ref b4, .ref b5, .ref b6, .ref b7, .ref b8, .ref b9])), (wa, .inr (7, [.ref tw, .ref e0, .ref e1, .ref e2, .ref e3, .ref e4, .ref e5, .ref e6, .ref e7])), (e0, .inl (T 0, 16, .inl p0)), (e7, .inl (T 0, 208, .inl p7))])) (va_Qi (fun (r : Int32) (u : Unit) => True) (fun _ _ => True) (fun _ => False)) 0 0 (fun _ => False) := by
  refine Met.ofW (cc := cX10_slack) (maxL := 6) (ret := (some .int)) (by decide) rfl ?_
  intro p e s m args below meth c s₁ B hml hv
  obtain ⟨rfl, hP, hC⟩ := hv
  have hx := B.exec
  have hb := B.bytes
  have hr := B.returns
  have hts : ∀ w ∈ gt, w.before _ s = true := fun w hw => atoms_spec (ws := (wM yX10_slack cX10_slack 6 (some .int))) B.pre w (List.mem_cons_of_mem _ hw)
  have hown : s.vm.findClass RX10 = some m.cls := findClass_of_methodNamed B.named
  have hlocks := B.notSynchronized
  have hK := hC.1
  have hS : va_S (fun _ => False) s.heap s.heap [] := va_S.rf
  have hl := lv_entry ([.ref x0, .int i1]) (n := 6) (Nat.le_of_ble_eq_true rfl)
  rw [lg_entry_eq]
  generalize (lg_sl ([.ref x0, .int i1]) ++ List.replicate (6 - (lg_sl ([.ref x0, .int i1])).length) Slot.unset).toArray = ls at hl ⊢
  have hl : lv_has ls 6 [(0, .ref x0), (1, .int i1)] := hl
  refine lv_aload_n hx hb dX10_slack_0 rfl (lv_at hl 0 rfl) ?_
  refine lv_iload_n hx hb dX10_slack_1 rfl (lv_at hl 1 rfl) ?_
  refine puI (cV (As := [.int i1]) (rest := []) ⟨hx, hb, hml, hown, hts⟩ (c_X10_hasSide l D T b0 b1 b2 b3 b4 b5 b6 b7 b8 b9 bl im kp ma rd sl st sw th tp tu tw wa wn wr x0 i1 s2 s3 s4 s6 t0 t1 t2 t3 t4 t5 t6 t7 t8 s5 ⟨by omega, by omega⟩ ⟨by omega, by omega⟩ ⟨by omega, by omega⟩ ⟨by omega, by omega⟩ ⟨by omega, by omega⟩) k_X10_hasSide v_X10_hasSide m756 rfl rfl ⟨(Nat.le_of_ble_eq_true rfl), (Nat.le_of_ble_eq_true rfl)⟩ (preP hC (hP.sub (ws' := [(x0, .inr (10, [.ref tp, .ref rd, .ref st, .ref th, .ref im, .ref kp, .ref sl, .ref tu, .ref wn, .ref ma, .ref wr])), (st, .inr (3, [.ref tw, .ref wa, .int s2, .int s3, .int s4, .long s5, .int s6, .ref sw, .ref bl])), (tw, .inr (5, [.int t0, .int t1, .int t2, .int t3, .int t4, .int t5, .int t6, .int t7, .int t8, .ref b0, .ref b1, .ref b2, .ref b3, .ref b4, .ref b5, .ref b6, .ref b7, .ref b8, .ref b9]))]) [0, 1, 2] rfl)) (va_recv hK hP (ci := 10) (q0 := 0) rfl rfl) rfl hl.1 rfl (Nat.le_of_ble_eq_true rfl) dX10_slack_2 ⟨(Nat.le_of_ble_eq_true rfl), (Nat.le_of_ble_eq_true rfl)⟩) hS hP (fun r_1 H locs hw hP hS => ?_)
  have w_3 : (r_1 = 1 ∧ 0 ≤ i1.toInt ∧ i1.toInt ≤ 1) ∨ (r_1 = 0) := hw
  rcases w_3 with ⟨rfl, c_4, c_5⟩ | rfl
  · refine lv_if_ne (tgt := 11) hx hb dX10_slack_5 (by decide) (fun _ => ?_) (fun c_6 => absurd c_6 (by decide))
    refine lv_iconst (v := (-1)) hx hb dX10_slack_11 (by decide) ?_
    refine lv_istore_n (lv' := [(2, .int (-1)), (0, .ref x0), (1, .int i1)]) hx hb dX10_slack_12 rfl hl (by decide) rfl (fun ls hl => ?_)
    refine lv_iconst (v := 0) hx hb dX10_slack_13 (by decide) ?_
    refine lv_istore_n (lv' := [(3, .int 0), (2, .int (-1)), (0, .ref x0), (1, .int i1)]) hx hb dX10_slack_14 rfl hl (by decide) rfl (fun ls hl => ?_)
    refine lp_ind (fun (a : Heap × List Loc × Array Slot × (Int32) × (Int32)) => match a with | (H, locs, ls, i_7, i_8) => W p l e _ s m _ below meth c H locs 0 0 _ (F0 m 15 ls [])) (fun (a : Heap × List Loc × Array Slot × (Int32) × (Int32)) => match a with | (H, locs, ls, i_7, i_8) => 0 ≤ i_7.toInt ∧ i_7.toInt ≤ 8 ∧ va_P D vwCl [(x0, .inr (10, [.ref tp, .ref rd, .ref st, .ref th, .ref im, .ref kp, .ref sl, .ref tu, .ref wn, .ref ma, .ref wr])), (st, .inr (3, [.ref tw, .ref wa, .int s2, .int s3, .int s4, .long s5, .int s6, .ref sw, .ref bl])), (tw, .inr (5, [.int t0, .int t1, .int t2, .int t3, .int t4, .int t5, .int t6, .int t7, .int t8, .ref b0, .ref b1, .ref b2, .ref b3, .ref b4, .ref b5, .ref b6, .ref b7, .ref b8, .ref b9])), (wa, .inr (7, [.ref tw, .ref e0, .ref e1, .ref e2, .ref e3, .ref e4, .ref e5, .ref e6, .ref e7])), (e0, .inl (T 0, 16, .inl p0)), (e7, .inl (T 0, 208, .inl p7))] H ∧ va_S (fun _ => False) s.heap H locs ∧ lv_has ls 6 [(3, .int i_7), (2, .int i_8), (0, .ref x0), (1, .int i1)]) (fun (a : Heap × List Loc × Array Slot × (Int32) × (Int32)) => match a with | (H, locs, ls, i_7, i_8) => (8 - i_7.toInt).toNat) ?_ (_, _, ls, (0 : Int32), ((-1) : Int32)) ⟨(show 0 ≤ 0 by omega), (show 0 ≤ 8 by omega), hP, hS, lv_sub hl [0, 1, 2, 3] rfl⟩
    rintro ⟨H, locs, ls, i_7, i_8⟩ ⟨c_9, c_10, hP, hS, hl⟩ ih_11
    refine lv_iload_n hx hb dX10_slack_15 rfl (lv_at hl 0 rfl) ?_
    refine lv_aload_n hx hb dX10_slack_16 rfl (lv_at hl 2 rfl) ?_
    refine va_get (D := D) (ci := 10) (C := RX10) (T := TX10) (N := 11) hx hb hts iX10 hown hK hP 0 rfl rfl 2 (by decide) (hts _ m527) (fun _ h9 => h9) rfl dX10_slack_17 ?_
    refine va_get (D := D) (ci := 3) (C := RX3) (T := TX3) (N := 9) hx hb hts iX3 hown hK hP 1 rfl rfl 0 (by decide) (hts _ m371) (fun _ h9 => h9) rfl dX10_slack_20 ?_
    refine va_get (D := D) (ci := 5) (C := RX5) (T := TX5) (N := 19) hx hb hts iX5 hown hK hP 2 rfl rfl 1 (by decide) (hts _ m173) (fun _ h9 => h9) rfl dX10_slack_23 ?_
    refine lv_icmp_ge (tgt := 86) hx hb dX10_slack_26 (by decide) (fun c_12 => ?_) (fun c_12 => ?_)
    · have c_12 : t1.toInt ≤ i_7.toInt := (c_le (x := t1.toInt) (y := i_7.toInt) rfl rfl).mp c_12
      refine lv_iload_n hx hb dX10_slack_86 rfl (lv_at hl 1 rfl) ?_
      exact W.iret (v := i_8) hx hb hr (fun t ht hW => ⟨⟨i_8, (), rfl, trivial, trivial⟩, hS.F ht⟩) hS.2.2 dX10_slack_87
    · have c_12 : i_7.toInt < t1.toInt := by have h := mt (c_le (x := t1.toInt) (y := i_7.toInt) rfl rfl).mpr c_12; omega
      refine lv_iload_n hx hb dX10_slack_29 rfl (lv_at hl 3 rfl) ?_
      refine lv_iload_n hx hb dX10_slack_30 rfl (lv_at hl 0 rfl) ?_
      refine puI (cS (As := [.int i1, .int i_7]) (rest := []) ⟨hx, hb, hml, hown, hts⟩ (c_X10_placeOf l D T i1 i_7 ⟨by omega, by omega⟩ ⟨by omega, by omega⟩) k_X10_placeOf m769 m768 rfl rfl ⟨(Nat.le_of_ble_eq_true rfl), (Nat.le_of_ble_eq_true rfl)⟩ (preP hC (hP.sub (ws' := []) [] rfl)) rfl hl.1 rfl (Nat.le_of_ble_eq_true rfl) dX10_slack_31 ⟨(Nat.le_of_ble_eq_true rfl), (Nat.le_of_ble_eq_true rfl)⟩) hS hP (fun r_13 H locs hw hP hS => ?_)
      have w_15 : (r_13.toInt = 8 * i1.toInt + i_7.toInt) := hw
      obtain c_16 := w_15
      refine lv_istore (lv' := [(4, .int r_13), (3, .int i_7), (2, .int i_8), (0, .ref x0), (1, .int i1)]) hx hb dX10_slack_34 hl (by decide) rfl (fun ls hl => ?_)
      refine lv_aload_n hx hb dX10_slack_36 rfl (lv_at hl 3 rfl) ?_
      refine va_get (D := D) (ci := 10) (C := RX10) (T := TX10) (N := 11) hx hb hts iX10 hown hK hP 0 rfl rfl 2 (by decide) (hts _ m527) (fun _ h9 => h9) rfl dX10_slack_37 ?_
      refine va_get (D := D) (ci := 3) (C := RX3) (T := TX3) (N := 9) hx hb hts iX3 hown hK hP 1 rfl rfl 1 (by decide) (hts _ m377) (fun _ h9 => h9) rfl dX10_slack_40 ?_
      refine lv_iload hx hb dX10_slack_43 (lv_at hl 0 rfl) ?_
      refine puI (cV (As := [.int r_13]) (rest := []) ⟨hx, hb, hml, hown, hts⟩ (c_X7_roomOn l D T e0 e1 e2 e3 e4 e5 e6 e7 wa tw r_13 p0 p7 ⟨by omega, by omega⟩ R_p0) k_X7_roomOn v_X7_roomOn m847 rfl rfl ⟨(Nat.le_of_ble_eq_true rfl), (Nat.le_of_ble_eq_true rfl)⟩ (preP hC (hP.sub (ws' := [(wa, .inr (7, [.ref tw, .ref e0, .ref e1, .ref e2, .ref e3, .ref e4, .ref e5, .ref e6, .ref e7])), (e0, .inl (T 0, 16, .inl p0)), (e7, .inl (T 0, 208, .inl p7))]) [3, 4, 5] rfl)) (va_recv hK hP (ci := 7) (q0 := 3) rfl rfl) rfl hl.1 rfl (Nat.le_of_ble_eq_true rfl) dX10_slack_45 ⟨(Nat.le_of_ble_eq_true rfl), (Nat.le_of_ble_eq_true rfl)⟩) hS hP (fun r_17 H locs hw hP hS => ?_)
      refine lv_istore (lv' := [(5, .int r_17), (4, .int r_13), (3, .int i_7), (2, .int i_8), (0, .ref x0), (1, .int i1)]) hx hb dX10_slack_48 hl (by decide) rfl (fun ls hl => ?_)
      refine lv_aload_n hx hb dX10_slack_50 rfl (lv_at hl 4 rfl) ?_
      refine va_get (D := D) (ci := 10) (C := RX10) (T := TX10) (N := 11) hx hb hts iX10 hown hK hP 0 rfl rfl 2 (by decide) (hts _ m527) (fun _ h9 => h9) rfl dX10_slack_51 ?_
      refine va_get (D := D) (ci := 3) (C := RX3) (T := TX3) (N := 9) hx hb hts iX3 hown hK hP 1 rfl rfl 1 (by decide) (hts _ m377) (fun _ h9 => h9) rfl dX10_slack_54 ?_
      refine va_get (D := D) (ci := 7) (C := RX7) (T := TX7) (N := 9) hx hb hts iX7 hown hK hP 3 rfl rfl 1 (by decide) (hts _ m328) (fun _ h9 => h9) rfl dX10_slack_57 ?_
      refine lv_iload hx hb dX10_slack_60 (lv_at hl 1 rfl) ?_
      refine va_iald (D := D) hx hb hK hP 4 0 rfl rfl (v_in (x := r_13.toInt) rfl (by omega) (by omega)) dX10_slack_62 ?_
      refine lv_topi (fun x_19 ex_19 => ?_)
      have tx_19 : 0 ≤ x_19.toInt ∧ x_19.toInt ≤ 12 := rg_at R_p0 ex_19
      have qx_19 : x_19.toInt = (p0 r_13.toNatClampNeg).toInt := by rw [ex_19]
      refine lv_if_le (tgt := 80) hx hb dX10_slack_63 (by decide) (fun c_20 => ?_) (fun c_20 => ?_)
      · have c_20 : x_19.toInt ≤ 0 := (c_le (x := x_19.toInt) (y := 0) rfl rfl).mp c_20
        obtain ⟨x_21, ex_21⟩ : ∃ y : Int32, y = i_7 + 1 := ⟨_, rfl⟩
        have tx_21 : x_21.toInt = i_7.toInt + 1 := t_add (x := i_7.toInt) (y := 1) ex_21 rfl rfl (by omega) (by omega)
        refine lv_iinc (v := x_21) (lv' := [(3, .int x_21), (5, .int r_17), (4, .int r_13), (2, .int i_8), (0, .ref x0), (1, .int i1)]) hx hb dX10_slack_80 hl (k := 2) rfl (by rw [ex_21]; rfl) (by decide) rfl (fun ls hl => ?_)
        refine lv_goto (tgt := 15) hx hb dX10_slack_83 (by decide) ?_
        exact ih_11 (_, _, _, x_21, i_8) ⟨(show 0 ≤ x_21.toInt by omega), (show x_21.toInt ≤ 8 by omega), hP, hS, lv_sub hl [0, 3, 4, 5] rfl⟩ (show (8 - x_21.toInt).toNat < (8 - i_7.toInt).toNat by omega)
      · have c_20 : 0 < x_19.toInt := by have h := mt (c_le (x := x_19.toInt) (y := 0) rfl rfl).mpr c_20; omega
        refine lv_iload_n hx hb dX10_slack_66 rfl (lv_at hl 3 rfl) ?_
        refine lv_iconst (v := (-1)) hx hb dX10_slack_67 (by decide) ?_
        refine lv_icmp_eq (tgt := 77) hx hb dX10_slack_68 (by decide) (fun c_22 => ?_) (fun c_22 => ?_)
        · have c_22 : i_8.toInt = (-1) := (c_eq (x := i_8.toInt) (y := (-1)) rfl rfl).mp c_22
          refine lv_iload hx hb dX10_slack_77 (lv_at hl 0 rfl) ?_
          refine lv_istore_n (lv' := [(2, .int r_17), (5, .int r_17), (4, .int r_13), (3, .int i_7), (0, .ref x0), (1, .int i1)]) hx hb dX10_slack_79 rfl hl (by decide) rfl (fun ls hl => ?_)
          obtain ⟨x_23, ex_23⟩ : ∃ y : Int32, y = i_7 + 1 := ⟨_, rfl⟩
          have tx_23 : x_23.toInt = i_7.toInt + 1 := t_add (x := i_7.toInt) (y := 1) ex_23 rfl rfl (by omega) (by omega)
          refine lv_iinc (v := x_23) (lv' := [(3, .int x_23), (2, .int r_17), (5, .int r_17), (4, .int r_13), (0, .ref x0), (1, .int i1)]) hx hb dX10_slack_80 hl (k := 3) rfl (by rw [ex_23]; rfl) (by decide) rfl (fun ls hl => ?_)
          refine lv_goto (tgt := 15) hx hb dX10_slack_83 (by decide) ?_
          exact ih_11 (_, _, _, x_23, r_17) ⟨(show 0 ≤ x_23.toInt by omega), (show x_23.toInt ≤ 8 by omega), hP, hS, lv_sub hl [0, 1, 4, 5] rfl⟩ (show (8 - x_23.toInt).toNat < (8 - i_7.toInt).toNat by omega)
        · have c_22 : ¬ i_8.toInt = (-1) := fun h => c_22 ((c_eq (x := i_8.toInt) (y := (-1)) rfl rfl).mpr h)
          refine lv_iload hx hb dX10_slack_71 (lv_at hl 0 rfl) ?_
          refine lv_iload_n hx hb dX10_slack_73 rfl (lv_at hl 3 rfl) ?_
          refine lv_icmp_ge (tgt := 80) hx hb dX10_slack_74 (by decide) (fun c_24 => ?_) (fun c_24 => ?_)
          · have c_24 : i_8.toInt ≤ r_17.toInt := (c_le (x := i_8.toInt) (y := r_17.toInt) rfl rfl).mp c_24
            obtain ⟨x_25, ex_25⟩ : ∃ y : Int32, y = i_7 + 1 := ⟨_, rfl⟩
            have tx_25 : x_25.toInt = i_7.toInt + 1 := t_add (x := i_7.toInt) (y := 1) ex_25 rfl rfl (by omega) (by omega)
            refine lv_iinc (v := x_25) (lv' := [(3, .int x_25), (5, .int r_17), (4, .int r_13), (2, .int i_8), (0, .ref x0), (1, .int i1)]) hx hb dX10_slack_80 hl (k := 2) rfl (by rw [ex_25]; rfl) (by decide) rfl (fun ls hl => ?_)
            refine lv_goto (tgt := 15) hx hb dX10_slack_83 (by decide) ?_
            exact ih_11 (_, _, _, x_25, i_8) ⟨(show 0 ≤ x_25.toInt by omega), (show x_25.toInt ≤ 8 by omega), hP, hS, lv_sub hl [0, 3, 4, 5] rfl⟩ (show (8 - x_25.toInt).toNat < (8 - i_7.toInt).toNat by omega)
          · have c_24 : r_17.toInt < i_8.toInt := by have h := mt (c_le (x := i_8.toInt) (y := r_17.toInt) rfl rfl).mpr c_24; omega
            refine lv_iload hx hb dX10_slack_77 (lv_at hl 0 rfl) ?_
            refine lv_istore_n (lv' := [(2, .int r_17), (5, .int r_17), (4, .int r_13), (3, .int i_7), (0, .ref x0), (1, .int i1)]) hx hb dX10_slack_79 rfl hl (by decide) rfl (fun ls hl => ?_)
            obtain ⟨x_26, ex_26⟩ : ∃ y : Int32, y = i_7 + 1 := ⟨_, rfl⟩
            have tx_26 : x_26.toInt = i_7.toInt + 1 := t_add (x := i_7.toInt) (y := 1) ex_26 rfl rfl (by omega) (by omega)
            refine lv_iinc (v := x_26) (lv' := [(3, .int x_26), (2, .int r_17), (5, .int r_17), (4, .int r_13), (0, .ref x0), (1, .int i1)]) hx hb dX10_slack_80 hl (k := 3) rfl (by rw [ex_26]; rfl) (by decide) rfl (fun ls hl => ?_)
            refine lv_goto (tgt := 15) hx hb dX10_slack_83 (by decide) ?_
            exact ih_11 (_, _, _, x_26, r_17) ⟨(show 0 ≤ x_26.toInt by omega), (show x_26.toInt ≤ 8 by omega), hP, hS, lv_sub hl [0, 1, 4, 5] rfl⟩ (show (8 - x_26.toInt).toNat < (8 - i_7.toInt).toNat by omega)
  · refine lv_if_ne (tgt := 11) hx hb dX10_slack_5 (by decide) (fun c_27 => absurd c_27 (by decide)) (fun _ => ?_)
    refine lv_bipush (v := (-2)) hx hb dX10_slack_8 (by decide) ?_
    exact W.iret (v := (-2)) hx hb hr (fun t ht hW => ⟨⟨(-2), (), rfl, trivial, trivial⟩, hS.F ht⟩) hS.2.2 dX10_slack_10

set_option maxHeartbeats 4000000 in
set_option maxRecDepth 100000 in
theorem c_X10_leads (l : Launch) (D : va_G) (T : Nat → ClassId) (b0 b1 b2 b3 b4 b5 b6 b7 b8 b9 bl e0 e1 e2 e3 e4 e5 e6 e7 im kp ma rd sl st sw th tp tu tw wa wn wr x0 : Nat) (s2 s3 s4 s6 t0 t1 t2 t3 t4 t5 t6 t7 t8 : Int32) (s5 : Int64) (p0 p5 p6 : Nat → Int32) (h_t1 : 0 ≤ t1.toInt ∧ t1.toInt ≤ 8) (h_t2 : 0 ≤ t2.toInt ∧ t2.toInt ≤ 12) (h_t4 : 0 ≤ t4.toInt ∧ t4.toInt ≤ 5) (h_t5 : 0 ≤ t5.toInt ∧ t5.toInt ≤ 10) (h_s2 : 0 ≤ s2.toInt ∧ s2.toInt ≤ 100) (R_p0 : rg 0 12 p0) : Met l yX10_leads (wM yX10_leads cX10_leads 1 (some .int)) ({ frames := 4, cells := 0, slots := 0, locals := 89 }) (va_Pc [.ref x0] (pwP D T [(x0, .inr (10, [.ref tp, .ref rd, .ref st, .ref th, .ref im, .ref kp, .ref sl, .ref tu, .ref wn, .ref ma, .ref wr])), (st, .inr (3, [.ref tw, .ref wa, .int s2, .int s3, .int s4, .long s5, .int s6, .ref sw, .ref bl])), (tw, .inr (5, [.int t0, .int t1, .int t2, .int t3, .int t4, .int t5, .int t6, .int t7, .int t8, .ref b0, .ref b1, .ref b2, .ref b3, .ref b4, .ref b5, .ref b6, .ref b7, .ref b8, .ref b9])), (wa, .inr (7, [.ref tw, .ref e0, .ref e1, .ref e2, .ref e3, .ref e4, .ref e5, .ref e6, .ref e7])), (e0, .inl (T 0, 16, .inl p0)), (e5, .inl (T 0, 2, .inl p5)), (e6, .inl (T 0, 2, .inl p6))])) (va_Qi (fun (r : Int32) (u : Unit) => True) (fun _ _ => True) (fun _ => False)) 0 0 (fun _ => False) := by
  refine Met.ofW (cc := cX10_leads) (maxL := 1) (ret := (some .int)) (by decide) rfl ?_
  intro p e s m args below meth c s₁ B hml hv
  obtain ⟨rfl, hP, hC⟩ := hv
  have hx := B.exec
  have hb := B.bytes
  have hr := B.returns
  have hts : ∀ w ∈ gt, w.before _ s = true := fun w hw => atoms_spec (ws := (wM yX10_leads cX10_leads 1 (some .int))) B.pre w (List.mem_cons_of_mem _ hw)
  have hown : s.vm.findClass RX10 = some m.cls := findClass_of_methodNamed B.named
  have hlocks := B.notSynchronized
  have hK := hC.1
  have hS : va_S (fun _ => False) s.heap s.heap [] := va_S.rf
  have hl := lv_entry ([.ref x0]) (n := 1) (Nat.le_of_ble_eq_true rfl)
  rw [lg_entry_eq]
  generalize (lg_sl ([.ref x0]) ++ List.replicate (1 - (lg_sl ([.ref x0])).length) Slot.unset).toArray = ls at hl ⊢
  have hl : lv_has ls 1 [(0, .ref x0)] := hl
  refine lv_aload_n hx hb dX10_leads_0 rfl (lv_at hl 0 rfl) ?_
  refine puI (cV (As := []) (rest := []) ⟨hx, hb, hml, hown, hts⟩ (c_X10_hasTown l D T b0 b1 b2 b3 b4 b5 b6 b7 b8 b9 bl im kp ma rd sl st sw th tp tu tw wa wn wr x0 s2 s3 s4 s6 t0 t1 t2 t3 t4 t5 t6 t7 t8 s5 ⟨by omega, by omega⟩ ⟨by omega, by omega⟩ ⟨by omega, by omega⟩ ⟨by omega, by omega⟩ ⟨by omega, by omega⟩) k_X10_hasTown v_X10_hasTown m760 rfl rfl ⟨(Nat.le_of_ble_eq_true rfl), (Nat.le_of_ble_eq_true rfl)⟩ (preP hC (hP.sub (ws' := [(x0, .inr (10, [.ref tp, .ref rd, .ref st, .ref th, .ref im, .ref kp, .ref sl, .ref tu, .ref wn, .ref ma, .ref wr])), (st, .inr (3, [.ref tw, .ref wa, .int s2, .int s3, .int s4, .long s5, .int s6, .ref sw, .ref bl])), (tw, .inr (5, [.int t0, .int t1, .int t2, .int t3, .int t4, .int t5, .int t6, .int t7, .int t8, .ref b0, .ref b1, .ref b2, .ref b3, .ref b4, .ref b5, .ref b6, .ref b7, .ref b8, .ref b9]))]) [0, 1, 2] rfl)) (va_recv hK hP (ci := 10) (q0 := 0) rfl rfl) rfl hl.1 rfl (Nat.le_of_ble_eq_true rfl) dX10_leads_1 ⟨(Nat.le_of_ble_eq_true rfl), (Nat.le_of_ble_eq_true rfl)⟩) hS hP (fun r_1 H locs hw hP hS => ?_)
  have w_3 : (r_1 = 1 ∧ 0 < t1.toInt) ∨ (r_1 = 0) := hw
  rcases w_3 with ⟨rfl, c_4⟩ | rfl
  · refine lv_if_eq (tgt := 24) hx hb dX10_leads_4 (by decide) (fun c_5 => absurd c_5 (by decide)) (fun _ => ?_)
    refine lv_aload_n hx hb dX10_leads_7 rfl (lv_at hl 0 rfl) ?_
    refine va_get (D := D) (ci := 10) (C := RX10) (T := TX10) (N := 11) hx hb hts iX10 hown hK hP 0 rfl rfl 2 (by decide) (hts _ m527) (fun _ h9 => h9) rfl dX10_leads_8 ?_
    refine lv_aload_n hx hb dX10_leads_11 rfl (lv_at hl 0 rfl) ?_
    refine va_get (D := D) (ci := 10) (C := RX10) (T := TX10) (N := 11) hx hb hts iX10 hown hK hP 0 rfl rfl 2 (by decide) (hts _ m527) (fun _ h9 => h9) rfl dX10_leads_12 ?_
    refine va_get (D := D) (ci := 3) (C := RX3) (T := TX3) (N := 9) hx hb hts iX3 hown hK hP 1 rfl rfl 3 (by decide) (hts _ m386) (fun _ h9 => h9) rfl dX10_leads_15 ?_
    refine puI (cV (As := [.int s3]) (rest := []) ⟨hx, hb, hml, hown, hts⟩ (c_X3_leader l D T b0 b1 b2 b3 b4 b5 b6 b7 b8 b9 bl e0 e1 e2 e3 e4 e5 e6 e7 st sw tw wa s3 s2 s3 s4 s6 t0 t1 t2 t3 t4 t5 t6 t7 t8 s5 p0 p5 p6 ⟨by omega, by omega⟩ ⟨by omega, by omega⟩ ⟨by omega, by omega⟩ ⟨by omega, by omega⟩ ⟨by omega, by omega⟩ R_p0) k_X3_leader v_X3_leader m873 rfl rfl ⟨(Nat.le_of_ble_eq_true rfl), (Nat.le_of_ble_eq_true rfl)⟩ (preP hC (hP.sub (ws' := [(st, .inr (3, [.ref tw, .ref wa, .int s2, .int s3, .int s4, .long s5, .int s6, .ref sw, .ref bl])), (tw, .inr (5, [.int t0, .int t1, .int t2, .int t3, .int t4, .int t5, .int t6, .int t7, .int t8, .ref b0, .ref b1, .ref b2, .ref b3, .ref b4, .ref b5, .ref b6, .ref b7, .ref b8, .ref b9])), (wa, .inr (7, [.ref tw, .ref e0, .ref e1, .ref e2, .ref e3, .ref e4, .ref e5, .ref e6, .ref e7])), (e0, .inl (T 0, 16, .inl p0)), (e5, .inl (T 0, 2, .inl p5)), (e6, .inl (T 0, 2, .inl p6))]) [1, 2, 3, 4, 5, 6] rfl)) (va_recv hK hP (ci := 3) (q0 := 1) rfl rfl) rfl hl.1 rfl (Nat.le_of_ble_eq_true rfl) dX10_leads_18 ⟨(Nat.le_of_ble_eq_true rfl), (Nat.le_of_ble_eq_true rfl)⟩) hS hP (fun r_6 H locs hw hP hS => ?_)
    have w_8 : (0 ≤ r_6.toInt ∧ r_6.toInt ≤ 2) := hw
    refine lv_goto (tgt := 26) hx hb dX10_leads_21 (by decide) ?_
    exact W.iret (v := r_6) hx hb hr (fun t ht hW => ⟨⟨r_6, (), rfl, trivial, trivial⟩, hS.F ht⟩) hS.2.2 dX10_leads_26
  · refine lv_if_eq (tgt := 24) hx hb dX10_leads_4 (by decide) (fun _ => ?_) (fun c_9 => absurd (by decide) c_9)
    refine lv_bipush (v := (-2)) hx hb dX10_leads_24 (by decide) ?_
    exact W.iret (v := (-2)) hx hb hr (fun t ht hW => ⟨⟨(-2), (), rfl, trivial, trivial⟩, hS.F ht⟩) hS.2.2 dX10_leads_26

set_option maxHeartbeats 4000000 in
set_option maxRecDepth 100000 in
theorem c_X10_would (l : Launch) (D : va_G) (T : Nat → ClassId) (b0 b1 b2 b3 b4 b5 b6 b7 b8 b9 bl e0 e1 e2 e3 e4 e5 e6 e7 im kp ma rd sl st sw th tp tu tw wa wn wr x0 : Nat) (i1 i2 s2 s3 s4 s6 t0 t1 t2 t3 t4 t5 t6 t7 t8 : Int32) (s5 : Int64) (f0 f3 f4 f5 f6 p0 p1 p7 : Nat → Int32) (h_t1 : 0 ≤ t1.toInt ∧ t1.toInt ≤ 8) (h_t2 : 0 ≤ t2.toInt ∧ t2.toInt ≤ 12) (h_t4 : 0 ≤ t4.toInt ∧ t4.toInt ≤ 5) (h_t5 : 0 ≤ t5.toInt ∧ t5.toInt ≤ 10) (h_s2 : 0 ≤ s2.toInt ∧ s2.toInt ≤ 100) (R_f3 : rg 0 3 f3) (R_p0 : rg 0 12 p0) : Met l yX10_would (wM yX10_would cX10_would 3 (some .int)) ({ frames := 4, cells := 0, slots := 0, locals := 85 }) (va_Pc [.ref x0, .int i1, .int i2] (pwP D T [(x0, .inr (10, [.ref tp, .ref rd, .ref st, .ref th, .ref im, .ref kp, .ref sl, .ref tu, .ref wn, .ref ma, .ref wr])), (st, .inr (3, [.ref tw, .ref wa, .int s2, .int s3, .int s4, .long s5, .int s6, .ref sw, .ref bl])), (tw, .inr (5, [.int t0, .int t1, .int t2, .int t3, .int t4, .int t5, .int t6, .int t7, .int t8, .ref b0, .ref b1, .ref b2, .ref b3, .ref b4, .ref b5, .ref b6, .ref b7, .ref b8, .ref b9])), (b0, .inl (T 0, 5, .inl f0)), (b3, .inl (T 0, 10, .inl f3)), (b4, .inl (T 0, 10, .inl f4)), (b5, .inl (T 0, 10, .inl f5)), (b6, .inl (T 0, 10, .inl f6)), (wa, .inr (7, [.ref tw, .ref e0, .ref e1, .ref e2, .ref e3, .ref e4, .ref e5, .ref e6, .ref e7])), (e0, .inl (T 0, 16, .inl p0)), (e1, .inl (T 0, 5, .inl p1)), (e7, .inl (T 0, 208, .inl p7))])) (va_Qi (fun (r : Int32) (u : Unit) => True) (fun _ _ => True) (fun _ => False)) 0 0 (fun _ => False) := by
  refine Met.ofW (cc := cX10_would) (maxL := 3) (ret := (some .int)) (by decide) rfl ?_
  intro p e s m args below meth c s₁ B hml hv
  obtain ⟨rfl, hP, hC⟩ := hv
  have hx := B.exec
  have hb := B.bytes
  have hr := B.returns
  have hts : ∀ w ∈ gt, w.before _ s = true := fun w hw => atoms_spec (ws := (wM yX10_would cX10_would 3 (some .int))) B.pre w (List.mem_cons_of_mem _ hw)
  have hown : s.vm.findClass RX10 = some m.cls := findClass_of_methodNamed B.named
  have hlocks := B.notSynchronized
  have hK := hC.1
  have hS : va_S (fun _ => False) s.heap s.heap [] := va_S.rf
  have hl := lv_entry ([.ref x0, .int i1, .int i2]) (n := 3) (Nat.le_of_ble_eq_true rfl)
  rw [lg_entry_eq]
  generalize (lg_sl ([.ref x0, .int i1, .int i2]) ++ List.replicate (3 - (lg_sl ([.ref x0, .int i1, .int i2])).length) Slot.unset).toArray = ls at hl ⊢
  have hl : lv_has ls 3 [(0, .ref x0), (1, .int i1), (2, .int i2)] := hl
  refine lv_aload_n hx hb dX10_would_0 rfl (lv_at hl 0 rfl) ?_
  refine lv_iload_n hx hb dX10_would_1 rfl (lv_at hl 1 rfl) ?_
  refine puI (cV (As := [.int i1]) (rest := []) ⟨hx, hb, hml, hown, hts⟩ (c_X10_hasVoter l D T b0 b1 b2 b3 b4 b5 b6 b7 b8 b9 bl im kp ma rd sl st sw th tp tu tw wa wn wr x0 i1 s2 s3 s4 s6 t0 t1 t2 t3 t4 t5 t6 t7 t8 s5 ⟨by omega, by omega⟩ ⟨by omega, by omega⟩ ⟨by omega, by omega⟩ ⟨by omega, by omega⟩ ⟨by omega, by omega⟩) k_X10_hasVoter v_X10_hasVoter m882 rfl rfl ⟨(Nat.le_of_ble_eq_true rfl), (Nat.le_of_ble_eq_true rfl)⟩ (preP hC (hP.sub (ws' := [(x0, .inr (10, [.ref tp, .ref rd, .ref st, .ref th, .ref im, .ref kp, .ref sl, .ref tu, .ref wn, .ref ma, .ref wr])), (st, .inr (3, [.ref tw, .ref wa, .int s2, .int s3, .int s4, .long s5, .int s6, .ref sw, .ref bl])), (tw, .inr (5, [.int t0, .int t1, .int t2, .int t3, .int t4, .int t5, .int t6, .int t7, .int t8, .ref b0, .ref b1, .ref b2, .ref b3, .ref b4, .ref b5, .ref b6, .ref b7, .ref b8, .ref b9]))]) [0, 1, 2] rfl)) (va_recv hK hP (ci := 10) (q0 := 0) rfl rfl) rfl hl.1 rfl (Nat.le_of_ble_eq_true rfl) dX10_would_2 ⟨(Nat.le_of_ble_eq_true rfl), (Nat.le_of_ble_eq_true rfl)⟩) hS hP (fun r_1 H locs hw hP hS => ?_)
  have w_3 : (r_1 = 1 ∧ 0 ≤ i1.toInt ∧ i1.toInt < t5.toInt) ∨ (r_1 = 0) := hw
  rcases w_3 with ⟨rfl, c_4, c_5⟩ | rfl
  · refine lv_if_ne (tgt := 11) hx hb dX10_would_5 (by decide) (fun _ => ?_) (fun c_6 => absurd c_6 (by decide))
    refine lv_iload_n hx hb dX10_would_11 rfl (lv_at hl 2 rfl) ?_
    rcases (show (i2.toInt = 0) ∨ (i2.toInt = 1) ∨ (i2.toInt = 2) ∨ (¬ i2.toInt = 0 ∧ ¬ i2.toInt = 1 ∧ ¬ i2.toInt = 2) by omega) with c_7 | c_7 | c_7 | c_7
    · refine lv_tableIn (off := 28) (tgt := 40) hx hb dX10_would_12 (by omega) (by omega) (by rw [c_7]; decide) (by decide) ?_
      refine lv_aload_n hx hb dX10_would_40 rfl (lv_at hl 0 rfl) ?_
      refine va_get (D := D) (ci := 10) (C := RX10) (T := TX10) (N := 11) hx hb hts iX10 hown hK hP 0 rfl rfl 2 (by decide) (hts _ m527) (fun _ h9 => h9) rfl dX10_would_41 ?_
      refine lv_iload_n hx hb dX10_would_44 rfl (lv_at hl 1 rfl) ?_
      refine puI (cV (As := [.int i1]) (rest := []) ⟨hx, hb, hml, hown, hts⟩ (c_X3_sideOf l D T b0 b1 b2 b3 b4 b5 b6 b7 b8 b9 bl st sw tw wa i1 s2 s3 s4 s6 t0 t1 t2 t3 t4 t5 t6 t7 t8 s5 f3 ⟨by omega, by omega⟩ ⟨by omega, by omega⟩ ⟨by omega, by omega⟩ ⟨by omega, by omega⟩ ⟨by omega, by omega⟩ ⟨by omega, by omega⟩ R_f3) k_X3_sideOf v_X3_sideOf m886 rfl rfl ⟨(Nat.le_of_ble_eq_true rfl), (Nat.le_of_ble_eq_true rfl)⟩ (preP hC (hP.sub (ws' := [(st, .inr (3, [.ref tw, .ref wa, .int s2, .int s3, .int s4, .long s5, .int s6, .ref sw, .ref bl])), (tw, .inr (5, [.int t0, .int t1, .int t2, .int t3, .int t4, .int t5, .int t6, .int t7, .int t8, .ref b0, .ref b1, .ref b2, .ref b3, .ref b4, .ref b5, .ref b6, .ref b7, .ref b8, .ref b9])), (b3, .inl (T 0, 10, .inl f3))]) [1, 2, 4] rfl)) (va_recv hK hP (ci := 3) (q0 := 1) rfl rfl) rfl hl.1 rfl (Nat.le_of_ble_eq_true rfl) dX10_would_45 ⟨(Nat.le_of_ble_eq_true rfl), (Nat.le_of_ble_eq_true rfl)⟩) hS hP (fun r_8 H locs hw hP hS => ?_)
      have w_10 : (r_8 = sdf (f3 i1.toNatClampNeg) s4 ∧ 0 ≤ r_8.toInt ∧ r_8.toInt ≤ 1) := hw
      obtain ⟨c_11, c_12, c_13⟩ := w_10
      exact W.iret (v := r_8) hx hb hr (fun t ht hW => ⟨⟨r_8, (), rfl, trivial, trivial⟩, hS.F ht⟩) hS.2.2 dX10_would_48
    · refine lv_tableIn (off := 37) (tgt := 49) hx hb dX10_would_12 (by omega) (by omega) (by rw [c_7]; decide) (by decide) ?_
      refine lv_aload_n hx hb dX10_would_49 rfl (lv_at hl 0 rfl) ?_
      refine va_get (D := D) (ci := 10) (C := RX10) (T := TX10) (N := 11) hx hb hts iX10 hown hK hP 0 rfl rfl 2 (by decide) (hts _ m527) (fun _ h9 => h9) rfl dX10_would_50 ?_
      refine lv_iload_n hx hb dX10_would_53 rfl (lv_at hl 1 rfl) ?_
      refine puI (cV (As := [.int i1]) (rest := []) ⟨hx, hb, hml, hown, hts⟩ (c_X3_sortOf l D T b0 b1 b2 b3 b4 b5 b6 b7 b8 b9 bl e0 e1 e2 e3 e4 e5 e6 e7 st sw tw wa i1 s2 s3 s4 s6 t0 t1 t2 t3 t4 t5 t6 t7 t8 s5 f0 f5 f6 p1 ⟨by omega, by omega⟩ ⟨by omega, by omega⟩ ⟨by omega, by omega⟩ ⟨by omega, by omega⟩ ⟨by omega, by omega⟩ ⟨by omega, by omega⟩) k_X3_sortOf v_X3_sortOf m890 rfl rfl ⟨(Nat.le_of_ble_eq_true rfl), (Nat.le_of_ble_eq_true rfl)⟩ (preP hC (hP.sub (ws' := [(st, .inr (3, [.ref tw, .ref wa, .int s2, .int s3, .int s4, .long s5, .int s6, .ref sw, .ref bl])), (tw, .inr (5, [.int t0, .int t1, .int t2, .int t3, .int t4, .int t5, .int t6, .int t7, .int t8, .ref b0, .ref b1, .ref b2, .ref b3, .ref b4, .ref b5, .ref b6, .ref b7, .ref b8, .ref b9])), (b0, .inl (T 0, 5, .inl f0)), (b5, .inl (T 0, 10, .inl f5)), (b6, .inl (T 0, 10, .inl f6)), (wa, .inr (7, [.ref tw, .ref e0, .ref e1, .ref e2, .ref e3, .ref e4, .ref e5, .ref e6, .ref e7])), (e1, .inl (T 0, 5, .inl p1))]) [1, 2, 3, 6, 7, 8, 10] rfl)) (va_recv hK hP (ci := 3) (q0 := 1) rfl rfl) rfl hl.1 rfl (Nat.le_of_ble_eq_true rfl) dX10_would_54 ⟨(Nat.le_of_ble_eq_true rfl), (Nat.le_of_ble_eq_true rfl)⟩) hS hP (fun r_14 H locs hw hP hS => ?_)
      have w_16 : ((-1) ≤ r_14.toInt ∧ r_14.toInt ≤ 4) := hw
      exact W.iret (v := r_14) hx hb hr (fun t ht hW => ⟨⟨r_14, (), rfl, trivial, trivial⟩, hS.F ht⟩) hS.2.2 dX10_would_57
    · refine lv_tableIn (off := 46) (tgt := 58) hx hb dX10_would_12 (by omega) (by omega) (by rw [c_7]; decide) (by decide) ?_
      refine lv_aload_n hx hb dX10_would_58 rfl (lv_at hl 0 rfl) ?_
      refine va_get (D := D) (ci := 10) (C := RX10) (T := TX10) (N := 11) hx hb hts iX10 hown hK hP 0 rfl rfl 2 (by decide) (hts _ m527) (fun _ h9 => h9) rfl dX10_would_59 ?_
      refine lv_iload_n hx hb dX10_would_62 rfl (lv_at hl 1 rfl) ?_
      refine lv_aload_n hx hb dX10_would_63 rfl (lv_at hl 0 rfl) ?_
      refine va_get (D := D) (ci := 10) (C := RX10) (T := TX10) (N := 11) hx hb hts iX10 hown hK hP 0 rfl rfl 2 (by decide) (hts _ m527) (fun _ h9 => h9) rfl dX10_would_64 ?_
      refine lv_iload_n hx hb dX10_would_67 rfl (lv_at hl 1 rfl) ?_
      refine puI (cV (As := [.int i1]) (rest := [.int i1, .ref st]) ⟨hx, hb, hml, hown, hts⟩ (c_X3_sortOf l D T b0 b1 b2 b3 b4 b5 b6 b7 b8 b9 bl e0 e1 e2 e3 e4 e5 e6 e7 st sw tw wa i1 s2 s3 s4 s6 t0 t1 t2 t3 t4 t5 t6 t7 t8 s5 f0 f5 f6 p1 ⟨by omega, by omega⟩ ⟨by omega, by omega⟩ ⟨by omega, by omega⟩ ⟨by omega, by omega⟩ ⟨by omega, by omega⟩ ⟨by omega, by omega⟩) k_X3_sortOf v_X3_sortOf m890 rfl rfl ⟨(Nat.le_of_ble_eq_true rfl), (Nat.le_of_ble_eq_true rfl)⟩ (preP hC (hP.sub (ws' := [(st, .inr (3, [.ref tw, .ref wa, .int s2, .int s3, .int s4, .long s5, .int s6, .ref sw, .ref bl])), (tw, .inr (5, [.int t0, .int t1, .int t2, .int t3, .int t4, .int t5, .int t6, .int t7, .int t8, .ref b0, .ref b1, .ref b2, .ref b3, .ref b4, .ref b5, .ref b6, .ref b7, .ref b8, .ref b9])), (b0, .inl (T 0, 5, .inl f0)), (b5, .inl (T 0, 10, .inl f5)), (b6, .inl (T 0, 10, .inl f6)), (wa, .inr (7, [.ref tw, .ref e0, .ref e1, .ref e2, .ref e3, .ref e4, .ref e5, .ref e6, .ref e7])), (e1, .inl (T 0, 5, .inl p1))]) [1, 2, 3, 6, 7, 8, 10] rfl)) (va_recv hK hP (ci := 3) (q0 := 1) rfl rfl) rfl hl.1 rfl (Nat.le_of_ble_eq_true rfl) dX10_would_68 ⟨(Nat.le_of_ble_eq_true rfl), (Nat.le_of_ble_eq_true rfl)⟩) hS hP (fun r_17 H locs hw hP hS => ?_)
      have w_19 : ((-1) ≤ r_17.toInt ∧ r_17.toInt ≤ 4) := hw
      refine puI (cV (As := [.int i1, .int r_17]) (rest := []) ⟨hx, hb, hml, hown, hts⟩ (c_X3_columnOf l D T b0 b1 b2 b3 b4 b5 b6 b7 b8 b9 bl e0 e1 e2 e3 e4 e5 e6 e7 st sw tw wa i1 r_17 s2 s3 s4 s6 t0 t1 t2 t3 t4 t5 t6 t7 t8 s5 f0 f3 f4 p0 p7 ⟨by omega, by omega⟩ ⟨by omega, by omega⟩ ⟨by omega, by omega⟩ ⟨by omega, by omega⟩ ⟨by omega, by omega⟩ ⟨by omega, by omega⟩ ⟨by omega, by omega⟩ R_f3 R_p0) k_X3_columnOf v_X3_columnOf m898 rfl rfl ⟨(Nat.le_of_ble_eq_true rfl), (Nat.le_of_ble_eq_true rfl)⟩ (preP hC (hP.sub (ws' := [(st, .inr (3, [.ref tw, .ref wa, .int s2, .int s3, .int s4, .long s5, .int s6, .ref sw, .ref bl])), (tw, .inr (5, [.int t0, .int t1, .int t2, .int t3, .int t4, .int t5, .int t6, .int t7, .int t8, .ref b0, .ref b1, .ref b2, .ref b3, .ref b4, .ref b5, .ref b6, .ref b7, .ref b8, .ref b9])), (b0, .inl (T 0, 5, .inl f0)), (b3, .inl (T 0, 10, .inl f3)), (b4, .inl (T 0, 10, .inl f4)), (wa, .inr (7, [.ref tw, .ref e0, .ref e1, .ref e2, .ref e3, .ref e4, .ref e5, .ref e6, .ref e7])), (e0, .inl (T 0, 16, .inl p0)), (e7, .inl (T 0, 208, .inl p7))]) [1, 2, 3, 4, 5, 8, 9, 11] rfl)) (va_recv hK hP (ci := 3) (q0 := 1) rfl rfl) rfl hl.1 rfl (Nat.le_of_ble_eq_true rfl) dX10_would_71 ⟨(Nat.le_of_ble_eq_true rfl), (Nat.le_of_ble_eq_true rfl)⟩) hS hP (fun r_20 H locs hw hP hS => ?_)
      have w_22 : ((r_20.toInt = -1 ∨ (0 ≤ r_20.toInt ∧ r_20.toInt < t1.toInt ∧ (p0 (8 * (sdf (f3 i1.toNatClampNeg) s4).toInt + r_20.toInt).toNat).toInt < t2.toInt ∧ 0 ≤ r_17.toInt))) := hw
      obtain c_23 := w_22
      exact W.iret (v := r_20) hx hb hr (fun t ht hW => ⟨⟨r_20, (), rfl, trivial, trivial⟩, hS.F ht⟩) hS.2.2 dX10_would_74
    · refine lv_tableOut (tgt := 75) hx hb dX10_would_12 (by omega) (by decide) ?_
      refine lv_bipush (v := (-2)) hx hb dX10_would_75 (by decide) ?_
      exact W.iret (v := (-2)) hx hb hr (fun t ht hW => ⟨⟨(-2), (), rfl, trivial, trivial⟩, hS.F ht⟩) hS.2.2 dX10_would_77
  · refine lv_if_ne (tgt := 11) hx hb dX10_would_5 (by decide) (fun c_24 => absurd c_24 (by decide)) (fun _ => ?_)
    refine lv_bipush (v := (-2)) hx hb dX10_would_8 (by decide) ?_
    exact W.iret (v := (-2)) hx hb hr (fun t ht hW => ⟨⟨(-2), (), rfl, trivial, trivial⟩, hS.F ht⟩) hS.2.2 dX10_would_10

set_option maxHeartbeats 4000000 in
set_option maxRecDepth 100000 in
theorem c_X10_won (l : Launch) (D : va_G) (T : Nat → ClassId) (bl im kp ma rd sl st sw th tp tu tw wa wn wr x0 : Nat) (i1 s2 s3 s4 s6 : Int32) (s5 : Int64) (v0 : Nat → Int32) (h_s2 : 0 ≤ s2.toInt ∧ s2.toInt ≤ 100) : Met l yX10_won (wM yX10_won cX10_won 2 (some .int)) ({ frames := 1, cells := 0, slots := 0, locals := 21 }) (va_Pc [.ref x0, .int i1] (pwP D T [(x0, .inr (10, [.ref tp, .ref rd, .ref st, .ref th, .ref im, .ref kp, .ref sl, .ref tu, .ref wn, .ref ma, .ref wr])), (st, .inr (3, [.ref tw, .ref wa, .int s2, .int s3, .int s4, .long s5, .int s6, .ref sw, .ref bl])), (sw, .inl (T 0, 100, .inl v0))])) (va_Qi (fun (r : Int32) (u : Unit) => True) (fun _ _ => True) (fun _ => False)) 0 0 (fun _ => False) := by
  refine Met.ofW (cc := cX10_won) (maxL := 2) (ret := (some .int)) (by decide) rfl ?_
  intro p e s m args below meth c s₁ B hml hv
  obtain ⟨rfl, hP, hC⟩ := hv
  have hx := B.exec
  have hb := B.bytes
  have hr := B.returns
  have hts : ∀ w ∈ gt, w.before _ s = true := fun w hw => atoms_spec (ws := (wM yX10_won cX10_won 2 (some .int))) B.pre w (List.mem_cons_of_mem _ hw)
  have hown : s.vm.findClass RX10 = some m.cls := findClass_of_methodNamed B.named
  have hlocks := B.notSynchronized
  have hK := hC.1
  have hS : va_S (fun _ => False) s.heap s.heap [] := va_S.rf
  have hl := lv_entry ([.ref x0, .int i1]) (n := 2) (Nat.le_of_ble_eq_true rfl)
  rw [lg_entry_eq]
  generalize (lg_sl ([.ref x0, .int i1]) ++ List.replicate (2 - (lg_sl ([.ref x0, .int i1])).length) Slot.unset).toArray = ls at hl ⊢
  have hl : lv_has ls 2 [(0, .ref x0), (1, .int i1)] := hl
  refine lv_aload_n hx hb dX10_won_0 rfl (lv_at hl 0 rfl) ?_
  refine lv_iload_n hx hb dX10_won_1 rfl (lv_at hl 1 rfl) ?_
  refine puI (cV (As := [.int i1]) (rest := []) ⟨hx, hb, hml, hown, hts⟩ (c_X10_hadElection l D T bl im kp ma rd sl st sw th tp tu tw wa wn wr x0 i1 s2 s3 s4 s6 s5 ⟨by omega, by omega⟩) k_X10_hadElection v_X10_hadElection m946 rfl rfl ⟨(Nat.le_of_ble_eq_true rfl), (Nat.le_of_ble_eq_true rfl)⟩ (preP hC (hP.sub (ws' := [(x0, .inr (10, [.ref tp, .ref rd, .ref st, .ref th, .ref im, .ref kp, .ref sl, .ref tu, .ref wn, .ref ma, .ref wr])), (st, .inr (3, [.ref tw, .ref wa, .int s2, .int s3, .int s4, .long s5, .int s6, .ref sw, .ref bl]))]) [0, 1] rfl)) (va_recv hK hP (ci := 10) (q0 := 0) rfl rfl) rfl hl.1 rfl (Nat.le_of_ble_eq_true rfl) dX10_won_2 ⟨(Nat.le_of_ble_eq_true rfl), (Nat.le_of_ble_eq_true rfl)⟩) hS hP (fun r_1 H locs hw hP hS => ?_)
  have w_3 : (r_1 = 1 ∧ 0 ≤ i1.toInt ∧ i1.toInt < s2.toInt) ∨ (r_1 = 0) := hw
  rcases w_3 with ⟨rfl, c_4, c_5⟩ | rfl
  · refine lv_if_eq (tgt := 20) hx hb dX10_won_5 (by decide) (fun c_6 => absurd c_6 (by decide)) (fun _ => ?_)
    refine lv_aload_n hx hb dX10_won_8 rfl (lv_at hl 0 rfl) ?_
    refine va_get (D := D) (ci := 10) (C := RX10) (T := TX10) (N := 11) hx hb hts iX10 hown hK hP 0 rfl rfl 2 (by decide) (hts _ m527) (fun _ h9 => h9) rfl dX10_won_9 ?_
    refine va_get (D := D) (ci := 3) (C := RX3) (T := TX3) (N := 9) hx hb hts iX3 hown hK hP 1 rfl rfl 7 (by decide) (hts _ m394) (fun _ h9 => h9) rfl dX10_won_12 ?_
    refine lv_iload_n hx hb dX10_won_15 rfl (lv_at hl 1 rfl) ?_
    refine va_iald (D := D) hx hb hK hP 2 0 rfl rfl (v_in (x := i1.toInt) rfl (by omega) (by omega)) dX10_won_16 ?_
    refine lv_topi (fun x_7 ex_7 => ?_)
    refine lv_goto (tgt := 22) hx hb dX10_won_17 (by decide) ?_
    exact W.iret (v := x_7) hx hb hr (fun t ht hW => ⟨⟨x_7, (), rfl, trivial, trivial⟩, hS.F ht⟩) hS.2.2 dX10_won_22
  · refine lv_if_eq (tgt := 20) hx hb dX10_won_5 (by decide) (fun _ => ?_) (fun c_8 => absurd (by decide) c_8)
    refine lv_bipush (v := (-2)) hx hb dX10_won_20 (by decide) ?_
    exact W.iret (v := (-2)) hx hb hr (fun t ht hW => ⟨⟨(-2), (), rfl, trivial, trivial⟩, hS.F ht⟩) hS.2.2 dX10_won_22

set_option maxHeartbeats 4000000 in
set_option maxRecDepth 100000 in
theorem c_X10_votes (l : Launch) (D : va_G) (T : Nat → ClassId) (b0 b1 b2 b3 b4 b5 b6 b7 b8 b9 bl im kp ma rd sl st sw th tp tu tw wa wn wr x0 : Nat) (i1 i2 s2 s3 s4 s6 t0 t1 t2 t3 t4 t5 t6 t7 t8 : Int32) (s5 : Int64) (v1 : Nat → Int32) (h_t1 : 0 ≤ t1.toInt ∧ t1.toInt ≤ 8) (h_t2 : 0 ≤ t2.toInt ∧ t2.toInt ≤ 12) (h_t4 : 0 ≤ t4.toInt ∧ t4.toInt ≤ 5) (h_t5 : 0 ≤ t5.toInt ∧ t5.toInt ≤ 10) (h_s2 : 0 ≤ s2.toInt ∧ s2.toInt ≤ 100) : Met l yX10_votes (wM yX10_votes cX10_votes 3 (some .int)) ({ frames := 2, cells := 0, slots := 0, locals := 41 }) (va_Pc [.ref x0, .int i1, .int i2] (pwP D T [(x0, .inr (10, [.ref tp, .ref rd, .ref st, .ref th, .ref im, .ref kp, .ref sl, .ref tu, .ref wn, .ref ma, .ref wr])), (st, .inr (3, [.ref tw, .ref wa, .int s2, .int s3, .int s4, .long s5, .int s6, .ref sw, .ref bl])), (tw, .inr (5, [.int t0, .int t1, .int t2, .int t3, .int t4, .int t5, .int t6, .int t7, .int t8, .ref b0, .ref b1, .ref b2, .ref b3, .ref b4, .ref b5, .ref b6, .ref b7, .ref b8, .ref b9])), (bl, .inl (T 0, 200, .inl v1))])) (va_Qi (fun (r : Int32) (u : Unit) => True) (fun _ _ => True) (fun _ => False)) 0 0 (fun _ => False) := by
  refine Met.ofW (cc := cX10_votes) (maxL := 3) (ret := (some .int)) (by decide) rfl ?_
  intro p e s m args below meth c s₁ B hml hv
  obtain ⟨rfl, hP, hC⟩ := hv
  have hx := B.exec
  have hb := B.bytes
  have hr := B.returns
  have hts : ∀ w ∈ gt, w.before _ s = true := fun w hw => atoms_spec (ws := (wM yX10_votes cX10_votes 3 (some .int))) B.pre w (List.mem_cons_of_mem _ hw)
  have hown : s.vm.findClass RX10 = some m.cls := findClass_of_methodNamed B.named
  have hlocks := B.notSynchronized
  have hK := hC.1
  have hS : va_S (fun _ => False) s.heap s.heap [] := va_S.rf
  have hl := lv_entry ([.ref x0, .int i1, .int i2]) (n := 3) (Nat.le_of_ble_eq_true rfl)
  rw [lg_entry_eq]
  generalize (lg_sl ([.ref x0, .int i1, .int i2]) ++ List.replicate (3 - (lg_sl ([.ref x0, .int i1, .int i2])).length) Slot.unset).toArray = ls at hl ⊢
  have hl : lv_has ls 3 [(0, .ref x0), (1, .int i1), (2, .int i2)] := hl
  refine lv_aload_n hx hb dX10_votes_0 rfl (lv_at hl 0 rfl) ?_
  refine lv_iload_n hx hb dX10_votes_1 rfl (lv_at hl 1 rfl) ?_
  refine puI (cV (As := [.int i1]) (rest := []) ⟨hx, hb, hml, hown, hts⟩ (c_X10_hadElection l D T bl im kp ma rd sl st sw th tp tu tw wa wn wr x0 i1 s2 s3 s4 s6 s5 ⟨by omega, by omega⟩) k_X10_hadElection v_X10_hadElection m946 rfl rfl ⟨(Nat.le_of_ble_eq_true rfl), (Nat.le_of_ble_eq_true rfl)⟩ (preP hC (hP.sub (ws' := [(x0, .inr (10, [.ref tp, .ref rd, .ref st, .ref th, .ref im, .ref kp, .ref sl, .ref tu, .ref wn, .ref ma, .ref wr])), (st, .inr (3, [.ref tw, .ref wa, .int s2, .int s3, .int s4, .long s5, .int s6, .ref sw, .ref bl]))]) [0, 1] rfl)) (va_recv hK hP (ci := 10) (q0 := 0) rfl rfl) rfl hl.1 rfl (Nat.le_of_ble_eq_true rfl) dX10_votes_2 ⟨(Nat.le_of_ble_eq_true rfl), (Nat.le_of_ble_eq_true rfl)⟩) hS hP (fun r_1 H locs hw hP hS => ?_)
  have w_3 : (r_1 = 1 ∧ 0 ≤ i1.toInt ∧ i1.toInt < s2.toInt) ∨ (r_1 = 0) := hw
  rcases w_3 with ⟨rfl, c_4, c_5⟩ | rfl
  · refine lv_if_eq (tgt := 32) hx hb dX10_votes_5 (by decide) (fun c_6 => absurd c_6 (by decide)) (fun _ => ?_)
    refine lv_aload_n hx hb dX10_votes_8 rfl (lv_at hl 0 rfl) ?_
    refine lv_iload_n hx hb dX10_votes_9 rfl (lv_at hl 2 rfl) ?_
    refine puI (cV (As := [.int i2]) (rest := []) ⟨hx, hb, hml, hown, hts⟩ (c_X10_hasSide l D T b0 b1 b2 b3 b4 b5 b6 b7 b8 b9 bl im kp ma rd sl st sw th tp tu tw wa wn wr x0 i2 s2 s3 s4 s6 t0 t1 t2 t3 t4 t5 t6 t7 t8 s5 ⟨by omega, by omega⟩ ⟨by omega, by omega⟩ ⟨by omega, by omega⟩ ⟨by omega, by omega⟩ ⟨by omega, by omega⟩) k_X10_hasSide v_X10_hasSide m756 rfl rfl ⟨(Nat.le_of_ble_eq_true rfl), (Nat.le_of_ble_eq_true rfl)⟩ (preP hC (hP.sub (ws' := [(x0, .inr (10, [.ref tp, .ref rd, .ref st, .ref th, .ref im, .ref kp, .ref sl, .ref tu, .ref wn, .ref ma, .ref wr])), (st, .inr (3, [.ref tw, .ref wa, .int s2, .int s3, .int s4, .long s5, .int s6, .ref sw, .ref bl])), (tw, .inr (5, [.int t0, .int t1, .int t2, .int t3, .int t4, .int t5, .int t6, .int t7, .int t8, .ref b0, .ref b1, .ref b2, .ref b3, .ref b4, .ref b5, .ref b6, .ref b7, .ref b8, .ref b9]))]) [0, 1, 2] rfl)) (va_recv hK hP (ci := 10) (q0 := 0) rfl rfl) rfl hl.1 rfl (Nat.le_of_ble_eq_true rfl) dX10_votes_10 ⟨(Nat.le_of_ble_eq_true rfl), (Nat.le_of_ble_eq_true rfl)⟩) hS hP (fun r_7 H locs hw hP hS => ?_)
    have w_9 : (r_7 = 1 ∧ 0 ≤ i2.toInt ∧ i2.toInt ≤ 1) ∨ (r_7 = 0) := hw
    rcases w_9 with ⟨rfl, c_10, c_11⟩ | rfl
    · refine lv_if_eq (tgt := 32) hx hb dX10_votes_13 (by decide) (fun c_12 => absurd c_12 (by decide)) (fun _ => ?_)
      refine lv_aload_n hx hb dX10_votes_16 rfl (lv_at hl 0 rfl) ?_
      refine va_get (D := D) (ci := 10) (C := RX10) (T := TX10) (N := 11) hx hb hts iX10 hown hK hP 0 rfl rfl 2 (by decide) (hts _ m527) (fun _ h9 => h9) rfl dX10_votes_17 ?_
      refine va_get (D := D) (ci := 3) (C := RX3) (T := TX3) (N := 9) hx hb hts iX3 hown hK hP 1 rfl rfl 8 (by decide) (hts _ m396) (fun _ h9 => h9) rfl dX10_votes_20 ?_
      refine lv_iconst (v := 2) hx hb dX10_votes_23 (by decide) ?_
      refine lv_iload_n hx hb dX10_votes_24 rfl (lv_at hl 1 rfl) ?_
      refine lv_imul hx hb dX10_votes_25 ?_
      refine lv_topi (fun x_13 ex_13 => ?_)
      have tx_13 : x_13.toInt = 2 * i1.toInt := t_mul (x := 2) (y := i1.toInt) ex_13 rfl rfl (by omega) (by omega)
      refine lv_iload_n hx hb dX10_votes_26 rfl (lv_at hl 2 rfl) ?_
      refine lv_iadd hx hb dX10_votes_27 ?_
      refine lv_topi (fun x_14 ex_14 => ?_)
      have tx_14 : x_14.toInt = x_13.toInt + i2.toInt := t_add (x := x_13.toInt) (y := i2.toInt) ex_14 rfl rfl (by omega) (by omega)
      refine va_iald (D := D) hx hb hK hP 3 0 rfl rfl (v_in (x := x_14.toInt) rfl (by omega) (by omega)) dX10_votes_28 ?_
      refine lv_topi (fun x_15 ex_15 => ?_)
      refine lv_goto (tgt := 34) hx hb dX10_votes_29 (by decide) ?_
      exact W.iret (v := x_15) hx hb hr (fun t ht hW => ⟨⟨x_15, (), rfl, trivial, trivial⟩, hS.F ht⟩) hS.2.2 dX10_votes_34
    · refine lv_if_eq (tgt := 32) hx hb dX10_votes_13 (by decide) (fun _ => ?_) (fun c_16 => absurd (by decide) c_16)
      refine lv_bipush (v := (-2)) hx hb dX10_votes_32 (by decide) ?_
      exact W.iret (v := (-2)) hx hb hr (fun t ht hW => ⟨⟨(-2), (), rfl, trivial, trivial⟩, hS.F ht⟩) hS.2.2 dX10_votes_34
  · refine lv_if_eq (tgt := 32) hx hb dX10_votes_5 (by decide) (fun _ => ?_) (fun c_17 => absurd (by decide) c_17)
    refine lv_bipush (v := (-2)) hx hb dX10_votes_32 (by decide) ?_
    exact W.iret (v := (-2)) hx hb hr (fun t ht hW => ⟨⟨(-2), (), rfl, trivial, trivial⟩, hS.F ht⟩) hS.2.2 dX10_votes_34

set_option maxHeartbeats 4000000 in
set_option maxRecDepth 100000 in
theorem c_X10_still (l : Launch) (D : va_G) (T : Nat → ClassId) (b0 b1 b2 b3 b4 b5 b6 b7 b8 b9 bl e0 e1 e2 e3 e4 e5 e6 e7 im kp ma rd sl st sw th tp tu tw wa wn wr x0 : Nat) (i1 i2 s2 s3 s4 s6 t0 t1 t2 t3 t4 t5 t6 t7 t8 : Int32) (s5 : Int64) (p0 p3 p4 : Nat → Int32) (h_t1 : 0 ≤ t1.toInt ∧ t1.toInt ≤ 8) (h_t2 : 0 ≤ t2.toInt ∧ t2.toInt ≤ 12) (h_t4 : 0 ≤ t4.toInt ∧ t4.toInt ≤ 5) (h_t5 : 0 ≤ t5.toInt ∧ t5.toInt ≤ 10) (h_s2 : 0 ≤ s2.toInt ∧ s2.toInt ≤ 100) (R_p0 : rg 0 12 p0) : Met l yX10_still (wM yX10_still cX10_still 3 (some .int)) ({ frames := 2, cells := 0, slots := 0, locals := 48 }) (va_Pc [.ref x0, .int i1, .int i2] (pwP D T [(x0, .inr (10, [.ref tp, .ref rd, .ref st, .ref th, .ref im, .ref kp, .ref sl, .ref tu, .ref wn, .ref ma, .ref wr])), (st, .inr (3, [.ref tw, .ref wa, .int s2, .int s3, .int s4, .long s5, .int s6, .ref sw, .ref bl])), (tw, .inr (5, [.int t0, .int t1, .int t2, .int t3, .int t4, .int t5, .int t6, .int t7, .int t8, .ref b0, .ref b1, .ref b2, .ref b3, .ref b4, .ref b5, .ref b6, .ref b7, .ref b8, .ref b9])), (wa, .inr (7, [.ref tw, .ref e0, .ref e1, .ref e2, .ref e3, .ref e4, .ref e5, .ref e6, .ref e7])), (e0, .inl (T 0, 16, .inl p0)), (e3, .inl (T 0, 192, .inl p3)), (e4, .inl (T 0, 192, .inl p4))])) (va_Qi (fun (r : Int32) (u : Unit) => True) (fun _ _ => True) (fun _ => False)) 0 0 (fun _ => False) := by
  refine Met.ofW (cc := cX10_still) (maxL := 3) (ret := (some .int)) (by decide) rfl ?_
  intro p e s m args below meth c s₁ B hml hv
  obtain ⟨rfl, hP, hC⟩ := hv
  have hx := B.exec
  have hb := B.bytes
  have hr := B.returns
  have hts : ∀ w ∈ gt, w.before _ s = true := fun w hw => atoms_spec (ws := (wM yX10_still cX10_still 3 (some .int))) B.pre w (List.mem_cons_of_mem _ hw)
  have hown : s.vm.findClass RX10 = some m.cls := findClass_of_methodNamed B.named
  have hlocks := B.notSynchronized
  have hK := hC.1
  have hS : va_S (fun _ => False) s.heap s.heap [] := va_S.rf
  have hl := lv_entry ([.ref x0, .int i1, .int i2]) (n := 3) (Nat.le_of_ble_eq_true rfl)
  rw [lg_entry_eq]
  generalize (lg_sl ([.ref x0, .int i1, .int i2]) ++ List.replicate (3 - (lg_sl ([.ref x0, .int i1, .int i2])).length) Slot.unset).toArray = ls at hl ⊢
  have hl : lv_has ls 3 [(0, .ref x0), (1, .int i1), (2, .int i2)] := hl
  refine lv_aload_n hx hb dX10_still_0 rfl (lv_at hl 0 rfl) ?_
  refine lv_iload_n hx hb dX10_still_1 rfl (lv_at hl 1 rfl) ?_
  refine puI (cV (As := [.int i1]) (rest := []) ⟨hx, hb, hml, hown, hts⟩ (c_X10_hadElection l D T bl im kp ma rd sl st sw th tp tu tw wa wn wr x0 i1 s2 s3 s4 s6 s5 ⟨by omega, by omega⟩) k_X10_hadElection v_X10_hadElection m946 rfl rfl ⟨(Nat.le_of_ble_eq_true rfl), (Nat.le_of_ble_eq_true rfl)⟩ (preP hC (hP.sub (ws' := [(x0, .inr (10, [.ref tp, .ref rd, .ref st, .ref th, .ref im, .ref kp, .ref sl, .ref tu, .ref wn, .ref ma, .ref wr])), (st, .inr (3, [.ref tw, .ref wa, .int s2, .int s3, .int s4, .long s5, .int s6, .ref sw, .ref bl]))]) [0, 1] rfl)) (va_recv hK hP (ci := 10) (q0 := 0) rfl rfl) rfl hl.1 rfl (Nat.le_of_ble_eq_true rfl) dX10_still_2 ⟨(Nat.le_of_ble_eq_true rfl), (Nat.le_of_ble_eq_true rfl)⟩) hS hP (fun r_1 H locs hw hP hS => ?_)
  have w_3 : (r_1 = 1 ∧ 0 ≤ i1.toInt ∧ i1.toInt < s2.toInt) ∨ (r_1 = 0) := hw
  rcases w_3 with ⟨rfl, c_4, c_5⟩ | rfl
  · refine lv_if_eq (tgt := 31) hx hb dX10_still_5 (by decide) (fun c_6 => absurd c_6 (by decide)) (fun _ => ?_)
    refine lv_aload_n hx hb dX10_still_8 rfl (lv_at hl 0 rfl) ?_
    refine lv_iload_n hx hb dX10_still_9 rfl (lv_at hl 2 rfl) ?_
    refine puI (cV (As := [.int i2]) (rest := []) ⟨hx, hb, hml, hown, hts⟩ (c_X10_hasSide l D T b0 b1 b2 b3 b4 b5 b6 b7 b8 b9 bl im kp ma rd sl st sw th tp tu tw wa wn wr x0 i2 s2 s3 s4 s6 t0 t1 t2 t3 t4 t5 t6 t7 t8 s5 ⟨by omega, by omega⟩ ⟨by omega, by omega⟩ ⟨by omega, by omega⟩ ⟨by omega, by omega⟩ ⟨by omega, by omega⟩) k_X10_hasSide v_X10_hasSide m756 rfl rfl ⟨(Nat.le_of_ble_eq_true rfl), (Nat.le_of_ble_eq_true rfl)⟩ (preP hC (hP.sub (ws' := [(x0, .inr (10, [.ref tp, .ref rd, .ref st, .ref th, .ref im, .ref kp, .ref sl, .ref tu, .ref wn, .ref ma, .ref wr])), (st, .inr (3, [.ref tw, .ref wa, .int s2, .int s3, .int s4, .long s5, .int s6, .ref sw, .ref bl])), (tw, .inr (5, [.int t0, .int t1, .int t2, .int t3, .int t4, .int t5, .int t6, .int t7, .int t8, .ref b0, .ref b1, .ref b2, .ref b3, .ref b4, .ref b5, .ref b6, .ref b7, .ref b8, .ref b9]))]) [0, 1, 2] rfl)) (va_recv hK hP (ci := 10) (q0 := 0) rfl rfl) rfl hl.1 rfl (Nat.le_of_ble_eq_true rfl) dX10_still_10 ⟨(Nat.le_of_ble_eq_true rfl), (Nat.le_of_ble_eq_true rfl)⟩) hS hP (fun r_7 H locs hw hP hS => ?_)
    have w_9 : (r_7 = 1 ∧ 0 ≤ i2.toInt ∧ i2.toInt ≤ 1) ∨ (r_7 = 0) := hw
    rcases w_9 with ⟨rfl, c_10, c_11⟩ | rfl
    · refine lv_if_eq (tgt := 31) hx hb dX10_still_13 (by decide) (fun c_12 => absurd c_12 (by decide)) (fun _ => ?_)
      refine lv_aload_n hx hb dX10_still_16 rfl (lv_at hl 0 rfl) ?_
      refine va_get (D := D) (ci := 10) (C := RX10) (T := TX10) (N := 11) hx hb hts iX10 hown hK hP 0 rfl rfl 2 (by decide) (hts _ m527) (fun _ h9 => h9) rfl dX10_still_17 ?_
      refine va_get (D := D) (ci := 3) (C := RX3) (T := TX3) (N := 9) hx hb hts iX3 hown hK hP 1 rfl rfl 1 (by decide) (hts _ m377) (fun _ h9 => h9) rfl dX10_still_20 ?_
      refine lv_iload_n hx hb dX10_still_23 rfl (lv_at hl 2 rfl) ?_
      refine lv_iload_n hx hb dX10_still_24 rfl (lv_at hl 1 rfl) ?_
      refine puI (cV (As := [.int i2, .int i1]) (rest := []) ⟨hx, hb, hml, hown, hts⟩ (c_X7_votesLying l D T b0 b1 b2 b3 b4 b5 b6 b7 b8 b9 e0 e1 e2 e3 e4 e5 e6 e7 wa tw i2 i1 t0 t1 t2 t3 t4 t5 t6 t7 t8 p0 p3 p4 ⟨by omega, by omega⟩ ⟨by omega, by omega⟩ ⟨by omega, by omega⟩ ⟨by omega, by omega⟩ ⟨by omega, by omega⟩ R_p0) k_X7_votesLying v_X7_votesLying m958 rfl rfl ⟨(Nat.le_of_ble_eq_true rfl), (Nat.le_of_ble_eq_true rfl)⟩ (preP hC (hP.sub (ws' := [(wa, .inr (7, [.ref tw, .ref e0, .ref e1, .ref e2, .ref e3, .ref e4, .ref e5, .ref e6, .ref e7])), (e0, .inl (T 0, 16, .inl p0)), (e3, .inl (T 0, 192, .inl p3)), (e4, .inl (T 0, 192, .inl p4)), (tw, .inr (5, [.int t0, .int t1, .int t2, .int t3, .int t4, .int t5, .int t6, .int t7, .int t8, .ref b0, .ref b1, .ref b2, .ref b3, .ref b4, .ref b5, .ref b6, .ref b7, .ref b8, .ref b9]))]) [3, 4, 5, 6, 2] rfl)) (va_recv hK hP (ci := 7) (q0 := 3) rfl rfl) rfl hl.1 rfl (Nat.le_of_ble_eq_true rfl) dX10_still_25 ⟨(Nat.le_of_ble_eq_true rfl), (Nat.le_of_ble_eq_true rfl)⟩) hS hP (fun r_13 H locs hw hP hS => ?_)
      refine lv_goto (tgt := 33) hx hb dX10_still_28 (by decide) ?_
      exact W.iret (v := r_13) hx hb hr (fun t ht hW => ⟨⟨r_13, (), rfl, trivial, trivial⟩, hS.F ht⟩) hS.2.2 dX10_still_33
    · refine lv_if_eq (tgt := 31) hx hb dX10_still_13 (by decide) (fun _ => ?_) (fun c_15 => absurd (by decide) c_15)
      refine lv_bipush (v := (-2)) hx hb dX10_still_31 (by decide) ?_
      exact W.iret (v := (-2)) hx hb hr (fun t ht hW => ⟨⟨(-2), (), rfl, trivial, trivial⟩, hS.F ht⟩) hS.2.2 dX10_still_33
  · refine lv_if_eq (tgt := 31) hx hb dX10_still_5 (by decide) (fun _ => ?_) (fun c_16 => absurd (by decide) c_16)
    refine lv_bipush (v := (-2)) hx hb dX10_still_31 (by decide) ?_
    exact W.iret (v := (-2)) hx hb hr (fun t ht hW => ⟨⟨(-2), (), rfl, trivial, trivial⟩, hS.F ht⟩) hS.2.2 dX10_still_33

set_option maxHeartbeats 4000000 in
set_option maxRecDepth 100000 in
theorem c_X10_lost (l : Launch) (D : va_G) (T : Nat → ClassId) (b0 b1 b2 b3 b4 b5 b6 b7 b8 b9 bl e0 e1 e2 e3 e4 e5 e6 e7 im kp ma rd sl st sw th tp tu tw wa wn wr x0 : Nat) (s2 s3 s4 s6 t0 t1 t2 t3 t4 t5 t6 t7 t8 : Int32) (s5 : Int64) (p0 p3 : Nat → Int32) (h_t1 : 0 ≤ t1.toInt ∧ t1.toInt ≤ 8) (h_t2 : 0 ≤ t2.toInt ∧ t2.toInt ≤ 12) (h_t4 : 0 ≤ t4.toInt ∧ t4.toInt ≤ 5) (h_t5 : 0 ≤ t5.toInt ∧ t5.toInt ≤ 10) (h_s2 : 0 ≤ s2.toInt ∧ s2.toInt ≤ 100) (R_p0 : rg 0 12 p0) : Met l yX10_lost (wM yX10_lost cX10_lost 1 (some .int)) ({ frames := 3, cells := 0, slots := 0, locals := 69 }) (va_Pc [.ref x0] (pwP D T [(x0, .inr (10, [.ref tp, .ref rd, .ref st, .ref th, .ref im, .ref kp, .ref sl, .ref tu, .ref wn, .ref ma, .ref wr])), (st, .inr (3, [.ref tw, .ref wa, .int s2, .int s3, .int s4, .long s5, .int s6, .ref sw, .ref bl])), (tw, .inr (5, [.int t0, .int t1, .int t2, .int t3, .int t4, .int t5, .int t6, .int t7, .int t8, .ref b0, .ref b1, .ref b2, .ref b3, .ref b4, .ref b5, .ref b6, .ref b7, .ref b8, .ref b9])), (wa, .inr (7, [.ref tw, .ref e0, .ref e1, .ref e2, .ref e3, .ref e4, .ref e5, .ref e6, .ref e7])), (e0, .inl (T 0, 16, .inl p0)), (e3, .inl (T 0, 192, .inl p3))])) (va_Qi (fun (r : Int32) (u : Unit) => True) (fun _ _ => True) (fun _ => False)) 0 0 (fun _ => False) := by
  refine Met.ofW (cc := cX10_lost) (maxL := 1) (ret := (some .int)) (by decide) rfl ?_
  intro p e s m args below meth c s₁ B hml hv
  obtain ⟨rfl, hP, hC⟩ := hv
  have hx := B.exec
  have hb := B.bytes
  have hr := B.returns
  have hts : ∀ w ∈ gt, w.before _ s = true := fun w hw => atoms_spec (ws := (wM yX10_lost cX10_lost 1 (some .int))) B.pre w (List.mem_cons_of_mem _ hw)
  have hown : s.vm.findClass RX10 = some m.cls := findClass_of_methodNamed B.named
  have hlocks := B.notSynchronized
  have hK := hC.1
  have hS : va_S (fun _ => False) s.heap s.heap [] := va_S.rf
  have hl := lv_entry ([.ref x0]) (n := 1) (Nat.le_of_ble_eq_true rfl)
  rw [lg_entry_eq]
  generalize (lg_sl ([.ref x0]) ++ List.replicate (1 - (lg_sl ([.ref x0])).length) Slot.unset).toArray = ls at hl ⊢
  have hl : lv_has ls 1 [(0, .ref x0)] := hl
  refine lv_aload_n hx hb dX10_lost_0 rfl (lv_at hl 0 rfl) ?_
  refine puI (cV (As := []) (rest := []) ⟨hx, hb, hml, hown, hts⟩ (c_X10_hasTown l D T b0 b1 b2 b3 b4 b5 b6 b7 b8 b9 bl im kp ma rd sl st sw th tp tu tw wa wn wr x0 s2 s3 s4 s6 t0 t1 t2 t3 t4 t5 t6 t7 t8 s5 ⟨by omega, by omega⟩ ⟨by omega, by omega⟩ ⟨by omega, by omega⟩ ⟨by omega, by omega⟩ ⟨by omega, by omega⟩) k_X10_hasTown v_X10_hasTown m760 rfl rfl ⟨(Nat.le_of_ble_eq_true rfl), (Nat.le_of_ble_eq_true rfl)⟩ (preP hC (hP.sub (ws' := [(x0, .inr (10, [.ref tp, .ref rd, .ref st, .ref th, .ref im, .ref kp, .ref sl, .ref tu, .ref wn, .ref ma, .ref wr])), (st, .inr (3, [.ref tw, .ref wa, .int s2, .int s3, .int s4, .long s5, .int s6, .ref sw, .ref bl])), (tw, .inr (5, [.int t0, .int t1, .int t2, .int t3, .int t4, .int t5, .int t6, .int t7, .int t8, .ref b0, .ref b1, .ref b2, .ref b3, .ref b4, .ref b5, .ref b6, .ref b7, .ref b8, .ref b9]))]) [0, 1, 2] rfl)) (va_recv hK hP (ci := 10) (q0 := 0) rfl rfl) rfl hl.1 rfl (Nat.le_of_ble_eq_true rfl) dX10_lost_1 ⟨(Nat.le_of_ble_eq_true rfl), (Nat.le_of_ble_eq_true rfl)⟩) hS hP (fun r_1 H locs hw hP hS => ?_)
  have w_3 : (r_1 = 1 ∧ 0 < t1.toInt) ∨ (r_1 = 0) := hw
  rcases w_3 with ⟨rfl, c_4⟩ | rfl
  · refine lv_if_eq (tgt := 17) hx hb dX10_lost_4 (by decide) (fun c_5 => absurd c_5 (by decide)) (fun _ => ?_)
    refine lv_aload_n hx hb dX10_lost_7 rfl (lv_at hl 0 rfl) ?_
    refine va_get (D := D) (ci := 10) (C := RX10) (T := TX10) (N := 11) hx hb hts iX10 hown hK hP 0 rfl rfl 2 (by decide) (hts _ m527) (fun _ h9 => h9) rfl dX10_lost_8 ?_
    refine puI (cV (As := []) (rest := []) ⟨hx, hb, hml, hown, hts⟩ (c_X3_votesLost l D T b0 b1 b2 b3 b4 b5 b6 b7 b8 b9 bl e0 e1 e2 e3 e4 e5 e6 e7 st sw tw wa s2 s3 s4 s6 t0 t1 t2 t3 t4 t5 t6 t7 t8 s5 p0 p3 ⟨by omega, by omega⟩ ⟨by omega, by omega⟩ ⟨by omega, by omega⟩ ⟨by omega, by omega⟩ ⟨by omega, by omega⟩ R_p0) k_X3_votesLost v_X3_votesLost m966 rfl rfl ⟨(Nat.le_of_ble_eq_true rfl), (Nat.le_of_ble_eq_true rfl)⟩ (preP hC (hP.sub (ws' := [(st, .inr (3, [.ref tw, .ref wa, .int s2, .int s3, .int s4, .long s5, .int s6, .ref sw, .ref bl])), (tw, .inr (5, [.int t0, .int t1, .int t2, .int t3, .int t4, .int t5, .int t6, .int t7, .int t8, .ref b0, .ref b1, .ref b2, .ref b3, .ref b4, .ref b5, .ref b6, .ref b7, .ref b8, .ref b9])), (wa, .inr (7, [.ref tw, .ref e0, .ref e1, .ref e2, .ref e3, .ref e4, .ref e5, .ref e6, .ref e7])), (e0, .inl (T 0, 16, .inl p0)), (e3, .inl (T 0, 192, .inl p3))]) [1, 2, 3, 4, 5] rfl)) (va_recv hK hP (ci := 3) (q0 := 1) rfl rfl) rfl hl.1 rfl (Nat.le_of_ble_eq_true rfl) dX10_lost_11 ⟨(Nat.le_of_ble_eq_true rfl), (Nat.le_of_ble_eq_true rfl)⟩) hS hP (fun r_6 H locs hw hP hS => ?_)
    refine lv_goto (tgt := 18) hx hb dX10_lost_14 (by decide) ?_
    exact W.iret (v := r_6) hx hb hr (fun t ht hW => ⟨⟨r_6, (), rfl, trivial, trivial⟩, hS.F ht⟩) hS.2.2 dX10_lost_18
  · refine lv_if_eq (tgt := 17) hx hb dX10_lost_4 (by decide) (fun _ => ?_) (fun c_8 => absurd (by decide) c_8)
    refine lv_iconst (v := (-1)) hx hb dX10_lost_17 (by decide) ?_
    exact W.iret (v := (-1)) hx hb hr (fun t ht hW => ⟨⟨(-1), (), rfl, trivial, trivial⟩, hS.F ht⟩) hS.2.2 dX10_lost_18

set_option maxHeartbeats 4000000 in
set_option maxRecDepth 100000 in
theorem c_X10_read (l : Launch) (D : va_G) (T : Nat → ClassId) (b0 b1 b2 b3 b4 b5 b6 b7 b8 b9 bl e0 e1 e2 e3 e4 e5 e6 e7 im kp ma rd sl st sw th tp tu tw wa wn wr x0 : Nat) (i1 s2 s3 s4 s6 t0 t1 t2 t3 t4 t5 t6 t7 t8 : Int32) (s5 : Int64) (p0 p3 p4 : Nat → Int32) (h_t1 : 0 ≤ t1.toInt ∧ t1.toInt ≤ 8) (h_t2 : 0 ≤ t2.toInt ∧ t2.toInt ≤ 12) (h_t4 : 0 ≤ t4.toInt ∧ t4.toInt ≤ 5) (h_t5 : 0 ≤ t5.toInt ∧ t5.toInt ≤ 10) (h_s2 : 0 ≤ s2.toInt ∧ s2.toInt ≤ 100) (R_p0 : rg 0 12 p0) : Met l yX10_read (wM yX10_read cX10_read 5 (some .int)) ({ frames := 3, cells := 0, slots := 0, locals := 69 }) (va_Pc [.ref x0, .int i1] (pwP D T [(x0, .inr (10, [.ref tp, .ref rd, .ref st, .ref th, .ref im, .ref kp, .ref sl, .ref tu, .ref wn, .ref ma, .ref wr])), (st, .inr (3, [.ref tw, .ref wa, .int s2, .int s3, .int s4, .long s5, .int s6, .ref sw, .ref bl])), (tw, .inr (5, [.int t0, .int t1, .int t2, .int t3, .int t4, .int t5, .int t6, .int t7, .int t8, .ref b0, .ref b1, .ref b2, .ref b3, .ref b4, .ref b5, .ref b6, .ref b7, .ref b8, .ref b9])), (wa, .inr (7, [.ref tw, .ref e0, .ref e1, .ref e2, .ref e3, .ref e4, .ref e5, .ref e6, .ref e7])), (e0, .inl (T 0, 16, .inl p0)), (e3, .inl (T 0, 192, .inl p3)), (e4, .inl (T 0, 192, .inl p4))])) (va_Qi (fun (r : Int32) (u : Unit) => True) (fun _ _ => True) (fun _ => False)) 0 0 (fun _ => False) := by
  refine Met.ofW (cc := cX10_read) (maxL := 5) (ret := (some .int)) (by decide) rfl ?_
  intro p e s m args below meth c s₁ B hml hv
  obtain ⟨rfl, hP, hC⟩ := hv
  have hx := B.exec
  have hb := B.bytes
  have hr := B.returns
  have hts : ∀ w ∈ gt, w.before _ s = true := fun w hw => atoms_spec (ws := (wM yX10_read cX10_read 5 (some .int))) B.pre w (List.mem_cons_of_mem _ hw)
  have hown : s.vm.findClass RX10 = some m.cls := findClass_of_methodNamed B.named
  have hlocks := B.notSynchronized
  have hK := hC.1
  have hS : va_S (fun _ => False) s.heap s.heap [] := va_S.rf
  have hl := lv_entry ([.ref x0, .int i1]) (n := 5) (Nat.le_of_ble_eq_true rfl)
  rw [lg_entry_eq]
  generalize (lg_sl ([.ref x0, .int i1]) ++ List.replicate (5 - (lg_sl ([.ref x0, .int i1])).length) Slot.unset).toArray = ls at hl ⊢
  have hl : lv_has ls 5 [(0, .ref x0), (1, .int i1)] := hl
  refine lv_aload_n hx hb dX10_read_0 rfl (lv_at hl 0 rfl) ?_
  refine lv_iload_n hx hb dX10_read_1 rfl (lv_at hl 1 rfl) ?_
  refine puI (cV (As := [.int i1]) (rest := []) ⟨hx, hb, hml, hown, hts⟩ (c_X10_hadElection l D T bl im kp ma rd sl st sw th tp tu tw wa wn wr x0 i1 s2 s3 s4 s6 s5 ⟨by omega, by omega⟩) k_X10_hadElection v_X10_hadElection m946 rfl rfl ⟨(Nat.le_of_ble_eq_true rfl), (Nat.le_of_ble_eq_true rfl)⟩ (preP hC (hP.sub (ws' := [(x0, .inr (10, [.ref tp, .ref rd, .ref st, .ref th, .ref im, .ref kp, .ref sl, .ref tu, .ref wn, .ref ma, .ref wr])), (st, .inr (3, [.ref tw, .ref wa, .int s2, .int s3, .int s4, .long s5, .int s6, .ref sw, .ref bl]))]) [0, 1] rfl)) (va_recv hK hP (ci := 10) (q0 := 0) rfl rfl) rfl hl.1 rfl (Nat.le_of_ble_eq_true rfl) dX10_read_2 ⟨(Nat.le_of_ble_eq_true rfl), (Nat.le_of_ble_eq_true rfl)⟩) hS hP (fun r_1 H locs hw hP hS => ?_)
  have w_3 : (r_1 = 1 ∧ 0 ≤ i1.toInt ∧ i1.toInt < s2.toInt) ∨ (r_1 = 0) := hw
  rcases w_3 with ⟨rfl, c_4, c_5⟩ | rfl
  · refine lv_if_ne (tgt := 11) hx hb dX10_read_5 (by decide) (fun _ => ?_) (fun c_6 => absurd c_6 (by decide))
    refine lv_aload_n hx hb dX10_read_11 rfl (lv_at hl 0 rfl) ?_
    refine va_get (D := D) (ci := 10) (C := RX10) (T := TX10) (N := 11) hx hb hts iX10 hown hK hP 0 rfl rfl 2 (by decide) (hts _ m527) (fun _ h9 => h9) rfl dX10_read_12 ?_
    refine va_get (D := D) (ci := 3) (C := RX3) (T := TX3) (N := 9) hx hb hts iX3 hown hK hP 1 rfl rfl 1 (by decide) (hts _ m377) (fun _ h9 => h9) rfl dX10_read_15 ?_
    refine lv_iconst (v := 0) hx hb dX10_read_18 (by decide) ?_
    refine lv_iload_n hx hb dX10_read_19 rfl (lv_at hl 1 rfl) ?_
    refine puI (cV (As := [.int 0, .int i1]) (rest := []) ⟨hx, hb, hml, hown, hts⟩ (c_X7_votesLying l D T b0 b1 b2 b3 b4 b5 b6 b7 b8 b9 e0 e1 e2 e3 e4 e5 e6 e7 wa tw 0 i1 t0 t1 t2 t3 t4 t5 t6 t7 t8 p0 p3 p4 ⟨by omega, by omega⟩ ⟨by omega, by omega⟩ ⟨by omega, by omega⟩ ⟨by omega, by omega⟩ (by decide) R_p0) k_X7_votesLying v_X7_votesLying m958 rfl rfl ⟨(Nat.le_of_ble_eq_true rfl), (Nat.le_of_ble_eq_true rfl)⟩ (preP hC (hP.sub (ws' := [(wa, .inr (7, [.ref tw, .ref e0, .ref e1, .ref e2, .ref e3, .ref e4, .ref e5, .ref e6, .ref e7])), (e0, .inl (T 0, 16, .inl p0)), (e3, .inl (T 0, 192, .inl p3)), (e4, .inl (T 0, 192, .inl p4)), (tw, .inr (5, [.int t0, .int t1, .int t2, .int t3, .int t4, .int t5, .int t6, .int t7, .int t8, .ref b0, .ref b1, .ref b2, .ref b3, .ref b4, .ref b5, .ref b6, .ref b7, .ref b8, .ref b9]))]) [3, 4, 5, 6, 2] rfl)) (va_recv hK hP (ci := 7) (q0 := 3) rfl rfl) rfl hl.1 rfl (Nat.le_of_ble_eq_true rfl) dX10_read_20 ⟨(Nat.le_of_ble_eq_true rfl), (Nat.le_of_ble_eq_true rfl)⟩) hS hP (fun r_7 H locs hw hP hS => ?_)
    refine lv_istore_n (lv' := [(2, .int r_7), (0, .ref x0), (1, .int i1)]) hx hb dX10_read_23 rfl hl (by decide) rfl (fun ls hl => ?_)
    refine lv_aload_n hx hb dX10_read_24 rfl (lv_at hl 1 rfl) ?_
    refine va_get (D := D) (ci := 10) (C := RX10) (T := TX10) (N := 11) hx hb hts iX10 hown hK hP 0 rfl rfl 2 (by decide) (hts _ m527) (fun _ h9 => h9) rfl dX10_read_25 ?_
    refine va_get (D := D) (ci := 3) (C := RX3) (T := TX3) (N := 9) hx hb hts iX3 hown hK hP 1 rfl rfl 1 (by decide) (hts _ m377) (fun _ h9 => h9) rfl dX10_read_28 ?_
    refine lv_iconst (v := 1) hx hb dX10_read_31 (by decide) ?_
    refine lv_iload_n hx hb dX10_read_32 rfl (lv_at hl 2 rfl) ?_
    refine puI (cV (As := [.int 1, .int i1]) (rest := []) ⟨hx, hb, hml, hown, hts⟩ (c_X7_votesLying l D T b0 b1 b2 b3 b4 b5 b6 b7 b8 b9 e0 e1 e2 e3 e4 e5 e6 e7 wa tw 1 i1 t0 t1 t2 t3 t4 t5 t6 t7 t8 p0 p3 p4 ⟨by omega, by omega⟩ ⟨by omega, by omega⟩ ⟨by omega, by omega⟩ ⟨by omega, by omega⟩ (by decide) R_p0) k_X7_votesLying v_X7_votesLying m958 rfl rfl ⟨(Nat.le_of_ble_eq_true rfl), (Nat.le_of_ble_eq_true rfl)⟩ (preP hC (hP.sub (ws' := [(wa, .inr (7, [.ref tw, .ref e0, .ref e1, .ref e2, .ref e3, .ref e4, .ref e5, .ref e6, .ref e7])), (e0, .inl (T 0, 16, .inl p0)), (e3, .inl (T 0, 192, .inl p3)), (e4, .inl (T 0, 192, .inl p4)), (tw, .inr (5, [.int t0, .int t1, .int t2, .int t3, .int t4, .int t5, .int t6, .int t7, .int t8, .ref b0, .ref b1, .ref b2, .ref b3, .ref b4, .ref b5, .ref b6, .ref b7, .ref b8, .ref b9]))]) [3, 4, 5, 6, 2] rfl)) (va_recv hK hP (ci := 7) (q0 := 3) rfl rfl) rfl hl.1 rfl (Nat.le_of_ble_eq_true rfl) dX10_read_33 ⟨(Nat.le_of_ble_eq_true rfl), (Nat.le_of_ble_eq_true rfl)⟩) hS hP (fun r_9 H locs hw hP hS => ?_)
    refine lv_istore_n (lv' := [(3, .int r_9), (2, .int r_7), (0, .ref x0), (1, .int i1)]) hx hb dX10_read_36 rfl hl (by decide) rfl (fun ls hl => ?_)
    refine lv_aload_n hx hb dX10_read_37 rfl (lv_at hl 2 rfl) ?_
    refine va_get (D := D) (ci := 10) (C := RX10) (T := TX10) (N := 11) hx hb hts iX10 hown hK hP 0 rfl rfl 2 (by decide) (hts _ m527) (fun _ h9 => h9) rfl dX10_read_38 ?_
    refine puI (cV (As := []) (rest := []) ⟨hx, hb, hml, hown, hts⟩ (c_X3_votesLost l D T b0 b1 b2 b3 b4 b5 b6 b7 b8 b9 bl e0 e1 e2 e3 e4 e5 e6 e7 st sw tw wa s2 s3 s4 s6 t0 t1 t2 t3 t4 t5 t6 t7 t8 s5 p0 p3 ⟨by omega, by omega⟩ ⟨by omega, by omega⟩ ⟨by omega, by omega⟩ ⟨by omega, by omega⟩ ⟨by omega, by omega⟩ R_p0) k_X3_votesLost v_X3_votesLost m966 rfl rfl ⟨(Nat.le_of_ble_eq_true rfl), (Nat.le_of_ble_eq_true rfl)⟩ (preP hC (hP.sub (ws' := [(st, .inr (3, [.ref tw, .ref wa, .int s2, .int s3, .int s4, .long s5, .int s6, .ref sw, .ref bl])), (tw, .inr (5, [.int t0, .int t1, .int t2, .int t3, .int t4, .int t5, .int t6, .int t7, .int t8, .ref b0, .ref b1, .ref b2, .ref b3, .ref b4, .ref b5, .ref b6, .ref b7, .ref b8, .ref b9])), (wa, .inr (7, [.ref tw, .ref e0, .ref e1, .ref e2, .ref e3, .ref e4, .ref e5, .ref e6, .ref e7])), (e0, .inl (T 0, 16, .inl p0)), (e3, .inl (T 0, 192, .inl p3))]) [1, 2, 3, 4, 5] rfl)) (va_recv hK hP (ci := 3) (q0 := 1) rfl rfl) rfl hl.1 rfl (Nat.le_of_ble_eq_true rfl) dX10_read_41 ⟨(Nat.le_of_ble_eq_true rfl), (Nat.le_of_ble_eq_true rfl)⟩) hS hP (fun r_11 H locs hw hP hS => ?_)
    refine lv_istore (lv' := [(4, .int r_11), (3, .int r_9), (2, .int r_7), (0, .ref x0), (1, .int i1)]) hx hb dX10_read_44 hl (by decide) rfl (fun ls hl => ?_)
    refine lv_iload_n hx hb dX10_read_46 rfl (lv_at hl 2 rfl) ?_
    refine lv_iload_n hx hb dX10_read_47 rfl (lv_at hl 1 rfl) ?_
    refine lv_iload hx hb dX10_read_48 (lv_at hl 0 rfl) ?_
    refine lv_iadd hx hb dX10_read_50 ?_
    refine lv_topi (fun x_13 ex_13 => ?_)
    refine lv_icmp_le (tgt := 56) hx hb dX10_read_51 (by decide) (fun c_14 => ?_) (fun c_14 => ?_)
    · have c_14 : r_7.toInt ≤ x_13.toInt := (c_le (x := r_7.toInt) (y := x_13.toInt) rfl rfl).mp c_14
      refine lv_iload_n hx hb dX10_read_56 rfl (lv_at hl 1 rfl) ?_
      refine lv_iload_n hx hb dX10_read_57 rfl (lv_at hl 2 rfl) ?_
      refine lv_iload hx hb dX10_read_58 (lv_at hl 0 rfl) ?_
      refine lv_iadd hx hb dX10_read_60 ?_
      refine lv_topi (fun x_15 ex_15 => ?_)
      refine lv_icmp_le (tgt := 68) hx hb dX10_read_61 (by decide) (fun c_16 => ?_) (fun c_16 => ?_)
      · have c_16 : r_9.toInt ≤ x_15.toInt := (c_le (x := r_9.toInt) (y := x_15.toInt) rfl rfl).mp c_16
        refine lv_iconst (v := 2) hx hb dX10_read_68 (by decide) ?_
        exact W.iret (v := 2) hx hb hr (fun t ht hW => ⟨⟨2, (), rfl, trivial, trivial⟩, hS.F ht⟩) hS.2.2 dX10_read_69
      · have c_16 : x_15.toInt < r_9.toInt := by have h := mt (c_le (x := r_9.toInt) (y := x_15.toInt) rfl rfl).mpr c_16; omega
        refine lv_iconst (v := 1) hx hb dX10_read_64 (by decide) ?_
        refine lv_goto (tgt := 69) hx hb dX10_read_65 (by decide) ?_
        exact W.iret (v := 1) hx hb hr (fun t ht hW => ⟨⟨1, (), rfl, trivial, trivial⟩, hS.F ht⟩) hS.2.2 dX10_read_69
    · have c_14 : x_13.toInt < r_7.toInt := by have h := mt (c_le (x := r_7.toInt) (y := x_13.toInt) rfl rfl).mpr c_14; omega
      refine lv_iconst (v := 0) hx hb dX10_read_54 (by decide) ?_
      exact W.iret (v := 0) hx hb hr (fun t ht hW => ⟨⟨0, (), rfl, trivial, trivial⟩, hS.F ht⟩) hS.2.2 dX10_read_55
  · refine lv_if_ne (tgt := 11) hx hb dX10_read_5 (by decide) (fun c_17 => absurd c_17 (by decide)) (fun _ => ?_)
    refine lv_bipush (v := (-2)) hx hb dX10_read_8 (by decide) ?_
    exact W.iret (v := (-2)) hx hb hr (fun t ht hW => ⟨⟨(-2), (), rfl, trivial, trivial⟩, hS.F ht⟩) hS.2.2 dX10_read_10

set_option maxHeartbeats 4000000 in
set_option maxRecDepth 100000 in
theorem c_X10_hands (l : Launch) (D : va_G) (T : Nat → ClassId) (b0 b1 b2 b3 b4 b5 b6 b7 b8 b9 bl e0 e1 e2 e3 e4 e5 e6 e7 im kp ma rd sl st sw th tp tu tw wa wn wr x0 : Nat) (i1 s2 s3 s4 s6 t0 t1 t2 t3 t4 t5 t6 t7 t8 : Int32) (s5 : Int64) (p0 p3 : Nat → Int32) (h_t1 : 0 ≤ t1.toInt ∧ t1.toInt ≤ 8) (h_t2 : 0 ≤ t2.toInt ∧ t2.toInt ≤ 12) (h_t4 : 0 ≤ t4.toInt ∧ t4.toInt ≤ 5) (h_t5 : 0 ≤ t5.toInt ∧ t5.toInt ≤ 10) (h_s2 : 0 ≤ s2.toInt ∧ s2.toInt ≤ 100) (R_p0 : rg 0 12 p0) : Met l yX10_hands (wM yX10_hands cX10_hands 2 (some .int)) ({ frames := 2, cells := 0, slots := 0, locals := 47 }) (va_Pc [.ref x0, .int i1] (pwP D T [(x0, .inr (10, [.ref tp, .ref rd, .ref st, .ref th, .ref im, .ref kp, .ref sl, .ref tu, .ref wn, .ref ma, .ref wr])), (st, .inr (3, [.ref tw, .ref wa, .int s2, .int s3, .int s4, .long s5, .int s6, .ref sw, .ref bl])), (tw, .inr (5, [.int t0, .int t1, .int t2, .int t3, .int t4, .int t5, .int t6, .int t7, .int t8, .ref b0, .ref b1, .ref b2, .ref b3, .ref b4, .ref b5, .ref b6, .ref b7, .ref b8, .ref b9])), (wa, .inr (7, [.ref tw, .ref e0, .ref e1, .ref e2, .ref e3, .ref e4, .ref e5, .ref e6, .ref e7])), (e0, .inl (T 0, 16, .inl p0)), (e3, .inl (T 0, 192, .inl p3))])) (va_Qi (fun (r : Int32) (u : Unit) => True) (fun _ _ => True) (fun _ => False)) 0 0 (fun _ => False) := by
  refine Met.ofW (cc := cX10_hands) (maxL := 2) (ret := (some .int)) (by decide) rfl ?_
  intro p e s m args below meth c s₁ B hml hv
  obtain ⟨rfl, hP, hC⟩ := hv
  have hx := B.exec
  have hb := B.bytes
  have hr := B.returns
  have hts : ∀ w ∈ gt, w.before _ s = true := fun w hw => atoms_spec (ws := (wM yX10_hands cX10_hands 2 (some .int))) B.pre w (List.mem_cons_of_mem _ hw)
  have hown : s.vm.findClass RX10 = some m.cls := findClass_of_methodNamed B.named
  have hlocks := B.notSynchronized
  have hK := hC.1
  have hS : va_S (fun _ => False) s.heap s.heap [] := va_S.rf
  have hl := lv_entry ([.ref x0, .int i1]) (n := 2) (Nat.le_of_ble_eq_true rfl)
  rw [lg_entry_eq]
  generalize (lg_sl ([.ref x0, .int i1]) ++ List.replicate (2 - (lg_sl ([.ref x0, .int i1])).length) Slot.unset).toArray = ls at hl ⊢
  have hl : lv_has ls 2 [(0, .ref x0), (1, .int i1)] := hl
  refine lv_aload_n hx hb dX10_hands_0 rfl (lv_at hl 0 rfl) ?_
  refine lv_iload_n hx hb dX10_hands_1 rfl (lv_at hl 1 rfl) ?_
  refine puI (cV (As := [.int i1]) (rest := []) ⟨hx, hb, hml, hown, hts⟩ (c_X10_hasVoter l D T b0 b1 b2 b3 b4 b5 b6 b7 b8 b9 bl im kp ma rd sl st sw th tp tu tw wa wn wr x0 i1 s2 s3 s4 s6 t0 t1 t2 t3 t4 t5 t6 t7 t8 s5 ⟨by omega, by omega⟩ ⟨by omega, by omega⟩ ⟨by omega, by omega⟩ ⟨by omega, by omega⟩ ⟨by omega, by omega⟩) k_X10_hasVoter v_X10_hasVoter m882 rfl rfl ⟨(Nat.le_of_ble_eq_true rfl), (Nat.le_of_ble_eq_true rfl)⟩ (preP hC (hP.sub (ws' := [(x0, .inr (10, [.ref tp, .ref rd, .ref st, .ref th, .ref im, .ref kp, .ref sl, .ref tu, .ref wn, .ref ma, .ref wr])), (st, .inr (3, [.ref tw, .ref wa, .int s2, .int s3, .int s4, .long s5, .int s6, .ref sw, .ref bl])), (tw, .inr (5, [.int t0, .int t1, .int t2, .int t3, .int t4, .int t5, .int t6, .int t7, .int t8, .ref b0, .ref b1, .ref b2, .ref b3, .ref b4, .ref b5, .ref b6, .ref b7, .ref b8, .ref b9]))]) [0, 1, 2] rfl)) (va_recv hK hP (ci := 10) (q0 := 0) rfl rfl) rfl hl.1 rfl (Nat.le_of_ble_eq_true rfl) dX10_hands_2 ⟨(Nat.le_of_ble_eq_true rfl), (Nat.le_of_ble_eq_true rfl)⟩) hS hP (fun r_1 H locs hw hP hS => ?_)
  have w_3 : (r_1 = 1 ∧ 0 ≤ i1.toInt ∧ i1.toInt < t5.toInt) ∨ (r_1 = 0) := hw
  rcases w_3 with ⟨rfl, c_4, c_5⟩ | rfl
  · refine lv_if_ne (tgt := 11) hx hb dX10_hands_5 (by decide) (fun _ => ?_) (fun c_6 => absurd c_6 (by decide))
    refine lv_aload_n hx hb dX10_hands_11 rfl (lv_at hl 0 rfl) ?_
    refine va_get (D := D) (ci := 10) (C := RX10) (T := TX10) (N := 11) hx hb hts iX10 hown hK hP 0 rfl rfl 2 (by decide) (hts _ m527) (fun _ h9 => h9) rfl dX10_hands_12 ?_
    refine va_get (D := D) (ci := 3) (C := RX3) (T := TX3) (N := 9) hx hb hts iX3 hown hK hP 1 rfl rfl 1 (by decide) (hts _ m377) (fun _ h9 => h9) rfl dX10_hands_15 ?_
    refine lv_iconst (v := 0) hx hb dX10_hands_18 (by decide) ?_
    refine lv_iload_n hx hb dX10_hands_19 rfl (lv_at hl 1 rfl) ?_
    refine puI (cV (As := [.int 0, .int i1]) (rest := []) ⟨hx, hb, hml, hown, hts⟩ (c_X7_stonesBy l D T b0 b1 b2 b3 b4 b5 b6 b7 b8 b9 e0 e1 e2 e3 e4 e5 e6 e7 wa tw 0 i1 t0 t1 t2 t3 t4 t5 t6 t7 t8 p0 p3 ⟨by omega, by omega⟩ ⟨by omega, by omega⟩ ⟨by omega, by omega⟩ ⟨by omega, by omega⟩ (by decide) R_p0) k_X7_stonesBy v_X7_stonesBy m982 rfl rfl ⟨(Nat.le_of_ble_eq_true rfl), (Nat.le_of_ble_eq_true rfl)⟩ (preP hC (hP.sub (ws' := [(wa, .inr (7, [.ref tw, .ref e0, .ref e1, .ref e2, .ref e3, .ref e4, .ref e5, .ref e6, .ref e7])), (e0, .inl (T 0, 16, .inl p0)), (e3, .inl (T 0, 192, .inl p3)), (tw, .inr (5, [.int t0, .int t1, .int t2, .int t3, .int t4, .int t5, .int t6, .int t7, .int t8, .ref b0, .ref b1, .ref b2, .ref b3, .ref b4, .ref b5, .ref b6, .ref b7, .ref b8, .ref b9]))]) [3, 4, 5, 2] rfl)) (va_recv hK hP (ci := 7) (q0 := 3) rfl rfl) rfl hl.1 rfl (Nat.le_of_ble_eq_true rfl) dX10_hands_20 ⟨(Nat.le_of_ble_eq_true rfl), (Nat.le_of_ble_eq_true rfl)⟩) hS hP (fun r_7 H locs hw hP hS => ?_)
    refine lv_aload_n hx hb dX10_hands_23 rfl (lv_at hl 0 rfl) ?_
    refine va_get (D := D) (ci := 10) (C := RX10) (T := TX10) (N := 11) hx hb hts iX10 hown hK hP 0 rfl rfl 2 (by decide) (hts _ m527) (fun _ h9 => h9) rfl dX10_hands_24 ?_
    refine va_get (D := D) (ci := 3) (C := RX3) (T := TX3) (N := 9) hx hb hts iX3 hown hK hP 1 rfl rfl 1 (by decide) (hts _ m377) (fun _ h9 => h9) rfl dX10_hands_27 ?_
    refine lv_iconst (v := 1) hx hb dX10_hands_30 (by decide) ?_
    refine lv_iload_n hx hb dX10_hands_31 rfl (lv_at hl 1 rfl) ?_
    refine puI (cV (As := [.int 1, .int i1]) (rest := [.int r_7]) ⟨hx, hb, hml, hown, hts⟩ (c_X7_stonesBy l D T b0 b1 b2 b3 b4 b5 b6 b7 b8 b9 e0 e1 e2 e3 e4 e5 e6 e7 wa tw 1 i1 t0 t1 t2 t3 t4 t5 t6 t7 t8 p0 p3 ⟨by omega, by omega⟩ ⟨by omega, by omega⟩ ⟨by omega, by omega⟩ ⟨by omega, by omega⟩ (by decide) R_p0) k_X7_stonesBy v_X7_stonesBy m982 rfl rfl ⟨(Nat.le_of_ble_eq_true rfl), (Nat.le_of_ble_eq_true rfl)⟩ (preP hC (hP.sub (ws' := [(wa, .inr (7, [.ref tw, .ref e0, .ref e1, .ref e2, .ref e3, .ref e4, .ref e5, .ref e6, .ref e7])), (e0, .inl (T 0, 16, .inl p0)), (e3, .inl (T 0, 192, .inl p3)), (tw, .inr (5, [.int t0, .int t1, .int t2, .int t3, .int t4, .int t5, .int t6, .int t7, .int t8, .ref b0, .ref b1, .ref b2, .ref b3, .ref b4, .ref b5, .ref b6, .ref b7, .ref b8, .ref b9]))]) [3, 4, 5, 2] rfl)) (va_recv hK hP (ci := 7) (q0 := 3) rfl rfl) rfl hl.1 rfl (Nat.le_of_ble_eq_true rfl) dX10_hands_32 ⟨(Nat.le_of_ble_eq_true rfl), (Nat.le_of_ble_eq_true rfl)⟩) hS hP (fun r_9 H locs hw hP hS => ?_)
    refine lv_iadd hx hb dX10_hands_35 ?_
    refine lv_topi (fun x_11 ex_11 => ?_)
    exact W.iret (v := x_11) hx hb hr (fun t ht hW => ⟨⟨x_11, (), rfl, trivial, trivial⟩, hS.F ht⟩) hS.2.2 dX10_hands_36
  · refine lv_if_ne (tgt := 11) hx hb dX10_hands_5 (by decide) (fun c_12 => absurd c_12 (by decide)) (fun _ => ?_)
    refine lv_bipush (v := (-2)) hx hb dX10_hands_8 (by decide) ?_
    exact W.iret (v := (-2)) hx hb hr (fun t ht hW => ⟨⟨(-2), (), rfl, trivial, trivial⟩, hS.F ht⟩) hS.2.2 dX10_hands_10

set_option maxHeartbeats 4000000 in
set_option maxRecDepth 100000 in
theorem c_X10_ghosts (l : Launch) (D : va_G) (T : Nat → ClassId) (b0 b1 b2 b3 b4 b5 b6 b7 b8 b9 bl e0 e1 e2 e3 e4 e5 e6 e7 im kp ma rd sl st sw th tp tu tw wa wn wr x0 : Nat) (i1 s2 s3 s4 s6 t0 t1 t2 t3 t4 t5 t6 t7 t8 : Int32) (s5 : Int64) (f9 p0 p3 : Nat → Int32) (h_t1 : 0 ≤ t1.toInt ∧ t1.toInt ≤ 8) (h_t2 : 0 ≤ t2.toInt ∧ t2.toInt ≤ 12) (h_t4 : 0 ≤ t4.toInt ∧ t4.toInt ≤ 5) (h_t5 : 0 ≤ t5.toInt ∧ t5.toInt ≤ 10) (h_s2 : 0 ≤ s2.toInt ∧ s2.toInt ≤ 100) (R_p0 : rg 0 12 p0) : Met l yX10_ghosts (wM yX10_ghosts cX10_ghosts 4 (some .int)) ({ frames := 2, cells := 0, slots := 0, locals := 47 }) (va_Pc [.ref x0, .int i1] (pwP D T [(x0, .inr (10, [.ref tp, .ref rd, .ref st, .ref th, .ref im, .ref kp, .ref sl, .ref tu, .ref wn, .ref ma, .ref wr])), (st, .inr (3, [.ref tw, .ref wa, .int s2, .int s3, .int s4, .long s5, .int s6, .ref sw, .ref bl])), (tw, .inr (5, [.int t0, .int t1, .int t2, .int t3, .int t4, .int t5, .int t6, .int t7, .int t8, .ref b0, .ref b1, .ref b2, .ref b3, .ref b4, .ref b5, .ref b6, .ref b7, .ref b8, .ref b9])), (b9, .inl (T 0, 10, .inl f9)), (wa, .inr (7, [.ref tw, .ref e0, .ref e1, .ref e2, .ref e3, .ref e4, .ref e5, .ref e6, .ref e7])), (e0, .inl (T 0, 16, .inl p0)), (e3, .inl (T 0, 192, .inl p3))])) (va_Qi (fun (r : Int32) (u : Unit) => True) (fun _ _ => True) (fun _ => False)) 0 0 (fun _ => False) := by
  refine Met.ofW (cc := cX10_ghosts) (maxL := 4) (ret := (some .int)) (by decide) rfl ?_
  intro p e s m args below meth c s₁ B hml hv
  obtain ⟨rfl, hP, hC⟩ := hv
  have hx := B.exec
  have hb := B.bytes
  have hr := B.returns
  have hts : ∀ w ∈ gt, w.before _ s = true := fun w hw => atoms_spec (ws := (wM yX10_ghosts cX10_ghosts 4 (some .int))) B.pre w (List.mem_cons_of_mem _ hw)
  have hown : s.vm.findClass RX10 = some m.cls := findClass_of_methodNamed B.named
  have hlocks := B.notSynchronized
  have hK := hC.1
  have hS : va_S (fun _ => False) s.heap s.heap [] := va_S.rf
  have hl := lv_entry ([.ref x0, .int i1]) (n := 4) (Nat.le_of_ble_eq_true rfl)
  rw [lg_entry_eq]
  generalize (lg_sl ([.ref x0, .int i1]) ++ List.replicate (4 - (lg_sl ([.ref x0, .int i1])).length) Slot.unset).toArray = ls at hl ⊢
  have hl : lv_has ls 4 [(0, .ref x0), (1, .int i1)] := hl
  refine lv_aload_n hx hb dX10_ghosts_0 rfl (lv_at hl 0 rfl) ?_
  refine lv_iload_n hx hb dX10_ghosts_1 rfl (lv_at hl 1 rfl) ?_
  refine puI (cV (As := [.int i1]) (rest := []) ⟨hx, hb, hml, hown, hts⟩ (c_X10_hasSide l D T b0 b1 b2 b3 b4 b5 b6 b7 b8 b9 bl im kp ma rd sl st sw th tp tu tw wa wn wr x0 i1 s2 s3 s4 s6 t0 t1 t2 t3 t4 t5 t6 t7 t8 s5 ⟨by omega, by omega⟩ ⟨by omega, by omega⟩ ⟨by omega, by omega⟩ ⟨by omega, by omega⟩ ⟨by omega, by omega⟩) k_X10_hasSide v_X10_hasSide m756 rfl rfl ⟨(Nat.le_of_ble_eq_true rfl), (Nat.le_of_ble_eq_true rfl)⟩ (preP hC (hP.sub (ws' := [(x0, .inr (10, [.ref tp, .ref rd, .ref st, .ref th, .ref im, .ref kp, .ref sl, .ref tu, .ref wn, .ref ma, .ref wr])), (st, .inr (3, [.ref tw, .ref wa, .int s2, .int s3, .int s4, .long s5, .int s6, .ref sw, .ref bl])), (tw, .inr (5, [.int t0, .int t1, .int t2, .int t3, .int t4, .int t5, .int t6, .int t7, .int t8, .ref b0, .ref b1, .ref b2, .ref b3, .ref b4, .ref b5, .ref b6, .ref b7, .ref b8, .ref b9]))]) [0, 1, 2] rfl)) (va_recv hK hP (ci := 10) (q0 := 0) rfl rfl) rfl hl.1 rfl (Nat.le_of_ble_eq_true rfl) dX10_ghosts_2 ⟨(Nat.le_of_ble_eq_true rfl), (Nat.le_of_ble_eq_true rfl)⟩) hS hP (fun r_1 H locs hw hP hS => ?_)
  have w_3 : (r_1 = 1 ∧ 0 ≤ i1.toInt ∧ i1.toInt ≤ 1) ∨ (r_1 = 0) := hw
  rcases w_3 with ⟨rfl, c_4, c_5⟩ | rfl
  · refine lv_if_ne (tgt := 11) hx hb dX10_ghosts_5 (by decide) (fun _ => ?_) (fun c_6 => absurd c_6 (by decide))
    refine lv_iconst (v := 0) hx hb dX10_ghosts_11 (by decide) ?_
    refine lv_istore_n (lv' := [(2, .int 0), (0, .ref x0), (1, .int i1)]) hx hb dX10_ghosts_12 rfl hl (by decide) rfl (fun ls hl => ?_)
    refine lv_iconst (v := 0) hx hb dX10_ghosts_13 (by decide) ?_
    refine lv_istore_n (lv' := [(3, .int 0), (2, .int 0), (0, .ref x0), (1, .int i1)]) hx hb dX10_ghosts_14 rfl hl (by decide) rfl (fun ls hl => ?_)
    refine lp_ind (fun (a : Heap × List Loc × Array Slot × (Int32) × (Int32)) => match a with | (H, locs, ls, i_7, i_8) => W p l e _ s m _ below meth c H locs 0 0 _ (F0 m 15 ls [])) (fun (a : Heap × List Loc × Array Slot × (Int32) × (Int32)) => match a with | (H, locs, ls, i_7, i_8) => 0 ≤ i_7.toInt ∧ i_7.toInt ≤ 10 ∧ va_P D vwCl [(x0, .inr (10, [.ref tp, .ref rd, .ref st, .ref th, .ref im, .ref kp, .ref sl, .ref tu, .ref wn, .ref ma, .ref wr])), (st, .inr (3, [.ref tw, .ref wa, .int s2, .int s3, .int s4, .long s5, .int s6, .ref sw, .ref bl])), (tw, .inr (5, [.int t0, .int t1, .int t2, .int t3, .int t4, .int t5, .int t6, .int t7, .int t8, .ref b0, .ref b1, .ref b2, .ref b3, .ref b4, .ref b5, .ref b6, .ref b7, .ref b8, .ref b9])), (b9, .inl (T 0, 10, .inl f9)), (wa, .inr (7, [.ref tw, .ref e0, .ref e1, .ref e2, .ref e3, .ref e4, .ref e5, .ref e6, .ref e7])), (e0, .inl (T 0, 16, .inl p0)), (e3, .inl (T 0, 192, .inl p3))] H ∧ va_S (fun _ => False) s.heap H locs ∧ lv_has ls 4 [(3, .int i_7), (2, .int i_8), (0, .ref x0), (1, .int i1)]) (fun (a : Heap × List Loc × Array Slot × (Int32) × (Int32)) => match a with | (H, locs, ls, i_7, i_8) => (10 - i_7.toInt).toNat) ?_ (_, _, ls, (0 : Int32), (0 : Int32)) ⟨(show 0 ≤ 0 by omega), (show 0 ≤ 10 by omega), hP, hS, lv_sub hl [0, 1, 2, 3] rfl⟩
    rintro ⟨H, locs, ls, i_7, i_8⟩ ⟨c_9, c_10, hP, hS, hl⟩ ih_11
    refine lv_iload_n hx hb dX10_ghosts_15 rfl (lv_at hl 0 rfl) ?_
    refine lv_aload_n hx hb dX10_ghosts_16 rfl (lv_at hl 2 rfl) ?_
    refine va_get (D := D) (ci := 10) (C := RX10) (T := TX10) (N := 11) hx hb hts iX10 hown hK hP 0 rfl rfl 2 (by decide) (hts _ m527) (fun _ h9 => h9) rfl dX10_ghosts_17 ?_
    refine va_get (D := D) (ci := 3) (C := RX3) (T := TX3) (N := 9) hx hb hts iX3 hown hK hP 1 rfl rfl 0 (by decide) (hts _ m371) (fun _ h9 => h9) rfl dX10_ghosts_20 ?_
    refine va_get (D := D) (ci := 5) (C := RX5) (T := TX5) (N := 19) hx hb hts iX5 hown hK hP 2 rfl rfl 5 (by decide) (hts _ m191) (fun _ h9 => h9) rfl dX10_ghosts_23 ?_
    refine lv_icmp_ge (tgt := 72) hx hb dX10_ghosts_26 (by decide) (fun c_12 => ?_) (fun c_12 => ?_)
    · have c_12 : t5.toInt ≤ i_7.toInt := (c_le (x := t5.toInt) (y := i_7.toInt) rfl rfl).mp c_12
      refine lv_iload_n hx hb dX10_ghosts_72 rfl (lv_at hl 1 rfl) ?_
      exact W.iret (v := i_8) hx hb hr (fun t ht hW => ⟨⟨i_8, (), rfl, trivial, trivial⟩, hS.F ht⟩) hS.2.2 dX10_ghosts_73
    · have c_12 : i_7.toInt < t5.toInt := by have h := mt (c_le (x := t5.toInt) (y := i_7.toInt) rfl rfl).mpr c_12; omega
      refine lv_aload_n hx hb dX10_ghosts_29 rfl (lv_at hl 2 rfl) ?_
      refine va_get (D := D) (ci := 10) (C := RX10) (T := TX10) (N := 11) hx hb hts iX10 hown hK hP 0 rfl rfl 2 (by decide) (hts _ m527) (fun _ h9 => h9) rfl dX10_ghosts_30 ?_
      refine va_get (D := D) (ci := 3) (C := RX3) (T := TX3) (N := 9) hx hb hts iX3 hown hK hP 1 rfl rfl 2 (by decide) (hts _ m380) (fun _ h9 => h9) rfl dX10_ghosts_33 ?_
      refine lv_aload_n hx hb dX10_ghosts_36 rfl (lv_at hl 2 rfl) ?_
      refine va_get (D := D) (ci := 10) (C := RX10) (T := TX10) (N := 11) hx hb hts iX10 hown hK hP 0 rfl rfl 2 (by decide) (hts _ m527) (fun _ h9 => h9) rfl dX10_ghosts_37 ?_
      refine va_get (D := D) (ci := 3) (C := RX3) (T := TX3) (N := 9) hx hb hts iX3 hown hK hP 1 rfl rfl 0 (by decide) (hts _ m371) (fun _ h9 => h9) rfl dX10_ghosts_40 ?_
      refine va_get (D := D) (ci := 5) (C := RX5) (T := TX5) (N := 19) hx hb hts iX5 hown hK hP 2 rfl rfl 18 (by decide) (hts _ m236) (fun _ h9 => h9) rfl dX10_ghosts_43 ?_
      refine lv_iload_n hx hb dX10_ghosts_46 rfl (lv_at hl 0 rfl) ?_
      refine va_iald (D := D) hx hb hK hP 3 0 rfl rfl (v_in (x := i_7.toInt) rfl (by omega) (by omega)) dX10_ghosts_47 ?_
      refine lv_topi (fun x_13 ex_13 => ?_)
      refine lv_icmp_le (tgt := 66) hx hb dX10_ghosts_48 (by decide) (fun c_14 => ?_) (fun c_14 => ?_)
      · have c_14 : s2.toInt ≤ x_13.toInt := (c_le (x := s2.toInt) (y := x_13.toInt) rfl rfl).mp c_14
        obtain ⟨x_15, ex_15⟩ : ∃ y : Int32, y = i_7 + 1 := ⟨_, rfl⟩
        have tx_15 : x_15.toInt = i_7.toInt + 1 := t_add (x := i_7.toInt) (y := 1) ex_15 rfl rfl (by omega) (by omega)
        refine lv_iinc (v := x_15) (lv' := [(3, .int x_15), (2, .int i_8), (0, .ref x0), (1, .int i1)]) hx hb dX10_ghosts_66 hl (k := 0) rfl (by rw [ex_15]; rfl) (by decide) rfl (fun ls hl => ?_)
        refine lv_goto (tgt := 15) hx hb dX10_ghosts_69 (by decide) ?_
        exact ih_11 (_, _, _, x_15, i_8) ⟨(show 0 ≤ x_15.toInt by omega), (show x_15.toInt ≤ 10 by omega), hP, hS, lv_sub hl [0, 1, 2, 3] rfl⟩ (show (10 - x_15.toInt).toNat < (10 - i_7.toInt).toNat by omega)
      · have c_14 : x_13.toInt < s2.toInt := by have h := mt (c_le (x := s2.toInt) (y := x_13.toInt) rfl rfl).mpr c_14; omega
        refine lv_iload_n hx hb dX10_ghosts_51 rfl (lv_at hl 1 rfl) ?_
        refine lv_aload_n hx hb dX10_ghosts_52 rfl (lv_at hl 2 rfl) ?_
        refine va_get (D := D) (ci := 10) (C := RX10) (T := TX10) (N := 11) hx hb hts iX10 hown hK hP 0 rfl rfl 2 (by decide) (hts _ m527) (fun _ h9 => h9) rfl dX10_ghosts_53 ?_
        refine va_get (D := D) (ci := 3) (C := RX3) (T := TX3) (N := 9) hx hb hts iX3 hown hK hP 1 rfl rfl 1 (by decide) (hts _ m377) (fun _ h9 => h9) rfl dX10_ghosts_56 ?_
        refine lv_iload_n hx hb dX10_ghosts_59 rfl (lv_at hl 3 rfl) ?_
        refine lv_iload_n hx hb dX10_ghosts_60 rfl (lv_at hl 0 rfl) ?_
        refine puI (cV (As := [.int i1, .int i_7]) (rest := [.int i_8]) ⟨hx, hb, hml, hown, hts⟩ (c_X7_stonesBy l D T b0 b1 b2 b3 b4 b5 b6 b7 b8 b9 e0 e1 e2 e3 e4 e5 e6 e7 wa tw i1 i_7 t0 t1 t2 t3 t4 t5 t6 t7 t8 p0 p3 ⟨by omega, by omega⟩ ⟨by omega, by omega⟩ ⟨by omega, by omega⟩ ⟨by omega, by omega⟩ ⟨by omega, by omega⟩ R_p0) k_X7_stonesBy v_X7_stonesBy m982 rfl rfl ⟨(Nat.le_of_ble_eq_true rfl), (Nat.le_of_ble_eq_true rfl)⟩ (preP hC (hP.sub (ws' := [(wa, .inr (7, [.ref tw, .ref e0, .ref e1, .ref e2, .ref e3, .ref e4, .ref e5, .ref e6, .ref e7])), (e0, .inl (T 0, 16, .inl p0)), (e3, .inl (T 0, 192, .inl p3)), (tw, .inr (5, [.int t0, .int t1, .int t2, .int t3, .int t4, .int t5, .int t6, .int t7, .int t8, .ref b0, .ref b1, .ref b2, .ref b3, .ref b4, .ref b5, .ref b6, .ref b7, .ref b8, .ref b9]))]) [4, 5, 6, 2] rfl)) (va_recv hK hP (ci := 7) (q0 := 4) rfl rfl) rfl hl.1 rfl (Nat.le_of_ble_eq_true rfl) dX10_ghosts_61 ⟨(Nat.le_of_ble_eq_true rfl), (Nat.le_of_ble_eq_true rfl)⟩) hS hP (fun r_16 H locs hw hP hS => ?_)
        refine lv_iadd hx hb dX10_ghosts_64 ?_
        refine lv_topi (fun x_18 ex_18 => ?_)
        refine lv_istore_n (lv' := [(2, .int x_18), (3, .int i_7), (0, .ref x0), (1, .int i1)]) hx hb dX10_ghosts_65 rfl hl (by decide) rfl (fun ls hl => ?_)
        obtain ⟨x_19, ex_19⟩ : ∃ y : Int32, y = i_7 + 1 := ⟨_, rfl⟩
        have tx_19 : x_19.toInt = i_7.toInt + 1 := t_add (x := i_7.toInt) (y := 1) ex_19 rfl rfl (by omega) (by omega)
        refine lv_iinc (v := x_19) (lv' := [(3, .int x_19), (2, .int x_18), (0, .ref x0), (1, .int i1)]) hx hb dX10_ghosts_66 hl (k := 1) rfl (by rw [ex_19]; rfl) (by decide) rfl (fun ls hl => ?_)
        refine lv_goto (tgt := 15) hx hb dX10_ghosts_69 (by decide) ?_
        exact ih_11 (_, _, _, x_19, x_18) ⟨(show 0 ≤ x_19.toInt by omega), (show x_19.toInt ≤ 10 by omega), hP, hS, lv_sub hl [0, 1, 2, 3] rfl⟩ (show (10 - x_19.toInt).toNat < (10 - i_7.toInt).toNat by omega)
  · refine lv_if_ne (tgt := 11) hx hb dX10_ghosts_5 (by decide) (fun c_20 => absurd c_20 (by decide)) (fun _ => ?_)
    refine lv_bipush (v := (-2)) hx hb dX10_ghosts_8 (by decide) ?_
    exact W.iret (v := (-2)) hx hb hr (fun t ht hW => ⟨⟨(-2), (), rfl, trivial, trivial⟩, hS.F ht⟩) hS.2.2 dX10_ghosts_10

set_option maxHeartbeats 4000000 in
set_option maxRecDepth 100000 in
theorem c_X10_span (l : Launch) (D : va_G) (T : Nat → ClassId) (b0 b1 b2 b3 b4 b5 b6 b7 b8 b9 bl e0 e1 e2 e3 e4 e5 e6 e7 im kp ma rd sl st sw th tp tu tw wa wn wr x0 : Nat) (i1 i2 i3 s2 s3 s4 s6 t0 t1 t2 t3 t4 t5 t6 t7 t8 : Int32) (s5 : Int64) (p0 p3 p4 : Nat → Int32) (h_t1 : 0 ≤ t1.toInt ∧ t1.toInt ≤ 8) (h_t2 : 0 ≤ t2.toInt ∧ t2.toInt ≤ 12) (h_t4 : 0 ≤ t4.toInt ∧ t4.toInt ≤ 5) (h_t5 : 0 ≤ t5.toInt ∧ t5.toInt ≤ 10) (h_s2 : 0 ≤ s2.toInt ∧ s2.toInt ≤ 100) (R_p0 : rg 0 12 p0) : Met l yX10_span (wM yX10_span cX10_span 5 (some .int)) ({ frames := 3, cells := 0, slots := 0, locals := 69 }) (va_Pc [.ref x0, .int i1, .int i2, .int i3] (pwP D T [(x0, .inr (10, [.ref tp, .ref rd, .ref st, .ref th, .ref im, .ref kp, .ref sl, .ref tu, .ref wn, .ref ma, .ref wr])), (st, .inr (3, [.ref tw, .ref wa, .int s2, .int s3, .int s4, .long s5, .int s6, .ref sw, .ref bl])), (tw, .inr (5, [.int t0, .int t1, .int t2, .int t3, .int t4, .int t5, .int t6, .int t7, .int t8, .ref b0, .ref b1, .ref b2, .ref b3, .ref b4, .ref b5, .ref b6, .ref b7, .ref b8, .ref b9])), (wa, .inr (7, [.ref tw, .ref e0, .ref e1, .ref e2, .ref e3, .ref e4, .ref e5, .ref e6, .ref e7])), (e0, .inl (T 0, 16, .inl p0)), (e3, .inl (T 0, 192, .inl p3)), (e4, .inl (T 0, 192, .inl p4))])) (va_Qi (fun (r : Int32) (u : Unit) => True) (fun _ _ => True) (fun _ => False)) 0 0 (fun _ => False) := by
  refine Met.ofW (cc := cX10_span) (maxL := 5) (ret := (some .int)) (by decide) rfl ?_
  intro p e s m args below meth c s₁ B hml hv
  obtain ⟨rfl, hP, hC⟩ := hv
  have hx := B.exec
  have hb := B.bytes
  have hr := B.returns
  have hts : ∀ w ∈ gt, w.before _ s = true := fun w hw => atoms_spec (ws := (wM yX10_span cX10_span 5 (some .int))) B.pre w (List.mem_cons_of_mem _ hw)
  have hown : s.vm.findClass RX10 = some m.cls := findClass_of_methodNamed B.named
  have hlocks := B.notSynchronized
  have hK := hC.1
  have hS : va_S (fun _ => False) s.heap s.heap [] := va_S.rf
  have hl := lv_entry ([.ref x0, .int i1, .int i2, .int i3]) (n := 5) (Nat.le_of_ble_eq_true rfl)
  rw [lg_entry_eq]
  generalize (lg_sl ([.ref x0, .int i1, .int i2, .int i3]) ++ List.replicate (5 - (lg_sl ([.ref x0, .int i1, .int i2, .int i3])).length) Slot.unset).toArray = ls at hl ⊢
  have hl : lv_has ls 5 [(0, .ref x0), (1, .int i1), (2, .int i2), (3, .int i3)] := hl
  refine lv_aload_n hx hb dX10_span_0 rfl (lv_at hl 0 rfl) ?_
  refine lv_iload_n hx hb dX10_span_1 rfl (lv_at hl 1 rfl) ?_
  refine puI (cV (As := [.int i1]) (rest := []) ⟨hx, hb, hml, hown, hts⟩ (c_X10_hadElection l D T bl im kp ma rd sl st sw th tp tu tw wa wn wr x0 i1 s2 s3 s4 s6 s5 ⟨by omega, by omega⟩) k_X10_hadElection v_X10_hadElection m946 rfl rfl ⟨(Nat.le_of_ble_eq_true rfl), (Nat.le_of_ble_eq_true rfl)⟩ (preP hC (hP.sub (ws' := [(x0, .inr (10, [.ref tp, .ref rd, .ref st, .ref th, .ref im, .ref kp, .ref sl, .ref tu, .ref wn, .ref ma, .ref wr])), (st, .inr (3, [.ref tw, .ref wa, .int s2, .int s3, .int s4, .long s5, .int s6, .ref sw, .ref bl]))]) [0, 1] rfl)) (va_recv hK hP (ci := 10) (q0 := 0) rfl rfl) rfl hl.1 rfl (Nat.le_of_ble_eq_true rfl) dX10_span_2 ⟨(Nat.le_of_ble_eq_true rfl), (Nat.le_of_ble_eq_true rfl)⟩) hS hP (fun r_1 H locs hw hP hS => ?_)
  have w_3 : (r_1 = 1 ∧ 0 ≤ i1.toInt ∧ i1.toInt < s2.toInt) ∨ (r_1 = 0) := hw
  rcases w_3 with ⟨rfl, c_4, c_5⟩ | rfl
  · refine lv_if_eq (tgt := 25) hx hb dX10_span_5 (by decide) (fun c_6 => absurd c_6 (by decide)) (fun _ => ?_)
    refine lv_aload_n hx hb dX10_span_8 rfl (lv_at hl 0 rfl) ?_
    refine lv_iload_n hx hb dX10_span_9 rfl (lv_at hl 2 rfl) ?_
    refine puI (cV (As := [.int i2]) (rest := []) ⟨hx, hb, hml, hown, hts⟩ (c_X10_hasSide l D T b0 b1 b2 b3 b4 b5 b6 b7 b8 b9 bl im kp ma rd sl st sw th tp tu tw wa wn wr x0 i2 s2 s3 s4 s6 t0 t1 t2 t3 t4 t5 t6 t7 t8 s5 ⟨by omega, by omega⟩ ⟨by omega, by omega⟩ ⟨by omega, by omega⟩ ⟨by omega, by omega⟩ ⟨by omega, by omega⟩) k_X10_hasSide v_X10_hasSide m756 rfl rfl ⟨(Nat.le_of_ble_eq_true rfl), (Nat.le_of_ble_eq_true rfl)⟩ (preP hC (hP.sub (ws' := [(x0, .inr (10, [.ref tp, .ref rd, .ref st, .ref th, .ref im, .ref kp, .ref sl, .ref tu, .ref wn, .ref ma, .ref wr])), (st, .inr (3, [.ref tw, .ref wa, .int s2, .int s3, .int s4, .long s5, .int s6, .ref sw, .ref bl])), (tw, .inr (5, [.int t0, .int t1, .int t2, .int t3, .int t4, .int t5, .int t6, .int t7, .int t8, .ref b0, .ref b1, .ref b2, .ref b3, .ref b4, .ref b5, .ref b6, .ref b7, .ref b8, .ref b9]))]) [0, 1, 2] rfl)) (va_recv hK hP (ci := 10) (q0 := 0) rfl rfl) rfl hl.1 rfl (Nat.le_of_ble_eq_true rfl) dX10_span_10 ⟨(Nat.le_of_ble_eq_true rfl), (Nat.le_of_ble_eq_true rfl)⟩) hS hP (fun r_7 H locs hw hP hS => ?_)
    have w_9 : (r_7 = 1 ∧ 0 ≤ i2.toInt ∧ i2.toInt ≤ 1) ∨ (r_7 = 0) := hw
    rcases w_9 with ⟨rfl, c_10, c_11⟩ | rfl
    · refine lv_if_eq (tgt := 25) hx hb dX10_span_13 (by decide) (fun c_12 => absurd c_12 (by decide)) (fun _ => ?_)
      refine lv_iload_n hx hb dX10_span_16 rfl (lv_at hl 3 rfl) ?_
      refine lv_if_lt (tgt := 25) hx hb dX10_span_17 (by decide) (fun c_13 => ?_) (fun c_13 => ?_)
      · have c_13 : i3.toInt < 0 := (c_lt (x := i3.toInt) (y := 0) rfl rfl).mp c_13
        refine lv_bipush (v := (-2)) hx hb dX10_span_25 (by decide) ?_
        exact W.iret (v := (-2)) hx hb hr (fun t ht hW => ⟨⟨(-2), (), rfl, trivial, trivial⟩, hS.F ht⟩) hS.2.2 dX10_span_27
      · have c_13 : 0 ≤ i3.toInt := by have h := mt (c_lt (x := i3.toInt) (y := 0) rfl rfl).mpr c_13; omega
        refine lv_iload_n hx hb dX10_span_20 rfl (lv_at hl 3 rfl) ?_
        refine lv_iconst (v := 1) hx hb dX10_span_21 (by decide) ?_
        refine lv_icmp_le (tgt := 28) hx hb dX10_span_22 (by decide) (fun c_14 => ?_) (fun c_14 => ?_)
        · have c_14 : i3.toInt ≤ 1 := (c_le (x := i3.toInt) (y := 1) rfl rfl).mp c_14
          refine lv_aload_n hx hb dX10_span_28 rfl (lv_at hl 0 rfl) ?_
          refine va_get (D := D) (ci := 10) (C := RX10) (T := TX10) (N := 11) hx hb hts iX10 hown hK hP 0 rfl rfl 2 (by decide) (hts _ m527) (fun _ h9 => h9) rfl dX10_span_29 ?_
          refine va_get (D := D) (ci := 3) (C := RX3) (T := TX3) (N := 9) hx hb hts iX3 hown hK hP 1 rfl rfl 1 (by decide) (hts _ m377) (fun _ h9 => h9) rfl dX10_span_32 ?_
          refine lv_iload_n hx hb dX10_span_35 rfl (lv_at hl 2 rfl) ?_
          refine lv_iload_n hx hb dX10_span_36 rfl (lv_at hl 1 rfl) ?_
          refine puI (cV (As := [.int i2, .int i1]) (rest := []) ⟨hx, hb, hml, hown, hts⟩ (c_X7_votesLying l D T b0 b1 b2 b3 b4 b5 b6 b7 b8 b9 e0 e1 e2 e3 e4 e5 e6 e7 wa tw i2 i1 t0 t1 t2 t3 t4 t5 t6 t7 t8 p0 p3 p4 ⟨by omega, by omega⟩ ⟨by omega, by omega⟩ ⟨by omega, by omega⟩ ⟨by omega, by omega⟩ ⟨by omega, by omega⟩ R_p0) k_X7_votesLying v_X7_votesLying m958 rfl rfl ⟨(Nat.le_of_ble_eq_true rfl), (Nat.le_of_ble_eq_true rfl)⟩ (preP hC (hP.sub (ws' := [(wa, .inr (7, [.ref tw, .ref e0, .ref e1, .ref e2, .ref e3, .ref e4, .ref e5, .ref e6, .ref e7])), (e0, .inl (T 0, 16, .inl p0)), (e3, .inl (T 0, 192, .inl p3)), (e4, .inl (T 0, 192, .inl p4)), (tw, .inr (5, [.int t0, .int t1, .int t2, .int t3, .int t4, .int t5, .int t6, .int t7, .int t8, .ref b0, .ref b1, .ref b2, .ref b3, .ref b4, .ref b5, .ref b6, .ref b7, .ref b8, .ref b9]))]) [3, 4, 5, 6, 2] rfl)) (va_recv hK hP (ci := 7) (q0 := 3) rfl rfl) rfl hl.1 rfl (Nat.le_of_ble_eq_true rfl) dX10_span_37 ⟨(Nat.le_of_ble_eq_true rfl), (Nat.le_of_ble_eq_true rfl)⟩) hS hP (fun r_15 H locs hw hP hS => ?_)
          refine lv_istore (lv' := [(4, .int r_15), (0, .ref x0), (1, .int i1), (2, .int i2), (3, .int i3)]) hx hb dX10_span_40 hl (by decide) rfl (fun ls hl => ?_)
          refine lv_iload_n hx hb dX10_span_42 rfl (lv_at hl 4 rfl) ?_
          refine lv_if_ne (tgt := 51) hx hb dX10_span_43 (by decide) (fun c_17 => ?_) (fun c_17 => ?_)
          · have c_17 : ¬ i3.toInt = 0 := fun h => c_17 ((c_eq (x := i3.toInt) (y := 0) rfl rfl).mpr h)
            refine lv_iload hx hb dX10_span_51 (lv_at hl 0 rfl) ?_
            refine lv_aload_n hx hb dX10_span_53 rfl (lv_at hl 1 rfl) ?_
            refine va_get (D := D) (ci := 10) (C := RX10) (T := TX10) (N := 11) hx hb hts iX10 hown hK hP 0 rfl rfl 2 (by decide) (hts _ m527) (fun _ h9 => h9) rfl dX10_span_54 ?_
            refine puI (cV (As := []) (rest := [.int r_15]) ⟨hx, hb, hml, hown, hts⟩ (c_X3_votesLost l D T b0 b1 b2 b3 b4 b5 b6 b7 b8 b9 bl e0 e1 e2 e3 e4 e5 e6 e7 st sw tw wa s2 s3 s4 s6 t0 t1 t2 t3 t4 t5 t6 t7 t8 s5 p0 p3 ⟨by omega, by omega⟩ ⟨by omega, by omega⟩ ⟨by omega, by omega⟩ ⟨by omega, by omega⟩ ⟨by omega, by omega⟩ R_p0) k_X3_votesLost v_X3_votesLost m966 rfl rfl ⟨(Nat.le_of_ble_eq_true rfl), (Nat.le_of_ble_eq_true rfl)⟩ (preP hC (hP.sub (ws' := [(st, .inr (3, [.ref tw, .ref wa, .int s2, .int s3, .int s4, .long s5, .int s6, .ref sw, .ref bl])), (tw, .inr (5, [.int t0, .int t1, .int t2, .int t3, .int t4, .int t5, .int t6, .int t7, .int t8, .ref b0, .ref b1, .ref b2, .ref b3, .ref b4, .ref b5, .ref b6, .ref b7, .ref b8, .ref b9])), (wa, .inr (7, [.ref tw, .ref e0, .ref e1, .ref e2, .ref e3, .ref e4, .ref e5, .ref e6, .ref e7])), (e0, .inl (T 0, 16, .inl p0)), (e3, .inl (T 0, 192, .inl p3))]) [1, 2, 3, 4, 5] rfl)) (va_recv hK hP (ci := 3) (q0 := 1) rfl rfl) rfl hl.1 rfl (Nat.le_of_ble_eq_true rfl) dX10_span_57 ⟨(Nat.le_of_ble_eq_true rfl), (Nat.le_of_ble_eq_true rfl)⟩) hS hP (fun r_18 H locs hw hP hS => ?_)
            refine lv_iadd hx hb dX10_span_60 ?_
            refine lv_topi (fun x_20 ex_20 => ?_)
            exact W.iret (v := x_20) hx hb hr (fun t ht hW => ⟨⟨x_20, (), rfl, trivial, trivial⟩, hS.F ht⟩) hS.2.2 dX10_span_61
          · have c_17 : i3.toInt = 0 := (c_eq (x := i3.toInt) (y := 0) rfl rfl).mp c_17
            refine lv_iload hx hb dX10_span_46 (lv_at hl 0 rfl) ?_
            refine lv_goto (tgt := 61) hx hb dX10_span_48 (by decide) ?_
            exact W.iret (v := r_15) hx hb hr (fun t ht hW => ⟨⟨r_15, (), rfl, trivial, trivial⟩, hS.F ht⟩) hS.2.2 dX10_span_61
        · have c_14 : 1 < i3.toInt := by have h := mt (c_le (x := i3.toInt) (y := 1) rfl rfl).mpr c_14; omega
          refine lv_bipush (v := (-2)) hx hb dX10_span_25 (by decide) ?_
          exact W.iret (v := (-2)) hx hb hr (fun t ht hW => ⟨⟨(-2), (), rfl, trivial, trivial⟩, hS.F ht⟩) hS.2.2 dX10_span_27
    · refine lv_if_eq (tgt := 25) hx hb dX10_span_13 (by decide) (fun _ => ?_) (fun c_21 => absurd (by decide) c_21)
      refine lv_bipush (v := (-2)) hx hb dX10_span_25 (by decide) ?_
      exact W.iret (v := (-2)) hx hb hr (fun t ht hW => ⟨⟨(-2), (), rfl, trivial, trivial⟩, hS.F ht⟩) hS.2.2 dX10_span_27
  · refine lv_if_eq (tgt := 25) hx hb dX10_span_5 (by decide) (fun _ => ?_) (fun c_22 => absurd (by decide) c_22)
    refine lv_bipush (v := (-2)) hx hb dX10_span_25 (by decide) ?_
    exact W.iret (v := (-2)) hx hb hr (fun t ht hW => ⟨⟨(-2), (), rfl, trivial, trivial⟩, hS.F ht⟩) hS.2.2 dX10_span_27

set_option maxHeartbeats 4000000 in
set_option maxRecDepth 100000 in
theorem c_X10_oldest (l : Launch) (D : va_G) (T : Nat → ClassId) (b0 b1 b2 b3 b4 b5 b6 b7 b8 b9 bl e0 e1 e2 e3 e4 e5 e6 e7 im kp ma rd sl st sw th tp tu tw wa wn wr x0 : Nat) (i1 s2 s3 s4 s6 t0 t1 t2 t3 t4 t5 t6 t7 t8 : Int32) (s5 : Int64) (p0 p3 p4 : Nat → Int32) (h_t1 : 0 ≤ t1.toInt ∧ t1.toInt ≤ 8) (h_t2 : 0 ≤ t2.toInt ∧ t2.toInt ≤ 12) (h_t4 : 0 ≤ t4.toInt ∧ t4.toInt ≤ 5) (h_t5 : 0 ≤ t5.toInt ∧ t5.toInt ≤ 10) (h_s2 : 0 ≤ s2.toInt ∧ s2.toInt ≤ 100) (R_p0 : rg 0 12 p0) : Met l yX10_oldest (wM yX10_oldest cX10_oldest 2 (some .int)) ({ frames := 2, cells := 0, slots := 0, locals := 47 }) (va_Pc [.ref x0, .int i1] (pwP D T [(x0, .inr (10, [.ref tp, .ref rd, .ref st, .ref th, .ref im, .ref kp, .ref sl, .ref tu, .ref wn, .ref ma, .ref wr])), (st, .inr (3, [.ref tw, .ref wa, .int s2, .int s3, .int s4, .long s5, .int s6, .ref sw, .ref bl])), (tw, .inr (5, [.int t0, .int t1, .int t2, .int t3, .int t4, .int t5, .int t6, .int t7, .int t8, .ref b0, .ref b1, .ref b2, .ref b3, .ref b4, .ref b5, .ref b6, .ref b7, .ref b8, .ref b9])), (wa, .inr (7, [.ref tw, .ref e0, .ref e1, .ref e2, .ref e3, .ref e4, .ref e5, .ref e6, .ref e7])), (e0, .inl (T 0, 16, .inl p0)), (e3, .inl (T 0, 192, .inl p3)), (e4, .inl (T 0, 192, .inl p4))])) (va_Qi (fun (r : Int32) (u : Unit) => True) (fun _ _ => True) (fun _ => False)) 0 0 (fun _ => False) := by
  refine Met.ofW (cc := cX10_oldest) (maxL := 2) (ret := (some .int)) (by decide) rfl ?_
  intro p e s m args below meth c s₁ B hml hv
  obtain ⟨rfl, hP, hC⟩ := hv
  have hx := B.exec
  have hb := B.bytes
  have hr := B.returns
  have hts : ∀ w ∈ gt, w.before _ s = true := fun w hw => atoms_spec (ws := (wM yX10_oldest cX10_oldest 2 (some .int))) B.pre w (List.mem_cons_of_mem _ hw)
  have hown : s.vm.findClass RX10 = some m.cls := findClass_of_methodNamed B.named
  have hlocks := B.notSynchronized
  have hK := hC.1
  have hS : va_S (fun _ => False) s.heap s.heap [] := va_S.rf
  have hl := lv_entry ([.ref x0, .int i1]) (n := 2) (Nat.le_of_ble_eq_true rfl)
  rw [lg_entry_eq]
  generalize (lg_sl ([.ref x0, .int i1]) ++ List.replicate (2 - (lg_sl ([.ref x0, .int i1])).length) Slot.unset).toArray = ls at hl ⊢
  have hl : lv_has ls 2 [(0, .ref x0), (1, .int i1)] := hl
  refine lv_aload_n hx hb dX10_oldest_0 rfl (lv_at hl 0 rfl) ?_
  refine lv_iload_n hx hb dX10_oldest_1 rfl (lv_at hl 1 rfl) ?_
  refine puI (cV (As := [.int i1]) (rest := []) ⟨hx, hb, hml, hown, hts⟩ (c_X10_hasSide l D T b0 b1 b2 b3 b4 b5 b6 b7 b8 b9 bl im kp ma rd sl st sw th tp tu tw wa wn wr x0 i1 s2 s3 s4 s6 t0 t1 t2 t3 t4 t5 t6 t7 t8 s5 ⟨by omega, by omega⟩ ⟨by omega, by omega⟩ ⟨by omega, by omega⟩ ⟨by omega, by omega⟩ ⟨by omega, by omega⟩) k_X10_hasSide v_X10_hasSide m756 rfl rfl ⟨(Nat.le_of_ble_eq_true rfl), (Nat.le_of_ble_eq_true rfl)⟩ (preP hC (hP.sub (ws' := [(x0, .inr (10, [.ref tp, .ref rd, .ref st, .ref th, .ref im, .ref kp, .ref sl, .ref tu, .ref wn, .ref ma, .ref wr])), (st, .inr (3, [.ref tw, .ref wa, .int s2, .int s3, .int s4, .long s5, .int s6, .ref sw, .ref bl])), (tw, .inr (5, [.int t0, .int t1, .int t2, .int t3, .int t4, .int t5, .int t6, .int t7, .int t8, .ref b0, .ref b1, .ref b2, .ref b3, .ref b4, .ref b5, .ref b6, .ref b7, .ref b8, .ref b9]))]) [0, 1, 2] rfl)) (va_recv hK hP (ci := 10) (q0 := 0) rfl rfl) rfl hl.1 rfl (Nat.le_of_ble_eq_true rfl) dX10_oldest_2 ⟨(Nat.le_of_ble_eq_true rfl), (Nat.le_of_ble_eq_true rfl)⟩) hS hP (fun r_1 H locs hw hP hS => ?_)
  have w_3 : (r_1 = 1 ∧ 0 ≤ i1.toInt ∧ i1.toInt ≤ 1) ∨ (r_1 = 0) := hw
  rcases w_3 with ⟨rfl, c_4, c_5⟩ | rfl
  · refine lv_if_eq (tgt := 22) hx hb dX10_oldest_5 (by decide) (fun c_6 => absurd c_6 (by decide)) (fun _ => ?_)
    refine lv_aload_n hx hb dX10_oldest_8 rfl (lv_at hl 0 rfl) ?_
    refine va_get (D := D) (ci := 10) (C := RX10) (T := TX10) (N := 11) hx hb hts iX10 hown hK hP 0 rfl rfl 2 (by decide) (hts _ m527) (fun _ h9 => h9) rfl dX10_oldest_9 ?_
    refine va_get (D := D) (ci := 3) (C := RX3) (T := TX3) (N := 9) hx hb hts iX3 hown hK hP 1 rfl rfl 1 (by decide) (hts _ m377) (fun _ h9 => h9) rfl dX10_oldest_12 ?_
    refine lv_iload_n hx hb dX10_oldest_15 rfl (lv_at hl 1 rfl) ?_
    refine puI (cV (As := [.int i1]) (rest := []) ⟨hx, hb, hml, hown, hts⟩ (c_X7_earliestVote l D T b0 b1 b2 b3 b4 b5 b6 b7 b8 b9 e0 e1 e2 e3 e4 e5 e6 e7 wa tw i1 t0 t1 t2 t3 t4 t5 t6 t7 t8 p0 p3 p4 ⟨by omega, by omega⟩ ⟨by omega, by omega⟩ ⟨by omega, by omega⟩ ⟨by omega, by omega⟩ ⟨by omega, by omega⟩ R_p0) k_X7_earliestVote v_X7_earliestVote m1166 rfl rfl ⟨(Nat.le_of_ble_eq_true rfl), (Nat.le_of_ble_eq_true rfl)⟩ (preP hC (hP.sub (ws' := [(wa, .inr (7, [.ref tw, .ref e0, .ref e1, .ref e2, .ref e3, .ref e4, .ref e5, .ref e6, .ref e7])), (e0, .inl (T 0, 16, .inl p0)), (e3, .inl (T 0, 192, .inl p3)), (e4, .inl (T 0, 192, .inl p4)), (tw, .inr (5, [.int t0, .int t1, .int t2, .int t3, .int t4, .int t5, .int t6, .int t7, .int t8, .ref b0, .ref b1, .ref b2, .ref b3, .ref b4, .ref b5, .ref b6, .ref b7, .ref b8, .ref b9]))]) [3, 4, 5, 6, 2] rfl)) (va_recv hK hP (ci := 7) (q0 := 3) rfl rfl) rfl hl.1 rfl (Nat.le_of_ble_eq_true rfl) dX10_oldest_16 ⟨(Nat.le_of_ble_eq_true rfl), (Nat.le_of_ble_eq_true rfl)⟩) hS hP (fun r_7 H locs hw hP hS => ?_)
    refine lv_goto (tgt := 24) hx hb dX10_oldest_19 (by decide) ?_
    exact W.iret (v := r_7) hx hb hr (fun t ht hW => ⟨⟨r_7, (), rfl, trivial, trivial⟩, hS.F ht⟩) hS.2.2 dX10_oldest_24
  · refine lv_if_eq (tgt := 22) hx hb dX10_oldest_5 (by decide) (fun _ => ?_) (fun c_9 => absurd (by decide) c_9)
    refine lv_bipush (v := (-2)) hx hb dX10_oldest_22 (by decide) ?_
    exact W.iret (v := (-2)) hx hb hr (fun t ht hW => ⟨⟨(-2), (), rfl, trivial, trivial⟩, hS.F ht⟩) hS.2.2 dX10_oldest_24

set_option maxHeartbeats 4000000 in
set_option maxRecDepth 100000 in
theorem c_X10_course (l : Launch) (D : va_G) (T : Nat → ClassId) (b0 b1 b2 b3 b4 b5 b6 b7 b8 b9 bl e0 e1 e2 e3 e4 e5 e6 e7 im kp ma rd sl st sw th tp tu tw wa wn wr x0 : Nat) (i1 i2 s2 s3 s4 s6 t0 t1 t2 t3 t4 t5 t6 t7 t8 : Int32) (s5 : Int64) (p0 : Nat → Int32) (h_t1 : 0 ≤ t1.toInt ∧ t1.toInt ≤ 8) (h_t2 : 0 ≤ t2.toInt ∧ t2.toInt ≤ 12) (h_t4 : 0 ≤ t4.toInt ∧ t4.toInt ≤ 5) (h_t5 : 0 ≤ t5.toInt ∧ t5.toInt ≤ 10) (h_s2 : 0 ≤ s2.toInt ∧ s2.toInt ≤ 100) (R_p0 : rg 0 12 p0) : Met l yX10_course (wM yX10_course cX10_course 5 (some .int)) ({ frames := 2, cells := 0, slots := 0, locals := 41 }) (va_Pc [.ref x0, .int i1, .int i2] (pwP D T [(x0, .inr (10, [.ref tp, .ref rd, .ref st, .ref th, .ref im, .ref kp, .ref sl, .ref tu, .ref wn, .ref ma, .ref wr])), (st, .inr (3, [.ref tw, .ref wa, .int s2, .int s3, .int s4, .long s5, .int s6, .ref sw, .ref bl])), (tw, .inr (5, [.int t0, .int t1, .int t2, .int t3, .int t4, .int t5, .int t6, .int t7, .int t8, .ref b0, .ref b1, .ref b2, .ref b3, .ref b4, .ref b5, .ref b6, .ref b7, .ref b8, .ref b9])), (wa, .inr (7, [.ref tw, .ref e0, .ref e1, .ref e2, .ref e3, .ref e4, .ref e5, .ref e6, .ref e7])), (e0, .inl (T 0, 16, .inl p0))])) (va_Qi (fun (r : Int32) (u : Unit) => True) (fun _ _ => True) (fun _ => False)) 0 0 (fun _ => False) := by
  refine Met.ofW (cc := cX10_course) (maxL := 5) (ret := (some .int)) (by decide) rfl ?_
  intro p e s m args below meth c s₁ B hml hv
  obtain ⟨rfl, hP, hC⟩ := hv
  have hx := B.exec
  have hb := B.bytes
  have hr := B.returns
  have hts : ∀ w ∈ gt, w.before _ s = true := fun w hw => atoms_spec (ws := (wM yX10_course cX10_course 5 (some .int))) B.pre w (List.mem_cons_of_mem _ hw)
  have hown : s.vm.findClass RX10 = some m.cls := findClass_of_methodNamed B.named
  have hlocks := B.notSynchronized
  have hK := hC.1
  have hS : va_S (fun _ => False) s.heap s.heap [] := va_S.rf
  have hl := lv_entry ([.ref x0, .int i1, .int i2]) (n := 5) (Nat.le_of_ble_eq_true rfl)
  rw [lg_entry_eq]
  generalize (lg_sl ([.ref x0, .int i1, .int i2]) ++ List.replicate (5 - (lg_sl ([.ref x0, .int i1, .int i2])).length) Slot.unset).toArray = ls at hl ⊢
  have hl : lv_has ls 5 [(0, .ref x0), (1, .int i1), (2, .int i2)] := hl
  refine lv_aload_n hx hb dX10_course_0 rfl (lv_at hl 0 rfl) ?_
  refine lv_iload_n hx hb dX10_course_1 rfl (lv_at hl 1 rfl) ?_
  refine puI (cV (As := [.int i1]) (rest := []) ⟨hx, hb, hml, hown, hts⟩ (c_X10_hasSide l D T b0 b1 b2 b3 b4 b5 b6 b7 b8 b9 bl im kp ma rd sl st sw th tp tu tw wa wn wr x0 i1 s2 s3 s4 s6 t0 t1 t2 t3 t4 t5 t6 t7 t8 s5 ⟨by omega, by omega⟩ ⟨by omega, by omega⟩ ⟨by omega, by omega⟩ ⟨by omega, by omega⟩ ⟨by omega, by omega⟩) k_X10_hasSide v_X10_hasSide m756 rfl rfl ⟨(Nat.le_of_ble_eq_true rfl), (Nat.le_of_ble_eq_true rfl)⟩ (preP hC (hP.sub (ws' := [(x0, .inr (10, [.ref tp, .ref rd, .ref st, .ref th, .ref im, .ref kp, .ref sl, .ref tu, .ref wn, .ref ma, .ref wr])), (st, .inr (3, [.ref tw, .ref wa, .int s2, .int s3, .int s4, .long s5, .int s6, .ref sw, .ref bl])), (tw, .inr (5, [.int t0, .int t1, .int t2, .int t3, .int t4, .int t5, .int t6, .int t7, .int t8, .ref b0, .ref b1, .ref b2, .ref b3, .ref b4, .ref b5, .ref b6, .ref b7, .ref b8, .ref b9]))]) [0, 1, 2] rfl)) (va_recv hK hP (ci := 10) (q0 := 0) rfl rfl) rfl hl.1 rfl (Nat.le_of_ble_eq_true rfl) dX10_course_2 ⟨(Nat.le_of_ble_eq_true rfl), (Nat.le_of_ble_eq_true rfl)⟩) hS hP (fun r_1 H locs hw hP hS => ?_)
  have w_3 : (r_1 = 1 ∧ 0 ≤ i1.toInt ∧ i1.toInt ≤ 1) ∨ (r_1 = 0) := hw
  rcases w_3 with ⟨rfl, c_4, c_5⟩ | rfl
  · refine lv_if_eq (tgt := 19) hx hb dX10_course_5 (by decide) (fun c_6 => absurd c_6 (by decide)) (fun _ => ?_)
    refine lv_iload_n hx hb dX10_course_8 rfl (lv_at hl 2 rfl) ?_
    refine lv_iconst (v := 1) hx hb dX10_course_9 (by decide) ?_
    refine lv_icmp_lt (tgt := 19) hx hb dX10_course_10 (by decide) (fun c_7 => ?_) (fun c_7 => ?_)
    · have c_7 : i2.toInt < 1 := (c_lt (x := i2.toInt) (y := 1) rfl rfl).mp c_7
      refine lv_bipush (v := (-2)) hx hb dX10_course_19 (by decide) ?_
      exact W.iret (v := (-2)) hx hb hr (fun t ht hW => ⟨⟨(-2), (), rfl, trivial, trivial⟩, hS.F ht⟩) hS.2.2 dX10_course_21
    · have c_7 : 1 ≤ i2.toInt := by have h := mt (c_lt (x := i2.toInt) (y := 1) rfl rfl).mpr c_7; omega
      refine lv_iload_n hx hb dX10_course_13 rfl (lv_at hl 2 rfl) ?_
      refine lv_bipush (v := 12) hx hb dX10_course_14 (by decide) ?_
      refine lv_icmp_le (tgt := 22) hx hb dX10_course_16 (by decide) (fun c_8 => ?_) (fun c_8 => ?_)
      · have c_8 : i2.toInt ≤ 12 := (c_le (x := i2.toInt) (y := 12) rfl rfl).mp c_8
        refine lv_iconst (v := 0) hx hb dX10_course_22 (by decide) ?_
        refine lv_istore_n (lv' := [(3, .int 0), (0, .ref x0), (1, .int i1), (2, .int i2)]) hx hb dX10_course_23 rfl hl (by decide) rfl (fun ls hl => ?_)
        refine lv_iconst (v := 0) hx hb dX10_course_24 (by decide) ?_
        refine lv_istore (lv' := [(4, .int 0), (3, .int 0), (0, .ref x0), (1, .int i1), (2, .int i2)]) hx hb dX10_course_25 hl (by decide) rfl (fun ls hl => ?_)
        refine lp_ind (fun (a : Heap × List Loc × Array Slot × (Int32) × (Int32)) => match a with | (H, locs, ls, i_9, i_10) => W p l e _ s m _ below meth c H locs 0 0 _ (F0 m 27 ls [])) (fun (a : Heap × List Loc × Array Slot × (Int32) × (Int32)) => match a with | (H, locs, ls, i_9, i_10) => 0 ≤ i_9.toInt ∧ i_9.toInt ≤ 8 ∧ va_P D vwCl [(x0, .inr (10, [.ref tp, .ref rd, .ref st, .ref th, .ref im, .ref kp, .ref sl, .ref tu, .ref wn, .ref ma, .ref wr])), (st, .inr (3, [.ref tw, .ref wa, .int s2, .int s3, .int s4, .long s5, .int s6, .ref sw, .ref bl])), (tw, .inr (5, [.int t0, .int t1, .int t2, .int t3, .int t4, .int t5, .int t6, .int t7, .int t8, .ref b0, .ref b1, .ref b2, .ref b3, .ref b4, .ref b5, .ref b6, .ref b7, .ref b8, .ref b9])), (wa, .inr (7, [.ref tw, .ref e0, .ref e1, .ref e2, .ref e3, .ref e4, .ref e5, .ref e6, .ref e7])), (e0, .inl (T 0, 16, .inl p0))] H ∧ va_S (fun _ => False) s.heap H locs ∧ lv_has ls 5 [(4, .int i_9), (3, .int i_10), (0, .ref x0), (1, .int i1), (2, .int i2)]) (fun (a : Heap × List Loc × Array Slot × (Int32) × (Int32)) => match a with | (H, locs, ls, i_9, i_10) => (8 - i_9.toInt).toNat) ?_ (_, _, ls, (0 : Int32), (0 : Int32)) ⟨(show 0 ≤ 0 by omega), (show 0 ≤ 8 by omega), hP, hS, lv_sub hl [0, 1, 2, 3, 4] rfl⟩
        rintro ⟨H, locs, ls, i_9, i_10⟩ ⟨c_11, c_12, hP, hS, hl⟩ ih_13
        refine lv_iload hx hb dX10_course_27 (lv_at hl 0 rfl) ?_
        refine lv_aload_n hx hb dX10_course_29 rfl (lv_at hl 2 rfl) ?_
        refine va_get (D := D) (ci := 10) (C := RX10) (T := TX10) (N := 11) hx hb hts iX10 hown hK hP 0 rfl rfl 2 (by decide) (hts _ m527) (fun _ h9 => h9) rfl dX10_course_30 ?_
        refine va_get (D := D) (ci := 3) (C := RX3) (T := TX3) (N := 9) hx hb hts iX3 hown hK hP 1 rfl rfl 0 (by decide) (hts _ m371) (fun _ h9 => h9) rfl dX10_course_33 ?_
        refine va_get (D := D) (ci := 5) (C := RX5) (T := TX5) (N := 19) hx hb hts iX5 hown hK hP 2 rfl rfl 1 (by decide) (hts _ m173) (fun _ h9 => h9) rfl dX10_course_36 ?_
        refine lv_icmp_ge (tgt := 72) hx hb dX10_course_39 (by decide) (fun c_14 => ?_) (fun c_14 => ?_)
        · have c_14 : t1.toInt ≤ i_9.toInt := (c_le (x := t1.toInt) (y := i_9.toInt) rfl rfl).mp c_14
          refine lv_iload_n hx hb dX10_course_72 rfl (lv_at hl 1 rfl) ?_
          exact W.iret (v := i_10) hx hb hr (fun t ht hW => ⟨⟨i_10, (), rfl, trivial, trivial⟩, hS.F ht⟩) hS.2.2 dX10_course_73
        · have c_14 : i_9.toInt < t1.toInt := by have h := mt (c_le (x := t1.toInt) (y := i_9.toInt) rfl rfl).mpr c_14; omega
          refine lv_aload_n hx hb dX10_course_42 rfl (lv_at hl 2 rfl) ?_
          refine va_get (D := D) (ci := 10) (C := RX10) (T := TX10) (N := 11) hx hb hts iX10 hown hK hP 0 rfl rfl 2 (by decide) (hts _ m527) (fun _ h9 => h9) rfl dX10_course_43 ?_
          refine va_get (D := D) (ci := 3) (C := RX3) (T := TX3) (N := 9) hx hb hts iX3 hown hK hP 1 rfl rfl 1 (by decide) (hts _ m377) (fun _ h9 => h9) rfl dX10_course_46 ?_
          refine va_get (D := D) (ci := 7) (C := RX7) (T := TX7) (N := 9) hx hb hts iX7 hown hK hP 3 rfl rfl 1 (by decide) (hts _ m328) (fun _ h9 => h9) rfl dX10_course_49 ?_
          refine lv_iload_n hx hb dX10_course_52 rfl (lv_at hl 3 rfl) ?_
          refine lv_iload hx hb dX10_course_53 (lv_at hl 0 rfl) ?_
          refine puI (cS (As := [.int i1, .int i_9]) (rest := [.ref e0]) ⟨hx, hb, hml, hown, hts⟩ (c_X10_placeOf l D T i1 i_9 ⟨by omega, by omega⟩ ⟨by omega, by omega⟩) k_X10_placeOf m769 m768 rfl rfl ⟨(Nat.le_of_ble_eq_true rfl), (Nat.le_of_ble_eq_true rfl)⟩ (preP hC (hP.sub (ws' := []) [] rfl)) rfl hl.1 rfl (Nat.le_of_ble_eq_true rfl) dX10_course_55 ⟨(Nat.le_of_ble_eq_true rfl), (Nat.le_of_ble_eq_true rfl)⟩) hS hP (fun r_15 H locs hw hP hS => ?_)
          have w_17 : (r_15.toInt = 8 * i1.toInt + i_9.toInt) := hw
          obtain c_18 := w_17
          refine va_iald (D := D) hx hb hK hP 4 0 rfl rfl (v_in (x := r_15.toInt) rfl (by omega) (by omega)) dX10_course_58 ?_
          refine lv_topi (fun x_19 ex_19 => ?_)
          have tx_19 : 0 ≤ x_19.toInt ∧ x_19.toInt ≤ 12 := rg_at R_p0 ex_19
          have qx_19 : x_19.toInt = (p0 r_15.toNatClampNeg).toInt := by rw [ex_19]
          refine lv_iload_n hx hb dX10_course_59 rfl (lv_at hl 4 rfl) ?_
          refine lv_icmp_lt (tgt := 66) hx hb dX10_course_60 (by decide) (fun c_20 => ?_) (fun c_20 => ?_)
          · have c_20 : x_19.toInt < i2.toInt := (c_lt (x := x_19.toInt) (y := i2.toInt) rfl rfl).mp c_20
            obtain ⟨x_21, ex_21⟩ : ∃ y : Int32, y = i_9 + 1 := ⟨_, rfl⟩
            have tx_21 : x_21.toInt = i_9.toInt + 1 := t_add (x := i_9.toInt) (y := 1) ex_21 rfl rfl (by omega) (by omega)
            refine lv_iinc (v := x_21) (lv' := [(4, .int x_21), (3, .int i_10), (0, .ref x0), (1, .int i1), (2, .int i2)]) hx hb dX10_course_66 hl (k := 0) rfl (by rw [ex_21]; rfl) (by decide) rfl (fun ls hl => ?_)
            refine lv_goto (tgt := 27) hx hb dX10_course_69 (by decide) ?_
            exact ih_13 (_, _, _, x_21, i_10) ⟨(show 0 ≤ x_21.toInt by omega), (show x_21.toInt ≤ 8 by omega), hP, hS, lv_sub hl [0, 1, 2, 3, 4] rfl⟩ (show (8 - x_21.toInt).toNat < (8 - i_9.toInt).toNat by omega)
          · have c_20 : i2.toInt ≤ x_19.toInt := by have h := mt (c_lt (x := x_19.toInt) (y := i2.toInt) rfl rfl).mpr c_20; omega
            obtain ⟨x_22, ex_22⟩ : ∃ y : Int32, y = i_10 + 1 := ⟨_, rfl⟩
            refine lv_iinc (v := x_22) (lv' := [(3, .int x_22), (4, .int i_9), (0, .ref x0), (1, .int i1), (2, .int i2)]) hx hb dX10_course_63 hl (k := 1) rfl (by rw [ex_22]; rfl) (by decide) rfl (fun ls hl => ?_)
            obtain ⟨x_23, ex_23⟩ : ∃ y : Int32, y = i_9 + 1 := ⟨_, rfl⟩
            have tx_23 : x_23.toInt = i_9.toInt + 1 := t_add (x := i_9.toInt) (y := 1) ex_23 rfl rfl (by omega) (by omega)
            refine lv_iinc (v := x_23) (lv' := [(4, .int x_23), (3, .int x_22), (0, .ref x0), (1, .int i1), (2, .int i2)]) hx hb dX10_course_66 hl (k := 1) rfl (by rw [ex_23]; rfl) (by decide) rfl (fun ls hl => ?_)
            refine lv_goto (tgt := 27) hx hb dX10_course_69 (by decide) ?_
            exact ih_13 (_, _, _, x_23, x_22) ⟨(show 0 ≤ x_23.toInt by omega), (show x_23.toInt ≤ 8 by omega), hP, hS, lv_sub hl [0, 1, 2, 3, 4] rfl⟩ (show (8 - x_23.toInt).toNat < (8 - i_9.toInt).toNat by omega)
      · have c_8 : 12 < i2.toInt := by have h := mt (c_le (x := i2.toInt) (y := 12) rfl rfl).mpr c_8; omega
        refine lv_bipush (v := (-2)) hx hb dX10_course_19 (by decide) ?_
        exact W.iret (v := (-2)) hx hb hr (fun t ht hW => ⟨⟨(-2), (), rfl, trivial, trivial⟩, hS.F ht⟩) hS.2.2 dX10_course_21
  · refine lv_if_eq (tgt := 19) hx hb dX10_course_5 (by decide) (fun _ => ?_) (fun c_24 => absurd (by decide) c_24)
    refine lv_bipush (v := (-2)) hx hb dX10_course_19 (by decide) ?_
    exact W.iret (v := (-2)) hx hb hr (fun t ht hW => ⟨⟨(-2), (), rfl, trivial, trivial⟩, hS.F ht⟩) hS.2.2 dX10_course_21

set_option maxHeartbeats 4000000 in
set_option maxRecDepth 100000 in
theorem c_X10_suits (l : Launch) (D : va_G) (T : Nat → ClassId) (b0 b1 b2 b3 b4 b5 b6 b7 b8 b9 bl e0 e1 e2 e3 e4 e5 e6 e7 im kp ma rd sl st sw th tp tu tw wa wn wr x0 : Nat) (i1 s2 s3 s4 s6 t0 t1 t2 t3 t4 t5 t6 t7 t8 : Int32) (s5 : Int64) (p0 p5 p6 : Nat → Int32) (h_t1 : 0 ≤ t1.toInt ∧ t1.toInt ≤ 8) (h_t2 : 0 ≤ t2.toInt ∧ t2.toInt ≤ 12) (h_t4 : 0 ≤ t4.toInt ∧ t4.toInt ≤ 5) (h_t5 : 0 ≤ t5.toInt ∧ t5.toInt ≤ 10) (h_s2 : 0 ≤ s2.toInt ∧ s2.toInt ≤ 100) (R_p0 : rg 0 12 p0) : Met l yX10_suits (wM yX10_suits cX10_suits 3 (some .int)) ({ frames := 4, cells := 0, slots := 0, locals := 89 }) (va_Pc [.ref x0, .int i1] (pwP D T [(x0, .inr (10, [.ref tp, .ref rd, .ref st, .ref th, .ref im, .ref kp, .ref sl, .ref tu, .ref wn, .ref ma, .ref wr])), (st, .inr (3, [.ref tw, .ref wa, .int s2, .int s3, .int s4, .long s5, .int s6, .ref sw, .ref bl])), (tw, .inr (5, [.int t0, .int t1, .int t2, .int t3, .int t4, .int t5, .int t6, .int t7, .int t8, .ref b0, .ref b1, .ref b2, .ref b3, .ref b4, .ref b5, .ref b6, .ref b7, .ref b8, .ref b9])), (wa, .inr (7, [.ref tw, .ref e0, .ref e1, .ref e2, .ref e3, .ref e4, .ref e5, .ref e6, .ref e7])), (e0, .inl (T 0, 16, .inl p0)), (e5, .inl (T 0, 2, .inl p5)), (e6, .inl (T 0, 2, .inl p6))])) (va_Qi (fun (r : Int32) (u : Unit) => True) (fun _ _ => True) (fun _ => False)) 0 0 (fun _ => False) := by
  refine Met.ofW (cc := cX10_suits) (maxL := 3) (ret := (some .int)) (by decide) rfl ?_
  intro p e s m args below meth c s₁ B hml hv
  obtain ⟨rfl, hP, hC⟩ := hv
  have hx := B.exec
  have hb := B.bytes
  have hr := B.returns
  have hts : ∀ w ∈ gt, w.before _ s = true := fun w hw => atoms_spec (ws := (wM yX10_suits cX10_suits 3 (some .int))) B.pre w (List.mem_cons_of_mem _ hw)
  have hown : s.vm.findClass RX10 = some m.cls := findClass_of_methodNamed B.named
  have hlocks := B.notSynchronized
  have hK := hC.1
  have hS : va_S (fun _ => False) s.heap s.heap [] := va_S.rf
  have hl := lv_entry ([.ref x0, .int i1]) (n := 3) (Nat.le_of_ble_eq_true rfl)
  rw [lg_entry_eq]
  generalize (lg_sl ([.ref x0, .int i1]) ++ List.replicate (3 - (lg_sl ([.ref x0, .int i1])).length) Slot.unset).toArray = ls at hl ⊢
  have hl : lv_has ls 3 [(0, .ref x0), (1, .int i1)] := hl
  refine lv_aload_n hx hb dX10_suits_0 rfl (lv_at hl 0 rfl) ?_
  refine lv_iload_n hx hb dX10_suits_1 rfl (lv_at hl 1 rfl) ?_
  refine puI (cV (As := [.int i1]) (rest := []) ⟨hx, hb, hml, hown, hts⟩ (c_X10_hasSide l D T b0 b1 b2 b3 b4 b5 b6 b7 b8 b9 bl im kp ma rd sl st sw th tp tu tw wa wn wr x0 i1 s2 s3 s4 s6 t0 t1 t2 t3 t4 t5 t6 t7 t8 s5 ⟨by omega, by omega⟩ ⟨by omega, by omega⟩ ⟨by omega, by omega⟩ ⟨by omega, by omega⟩ ⟨by omega, by omega⟩) k_X10_hasSide v_X10_hasSide m756 rfl rfl ⟨(Nat.le_of_ble_eq_true rfl), (Nat.le_of_ble_eq_true rfl)⟩ (preP hC (hP.sub (ws' := [(x0, .inr (10, [.ref tp, .ref rd, .ref st, .ref th, .ref im, .ref kp, .ref sl, .ref tu, .ref wn, .ref ma, .ref wr])), (st, .inr (3, [.ref tw, .ref wa, .int s2, .int s3, .int s4, .long s5, .int s6, .ref sw, .ref bl])), (tw, .inr (5, [.int t0, .int t1, .int t2, .int t3, .int t4, .int t5, .int t6, .int t7, .int t8, .ref b0, .ref b1, .ref b2, .ref b3, .ref b4, .ref b5, .ref b6, .ref b7, .ref b8, .ref b9]))]) [0, 1, 2] rfl)) (va_recv hK hP (ci := 10) (q0 := 0) rfl rfl) rfl hl.1 rfl (Nat.le_of_ble_eq_true rfl) dX10_suits_2 ⟨(Nat.le_of_ble_eq_true rfl), (Nat.le_of_ble_eq_true rfl)⟩) hS hP (fun r_1 H locs hw hP hS => ?_)
  have w_3 : (r_1 = 1 ∧ 0 ≤ i1.toInt ∧ i1.toInt ≤ 1) ∨ (r_1 = 0) := hw
  rcases w_3 with ⟨rfl, c_4, c_5⟩ | rfl
  · refine lv_if_ne (tgt := 11) hx hb dX10_suits_5 (by decide) (fun _ => ?_) (fun c_6 => absurd c_6 (by decide))
    refine lv_iconst (v := 0) hx hb dX10_suits_11 (by decide) ?_
    refine lv_istore_n (lv' := [(2, .int 0), (0, .ref x0), (1, .int i1)]) hx hb dX10_suits_12 rfl hl (by decide) rfl (fun ls hl => ?_)
    refine lp_ind (fun (a : Heap × List Loc × Array Slot × (Int32)) => match a with | (H, locs, ls, i_7) => W p l e _ s m _ below meth c H locs 0 0 _ (F0 m 13 ls [])) (fun (a : Heap × List Loc × Array Slot × (Int32)) => match a with | (H, locs, ls, i_7) => 0 ≤ i_7.toInt ∧ i_7.toInt ≤ 3 ∧ va_P D vwCl [(x0, .inr (10, [.ref tp, .ref rd, .ref st, .ref th, .ref im, .ref kp, .ref sl, .ref tu, .ref wn, .ref ma, .ref wr])), (st, .inr (3, [.ref tw, .ref wa, .int s2, .int s3, .int s4, .long s5, .int s6, .ref sw, .ref bl])), (tw, .inr (5, [.int t0, .int t1, .int t2, .int t3, .int t4, .int t5, .int t6, .int t7, .int t8, .ref b0, .ref b1, .ref b2, .ref b3, .ref b4, .ref b5, .ref b6, .ref b7, .ref b8, .ref b9])), (wa, .inr (7, [.ref tw, .ref e0, .ref e1, .ref e2, .ref e3, .ref e4, .ref e5, .ref e6, .ref e7])), (e0, .inl (T 0, 16, .inl p0)), (e5, .inl (T 0, 2, .inl p5)), (e6, .inl (T 0, 2, .inl p6))] H ∧ va_S (fun _ => False) s.heap H locs ∧ lv_has ls 3 [(2, .int i_7), (0, .ref x0), (1, .int i1)]) (fun (a : Heap × List Loc × Array Slot × (Int32)) => match a with | (H, locs, ls, i_7) => (3 - i_7.toInt).toNat) ?_ (_, _, ls, (0 : Int32)) ⟨(show 0 ≤ 0 by omega), (show 0 ≤ 3 by omega), hP, hS, lv_sub hl [0, 1, 2] rfl⟩
    rintro ⟨H, locs, ls, i_7⟩ ⟨c_8, c_9, hP, hS, hl⟩ ih_10
    refine lv_iload_n hx hb dX10_suits_13 rfl (lv_at hl 0 rfl) ?_
    refine lv_iconst (v := 2) hx hb dX10_suits_14 (by decide) ?_
    refine lv_icmp_gt (tgt := 38) hx hb dX10_suits_15 (by decide) (fun c_11 => ?_) (fun c_11 => ?_)
    · have c_11 : 2 < i_7.toInt := (c_lt (x := 2) (y := i_7.toInt) rfl rfl).mp c_11
      refine lv_iconst (v := (-1)) hx hb dX10_suits_38 (by decide) ?_
      exact W.iret (v := (-1)) hx hb hr (fun t ht hW => ⟨⟨(-1), (), rfl, trivial, trivial⟩, hS.F ht⟩) hS.2.2 dX10_suits_39
    · have c_11 : i_7.toInt ≤ 2 := by have h := mt (c_lt (x := 2) (y := i_7.toInt) rfl rfl).mpr c_11; omega
      refine lv_aload_n hx hb dX10_suits_18 rfl (lv_at hl 1 rfl) ?_
      refine va_get (D := D) (ci := 10) (C := RX10) (T := TX10) (N := 11) hx hb hts iX10 hown hK hP 0 rfl rfl 2 (by decide) (hts _ m527) (fun _ h9 => h9) rfl dX10_suits_19 ?_
      refine lv_iload_n hx hb dX10_suits_22 rfl (lv_at hl 0 rfl) ?_
      refine puI (cV (As := [.int i_7]) (rest := []) ⟨hx, hb, hml, hown, hts⟩ (c_X3_leader l D T b0 b1 b2 b3 b4 b5 b6 b7 b8 b9 bl e0 e1 e2 e3 e4 e5 e6 e7 st sw tw wa i_7 s2 s3 s4 s6 t0 t1 t2 t3 t4 t5 t6 t7 t8 s5 p0 p5 p6 ⟨by omega, by omega⟩ ⟨by omega, by omega⟩ ⟨by omega, by omega⟩ ⟨by omega, by omega⟩ ⟨by omega, by omega⟩ R_p0) k_X3_leader v_X3_leader m873 rfl rfl ⟨(Nat.le_of_ble_eq_true rfl), (Nat.le_of_ble_eq_true rfl)⟩ (preP hC (hP.sub (ws' := [(st, .inr (3, [.ref tw, .ref wa, .int s2, .int s3, .int s4, .long s5, .int s6, .ref sw, .ref bl])), (tw, .inr (5, [.int t0, .int t1, .int t2, .int t3, .int t4, .int t5, .int t6, .int t7, .int t8, .ref b0, .ref b1, .ref b2, .ref b3, .ref b4, .ref b5, .ref b6, .ref b7, .ref b8, .ref b9])), (wa, .inr (7, [.ref tw, .ref e0, .ref e1, .ref e2, .ref e3, .ref e4, .ref e5, .ref e6, .ref e7])), (e0, .inl (T 0, 16, .inl p0)), (e5, .inl (T 0, 2, .inl p5)), (e6, .inl (T 0, 2, .inl p6))]) [1, 2, 3, 4, 5, 6] rfl)) (va_recv hK hP (ci := 3) (q0 := 1) rfl rfl) rfl hl.1 rfl (Nat.le_of_ble_eq_true rfl) dX10_suits_23 ⟨(Nat.le_of_ble_eq_true rfl), (Nat.le_of_ble_eq_true rfl)⟩) hS hP (fun r_12 H locs hw hP hS => ?_)
      have w_14 : (0 ≤ r_12.toInt ∧ r_12.toInt ≤ 2) := hw
      refine lv_iload_n hx hb dX10_suits_26 rfl (lv_at hl 2 rfl) ?_
      refine lv_icmp_ne (tgt := 32) hx hb dX10_suits_27 (by decide) (fun c_15 => ?_) (fun c_15 => ?_)
      · have c_15 : ¬ r_12.toInt = i1.toInt := fun h => c_15 ((c_eq (x := r_12.toInt) (y := i1.toInt) rfl rfl).mpr h)
        obtain ⟨x_16, ex_16⟩ : ∃ y : Int32, y = i_7 + 1 := ⟨_, rfl⟩
        have tx_16 : x_16.toInt = i_7.toInt + 1 := t_add (x := i_7.toInt) (y := 1) ex_16 rfl rfl (by omega) (by omega)
        refine lv_iinc (v := x_16) (lv' := [(2, .int x_16), (0, .ref x0), (1, .int i1)]) hx hb dX10_suits_32 hl (k := 0) rfl (by rw [ex_16]; rfl) (by decide) rfl (fun ls hl => ?_)
        refine lv_goto (tgt := 13) hx hb dX10_suits_35 (by decide) ?_
        exact ih_10 (_, _, _, x_16) ⟨(show 0 ≤ x_16.toInt by omega), (show x_16.toInt ≤ 3 by omega), hP, hS, lv_sub hl [0, 1, 2] rfl⟩ (show (3 - x_16.toInt).toNat < (3 - i_7.toInt).toNat by omega)
      · have c_15 : r_12.toInt = i1.toInt := (c_eq (x := r_12.toInt) (y := i1.toInt) rfl rfl).mp c_15
        refine lv_iload_n hx hb dX10_suits_30 rfl (lv_at hl 0 rfl) ?_
        exact W.iret (v := i_7) hx hb hr (fun t ht hW => ⟨⟨i_7, (), rfl, trivial, trivial⟩, hS.F ht⟩) hS.2.2 dX10_suits_31
  · refine lv_if_ne (tgt := 11) hx hb dX10_suits_5 (by decide) (fun c_17 => absurd c_17 (by decide)) (fun _ => ?_)
    refine lv_bipush (v := (-2)) hx hb dX10_suits_8 (by decide) ?_
    exact W.iret (v := (-2)) hx hb hr (fun t ht hW => ⟨⟨(-2), (), rfl, trivial, trivial⟩, hS.F ht⟩) hS.2.2 dX10_suits_10
