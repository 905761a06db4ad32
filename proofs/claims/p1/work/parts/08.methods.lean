set_option maxHeartbeats 4000000 in
set_option maxRecDepth 100000 in
theorem c_X10_may (l : Launch) (D : va_G) (T : Nat → ClassId) (x0 a0 a2 a15 a16 a17 a18 a19 a20 a21 a22 a23 a24 a25 a26 a27 a36 a37 a38 a130 a131 a132 a141 a144 a150 a151 : Nat) (i1 : Int32) (i2 : Int32) (i3 : Int32) : Met l yX10_may (wM yX10_may cX10_may 4 (some .int)) ({ frames := 3, cells := 0, slots := 0, locals := 63 }) (va_Pc [.ref x0, .int i1, .int i2, .int i3] (pwP D T [(x0, .inr (10, [.ref a0, .ref a2, .ref a15, .ref a38, .ref a130, .ref a131, .ref a132, .ref a141, .ref a144, .ref a150, .ref a151])), (a15, .inr (3, [.ref a16, .ref a27, .int 0, .int 0, .int 2, .long 0, .int 0, .ref a36, .ref a37])), (a16, .inr (5, [.int 0, .int 0, .int 0, .int 0, .int 0, .int 0, .int 0, .int 0, .int 0, .ref a17, .ref a18, .ref a19, .ref a20, .ref a21, .ref a22, .ref a23, .ref a24, .ref a25, .ref a26]))])) (va_Qi (fun (r : Int32) (u : Unit) => r = (-2)) (fun _ _ => True) (fun _ => False)) 0 0 (fun _ => False) := by
  refine Met.ofW (cc := cX10_may) (maxL := 4) (ret := (some .int)) (by decide) rfl ?_
  intro p e s m args below meth c s₁ B hml hv
  obtain ⟨rfl, hP, hC⟩ := hv
  have hx := B.exec
  have hb := B.bytes
  have hr := B.returns
  have hts : ∀ w ∈ gt, w.before _ s = true := fun w hw => atoms_spec (ws := (wM yX10_may cX10_may 4 (some .int))) B.pre w (List.mem_cons_of_mem _ hw)
  have hown : s.vm.findClass RX10 = some m.cls := findClass_of_methodNamed B.named
  have hlocks := B.notSynchronized
  have hK := hC.1
  have hS : va_S (fun _ => False) s.heap s.heap [] := va_S.rf
  have hl := lv_entry ([.ref x0, .int i1, .int i2, .int i3]) (n := 4) (Nat.le_of_ble_eq_true rfl)
  rw [lg_entry_eq]
  generalize (lg_sl ([.ref x0, .int i1, .int i2, .int i3]) ++ List.replicate (4 - (lg_sl ([.ref x0, .int i1, .int i2, .int i3])).length) Slot.unset).toArray = ls at hl ⊢
  have hl : lv_has ls 4 [(0, .ref x0), (1, .int i1), (2, .int i2), (3, .int i3)] := hl
  refine lv_aload_n hx hb dX10_may_0 rfl (lv_at hl 0 rfl) ?_
  refine lv_iload_n hx hb dX10_may_1 rfl (lv_at hl 1 rfl) ?_
  refine lv_iload_n hx hb dX10_may_2 rfl (lv_at hl 2 rfl) ?_
  refine puI (cV (As := [.int i1, .int i2]) (rest := []) ⟨hx, hb, hml, hown, hts⟩ (c_X10_hasColumn l D T x0 a0 a2 a15 a16 a17 a18 a19 a20 a21 a22 a23 a24 a25 a26 a27 a36 a37 a38 a130 a131 a132 a141 a144 a150 a151 i1 i2) k_X10_hasColumn v_X10_hasColumn m752 rfl rfl ⟨(Nat.le_of_ble_eq_true rfl), (Nat.le_of_ble_eq_true rfl)⟩ (preP hC (hP.sub (ws' := [(x0, .inr (10, [.ref a0, .ref a2, .ref a15, .ref a38, .ref a130, .ref a131, .ref a132, .ref a141, .ref a144, .ref a150, .ref a151])), (a15, .inr (3, [.ref a16, .ref a27, .int 0, .int 0, .int 2, .long 0, .int 0, .ref a36, .ref a37])), (a16, .inr (5, [.int 0, .int 0, .int 0, .int 0, .int 0, .int 0, .int 0, .int 0, .int 0, .ref a17, .ref a18, .ref a19, .ref a20, .ref a21, .ref a22, .ref a23, .ref a24, .ref a25, .ref a26]))]) [0, 1, 2] rfl)) (va_recv hK hP (ci := 10) (q0 := 0) rfl rfl) rfl hl.1 rfl (Nat.le_of_ble_eq_true rfl) dX10_may_3 ⟨(Nat.le_of_ble_eq_true rfl), (Nat.le_of_ble_eq_true rfl)⟩) hS hP (fun r_1 H locs hw hP hS => ?_)
  obtain rfl : r_1 = 0 := hw
  refine lv_if_eq (tgt := 17) hx hb dX10_may_6 (by decide) (fun _ => ?_) (fun c_3 => absurd (by decide) c_3)
  refine lv_bipush (v := (-2)) hx hb dX10_may_17 (by decide) ?_
  exact W.iret (v := (-2)) hx hb hr (fun t ht hW => ⟨⟨(-2), (), rfl, rfl, trivial⟩, hS.F ht⟩) hS.2.2 dX10_may_19

set_option maxHeartbeats 4000000 in
set_option maxRecDepth 100000 in
theorem c_X10_lay (l : Launch) (D : va_G) (T : Nat → ClassId) (x0 a0 a2 a15 a16 a17 a18 a19 a20 a21 a22 a23 a24 a25 a26 a27 a36 a37 a38 a130 a131 a132 a141 a144 a150 a151 : Nat) (i1 : Int32) (i2 : Int32) (i3 : Int32) : Met l yX10_lay (wM yX10_lay cX10_lay 5 (some .int)) ({ frames := 3, cells := 0, slots := 0, locals := 63 }) (va_Pc [.ref x0, .int i1, .int i2, .int i3] (pwP D T [(x0, .inr (10, [.ref a0, .ref a2, .ref a15, .ref a38, .ref a130, .ref a131, .ref a132, .ref a141, .ref a144, .ref a150, .ref a151])), (a15, .inr (3, [.ref a16, .ref a27, .int 0, .int 0, .int 2, .long 0, .int 0, .ref a36, .ref a37])), (a16, .inr (5, [.int 0, .int 0, .int 0, .int 0, .int 0, .int 0, .int 0, .int 0, .int 0, .ref a17, .ref a18, .ref a19, .ref a20, .ref a21, .ref a22, .ref a23, .ref a24, .ref a25, .ref a26]))])) (va_Qi (fun (r : Int32) (u : Unit) => r = (-2)) (fun _ _ => True) (fun _ => False)) 0 0 (fun _ => False) := by
  refine Met.ofW (cc := cX10_lay) (maxL := 5) (ret := (some .int)) (by decide) rfl ?_
  intro p e s m args below meth c s₁ B hml hv
  obtain ⟨rfl, hP, hC⟩ := hv
  have hx := B.exec
  have hb := B.bytes
  have hr := B.returns
  have hts : ∀ w ∈ gt, w.before _ s = true := fun w hw => atoms_spec (ws := (wM yX10_lay cX10_lay 5 (some .int))) B.pre w (List.mem_cons_of_mem _ hw)
  have hown : s.vm.findClass RX10 = some m.cls := findClass_of_methodNamed B.named
  have hlocks := B.notSynchronized
  have hK := hC.1
  have hS : va_S (fun _ => False) s.heap s.heap [] := va_S.rf
  have hl := lv_entry ([.ref x0, .int i1, .int i2, .int i3]) (n := 5) (Nat.le_of_ble_eq_true rfl)
  rw [lg_entry_eq]
  generalize (lg_sl ([.ref x0, .int i1, .int i2, .int i3]) ++ List.replicate (5 - (lg_sl ([.ref x0, .int i1, .int i2, .int i3])).length) Slot.unset).toArray = ls at hl ⊢
  have hl : lv_has ls 5 [(0, .ref x0), (1, .int i1), (2, .int i2), (3, .int i3)] := hl
  refine lv_aload_n hx hb dX10_lay_0 rfl (lv_at hl 0 rfl) ?_
  refine lv_iload_n hx hb dX10_lay_1 rfl (lv_at hl 1 rfl) ?_
  refine lv_iload_n hx hb dX10_lay_2 rfl (lv_at hl 2 rfl) ?_
  refine puI (cV (As := [.int i1, .int i2]) (rest := []) ⟨hx, hb, hml, hown, hts⟩ (c_X10_hasColumn l D T x0 a0 a2 a15 a16 a17 a18 a19 a20 a21 a22 a23 a24 a25 a26 a27 a36 a37 a38 a130 a131 a132 a141 a144 a150 a151 i1 i2) k_X10_hasColumn v_X10_hasColumn m752 rfl rfl ⟨(Nat.le_of_ble_eq_true rfl), (Nat.le_of_ble_eq_true rfl)⟩ (preP hC (hP.sub (ws' := [(x0, .inr (10, [.ref a0, .ref a2, .ref a15, .ref a38, .ref a130, .ref a131, .ref a132, .ref a141, .ref a144, .ref a150, .ref a151])), (a15, .inr (3, [.ref a16, .ref a27, .int 0, .int 0, .int 2, .long 0, .int 0, .ref a36, .ref a37])), (a16, .inr (5, [.int 0, .int 0, .int 0, .int 0, .int 0, .int 0, .int 0, .int 0, .int 0, .ref a17, .ref a18, .ref a19, .ref a20, .ref a21, .ref a22, .ref a23, .ref a24, .ref a25, .ref a26]))]) [0, 1, 2] rfl)) (va_recv hK hP (ci := 10) (q0 := 0) rfl rfl) rfl hl.1 rfl (Nat.le_of_ble_eq_true rfl) dX10_lay_3 ⟨(Nat.le_of_ble_eq_true rfl), (Nat.le_of_ble_eq_true rfl)⟩) hS hP (fun r_1 H locs hw hP hS => ?_)
  obtain rfl : r_1 = 0 := hw
  refine lv_if_eq (tgt := 17) hx hb dX10_lay_6 (by decide) (fun _ => ?_) (fun c_3 => absurd (by decide) c_3)
  refine lv_bipush (v := (-2)) hx hb dX10_lay_17 (by decide) ?_
  exact W.iret (v := (-2)) hx hb hr (fun t ht hW => ⟨⟨(-2), (), rfl, rfl, trivial⟩, hS.F ht⟩) hS.2.2 dX10_lay_19

set_option maxHeartbeats 4000000 in
set_option maxRecDepth 100000 in
theorem c_X10_take (l : Launch) (D : va_G) (T : Nat → ClassId) (x0 a0 a2 a15 a16 a17 a18 a19 a20 a21 a22 a23 a24 a25 a26 a27 a36 a37 a38 a130 a131 a132 a141 a144 a150 a151 : Nat) (i1 : Int32) (i2 : Int32) : Met l yX10_take (wM yX10_take cX10_take 4 (some .int)) ({ frames := 3, cells := 0, slots := 0, locals := 63 }) (va_Pc [.ref x0, .int i1, .int i2] (pwP D T [(x0, .inr (10, [.ref a0, .ref a2, .ref a15, .ref a38, .ref a130, .ref a131, .ref a132, .ref a141, .ref a144, .ref a150, .ref a151])), (a15, .inr (3, [.ref a16, .ref a27, .int 0, .int 0, .int 2, .long 0, .int 0, .ref a36, .ref a37])), (a16, .inr (5, [.int 0, .int 0, .int 0, .int 0, .int 0, .int 0, .int 0, .int 0, .int 0, .ref a17, .ref a18, .ref a19, .ref a20, .ref a21, .ref a22, .ref a23, .ref a24, .ref a25, .ref a26]))])) (va_Qi (fun (r : Int32) (u : Unit) => r = (-2)) (fun _ _ => True) (fun _ => False)) 0 0 (fun _ => False) := by
  refine Met.ofW (cc := cX10_take) (maxL := 4) (ret := (some .int)) (by decide) rfl ?_
  intro p e s m args below meth c s₁ B hml hv
  obtain ⟨rfl, hP, hC⟩ := hv
  have hx := B.exec
  have hb := B.bytes
  have hr := B.returns
  have hts : ∀ w ∈ gt, w.before _ s = true := fun w hw => atoms_spec (ws := (wM yX10_take cX10_take 4 (some .int))) B.pre w (List.mem_cons_of_mem _ hw)
  have hown : s.vm.findClass RX10 = some m.cls := findClass_of_methodNamed B.named
  have hlocks := B.notSynchronized
  have hK := hC.1
  have hS : va_S (fun _ => False) s.heap s.heap [] := va_S.rf
  have hl := lv_entry ([.ref x0, .int i1, .int i2]) (n := 4) (Nat.le_of_ble_eq_true rfl)
  rw [lg_entry_eq]
  generalize (lg_sl ([.ref x0, .int i1, .int i2]) ++ List.replicate (4 - (lg_sl ([.ref x0, .int i1, .int i2])).length) Slot.unset).toArray = ls at hl ⊢
  have hl : lv_has ls 4 [(0, .ref x0), (1, .int i1), (2, .int i2)] := hl
  refine lv_aload_n hx hb dX10_take_0 rfl (lv_at hl 0 rfl) ?_
  refine lv_iload_n hx hb dX10_take_1 rfl (lv_at hl 1 rfl) ?_
  refine lv_iload_n hx hb dX10_take_2 rfl (lv_at hl 2 rfl) ?_
  refine puI (cV (As := [.int i1, .int i2]) (rest := []) ⟨hx, hb, hml, hown, hts⟩ (c_X10_hasColumn l D T x0 a0 a2 a15 a16 a17 a18 a19 a20 a21 a22 a23 a24 a25 a26 a27 a36 a37 a38 a130 a131 a132 a141 a144 a150 a151 i1 i2) k_X10_hasColumn v_X10_hasColumn m752 rfl rfl ⟨(Nat.le_of_ble_eq_true rfl), (Nat.le_of_ble_eq_true rfl)⟩ (preP hC (hP.sub (ws' := [(x0, .inr (10, [.ref a0, .ref a2, .ref a15, .ref a38, .ref a130, .ref a131, .ref a132, .ref a141, .ref a144, .ref a150, .ref a151])), (a15, .inr (3, [.ref a16, .ref a27, .int 0, .int 0, .int 2, .long 0, .int 0, .ref a36, .ref a37])), (a16, .inr (5, [.int 0, .int 0, .int 0, .int 0, .int 0, .int 0, .int 0, .int 0, .int 0, .ref a17, .ref a18, .ref a19, .ref a20, .ref a21, .ref a22, .ref a23, .ref a24, .ref a25, .ref a26]))]) [0, 1, 2] rfl)) (va_recv hK hP (ci := 10) (q0 := 0) rfl rfl) rfl hl.1 rfl (Nat.le_of_ble_eq_true rfl) dX10_take_3 ⟨(Nat.le_of_ble_eq_true rfl), (Nat.le_of_ble_eq_true rfl)⟩) hS hP (fun r_1 H locs hw hP hS => ?_)
  obtain rfl : r_1 = 0 := hw
  refine lv_if_ne (tgt := 12) hx hb dX10_take_6 (by decide) (fun c_3 => absurd c_3 (by decide)) (fun _ => ?_)
  refine lv_bipush (v := (-2)) hx hb dX10_take_9 (by decide) ?_
  exact W.iret (v := (-2)) hx hb hr (fun t ht hW => ⟨⟨(-2), (), rfl, rfl, trivial⟩, hS.F ht⟩) hS.2.2 dX10_take_11

set_option maxHeartbeats 4000000 in
set_option maxRecDepth 100000 in
theorem c_X10_stone (l : Launch) (D : va_G) (T : Nat → ClassId) (x0 a0 a2 a15 a16 a17 a18 a19 a20 a21 a22 a23 a24 a25 a26 a27 a36 a37 a38 a130 a131 a132 a141 a144 a150 a151 : Nat) (i1 : Int32) (i2 : Int32) (i3 : Int32) (i4 : Int32) : Met l yX10_stone (wM yX10_stone cX10_stone 6 (some .int)) ({ frames := 3, cells := 0, slots := 0, locals := 63 }) (va_Pc [.ref x0, .int i1, .int i2, .int i3, .int i4] (pwP D T [(x0, .inr (10, [.ref a0, .ref a2, .ref a15, .ref a38, .ref a130, .ref a131, .ref a132, .ref a141, .ref a144, .ref a150, .ref a151])), (a15, .inr (3, [.ref a16, .ref a27, .int 0, .int 0, .int 2, .long 0, .int 0, .ref a36, .ref a37])), (a16, .inr (5, [.int 0, .int 0, .int 0, .int 0, .int 0, .int 0, .int 0, .int 0, .int 0, .ref a17, .ref a18, .ref a19, .ref a20, .ref a21, .ref a22, .ref a23, .ref a24, .ref a25, .ref a26]))])) (va_Qi (fun (r : Int32) (u : Unit) => r = (-2)) (fun _ _ => True) (fun _ => False)) 0 0 (fun _ => False) := by
  refine Met.ofW (cc := cX10_stone) (maxL := 6) (ret := (some .int)) (by decide) rfl ?_
  intro p e s m args below meth c s₁ B hml hv
  obtain ⟨rfl, hP, hC⟩ := hv
  have hx := B.exec
  have hb := B.bytes
  have hr := B.returns
  have hts : ∀ w ∈ gt, w.before _ s = true := fun w hw => atoms_spec (ws := (wM yX10_stone cX10_stone 6 (some .int))) B.pre w (List.mem_cons_of_mem _ hw)
  have hown : s.vm.findClass RX10 = some m.cls := findClass_of_methodNamed B.named
  have hlocks := B.notSynchronized
  have hK := hC.1
  have hS : va_S (fun _ => False) s.heap s.heap [] := va_S.rf
  have hl := lv_entry ([.ref x0, .int i1, .int i2, .int i3, .int i4]) (n := 6) (Nat.le_of_ble_eq_true rfl)
  rw [lg_entry_eq]
  generalize (lg_sl ([.ref x0, .int i1, .int i2, .int i3, .int i4]) ++ List.replicate (6 - (lg_sl ([.ref x0, .int i1, .int i2, .int i3, .int i4])).length) Slot.unset).toArray = ls at hl ⊢
  have hl : lv_has ls 6 [(0, .ref x0), (1, .int i1), (2, .int i2), (3, .int i3), (4, .int i4)] := hl
  refine lv_aload_n hx hb dX10_stone_0 rfl (lv_at hl 0 rfl) ?_
  refine lv_iload_n hx hb dX10_stone_1 rfl (lv_at hl 1 rfl) ?_
  refine lv_iload_n hx hb dX10_stone_2 rfl (lv_at hl 2 rfl) ?_
  refine puI (cV (As := [.int i1, .int i2]) (rest := []) ⟨hx, hb, hml, hown, hts⟩ (c_X10_hasColumn l D T x0 a0 a2 a15 a16 a17 a18 a19 a20 a21 a22 a23 a24 a25 a26 a27 a36 a37 a38 a130 a131 a132 a141 a144 a150 a151 i1 i2) k_X10_hasColumn v_X10_hasColumn m752 rfl rfl ⟨(Nat.le_of_ble_eq_true rfl), (Nat.le_of_ble_eq_true rfl)⟩ (preP hC (hP.sub (ws' := [(x0, .inr (10, [.ref a0, .ref a2, .ref a15, .ref a38, .ref a130, .ref a131, .ref a132, .ref a141, .ref a144, .ref a150, .ref a151])), (a15, .inr (3, [.ref a16, .ref a27, .int 0, .int 0, .int 2, .long 0, .int 0, .ref a36, .ref a37])), (a16, .inr (5, [.int 0, .int 0, .int 0, .int 0, .int 0, .int 0, .int 0, .int 0, .int 0, .ref a17, .ref a18, .ref a19, .ref a20, .ref a21, .ref a22, .ref a23, .ref a24, .ref a25, .ref a26]))]) [0, 1, 2] rfl)) (va_recv hK hP (ci := 10) (q0 := 0) rfl rfl) rfl hl.1 rfl (Nat.le_of_ble_eq_true rfl) dX10_stone_3 ⟨(Nat.le_of_ble_eq_true rfl), (Nat.le_of_ble_eq_true rfl)⟩) hS hP (fun r_1 H locs hw hP hS => ?_)
  obtain rfl : r_1 = 0 := hw
  refine lv_if_eq (tgt := 20) hx hb dX10_stone_6 (by decide) (fun _ => ?_) (fun c_3 => absurd (by decide) c_3)
  refine lv_bipush (v := (-2)) hx hb dX10_stone_20 (by decide) ?_
  exact W.iret (v := (-2)) hx hb hr (fun t ht hW => ⟨⟨(-2), (), rfl, rfl, trivial⟩, hS.F ht⟩) hS.2.2 dX10_stone_22

set_option maxHeartbeats 4000000 in
set_option maxRecDepth 100000 in
theorem c_X10_side (l : Launch) (D : va_G) (T : Nat → ClassId) (x0 a0 a2 a15 a16 a17 a18 a19 a20 a21 a22 a23 a24 a25 a26 a27 a36 a37 a38 a130 a131 a132 a141 a144 a150 a151 : Nat) (i1 : Int32) (i2 : Int32) : Met l yX10_side (wM yX10_side cX10_side 3 (some .int)) ({ frames := 2, cells := 0, slots := 0, locals := 41 }) (va_Pc [.ref x0, .int i1, .int i2] (pwP D T [(x0, .inr (10, [.ref a0, .ref a2, .ref a15, .ref a38, .ref a130, .ref a131, .ref a132, .ref a141, .ref a144, .ref a150, .ref a151])), (a15, .inr (3, [.ref a16, .ref a27, .int 0, .int 0, .int 2, .long 0, .int 0, .ref a36, .ref a37])), (a16, .inr (5, [.int 0, .int 0, .int 0, .int 0, .int 0, .int 0, .int 0, .int 0, .int 0, .ref a17, .ref a18, .ref a19, .ref a20, .ref a21, .ref a22, .ref a23, .ref a24, .ref a25, .ref a26]))])) (va_Qi (fun (r : Int32) (u : Unit) => r = (-2)) (fun _ _ => True) (fun _ => False)) 0 0 (fun _ => False) := by
  refine Met.ofW (cc := cX10_side) (maxL := 3) (ret := (some .int)) (by decide) rfl ?_
  intro p e s m args below meth c s₁ B hml hv
  obtain ⟨rfl, hP, hC⟩ := hv
  have hx := B.exec
  have hb := B.bytes
  have hr := B.returns
  have hts : ∀ w ∈ gt, w.before _ s = true := fun w hw => atoms_spec (ws := (wM yX10_side cX10_side 3 (some .int))) B.pre w (List.mem_cons_of_mem _ hw)
  have hown : s.vm.findClass RX10 = some m.cls := findClass_of_methodNamed B.named
  have hlocks := B.notSynchronized
  have hK := hC.1
  have hS : va_S (fun _ => False) s.heap s.heap [] := va_S.rf
  have hl := lv_entry ([.ref x0, .int i1, .int i2]) (n := 3) (Nat.le_of_ble_eq_true rfl)
  rw [lg_entry_eq]
  generalize (lg_sl ([.ref x0, .int i1, .int i2]) ++ List.replicate (3 - (lg_sl ([.ref x0, .int i1, .int i2])).length) Slot.unset).toArray = ls at hl ⊢
  have hl : lv_has ls 3 [(0, .ref x0), (1, .int i1), (2, .int i2)] := hl
  refine lv_aload_n hx hb dX10_side_0 rfl (lv_at hl 0 rfl) ?_
  refine lv_iload_n hx hb dX10_side_1 rfl (lv_at hl 1 rfl) ?_
  refine puI (cV (As := [.int i1]) (rest := []) ⟨hx, hb, hml, hown, hts⟩ (c_X10_hasSide l D T x0 a0 a2 a15 a16 a17 a18 a19 a20 a21 a22 a23 a24 a25 a26 a27 a36 a37 a38 a130 a131 a132 a141 a144 a150 a151 i1) k_X10_hasSide v_X10_hasSide m756 rfl rfl ⟨(Nat.le_of_ble_eq_true rfl), (Nat.le_of_ble_eq_true rfl)⟩ (preP hC (hP.sub (ws' := [(x0, .inr (10, [.ref a0, .ref a2, .ref a15, .ref a38, .ref a130, .ref a131, .ref a132, .ref a141, .ref a144, .ref a150, .ref a151])), (a15, .inr (3, [.ref a16, .ref a27, .int 0, .int 0, .int 2, .long 0, .int 0, .ref a36, .ref a37])), (a16, .inr (5, [.int 0, .int 0, .int 0, .int 0, .int 0, .int 0, .int 0, .int 0, .int 0, .ref a17, .ref a18, .ref a19, .ref a20, .ref a21, .ref a22, .ref a23, .ref a24, .ref a25, .ref a26]))]) [0, 1, 2] rfl)) (va_recv hK hP (ci := 10) (q0 := 0) rfl rfl) rfl hl.1 rfl (Nat.le_of_ble_eq_true rfl) dX10_side_2 ⟨(Nat.le_of_ble_eq_true rfl), (Nat.le_of_ble_eq_true rfl)⟩) hS hP (fun r_1 H locs hw hP hS => ?_)
  obtain rfl : r_1 = 0 := hw
  refine lv_if_ne (tgt := 11) hx hb dX10_side_5 (by decide) (fun c_3 => absurd c_3 (by decide)) (fun _ => ?_)
  refine lv_bipush (v := (-2)) hx hb dX10_side_8 (by decide) ?_
  exact W.iret (v := (-2)) hx hb hr (fun t ht hW => ⟨⟨(-2), (), rfl, rfl, trivial⟩, hS.F ht⟩) hS.2.2 dX10_side_10

set_option maxHeartbeats 4000000 in
set_option maxRecDepth 100000 in
theorem c_X10_pile (l : Launch) (D : va_G) (T : Nat → ClassId) (x0 a0 a2 a15 a16 a17 a18 a19 a20 a21 a22 a23 a24 a25 a26 a27 a36 a37 a38 a130 a131 a132 a141 a144 a150 a151 : Nat) (i1 : Int32) : Met l yX10_pile (wM yX10_pile cX10_pile 2 (some .int)) ({ frames := 1, cells := 0, slots := 0, locals := 21 }) (va_Pc [.ref x0, .int i1] (pwP D T [(x0, .inr (10, [.ref a0, .ref a2, .ref a15, .ref a38, .ref a130, .ref a131, .ref a132, .ref a141, .ref a144, .ref a150, .ref a151])), (a15, .inr (3, [.ref a16, .ref a27, .int 0, .int 0, .int 2, .long 0, .int 0, .ref a36, .ref a37])), (a16, .inr (5, [.int 0, .int 0, .int 0, .int 0, .int 0, .int 0, .int 0, .int 0, .int 0, .ref a17, .ref a18, .ref a19, .ref a20, .ref a21, .ref a22, .ref a23, .ref a24, .ref a25, .ref a26]))])) (va_Qi (fun (r : Int32) (u : Unit) => r = (-2)) (fun _ _ => True) (fun _ => False)) 0 0 (fun _ => False) := by
  refine Met.ofW (cc := cX10_pile) (maxL := 2) (ret := (some .int)) (by decide) rfl ?_
  intro p e s m args below meth c s₁ B hml hv
  obtain ⟨rfl, hP, hC⟩ := hv
  have hx := B.exec
  have hb := B.bytes
  have hr := B.returns
  have hts : ∀ w ∈ gt, w.before _ s = true := fun w hw => atoms_spec (ws := (wM yX10_pile cX10_pile 2 (some .int))) B.pre w (List.mem_cons_of_mem _ hw)
  have hown : s.vm.findClass RX10 = some m.cls := findClass_of_methodNamed B.named
  have hlocks := B.notSynchronized
  have hK := hC.1
  have hS : va_S (fun _ => False) s.heap s.heap [] := va_S.rf
  have hl := lv_entry ([.ref x0, .int i1]) (n := 2) (Nat.le_of_ble_eq_true rfl)
  rw [lg_entry_eq]
  generalize (lg_sl ([.ref x0, .int i1]) ++ List.replicate (2 - (lg_sl ([.ref x0, .int i1])).length) Slot.unset).toArray = ls at hl ⊢
  have hl : lv_has ls 2 [(0, .ref x0), (1, .int i1)] := hl
  refine lv_aload_n hx hb dX10_pile_0 rfl (lv_at hl 0 rfl) ?_
  refine lv_iload_n hx hb dX10_pile_1 rfl (lv_at hl 1 rfl) ?_
  refine puI (cV (As := [.int i1]) (rest := []) ⟨hx, hb, hml, hown, hts⟩ (c_X10_hasSort l D T x0 a0 a2 a15 a16 a17 a18 a19 a20 a21 a22 a23 a24 a25 a26 a27 a36 a37 a38 a130 a131 a132 a141 a144 a150 a151 i1) k_X10_hasSort v_X10_hasSort m764 rfl rfl ⟨(Nat.le_of_ble_eq_true rfl), (Nat.le_of_ble_eq_true rfl)⟩ (preP hC (hP.sub (ws' := [(x0, .inr (10, [.ref a0, .ref a2, .ref a15, .ref a38, .ref a130, .ref a131, .ref a132, .ref a141, .ref a144, .ref a150, .ref a151])), (a15, .inr (3, [.ref a16, .ref a27, .int 0, .int 0, .int 2, .long 0, .int 0, .ref a36, .ref a37])), (a16, .inr (5, [.int 0, .int 0, .int 0, .int 0, .int 0, .int 0, .int 0, .int 0, .int 0, .ref a17, .ref a18, .ref a19, .ref a20, .ref a21, .ref a22, .ref a23, .ref a24, .ref a25, .ref a26]))]) [0, 1, 2] rfl)) (va_recv hK hP (ci := 10) (q0 := 0) rfl rfl) rfl hl.1 rfl (Nat.le_of_ble_eq_true rfl) dX10_pile_2 ⟨(Nat.le_of_ble_eq_true rfl), (Nat.le_of_ble_eq_true rfl)⟩) hS hP (fun r_1 H locs hw hP hS => ?_)
  obtain rfl : r_1 = 0 := hw
  refine lv_if_eq (tgt := 23) hx hb dX10_pile_5 (by decide) (fun _ => ?_) (fun c_3 => absurd (by decide) c_3)
  refine lv_bipush (v := (-2)) hx hb dX10_pile_23 (by decide) ?_
  exact W.iret (v := (-2)) hx hb hr (fun t ht hW => ⟨⟨(-2), (), rfl, rfl, trivial⟩, hS.F ht⟩) hS.2.2 dX10_pile_25

set_option maxHeartbeats 4000000 in
set_option maxRecDepth 100000 in
theorem c_X10_spare (l : Launch) (D : va_G) (T : Nat → ClassId) (x0 a0 a2 a15 a16 a17 a18 a19 a20 a21 a22 a23 a24 a25 a26 a27 a36 a37 a38 a130 a131 a132 a141 a144 a150 a151 : Nat) (i1 : Int32) (i2 : Int32) : Met l yX10_spare (wM yX10_spare cX10_spare 5 (some .int)) ({ frames := 3, cells := 0, slots := 0, locals := 63 }) (va_Pc [.ref x0, .int i1, .int i2] (pwP D T [(x0, .inr (10, [.ref a0, .ref a2, .ref a15, .ref a38, .ref a130, .ref a131, .ref a132, .ref a141, .ref a144, .ref a150, .ref a151])), (a15, .inr (3, [.ref a16, .ref a27, .int 0, .int 0, .int 2, .long 0, .int 0, .ref a36, .ref a37])), (a16, .inr (5, [.int 0, .int 0, .int 0, .int 0, .int 0, .int 0, .int 0, .int 0, .int 0, .ref a17, .ref a18, .ref a19, .ref a20, .ref a21, .ref a22, .ref a23, .ref a24, .ref a25, .ref a26]))])) (va_Qi (fun (r : Int32) (u : Unit) => r = (-2)) (fun _ _ => True) (fun _ => False)) 0 0 (fun _ => False) := by
  refine Met.ofW (cc := cX10_spare) (maxL := 5) (ret := (some .int)) (by decide) rfl ?_
  intro p e s m args below meth c s₁ B hml hv
  obtain ⟨rfl, hP, hC⟩ := hv
  have hx := B.exec
  have hb := B.bytes
  have hr := B.returns
  have hts : ∀ w ∈ gt, w.before _ s = true := fun w hw => atoms_spec (ws := (wM yX10_spare cX10_spare 5 (some .int))) B.pre w (List.mem_cons_of_mem _ hw)
  have hown : s.vm.findClass RX10 = some m.cls := findClass_of_methodNamed B.named
  have hlocks := B.notSynchronized
  have hK := hC.1
  have hS : va_S (fun _ => False) s.heap s.heap [] := va_S.rf
  have hl := lv_entry ([.ref x0, .int i1, .int i2]) (n := 5) (Nat.le_of_ble_eq_true rfl)
  rw [lg_entry_eq]
  generalize (lg_sl ([.ref x0, .int i1, .int i2]) ++ List.replicate (5 - (lg_sl ([.ref x0, .int i1, .int i2])).length) Slot.unset).toArray = ls at hl ⊢
  have hl : lv_has ls 5 [(0, .ref x0), (1, .int i1), (2, .int i2)] := hl
  refine lv_aload_n hx hb dX10_spare_0 rfl (lv_at hl 0 rfl) ?_
  refine lv_iload_n hx hb dX10_spare_1 rfl (lv_at hl 1 rfl) ?_
  refine lv_iload_n hx hb dX10_spare_2 rfl (lv_at hl 2 rfl) ?_
  refine puI (cV (As := [.int i1, .int i2]) (rest := []) ⟨hx, hb, hml, hown, hts⟩ (c_X10_hasColumn l D T x0 a0 a2 a15 a16 a17 a18 a19 a20 a21 a22 a23 a24 a25 a26 a27 a36 a37 a38 a130 a131 a132 a141 a144 a150 a151 i1 i2) k_X10_hasColumn v_X10_hasColumn m752 rfl rfl ⟨(Nat.le_of_ble_eq_true rfl), (Nat.le_of_ble_eq_true rfl)⟩ (preP hC (hP.sub (ws' := [(x0, .inr (10, [.ref a0, .ref a2, .ref a15, .ref a38, .ref a130, .ref a131, .ref a132, .ref a141, .ref a144, .ref a150, .ref a151])), (a15, .inr (3, [.ref a16, .ref a27, .int 0, .int 0, .int 2, .long 0, .int 0, .ref a36, .ref a37])), (a16, .inr (5, [.int 0, .int 0, .int 0, .int 0, .int 0, .int 0, .int 0, .int 0, .int 0, .ref a17, .ref a18, .ref a19, .ref a20, .ref a21, .ref a22, .ref a23, .ref a24, .ref a25, .ref a26]))]) [0, 1, 2] rfl)) (va_recv hK hP (ci := 10) (q0 := 0) rfl rfl) rfl hl.1 rfl (Nat.le_of_ble_eq_true rfl) dX10_spare_3 ⟨(Nat.le_of_ble_eq_true rfl), (Nat.le_of_ble_eq_true rfl)⟩) hS hP (fun r_1 H locs hw hP hS => ?_)
  obtain rfl : r_1 = 0 := hw
  refine lv_if_ne (tgt := 12) hx hb dX10_spare_6 (by decide) (fun c_3 => absurd c_3 (by decide)) (fun _ => ?_)
  refine lv_bipush (v := (-2)) hx hb dX10_spare_9 (by decide) ?_
  exact W.iret (v := (-2)) hx hb hr (fun t ht hW => ⟨⟨(-2), (), rfl, rfl, trivial⟩, hS.F ht⟩) hS.2.2 dX10_spare_11

set_option maxHeartbeats 4000000 in
set_option maxRecDepth 100000 in
theorem c_X10_slack (l : Launch) (D : va_G) (T : Nat → ClassId) (x0 a0 a2 a15 a16 a17 a18 a19 a20 a21 a22 a23 a24 a25 a26 a27 a36 a37 a38 a130 a131 a132 a141 a144 a150 a151 : Nat) (i1 : Int32) : Met l yX10_slack (wM yX10_slack cX10_slack 6 (some .int)) ({ frames := 2, cells := 0, slots := 0, locals := 41 }) (va_Pc [.ref x0, .int i1] (pwP D T [(x0, .inr (10, [.ref a0, .ref a2, .ref a15, .ref a38, .ref a130, .ref a131, .ref a132, .ref a141, .ref a144, .ref a150, .ref a151])), (a15, .inr (3, [.ref a16, .ref a27, .int 0, .int 0, .int 2, .long 0, .int 0, .ref a36, .ref a37])), (a16, .inr (5, [.int 0, .int 0, .int 0, .int 0, .int 0, .int 0, .int 0, .int 0, .int 0, .ref a17, .ref a18, .ref a19, .ref a20, .ref a21, .ref a22, .ref a23, .ref a24, .ref a25, .ref a26]))])) (va_Qi (fun (r : Int32) (u : Unit) => r = (-2)) (fun _ _ => True) (fun _ => False)) 0 0 (fun _ => False) := by
  refine Met.ofW (cc := cX10_slack) (maxL := 6) (ret := (some .int)) (by decide) rfl ?_
  intro p e s m args below meth c s₁ B hml hv
  obtain ⟨rfl, hP, hC⟩ := hv
  have hx := B.exec
  have hb := B.bytes
  have hr := B.returns
  have hts : ∀ w ∈ gt, w.before _ s = true := fun w hw => atoms_spec (ws := (wM yX10_slack cX10_slack 6 (some .int))) B.pre w (List.mem_cons_of_mem _ hw)
  have hown : s.vm.findClass RX10 = some m.cls := findClass_of_methodNamed B.named
  have hlocks := B.notSynchronized
  have hK := hC.1
  have hS : va_S (fun _ => False) s.heap s.heap [] := va_S.rf
  have hl := lv_entry ([.ref x0, .int i1]) (n := 6) (Nat.le_of_ble_eq_true rfl)
  rw [lg_entry_eq]
  generalize (lg_sl ([.ref x0, .int i1]) ++ List.replicate (6 - (lg_sl ([.ref x0, .int i1])).length) Slot.unset).toArray = ls at hl ⊢
  have hl : lv_has ls 6 [(0, .ref x0), (1, .int i1)] := hl
  refine lv_aload_n hx hb dX10_slack_0 rfl (lv_at hl 0 rfl) ?_
  refine lv_iload_n hx hb dX10_slack_1 rfl (lv_at hl 1 rfl) ?_
  refine puI (cV (As := [.int i1]) (rest := []) ⟨hx, hb, hml, hown, hts⟩ (c_X10_hasSide l D T x0 a0 a2 a15 a16 a17 a18 a19 a20 a21 a22 a23 a24 a25 a26 a27 a36 a37 a38 a130 a131 a132 a141 a144 a150 a151 i1) k_X10_hasSide v_X10_hasSide m756 rfl rfl ⟨(Nat.le_of_ble_eq_true rfl), (Nat.le_of_ble_eq_true rfl)⟩ (preP hC (hP.sub (ws' := [(x0, .inr (10, [.ref a0, .ref a2, .ref a15, .ref a38, .ref a130, .ref a131, .ref a132, .ref a141, .ref a144, .ref a150, .ref a151])), (a15, .inr (3, [.ref a16, .ref a27, .int 0, .int 0, .int 2, .long 0, .int 0, .ref a36, .ref a37])), (a16, .inr (5, [.int 0, .int 0, .int 0, .int 0, .int 0, .int 0, .int 0, .int 0, .int 0, .ref a17, .ref a18, .ref a19, .ref a20, .ref a21, .ref a22, .ref a23, .ref a24, .ref a25, .ref a26]))]) [0, 1, 2] rfl)) (va_recv hK hP (ci := 10) (q0 := 0) rfl rfl) rfl hl.1 rfl (Nat.le_of_ble_eq_true rfl) dX10_slack_2 ⟨(Nat.le_of_ble_eq_true rfl), (Nat.le_of_ble_eq_true rfl)⟩) hS hP (fun r_1 H locs hw hP hS => ?_)
  obtain rfl : r_1 = 0 := hw
  refine lv_if_ne (tgt := 11) hx hb dX10_slack_5 (by decide) (fun c_3 => absurd c_3 (by decide)) (fun _ => ?_)
  refine lv_bipush (v := (-2)) hx hb dX10_slack_8 (by decide) ?_
  exact W.iret (v := (-2)) hx hb hr (fun t ht hW => ⟨⟨(-2), (), rfl, rfl, trivial⟩, hS.F ht⟩) hS.2.2 dX10_slack_10

set_option maxHeartbeats 4000000 in
set_option maxRecDepth 100000 in
theorem c_X10_fill (l : Launch) (D : va_G) (T : Nat → ClassId) (x0 a0 a2 a15 a16 a17 a18 a19 a20 a21 a22 a23 a24 a25 a26 a27 a36 a37 a38 a130 a131 a132 a141 a144 a150 a151 : Nat) (i1 : Int32) (i2 : Int32) : Met l yX10_fill (wM yX10_fill cX10_fill 5 (some .int)) ({ frames := 2, cells := 0, slots := 0, locals := 41 }) (va_Pc [.ref x0, .int i1, .int i2] (pwP D T [(x0, .inr (10, [.ref a0, .ref a2, .ref a15, .ref a38, .ref a130, .ref a131, .ref a132, .ref a141, .ref a144, .ref a150, .ref a151])), (a15, .inr (3, [.ref a16, .ref a27, .int 0, .int 0, .int 2, .long 0, .int 0, .ref a36, .ref a37])), (a16, .inr (5, [.int 0, .int 0, .int 0, .int 0, .int 0, .int 0, .int 0, .int 0, .int 0, .ref a17, .ref a18, .ref a19, .ref a20, .ref a21, .ref a22, .ref a23, .ref a24, .ref a25, .ref a26]))])) (va_Qi (fun (r : Int32) (u : Unit) => r = (-2)) (fun _ _ => True) (fun _ => False)) 0 0 (fun _ => False) := by
  refine Met.ofW (cc := cX10_fill) (maxL := 5) (ret := (some .int)) (by decide) rfl ?_
  intro p e s m args below meth c s₁ B hml hv
  obtain ⟨rfl, hP, hC⟩ := hv
  have hx := B.exec
  have hb := B.bytes
  have hr := B.returns
  have hts : ∀ w ∈ gt, w.before _ s = true := fun w hw => atoms_spec (ws := (wM yX10_fill cX10_fill 5 (some .int))) B.pre w (List.mem_cons_of_mem _ hw)
  have hown : s.vm.findClass RX10 = some m.cls := findClass_of_methodNamed B.named
  have hlocks := B.notSynchronized
  have hK := hC.1
  have hS : va_S (fun _ => False) s.heap s.heap [] := va_S.rf
  have hl := lv_entry ([.ref x0, .int i1, .int i2]) (n := 5) (Nat.le_of_ble_eq_true rfl)
  rw [lg_entry_eq]
  generalize (lg_sl ([.ref x0, .int i1, .int i2]) ++ List.replicate (5 - (lg_sl ([.ref x0, .int i1, .int i2])).length) Slot.unset).toArray = ls at hl ⊢
  have hl : lv_has ls 5 [(0, .ref x0), (1, .int i1), (2, .int i2)] := hl
  refine lv_aload_n hx hb dX10_fill_0 rfl (lv_at hl 0 rfl) ?_
  refine lv_iload_n hx hb dX10_fill_1 rfl (lv_at hl 1 rfl) ?_
  refine puI (cV (As := [.int i1]) (rest := []) ⟨hx, hb, hml, hown, hts⟩ (c_X10_hasSide l D T x0 a0 a2 a15 a16 a17 a18 a19 a20 a21 a22 a23 a24 a25 a26 a27 a36 a37 a38 a130 a131 a132 a141 a144 a150 a151 i1) k_X10_hasSide v_X10_hasSide m756 rfl rfl ⟨(Nat.le_of_ble_eq_true rfl), (Nat.le_of_ble_eq_true rfl)⟩ (preP hC (hP.sub (ws' := [(x0, .inr (10, [.ref a0, .ref a2, .ref a15, .ref a38, .ref a130, .ref a131, .ref a132, .ref a141, .ref a144, .ref a150, .ref a151])), (a15, .inr (3, [.ref a16, .ref a27, .int 0, .int 0, .int 2, .long 0, .int 0, .ref a36, .ref a37])), (a16, .inr (5, [.int 0, .int 0, .int 0, .int 0, .int 0, .int 0, .int 0, .int 0, .int 0, .ref a17, .ref a18, .ref a19, .ref a20, .ref a21, .ref a22, .ref a23, .ref a24, .ref a25, .ref a26]))]) [0, 1, 2] rfl)) (va_recv hK hP (ci := 10) (q0 := 0) rfl rfl) rfl hl.1 rfl (Nat.le_of_ble_eq_true rfl) dX10_fill_2 ⟨(Nat.le_of_ble_eq_true rfl), (Nat.le_of_ble_eq_true rfl)⟩) hS hP (fun r_1 H locs hw hP hS => ?_)
  obtain rfl : r_1 = 0 := hw
  refine lv_if_eq (tgt := 16) hx hb dX10_fill_5 (by decide) (fun _ => ?_) (fun c_3 => absurd (by decide) c_3)
  refine lv_bipush (v := (-2)) hx hb dX10_fill_16 (by decide) ?_
  exact W.iret (v := (-2)) hx hb hr (fun t ht hW => ⟨⟨(-2), (), rfl, rfl, trivial⟩, hS.F ht⟩) hS.2.2 dX10_fill_18

set_option maxHeartbeats 4000000 in
set_option maxRecDepth 100000 in
theorem c_X10_leads (l : Launch) (D : va_G) (T : Nat → ClassId) (x0 a0 a2 a15 a16 a17 a18 a19 a20 a21 a22 a23 a24 a25 a26 a27 a36 a37 a38 a130 a131 a132 a141 a144 a150 a151 : Nat) : Met l yX10_leads (wM yX10_leads cX10_leads 1 (some .int)) ({ frames := 1, cells := 0, slots := 0, locals := 20 }) (va_Pc [.ref x0] (pwP D T [(x0, .inr (10, [.ref a0, .ref a2, .ref a15, .ref a38, .ref a130, .ref a131, .ref a132, .ref a141, .ref a144, .ref a150, .ref a151])), (a15, .inr (3, [.ref a16, .ref a27, .int 0, .int 0, .int 2, .long 0, .int 0, .ref a36, .ref a37])), (a16, .inr (5, [.int 0, .int 0, .int 0, .int 0, .int 0, .int 0, .int 0, .int 0, .int 0, .ref a17, .ref a18, .ref a19, .ref a20, .ref a21, .ref a22, .ref a23, .ref a24, .ref a25, .ref a26]))])) (va_Qi (fun (r : Int32) (u : Unit) => r = (-2)) (fun _ _ => True) (fun _ => False)) 0 0 (fun _ => False) := by
  refine Met.ofW (cc := cX10_leads) (maxL := 1) (ret := (some .int)) (by decide) rfl ?_
  intro p e s m args below meth c s₁ B hml hv
  obtain ⟨rfl, hP, hC⟩ := hv
  have hx := B.exec
  have hb := B.bytes
  have hr := B.returns
  have hts : ∀ w ∈ gt, w.before _ s = true := fun w hw => atoms_spec (ws := (wM yX10_leads cX10_leads 1 (some .int))) B.pre w (List.mem_cons_of_mem _ hw)
  have hown : s.vm.findClass RX10 = some m.cls := findClass_of_methodNamed B.named
  have hlocks := B.notSynchronized
  have hK := hC.1
  have hS : va_S (fun _ => False) s.heap s.heap [] := va_S.rf
  have hl := lv_entry ([.ref x0]) (n := 1) (Nat.le_of_ble_eq_true rfl)
  rw [lg_entry_eq]
  generalize (lg_sl ([.ref x0]) ++ List.replicate (1 - (lg_sl ([.ref x0])).length) Slot.unset).toArray = ls at hl ⊢
  have hl : lv_has ls 1 [(0, .ref x0)] := hl
  refine lv_aload_n hx hb dX10_leads_0 rfl (lv_at hl 0 rfl) ?_
  refine puI (cV (As := []) (rest := []) ⟨hx, hb, hml, hown, hts⟩ (c_X10_hasTown l D T x0 a0 a2 a15 a16 a17 a18 a19 a20 a21 a22 a23 a24 a25 a26 a27 a36 a37 a38 a130 a131 a132 a141 a144 a150 a151) k_X10_hasTown v_X10_hasTown m760 rfl rfl ⟨(Nat.le_of_ble_eq_true rfl), (Nat.le_of_ble_eq_true rfl)⟩ (preP hC (hP.sub (ws' := [(x0, .inr (10, [.ref a0, .ref a2, .ref a15, .ref a38, .ref a130, .ref a131, .ref a132, .ref a141, .ref a144, .ref a150, .ref a151])), (a15, .inr (3, [.ref a16, .ref a27, .int 0, .int 0, .int 2, .long 0, .int 0, .ref a36, .ref a37])), (a16, .inr (5, [.int 0, .int 0, .int 0, .int 0, .int 0, .int 0, .int 0, .int 0, .int 0, .ref a17, .ref a18, .ref a19, .ref a20, .ref a21, .ref a22, .ref a23, .ref a24, .ref a25, .ref a26]))]) [0, 1, 2] rfl)) (va_recv hK hP (ci := 10) (q0 := 0) rfl rfl) rfl hl.1 rfl (Nat.le_of_ble_eq_true rfl) dX10_leads_1 ⟨(Nat.le_of_ble_eq_true rfl), (Nat.le_of_ble_eq_true rfl)⟩) hS hP (fun r_1 H locs hw hP hS => ?_)
  obtain rfl : r_1 = 0 := hw
  refine lv_if_eq (tgt := 24) hx hb dX10_leads_4 (by decide) (fun _ => ?_) (fun c_3 => absurd (by decide) c_3)
  refine lv_bipush (v := (-2)) hx hb dX10_leads_24 (by decide) ?_
  exact W.iret (v := (-2)) hx hb hr (fun t ht hW => ⟨⟨(-2), (), rfl, rfl, trivial⟩, hS.F ht⟩) hS.2.2 dX10_leads_26

set_option maxHeartbeats 4000000 in
set_option maxRecDepth 100000 in
theorem c_X10_would (l : Launch) (D : va_G) (T : Nat → ClassId) (x0 a0 a2 a15 a16 a17 a18 a19 a20 a21 a22 a23 a24 a25 a26 a27 a36 a37 a38 a130 a131 a132 a141 a144 a150 a151 : Nat) (i1 : Int32) (i2 : Int32) : Met l yX10_would (wM yX10_would cX10_would 3 (some .int)) ({ frames := 1, cells := 0, slots := 0, locals := 21 }) (va_Pc [.ref x0, .int i1, .int i2] (pwP D T [(x0, .inr (10, [.ref a0, .ref a2, .ref a15, .ref a38, .ref a130, .ref a131, .ref a132, .ref a141, .ref a144, .ref a150, .ref a151])), (a15, .inr (3, [.ref a16, .ref a27, .int 0, .int 0, .int 2, .long 0, .int 0, .ref a36, .ref a37])), (a16, .inr (5, [.int 0, .int 0, .int 0, .int 0, .int 0, .int 0, .int 0, .int 0, .int 0, .ref a17, .ref a18, .ref a19, .ref a20, .ref a21, .ref a22, .ref a23, .ref a24, .ref a25, .ref a26]))])) (va_Qi (fun (r : Int32) (u : Unit) => r = (-2)) (fun _ _ => True) (fun _ => False)) 0 0 (fun _ => False) := by
  refine Met.ofW (cc := cX10_would) (maxL := 3) (ret := (some .int)) (by decide) rfl ?_
  intro p e s m args below meth c s₁ B hml hv
  obtain ⟨rfl, hP, hC⟩ := hv
  have hx := B.exec
  have hb := B.bytes
  have hr := B.returns
  have hts : ∀ w ∈ gt, w.before _ s = true := fun w hw => atoms_spec (ws := (wM yX10_would cX10_would 3 (some .int))) B.pre w (List.mem_cons_of_mem _ hw)
  have hown : s.vm.findClass RX10 = some m.cls := findClass_of_methodNamed B.named
  have hlocks := B.notSynchronized
  have hK := hC.1
  have hS : va_S (fun _ => False) s.heap s.heap [] := va_S.rf
  have hl := lv_entry ([.ref x0, .int i1, .int i2]) (n := 3) (Nat.le_of_ble_eq_true rfl)
  rw [lg_entry_eq]
  generalize (lg_sl ([.ref x0, .int i1, .int i2]) ++ List.replicate (3 - (lg_sl ([.ref x0, .int i1, .int i2])).length) Slot.unset).toArray = ls at hl ⊢
  have hl : lv_has ls 3 [(0, .ref x0), (1, .int i1), (2, .int i2)] := hl
  refine lv_aload_n hx hb dX10_would_0 rfl (lv_at hl 0 rfl) ?_
  refine lv_iload_n hx hb dX10_would_1 rfl (lv_at hl 1 rfl) ?_
  refine puI (cV (As := [.int i1]) (rest := []) ⟨hx, hb, hml, hown, hts⟩ (c_X10_hasVoter l D T x0 a0 a2 a15 a16 a17 a18 a19 a20 a21 a22 a23 a24 a25 a26 a27 a36 a37 a38 a130 a131 a132 a141 a144 a150 a151 i1) k_X10_hasVoter v_X10_hasVoter m882 rfl rfl ⟨(Nat.le_of_ble_eq_true rfl), (Nat.le_of_ble_eq_true rfl)⟩ (preP hC (hP.sub (ws' := [(x0, .inr (10, [.ref a0, .ref a2, .ref a15, .ref a38, .ref a130, .ref a131, .ref a132, .ref a141, .ref a144, .ref a150, .ref a151])), (a15, .inr (3, [.ref a16, .ref a27, .int 0, .int 0, .int 2, .long 0, .int 0, .ref a36, .ref a37])), (a16, .inr (5, [.int 0, .int 0, .int 0, .int 0, .int 0, .int 0, .int 0, .int 0, .int 0, .ref a17, .ref a18, .ref a19, .ref a20, .ref a21, .ref a22, .ref a23, .ref a24, .ref a25, .ref a26]))]) [0, 1, 2] rfl)) (va_recv hK hP (ci := 10) (q0 := 0) rfl rfl) rfl hl.1 rfl (Nat.le_of_ble_eq_true rfl) dX10_would_2 ⟨(Nat.le_of_ble_eq_true rfl), (Nat.le_of_ble_eq_true rfl)⟩) hS hP (fun r_1 H locs hw hP hS => ?_)
  obtain rfl : r_1 = 0 := hw
  refine lv_if_ne (tgt := 11) hx hb dX10_would_5 (by decide) (fun c_3 => absurd c_3 (by decide)) (fun _ => ?_)
  refine lv_bipush (v := (-2)) hx hb dX10_would_8 (by decide) ?_
  exact W.iret (v := (-2)) hx hb hr (fun t ht hW => ⟨⟨(-2), (), rfl, rfl, trivial⟩, hS.F ht⟩) hS.2.2 dX10_would_10

set_option maxHeartbeats 4000000 in
set_option maxRecDepth 100000 in
theorem c_X10_vote (l : Launch) (D : va_G) (T : Nat → ClassId) (x0 a0 a2 a15 a16 a17 a18 a19 a20 a21 a22 a23 a24 a25 a26 a27 a36 a37 a38 a130 a131 a132 a141 a144 a150 a151 : Nat) (i1 : Int32) : Met l yX10_vote (wM yX10_vote cX10_vote 3 (some .int)) ({ frames := 1, cells := 0, slots := 0, locals := 21 }) (va_Pc [.ref x0, .int i1] (pwP D T [(x0, .inr (10, [.ref a0, .ref a2, .ref a15, .ref a38, .ref a130, .ref a131, .ref a132, .ref a141, .ref a144, .ref a150, .ref a151])), (a15, .inr (3, [.ref a16, .ref a27, .int 0, .int 0, .int 2, .long 0, .int 0, .ref a36, .ref a37])), (a16, .inr (5, [.int 0, .int 0, .int 0, .int 0, .int 0, .int 0, .int 0, .int 0, .int 0, .ref a17, .ref a18, .ref a19, .ref a20, .ref a21, .ref a22, .ref a23, .ref a24, .ref a25, .ref a26]))])) (va_Qi (fun (r : Int32) (u : Unit) => r = (-2)) (fun _ _ => True) (fun _ => False)) 0 0 (fun _ => False) := by
  refine Met.ofW (cc := cX10_vote) (maxL := 3) (ret := (some .int)) (by decide) rfl ?_
  intro p e s m args below meth c s₁ B hml hv
  obtain ⟨rfl, hP, hC⟩ := hv
  have hx := B.exec
  have hb := B.bytes
  have hr := B.returns
  have hts : ∀ w ∈ gt, w.before _ s = true := fun w hw => atoms_spec (ws := (wM yX10_vote cX10_vote 3 (some .int))) B.pre w (List.mem_cons_of_mem _ hw)
  have hown : s.vm.findClass RX10 = some m.cls := findClass_of_methodNamed B.named
  have hlocks := B.notSynchronized
  have hK := hC.1
  have hS : va_S (fun _ => False) s.heap s.heap [] := va_S.rf
  have hl := lv_entry ([.ref x0, .int i1]) (n := 3) (Nat.le_of_ble_eq_true rfl)
  rw [lg_entry_eq]
  generalize (lg_sl ([.ref x0, .int i1]) ++ List.replicate (3 - (lg_sl ([.ref x0, .int i1])).length) Slot.unset).toArray = ls at hl ⊢
  have hl : lv_has ls 3 [(0, .ref x0), (1, .int i1)] := hl
  refine lv_aload_n hx hb dX10_vote_0 rfl (lv_at hl 0 rfl) ?_
  refine lv_iload_n hx hb dX10_vote_1 rfl (lv_at hl 1 rfl) ?_
  refine puI (cV (As := [.int i1]) (rest := []) ⟨hx, hb, hml, hown, hts⟩ (c_X10_hasVoter l D T x0 a0 a2 a15 a16 a17 a18 a19 a20 a21 a22 a23 a24 a25 a26 a27 a36 a37 a38 a130 a131 a132 a141 a144 a150 a151 i1) k_X10_hasVoter v_X10_hasVoter m882 rfl rfl ⟨(Nat.le_of_ble_eq_true rfl), (Nat.le_of_ble_eq_true rfl)⟩ (preP hC (hP.sub (ws' := [(x0, .inr (10, [.ref a0, .ref a2, .ref a15, .ref a38, .ref a130, .ref a131, .ref a132, .ref a141, .ref a144, .ref a150, .ref a151])), (a15, .inr (3, [.ref a16, .ref a27, .int 0, .int 0, .int 2, .long 0, .int 0, .ref a36, .ref a37])), (a16, .inr (5, [.int 0, .int 0, .int 0, .int 0, .int 0, .int 0, .int 0, .int 0, .int 0, .ref a17, .ref a18, .ref a19, .ref a20, .ref a21, .ref a22, .ref a23, .ref a24, .ref a25, .ref a26]))]) [0, 1, 2] rfl)) (va_recv hK hP (ci := 10) (q0 := 0) rfl rfl) rfl hl.1 rfl (Nat.le_of_ble_eq_true rfl) dX10_vote_2 ⟨(Nat.le_of_ble_eq_true rfl), (Nat.le_of_ble_eq_true rfl)⟩) hS hP (fun r_1 H locs hw hP hS => ?_)
  obtain rfl : r_1 = 0 := hw
  refine lv_if_ne (tgt := 11) hx hb dX10_vote_5 (by decide) (fun c_3 => absurd c_3 (by decide)) (fun _ => ?_)
  refine lv_bipush (v := (-2)) hx hb dX10_vote_8 (by decide) ?_
  exact W.iret (v := (-2)) hx hb hr (fun t ht hW => ⟨⟨(-2), (), rfl, rfl, trivial⟩, hS.F ht⟩) hS.2.2 dX10_vote_10

set_option maxHeartbeats 4000000 in
set_option maxRecDepth 100000 in
theorem c_X10_election (l : Launch) (D : va_G) (T : Nat → ClassId) (x0 a0 a2 a15 a16 a17 a18 a19 a20 a21 a22 a23 a24 a25 a26 a27 a36 a37 a38 a130 a131 a132 a141 a144 a150 a151 : Nat) (i1 : Int32) : Met l yX10_election (wM yX10_election cX10_election 2 (some .int)) ({ frames := 2, cells := 0, slots := 0, locals := 41 }) (va_Pc [.ref x0, .int i1] (pwP D T [(x0, .inr (10, [.ref a0, .ref a2, .ref a15, .ref a38, .ref a130, .ref a131, .ref a132, .ref a141, .ref a144, .ref a150, .ref a151])), (a15, .inr (3, [.ref a16, .ref a27, .int 0, .int 0, .int 2, .long 0, .int 0, .ref a36, .ref a37])), (a16, .inr (5, [.int 0, .int 0, .int 0, .int 0, .int 0, .int 0, .int 0, .int 0, .int 0, .ref a17, .ref a18, .ref a19, .ref a20, .ref a21, .ref a22, .ref a23, .ref a24, .ref a25, .ref a26]))])) (va_Qi (fun (r : Int32) (u : Unit) => r = (-2)) (fun _ _ => True) (fun _ => False)) 0 0 (fun _ => False) := by
  refine Met.ofW (cc := cX10_election) (maxL := 2) (ret := (some .int)) (by decide) rfl ?_
  intro p e s m args below meth c s₁ B hml hv
  obtain ⟨rfl, hP, hC⟩ := hv
  have hx := B.exec
  have hb := B.bytes
  have hr := B.returns
  have hts : ∀ w ∈ gt, w.before _ s = true := fun w hw => atoms_spec (ws := (wM yX10_election cX10_election 2 (some .int))) B.pre w (List.mem_cons_of_mem _ hw)
  have hown : s.vm.findClass RX10 = some m.cls := findClass_of_methodNamed B.named
  have hlocks := B.notSynchronized
  have hK := hC.1
  have hS : va_S (fun _ => False) s.heap s.heap [] := va_S.rf
  have hl := lv_entry ([.ref x0, .int i1]) (n := 2) (Nat.le_of_ble_eq_true rfl)
  rw [lg_entry_eq]
  generalize (lg_sl ([.ref x0, .int i1]) ++ List.replicate (2 - (lg_sl ([.ref x0, .int i1])).length) Slot.unset).toArray = ls at hl ⊢
  have hl : lv_has ls 2 [(0, .ref x0), (1, .int i1)] := hl
  refine lv_aload_n hx hb dX10_election_0 rfl (lv_at hl 0 rfl) ?_
  refine lv_iload_n hx hb dX10_election_1 rfl (lv_at hl 1 rfl) ?_
  refine puI (cV (As := [.int i1]) (rest := []) ⟨hx, hb, hml, hown, hts⟩ (c_X10_hasSet l D T x0 a0 a2 a15 a16 a17 a18 a19 a20 a21 a22 a23 a24 a25 a26 a27 a36 a37 a38 a130 a131 a132 a141 a144 a150 a151 i1) k_X10_hasSet v_X10_hasSet m924 rfl rfl ⟨(Nat.le_of_ble_eq_true rfl), (Nat.le_of_ble_eq_true rfl)⟩ (preP hC (hP.sub (ws' := [(x0, .inr (10, [.ref a0, .ref a2, .ref a15, .ref a38, .ref a130, .ref a131, .ref a132, .ref a141, .ref a144, .ref a150, .ref a151])), (a15, .inr (3, [.ref a16, .ref a27, .int 0, .int 0, .int 2, .long 0, .int 0, .ref a36, .ref a37])), (a16, .inr (5, [.int 0, .int 0, .int 0, .int 0, .int 0, .int 0, .int 0, .int 0, .int 0, .ref a17, .ref a18, .ref a19, .ref a20, .ref a21, .ref a22, .ref a23, .ref a24, .ref a25, .ref a26]))]) [0, 1, 2] rfl)) (va_recv hK hP (ci := 10) (q0 := 0) rfl rfl) rfl hl.1 rfl (Nat.le_of_ble_eq_true rfl) dX10_election_2 ⟨(Nat.le_of_ble_eq_true rfl), (Nat.le_of_ble_eq_true rfl)⟩) hS hP (fun r_1 H locs hw hP hS => ?_)
  obtain rfl : r_1 = 0 := hw
  refine lv_if_ne (tgt := 11) hx hb dX10_election_5 (by decide) (fun c_3 => absurd c_3 (by decide)) (fun _ => ?_)
  refine lv_bipush (v := (-2)) hx hb dX10_election_8 (by decide) ?_
  exact W.iret (v := (-2)) hx hb hr (fun t ht hW => ⟨⟨(-2), (), rfl, rfl, trivial⟩, hS.F ht⟩) hS.2.2 dX10_election_10

set_option maxHeartbeats 4000000 in
set_option maxRecDepth 100000 in
theorem c_X10_result (l : Launch) (D : va_G) (T : Nat → ClassId) (x0 a0 a2 a15 a16 a17 a18 a19 a20 a21 a22 a23 a24 a25 a26 a27 a36 a37 a38 a130 a131 a132 a141 a144 a150 a151 : Nat) (i1 : Int32) : Met l yX10_result (wM yX10_result cX10_result 2 (some .int)) ({ frames := 2, cells := 0, slots := 0, locals := 41 }) (va_Pc [.ref x0, .int i1] (pwP D T [(x0, .inr (10, [.ref a0, .ref a2, .ref a15, .ref a38, .ref a130, .ref a131, .ref a132, .ref a141, .ref a144, .ref a150, .ref a151])), (a15, .inr (3, [.ref a16, .ref a27, .int 0, .int 0, .int 2, .long 0, .int 0, .ref a36, .ref a37])), (a16, .inr (5, [.int 0, .int 0, .int 0, .int 0, .int 0, .int 0, .int 0, .int 0, .int 0, .ref a17, .ref a18, .ref a19, .ref a20, .ref a21, .ref a22, .ref a23, .ref a24, .ref a25, .ref a26]))])) (va_Qi (fun (r : Int32) (u : Unit) => r = (-2)) (fun _ _ => True) (fun _ => False)) 0 0 (fun _ => False) := by
  refine Met.ofW (cc := cX10_result) (maxL := 2) (ret := (some .int)) (by decide) rfl ?_
  intro p e s m args below meth c s₁ B hml hv
  obtain ⟨rfl, hP, hC⟩ := hv
  have hx := B.exec
  have hb := B.bytes
  have hr := B.returns
  have hts : ∀ w ∈ gt, w.before _ s = true := fun w hw => atoms_spec (ws := (wM yX10_result cX10_result 2 (some .int))) B.pre w (List.mem_cons_of_mem _ hw)
  have hown : s.vm.findClass RX10 = some m.cls := findClass_of_methodNamed B.named
  have hlocks := B.notSynchronized
  have hK := hC.1
  have hS : va_S (fun _ => False) s.heap s.heap [] := va_S.rf
  have hl := lv_entry ([.ref x0, .int i1]) (n := 2) (Nat.le_of_ble_eq_true rfl)
  rw [lg_entry_eq]
  generalize (lg_sl ([.ref x0, .int i1]) ++ List.replicate (2 - (lg_sl ([.ref x0, .int i1])).length) Slot.unset).toArray = ls at hl ⊢
  have hl : lv_has ls 2 [(0, .ref x0), (1, .int i1)] := hl
  refine lv_aload_n hx hb dX10_result_0 rfl (lv_at hl 0 rfl) ?_
  refine lv_iload_n hx hb dX10_result_1 rfl (lv_at hl 1 rfl) ?_
  refine puI (cV (As := [.int i1]) (rest := []) ⟨hx, hb, hml, hown, hts⟩ (c_X10_hasSet l D T x0 a0 a2 a15 a16 a17 a18 a19 a20 a21 a22 a23 a24 a25 a26 a27 a36 a37 a38 a130 a131 a132 a141 a144 a150 a151 i1) k_X10_hasSet v_X10_hasSet m924 rfl rfl ⟨(Nat.le_of_ble_eq_true rfl), (Nat.le_of_ble_eq_true rfl)⟩ (preP hC (hP.sub (ws' := [(x0, .inr (10, [.ref a0, .ref a2, .ref a15, .ref a38, .ref a130, .ref a131, .ref a132, .ref a141, .ref a144, .ref a150, .ref a151])), (a15, .inr (3, [.ref a16, .ref a27, .int 0, .int 0, .int 2, .long 0, .int 0, .ref a36, .ref a37])), (a16, .inr (5, [.int 0, .int 0, .int 0, .int 0, .int 0, .int 0, .int 0, .int 0, .int 0, .ref a17, .ref a18, .ref a19, .ref a20, .ref a21, .ref a22, .ref a23, .ref a24, .ref a25, .ref a26]))]) [0, 1, 2] rfl)) (va_recv hK hP (ci := 10) (q0 := 0) rfl rfl) rfl hl.1 rfl (Nat.le_of_ble_eq_true rfl) dX10_result_2 ⟨(Nat.le_of_ble_eq_true rfl), (Nat.le_of_ble_eq_true rfl)⟩) hS hP (fun r_1 H locs hw hP hS => ?_)
  obtain rfl : r_1 = 0 := hw
  refine lv_if_ne (tgt := 11) hx hb dX10_result_5 (by decide) (fun c_3 => absurd c_3 (by decide)) (fun _ => ?_)
  refine lv_bipush (v := (-2)) hx hb dX10_result_8 (by decide) ?_
  exact W.iret (v := (-2)) hx hb hr (fun t ht hW => ⟨⟨(-2), (), rfl, rfl, trivial⟩, hS.F ht⟩) hS.2.2 dX10_result_10

set_option maxHeartbeats 4000000 in
set_option maxRecDepth 100000 in
theorem c_X10_won (l : Launch) (D : va_G) (T : Nat → ClassId) (x0 a0 a2 a15 a16 a27 a36 a37 a38 a130 a131 a132 a141 a144 a150 a151 : Nat) (i1 : Int32) : Met l yX10_won (wM yX10_won cX10_won 2 (some .int)) ({ frames := 1, cells := 0, slots := 0, locals := 21 }) (va_Pc [.ref x0, .int i1] (pwP D T [(x0, .inr (10, [.ref a0, .ref a2, .ref a15, .ref a38, .ref a130, .ref a131, .ref a132, .ref a141, .ref a144, .ref a150, .ref a151])), (a15, .inr (3, [.ref a16, .ref a27, .int 0, .int 0, .int 2, .long 0, .int 0, .ref a36, .ref a37]))])) (va_Qi (fun (r : Int32) (u : Unit) => r = (-2)) (fun _ _ => True) (fun _ => False)) 0 0 (fun _ => False) := by
  refine Met.ofW (cc := cX10_won) (maxL := 2) (ret := (some .int)) (by decide) rfl ?_
  intro p e s m args below meth c s₁ B hml hv
  obtain ⟨rfl, hP, hC⟩ := hv
  have hx := B.exec
  have hb := B.bytes
  have hr := B.returns
  have hts : ∀ w ∈ gt, w.before _ s = true := fun w hw => atoms_spec (ws := (wM yX10_won cX10_won 2 (some .int))) B.pre w (List.mem_cons_of_mem _ hw)
  have hown : s.vm.findClass RX10 = some m.cls := findClass_of_methodNamed B.named
  have hlocks := B.notSynchronized
  have hK := hC.1
  have hS : va_S (fun _ => False) s.heap s.heap [] := va_S.rf
  have hl := lv_entry ([.ref x0, .int i1]) (n := 2) (Nat.le_of_ble_eq_true rfl)
  rw [lg_entry_eq]
  generalize (lg_sl ([.ref x0, .int i1]) ++ List.replicate (2 - (lg_sl ([.ref x0, .int i1])).length) Slot.unset).toArray = ls at hl ⊢
  have hl : lv_has ls 2 [(0, .ref x0), (1, .int i1)] := hl
  refine lv_aload_n hx hb dX10_won_0 rfl (lv_at hl 0 rfl) ?_
  refine lv_iload_n hx hb dX10_won_1 rfl (lv_at hl 1 rfl) ?_
  refine puI (cV (As := [.int i1]) (rest := []) ⟨hx, hb, hml, hown, hts⟩ (c_X10_hadElection l D T x0 a0 a2 a15 a16 a27 a36 a37 a38 a130 a131 a132 a141 a144 a150 a151 i1) k_X10_hadElection v_X10_hadElection m946 rfl rfl ⟨(Nat.le_of_ble_eq_true rfl), (Nat.le_of_ble_eq_true rfl)⟩ (preP hC (hP.sub (ws' := [(x0, .inr (10, [.ref a0, .ref a2, .ref a15, .ref a38, .ref a130, .ref a131, .ref a132, .ref a141, .ref a144, .ref a150, .ref a151])), (a15, .inr (3, [.ref a16, .ref a27, .int 0, .int 0, .int 2, .long 0, .int 0, .ref a36, .ref a37]))]) [0, 1] rfl)) (va_recv hK hP (ci := 10) (q0 := 0) rfl rfl) rfl hl.1 rfl (Nat.le_of_ble_eq_true rfl) dX10_won_2 ⟨(Nat.le_of_ble_eq_true rfl), (Nat.le_of_ble_eq_true rfl)⟩) hS hP (fun r_1 H locs hw hP hS => ?_)
  obtain rfl : r_1 = 0 := hw
  refine lv_if_eq (tgt := 20) hx hb dX10_won_5 (by decide) (fun _ => ?_) (fun c_3 => absurd (by decide) c_3)
  refine lv_bipush (v := (-2)) hx hb dX10_won_20 (by decide) ?_
  exact W.iret (v := (-2)) hx hb hr (fun t ht hW => ⟨⟨(-2), (), rfl, rfl, trivial⟩, hS.F ht⟩) hS.2.2 dX10_won_22

set_option maxHeartbeats 4000000 in
set_option maxRecDepth 100000 in
theorem c_X10_votes (l : Launch) (D : va_G) (T : Nat → ClassId) (x0 a0 a2 a15 a16 a27 a36 a37 a38 a130 a131 a132 a141 a144 a150 a151 : Nat) (i1 : Int32) (i2 : Int32) : Met l yX10_votes (wM yX10_votes cX10_votes 3 (some .int)) ({ frames := 1, cells := 0, slots := 0, locals := 21 }) (va_Pc [.ref x0, .int i1, .int i2] (pwP D T [(x0, .inr (10, [.ref a0, .ref a2, .ref a15, .ref a38, .ref a130, .ref a131, .ref a132, .ref a141, .ref a144, .ref a150, .ref a151])), (a15, .inr (3, [.ref a16, .ref a27, .int 0, .int 0, .int 2, .long 0, .int 0, .ref a36, .ref a37]))])) (va_Qi (fun (r : Int32) (u : Unit) => r = (-2)) (fun _ _ => True) (fun _ => False)) 0 0 (fun _ => False) := by
  refine Met.ofW (cc := cX10_votes) (maxL := 3) (ret := (some .int)) (by decide) rfl ?_
  intro p e s m args below meth c s₁ B hml hv
  obtain ⟨rfl, hP, hC⟩ := hv
  have hx := B.exec
  have hb := B.bytes
  have hr := B.returns
  have hts : ∀ w ∈ gt, w.before _ s = true := fun w hw => atoms_spec (ws := (wM yX10_votes cX10_votes 3 (some .int))) B.pre w (List.mem_cons_of_mem _ hw)
  have hown : s.vm.findClass RX10 = some m.cls := findClass_of_methodNamed B.named
  have hlocks := B.notSynchronized
  have hK := hC.1
  have hS : va_S (fun _ => False) s.heap s.heap [] := va_S.rf
  have hl := lv_entry ([.ref x0, .int i1, .int i2]) (n := 3) (Nat.le_of_ble_eq_true rfl)
  rw [lg_entry_eq]
  generalize (lg_sl ([.ref x0, .int i1, .int i2]) ++ List.replicate (3 - (lg_sl ([.ref x0, .int i1, .int i2])).length) Slot.unset).toArray = ls at hl ⊢
  have hl : lv_has ls 3 [(0, .ref x0), (1, .int i1), (2, .int i2)] := hl
  refine lv_aload_n hx hb dX10_votes_0 rfl (lv_at hl 0 rfl) ?_
  refine lv_iload_n hx hb dX10_votes_1 rfl (lv_at hl 1 rfl) ?_
  refine puI (cV (As := [.int i1]) (rest := []) ⟨hx, hb, hml, hown, hts⟩ (c_X10_hadElection l D T x0 a0 a2 a15 a16 a27 a36 a37 a38 a130 a131 a132 a141 a144 a150 a151 i1) k_X10_hadElection v_X10_hadElection m946 rfl rfl ⟨(Nat.le_of_ble_eq_true rfl), (Nat.le_of_ble_eq_true rfl)⟩ (preP hC (hP.sub (ws' := [(x0, .inr (10, [.ref a0, .ref a2, .ref a15, .ref a38, .ref a130, .ref a131, .ref a132, .ref a141, .ref a144, .ref a150, .ref a151])), (a15, .inr (3, [.ref a16, .ref a27, .int 0, .int 0, .int 2, .long 0, .int 0, .ref a36, .ref a37]))]) [0, 1] rfl)) (va_recv hK hP (ci := 10) (q0 := 0) rfl rfl) rfl hl.1 rfl (Nat.le_of_ble_eq_true rfl) dX10_votes_2 ⟨(Nat.le_of_ble_eq_true rfl), (Nat.le_of_ble_eq_true rfl)⟩) hS hP (fun r_1 H locs hw hP hS => ?_)
  obtain rfl : r_1 = 0 := hw
  refine lv_if_eq (tgt := 32) hx hb dX10_votes_5 (by decide) (fun _ => ?_) (fun c_3 => absurd (by decide) c_3)
  refine lv_bipush (v := (-2)) hx hb dX10_votes_32 (by decide) ?_
  exact W.iret (v := (-2)) hx hb hr (fun t ht hW => ⟨⟨(-2), (), rfl, rfl, trivial⟩, hS.F ht⟩) hS.2.2 dX10_votes_34

set_option maxHeartbeats 4000000 in
set_option maxRecDepth 100000 in
theorem c_X10_still (l : Launch) (D : va_G) (T : Nat → ClassId) (x0 a0 a2 a15 a16 a27 a36 a37 a38 a130 a131 a132 a141 a144 a150 a151 : Nat) (i1 : Int32) (i2 : Int32) : Met l yX10_still (wM yX10_still cX10_still 3 (some .int)) ({ frames := 1, cells := 0, slots := 0, locals := 21 }) (va_Pc [.ref x0, .int i1, .int i2] (pwP D T [(x0, .inr (10, [.ref a0, .ref a2, .ref a15, .ref a38, .ref a130, .ref a131, .ref a132, .ref a141, .ref a144, .ref a150, .ref a151])), (a15, .inr (3, [.ref a16, .ref a27, .int 0, .int 0, .int 2, .long 0, .int 0, .ref a36, .ref a37]))])) (va_Qi (fun (r : Int32) (u : Unit) => r = (-2)) (fun _ _ => True) (fun _ => False)) 0 0 (fun _ => False) := by
  refine Met.ofW (cc := cX10_still) (maxL := 3) (ret := (some .int)) (by decide) rfl ?_
  intro p e s m args below meth c s₁ B hml hv
  obtain ⟨rfl, hP, hC⟩ := hv
  have hx := B.exec
  have hb := B.bytes
  have hr := B.returns
  have hts : ∀ w ∈ gt, w.before _ s = true := fun w hw => atoms_spec (ws := (wM yX10_still cX10_still 3 (some .int))) B.pre w (List.mem_cons_of_mem _ hw)
  have hown : s.vm.findClass RX10 = some m.cls := findClass_of_methodNamed B.named
  have hlocks := B.notSynchronized
  have hK := hC.1
  have hS : va_S (fun _ => False) s.heap s.heap [] := va_S.rf
  have hl := lv_entry ([.ref x0, .int i1, .int i2]) (n := 3) (Nat.le_of_ble_eq_true rfl)
  rw [lg_entry_eq]
  generalize (lg_sl ([.ref x0, .int i1, .int i2]) ++ List.replicate (3 - (lg_sl ([.ref x0, .int i1, .int i2])).length) Slot.unset).toArray = ls at hl ⊢
  have hl : lv_has ls 3 [(0, .ref x0), (1, .int i1), (2, .int i2)] := hl
  refine lv_aload_n hx hb dX10_still_0 rfl (lv_at hl 0 rfl) ?_
  refine lv_iload_n hx hb dX10_still_1 rfl (lv_at hl 1 rfl) ?_
  refine puI (cV (As := [.int i1]) (rest := []) ⟨hx, hb, hml, hown, hts⟩ (c_X10_hadElection l D T x0 a0 a2 a15 a16 a27 a36 a37 a38 a130 a131 a132 a141 a144 a150 a151 i1) k_X10_hadElection v_X10_hadElection m946 rfl rfl ⟨(Nat.le_of_ble_eq_true rfl), (Nat.le_of_ble_eq_true rfl)⟩ (preP hC (hP.sub (ws' := [(x0, .inr (10, [.ref a0, .ref a2, .ref a15, .ref a38, .ref a130, .ref a131, .ref a132, .ref a141, .ref a144, .ref a150, .ref a151])), (a15, .inr (3, [.ref a16, .ref a27, .int 0, .int 0, .int 2, .long 0, .int 0, .ref a36, .ref a37]))]) [0, 1] rfl)) (va_recv hK hP (ci := 10) (q0 := 0) rfl rfl) rfl hl.1 rfl (Nat.le_of_ble_eq_true rfl) dX10_still_2 ⟨(Nat.le_of_ble_eq_true rfl), (Nat.le_of_ble_eq_true rfl)⟩) hS hP (fun r_1 H locs hw hP hS => ?_)
  obtain rfl : r_1 = 0 := hw
  refine lv_if_eq (tgt := 31) hx hb dX10_still_5 (by decide) (fun _ => ?_) (fun c_3 => absurd (by decide) c_3)
  refine lv_bipush (v := (-2)) hx hb dX10_still_31 (by decide) ?_
  exact W.iret (v := (-2)) hx hb hr (fun t ht hW => ⟨⟨(-2), (), rfl, rfl, trivial⟩, hS.F ht⟩) hS.2.2 dX10_still_33

set_option maxHeartbeats 4000000 in
set_option maxRecDepth 100000 in
theorem c_X10_lost (l : Launch) (D : va_G) (T : Nat → ClassId) (x0 a0 a2 a15 a16 a17 a18 a19 a20 a21 a22 a23 a24 a25 a26 a27 a36 a37 a38 a130 a131 a132 a141 a144 a150 a151 : Nat) : Met l yX10_lost (wM yX10_lost cX10_lost 1 (some .int)) ({ frames := 1, cells := 0, slots := 0, locals := 20 }) (va_Pc [.ref x0] (pwP D T [(x0, .inr (10, [.ref a0, .ref a2, .ref a15, .ref a38, .ref a130, .ref a131, .ref a132, .ref a141, .ref a144, .ref a150, .ref a151])), (a15, .inr (3, [.ref a16, .ref a27, .int 0, .int 0, .int 2, .long 0, .int 0, .ref a36, .ref a37])), (a16, .inr (5, [.int 0, .int 0, .int 0, .int 0, .int 0, .int 0, .int 0, .int 0, .int 0, .ref a17, .ref a18, .ref a19, .ref a20, .ref a21, .ref a22, .ref a23, .ref a24, .ref a25, .ref a26]))])) (va_Qi (fun (r : Int32) (u : Unit) => r = (-1)) (fun _ _ => True) (fun _ => False)) 0 0 (fun _ => False) := by
  refine Met.ofW (cc := cX10_lost) (maxL := 1) (ret := (some .int)) (by decide) rfl ?_
  intro p e s m args below meth c s₁ B hml hv
  obtain ⟨rfl, hP, hC⟩ := hv
  have hx := B.exec
  have hb := B.bytes
  have hr := B.returns
  have hts : ∀ w ∈ gt, w.before _ s = true := fun w hw => atoms_spec (ws := (wM yX10_lost cX10_lost 1 (some .int))) B.pre w (List.mem_cons_of_mem _ hw)
  have hown : s.vm.findClass RX10 = some m.cls := findClass_of_methodNamed B.named
  have hlocks := B.notSynchronized
  have hK := hC.1
  have hS : va_S (fun _ => False) s.heap s.heap [] := va_S.rf
  have hl := lv_entry ([.ref x0]) (n := 1) (Nat.le_of_ble_eq_true rfl)
  rw [lg_entry_eq]
  generalize (lg_sl ([.ref x0]) ++ List.replicate (1 - (lg_sl ([.ref x0])).length) Slot.unset).toArray = ls at hl ⊢
  have hl : lv_has ls 1 [(0, .ref x0)] := hl
  refine lv_aload_n hx hb dX10_lost_0 rfl (lv_at hl 0 rfl) ?_
  refine puI (cV (As := []) (rest := []) ⟨hx, hb, hml, hown, hts⟩ (c_X10_hasTown l D T x0 a0 a2 a15 a16 a17 a18 a19 a20 a21 a22 a23 a24 a25 a26 a27 a36 a37 a38 a130 a131 a132 a141 a144 a150 a151) k_X10_hasTown v_X10_hasTown m760 rfl rfl ⟨(Nat.le_of_ble_eq_true rfl), (Nat.le_of_ble_eq_true rfl)⟩ (preP hC (hP.sub (ws' := [(x0, .inr (10, [.ref a0, .ref a2, .ref a15, .ref a38, .ref a130, .ref a131, .ref a132, .ref a141, .ref a144, .ref a150, .ref a151])), (a15, .inr (3, [.ref a16, .ref a27, .int 0, .int 0, .int 2, .long 0, .int 0, .ref a36, .ref a37])), (a16, .inr (5, [.int 0, .int 0, .int 0, .int 0, .int 0, .int 0, .int 0, .int 0, .int 0, .ref a17, .ref a18, .ref a19, .ref a20, .ref a21, .ref a22, .ref a23, .ref a24, .ref a25, .ref a26]))]) [0, 1, 2] rfl)) (va_recv hK hP (ci := 10) (q0 := 0) rfl rfl) rfl hl.1 rfl (Nat.le_of_ble_eq_true rfl) dX10_lost_1 ⟨(Nat.le_of_ble_eq_true rfl), (Nat.le_of_ble_eq_true rfl)⟩) hS hP (fun r_1 H locs hw hP hS => ?_)
  obtain rfl : r_1 = 0 := hw
  refine lv_if_eq (tgt := 17) hx hb dX10_lost_4 (by decide) (fun _ => ?_) (fun c_3 => absurd (by decide) c_3)
  refine lv_iconst (v := (-1)) hx hb dX10_lost_17 (by decide) ?_
  exact W.iret (v := (-1)) hx hb hr (fun t ht hW => ⟨⟨(-1), (), rfl, rfl, trivial⟩, hS.F ht⟩) hS.2.2 dX10_lost_18

set_option maxHeartbeats 4000000 in
set_option maxRecDepth 100000 in
theorem c_X10_read (l : Launch) (D : va_G) (T : Nat → ClassId) (x0 a0 a2 a15 a16 a27 a36 a37 a38 a130 a131 a132 a141 a144 a150 a151 : Nat) (i1 : Int32) : Met l yX10_read (wM yX10_read cX10_read 5 (some .int)) ({ frames := 1, cells := 0, slots := 0, locals := 21 }) (va_Pc [.ref x0, .int i1] (pwP D T [(x0, .inr (10, [.ref a0, .ref a2, .ref a15, .ref a38, .ref a130, .ref a131, .ref a132, .ref a141, .ref a144, .ref a150, .ref a151])), (a15, .inr (3, [.ref a16, .ref a27, .int 0, .int 0, .int 2, .long 0, .int 0, .ref a36, .ref a37]))])) (va_Qi (fun (r : Int32) (u : Unit) => r = (-2)) (fun _ _ => True) (fun _ => False)) 0 0 (fun _ => False) := by
  refine Met.ofW (cc := cX10_read) (maxL := 5) (ret := (some .int)) (by decide) rfl ?_
  intro p e s m args below meth c s₁ B hml hv
  obtain ⟨rfl, hP, hC⟩ := hv
  have hx := B.exec
  have hb := B.bytes
  have hr := B.returns
  have hts : ∀ w ∈ gt, w.before _ s = true := fun w hw => atoms_spec (ws := (wM yX10_read cX10_read 5 (some .int))) B.pre w (List.mem_cons_of_mem _ hw)
  have hown : s.vm.findClass RX10 = some m.cls := findClass_of_methodNamed B.named
  have hlocks := B.notSynchronized
  have hK := hC.1
  have hS : va_S (fun _ => False) s.heap s.heap [] := va_S.rf
  have hl := lv_entry ([.ref x0, .int i1]) (n := 5) (Nat.le_of_ble_eq_true rfl)
  rw [lg_entry_eq]
  generalize (lg_sl ([.ref x0, .int i1]) ++ List.replicate (5 - (lg_sl ([.ref x0, .int i1])).length) Slot.unset).toArray = ls at hl ⊢
  have hl : lv_has ls 5 [(0, .ref x0), (1, .int i1)] := hl
  refine lv_aload_n hx hb dX10_read_0 rfl (lv_at hl 0 rfl) ?_
  refine lv_iload_n hx hb dX10_read_1 rfl (lv_at hl 1 rfl) ?_
  refine puI (cV (As := [.int i1]) (rest := []) ⟨hx, hb, hml, hown, hts⟩ (c_X10_hadElection l D T x0 a0 a2 a15 a16 a27 a36 a37 a38 a130 a131 a132 a141 a144 a150 a151 i1) k_X10_hadElection v_X10_hadElection m946 rfl rfl ⟨(Nat.le_of_ble_eq_true rfl), (Nat.le_of_ble_eq_true rfl)⟩ (preP hC (hP.sub (ws' := [(x0, .inr (10, [.ref a0, .ref a2, .ref a15, .ref a38, .ref a130, .ref a131, .ref a132, .ref a141, .ref a144, .ref a150, .ref a151])), (a15, .inr (3, [.ref a16, .ref a27, .int 0, .int 0, .int 2, .long 0, .int 0, .ref a36, .ref a37]))]) [0, 1] rfl)) (va_recv hK hP (ci := 10) (q0 := 0) rfl rfl) rfl hl.1 rfl (Nat.le_of_ble_eq_true rfl) dX10_read_2 ⟨(Nat.le_of_ble_eq_true rfl), (Nat.le_of_ble_eq_true rfl)⟩) hS hP (fun r_1 H locs hw hP hS => ?_)
  obtain rfl : r_1 = 0 := hw
  refine lv_if_ne (tgt := 11) hx hb dX10_read_5 (by decide) (fun c_3 => absurd c_3 (by decide)) (fun _ => ?_)
  refine lv_bipush (v := (-2)) hx hb dX10_read_8 (by decide) ?_
  exact W.iret (v := (-2)) hx hb hr (fun t ht hW => ⟨⟨(-2), (), rfl, rfl, trivial⟩, hS.F ht⟩) hS.2.2 dX10_read_10

set_option maxHeartbeats 4000000 in
set_option maxRecDepth 100000 in
theorem c_X10_hands (l : Launch) (D : va_G) (T : Nat → ClassId) (x0 a0 a2 a15 a16 a17 a18 a19 a20 a21 a22 a23 a24 a25 a26 a27 a36 a37 a38 a130 a131 a132 a141 a144 a150 a151 : Nat) (i1 : Int32) : Met l yX10_hands (wM yX10_hands cX10_hands 2 (some .int)) ({ frames := 1, cells := 0, slots := 0, locals := 21 }) (va_Pc [.ref x0, .int i1] (pwP D T [(x0, .inr (10, [.ref a0, .ref a2, .ref a15, .ref a38, .ref a130, .ref a131, .ref a132, .ref a141, .ref a144, .ref a150, .ref a151])), (a15, .inr (3, [.ref a16, .ref a27, .int 0, .int 0, .int 2, .long 0, .int 0, .ref a36, .ref a37])), (a16, .inr (5, [.int 0, .int 0, .int 0, .int 0, .int 0, .int 0, .int 0, .int 0, .int 0, .ref a17, .ref a18, .ref a19, .ref a20, .ref a21, .ref a22, .ref a23, .ref a24, .ref a25, .ref a26]))])) (va_Qi (fun (r : Int32) (u : Unit) => r = (-2)) (fun _ _ => True) (fun _ => False)) 0 0 (fun _ => False) := by
  refine Met.ofW (cc := cX10_hands) (maxL := 2) (ret := (some .int)) (by decide) rfl ?_
  intro p e s m args below meth c s₁ B hml hv
  obtain ⟨rfl, hP, hC⟩ := hv
  have hx := B.exec
  have hb := B.bytes
  have hr := B.returns
  have hts : ∀ w ∈ gt, w.before _ s = true := fun w hw => atoms_spec (ws := (wM yX10_hands cX10_hands 2 (some .int))) B.pre w (List.mem_cons_of_mem _ hw)
  have hown : s.vm.findClass RX10 = some m.cls := findClass_of_methodNamed B.named
  have hlocks := B.notSynchronized
  have hK := hC.1
  have hS : va_S (fun _ => False) s.heap s.heap [] := va_S.rf
  have hl := lv_entry ([.ref x0, .int i1]) (n := 2) (Nat.le_of_ble_eq_true rfl)
  rw [lg_entry_eq]
  generalize (lg_sl ([.ref x0, .int i1]) ++ List.replicate (2 - (lg_sl ([.ref x0, .int i1])).length) Slot.unset).toArray = ls at hl ⊢
  have hl : lv_has ls 2 [(0, .ref x0), (1, .int i1)] := hl
  refine lv_aload_n hx hb dX10_hands_0 rfl (lv_at hl 0 rfl) ?_
  refine lv_iload_n hx hb dX10_hands_1 rfl (lv_at hl 1 rfl) ?_
  refine puI (cV (As := [.int i1]) (rest := []) ⟨hx, hb, hml, hown, hts⟩ (c_X10_hasVoter l D T x0 a0 a2 a15 a16 a17 a18 a19 a20 a21 a22 a23 a24 a25 a26 a27 a36 a37 a38 a130 a131 a132 a141 a144 a150 a151 i1) k_X10_hasVoter v_X10_hasVoter m882 rfl rfl ⟨(Nat.le_of_ble_eq_true rfl), (Nat.le_of_ble_eq_true rfl)⟩ (preP hC (hP.sub (ws' := [(x0, .inr (10, [.ref a0, .ref a2, .ref a15, .ref a38, .ref a130, .ref a131, .ref a132, .ref a141, .ref a144, .ref a150, .ref a151])), (a15, .inr (3, [.ref a16, .ref a27, .int 0, .int 0, .int 2, .long 0, .int 0, .ref a36, .ref a37])), (a16, .inr (5, [.int 0, .int 0, .int 0, .int 0, .int 0, .int 0, .int 0, .int 0, .int 0, .ref a17, .ref a18, .ref a19, .ref a20, .ref a21, .ref a22, .ref a23, .ref a24, .ref a25, .ref a26]))]) [0, 1, 2] rfl)) (va_recv hK hP (ci := 10) (q0 := 0) rfl rfl) rfl hl.1 rfl (Nat.le_of_ble_eq_true rfl) dX10_hands_2 ⟨(Nat.le_of_ble_eq_true rfl), (Nat.le_of_ble_eq_true rfl)⟩) hS hP (fun r_1 H locs hw hP hS => ?_)
  obtain rfl : r_1 = 0 := hw
  refine lv_if_ne (tgt := 11) hx hb dX10_hands_5 (by decide) (fun c_3 => absurd c_3 (by decide)) (fun _ => ?_)
  refine lv_bipush (v := (-2)) hx hb dX10_hands_8 (by decide) ?_
  exact W.iret (v := (-2)) hx hb hr (fun t ht hW => ⟨⟨(-2), (), rfl, rfl, trivial⟩, hS.F ht⟩) hS.2.2 dX10_hands_10

set_option maxHeartbeats 4000000 in
set_option maxRecDepth 100000 in
theorem c_X10_ghosts (l : Launch) (D : va_G) (T : Nat → ClassId) (x0 a0 a2 a15 a16 a17 a18 a19 a20 a21 a22 a23 a24 a25 a26 a27 a36 a37 a38 a130 a131 a132 a141 a144 a150 a151 : Nat) (i1 : Int32) : Met l yX10_ghosts (wM yX10_ghosts cX10_ghosts 4 (some .int)) ({ frames := 2, cells := 0, slots := 0, locals := 41 }) (va_Pc [.ref x0, .int i1] (pwP D T [(x0, .inr (10, [.ref a0, .ref a2, .ref a15, .ref a38, .ref a130, .ref a131, .ref a132, .ref a141, .ref a144, .ref a150, .ref a151])), (a15, .inr (3, [.ref a16, .ref a27, .int 0, .int 0, .int 2, .long 0, .int 0, .ref a36, .ref a37])), (a16, .inr (5, [.int 0, .int 0, .int 0, .int 0, .int 0, .int 0, .int 0, .int 0, .int 0, .ref a17, .ref a18, .ref a19, .ref a20, .ref a21, .ref a22, .ref a23, .ref a24, .ref a25, .ref a26]))])) (va_Qi (fun (r : Int32) (u : Unit) => r = (-2)) (fun _ _ => True) (fun _ => False)) 0 0 (fun _ => False) := by
  refine Met.ofW (cc := cX10_ghosts) (maxL := 4) (ret := (some .int)) (by decide) rfl ?_
  intro p e s m args below meth c s₁ B hml hv
  obtain ⟨rfl, hP, hC⟩ := hv
  have hx := B.exec
  have hb := B.bytes
  have hr := B.returns
  have hts : ∀ w ∈ gt, w.before _ s = true := fun w hw => atoms_spec (ws := (wM yX10_ghosts cX10_ghosts 4 (some .int))) B.pre w (List.mem_cons_of_mem _ hw)
  have hown : s.vm.findClass RX10 = some m.cls := findClass_of_methodNamed B.named
  have hlocks := B.notSynchronized
  have hK := hC.1
  have hS : va_S (fun _ => False) s.heap s.heap [] := va_S.rf
  have hl := lv_entry ([.ref x0, .int i1]) (n := 4) (Nat.le_of_ble_eq_true rfl)
  rw [lg_entry_eq]
  generalize (lg_sl ([.ref x0, .int i1]) ++ List.replicate (4 - (lg_sl ([.ref x0, .int i1])).length) Slot.unset).toArray = ls at hl ⊢
  have hl : lv_has ls 4 [(0, .ref x0), (1, .int i1)] := hl
  refine lv_aload_n hx hb dX10_ghosts_0 rfl (lv_at hl 0 rfl) ?_
  refine lv_iload_n hx hb dX10_ghosts_1 rfl (lv_at hl 1 rfl) ?_
  refine puI (cV (As := [.int i1]) (rest := []) ⟨hx, hb, hml, hown, hts⟩ (c_X10_hasSide l D T x0 a0 a2 a15 a16 a17 a18 a19 a20 a21 a22 a23 a24 a25 a26 a27 a36 a37 a38 a130 a131 a132 a141 a144 a150 a151 i1) k_X10_hasSide v_X10_hasSide m756 rfl rfl ⟨(Nat.le_of_ble_eq_true rfl), (Nat.le_of_ble_eq_true rfl)⟩ (preP hC (hP.sub (ws' := [(x0, .inr (10, [.ref a0, .ref a2, .ref a15, .ref a38, .ref a130, .ref a131, .ref a132, .ref a141, .ref a144, .ref a150, .ref a151])), (a15, .inr (3, [.ref a16, .ref a27, .int 0, .int 0, .int 2, .long 0, .int 0, .ref a36, .ref a37])), (a16, .inr (5, [.int 0, .int 0, .int 0, .int 0, .int 0, .int 0, .int 0, .int 0, .int 0, .ref a17, .ref a18, .ref a19, .ref a20, .ref a21, .ref a22, .ref a23, .ref a24, .ref a25, .ref a26]))]) [0, 1, 2] rfl)) (va_recv hK hP (ci := 10) (q0 := 0) rfl rfl) rfl hl.1 rfl (Nat.le_of_ble_eq_true rfl) dX10_ghosts_2 ⟨(Nat.le_of_ble_eq_true rfl), (Nat.le_of_ble_eq_true rfl)⟩) hS hP (fun r_1 H locs hw hP hS => ?_)
  obtain rfl : r_1 = 0 := hw
  refine lv_if_ne (tgt := 11) hx hb dX10_ghosts_5 (by decide) (fun c_3 => absurd c_3 (by decide)) (fun _ => ?_)
  refine lv_bipush (v := (-2)) hx hb dX10_ghosts_8 (by decide) ?_
  exact W.iret (v := (-2)) hx hb hr (fun t ht hW => ⟨⟨(-2), (), rfl, rfl, trivial⟩, hS.F ht⟩) hS.2.2 dX10_ghosts_10

set_option maxHeartbeats 4000000 in
set_option maxRecDepth 100000 in
theorem c_X10_pivot (l : Launch) (D : va_G) (T : Nat → ClassId) (x0 a0 a2 a15 a16 a17 a18 a19 a20 a21 a22 a23 a24 a25 a26 a27 a36 a37 a38 a130 a131 a132 a141 a144 a150 a151 : Nat) (i1 : Int32) : Met l yX10_pivot (wM yX10_pivot cX10_pivot 3 (some .int)) ({ frames := 1, cells := 0, slots := 0, locals := 20 }) (va_Pc [.ref x0, .int i1] (pwP D T [(x0, .inr (10, [.ref a0, .ref a2, .ref a15, .ref a38, .ref a130, .ref a131, .ref a132, .ref a141, .ref a144, .ref a150, .ref a151])), (a15, .inr (3, [.ref a16, .ref a27, .int 0, .int 0, .int 2, .long 0, .int 0, .ref a36, .ref a37])), (a16, .inr (5, [.int 0, .int 0, .int 0, .int 0, .int 0, .int 0, .int 0, .int 0, .int 0, .ref a17, .ref a18, .ref a19, .ref a20, .ref a21, .ref a22, .ref a23, .ref a24, .ref a25, .ref a26]))])) (va_Qi (fun (r : Int32) (u : Unit) => r = (-2)) (fun _ _ => True) (fun _ => False)) 0 0 (fun _ => False) := by
  refine Met.ofW (cc := cX10_pivot) (maxL := 3) (ret := (some .int)) (by decide) rfl ?_
  intro p e s m args below meth c s₁ B hml hv
  obtain ⟨rfl, hP, hC⟩ := hv
  have hx := B.exec
  have hb := B.bytes
  have hr := B.returns
  have hts : ∀ w ∈ gt, w.before _ s = true := fun w hw => atoms_spec (ws := (wM yX10_pivot cX10_pivot 3 (some .int))) B.pre w (List.mem_cons_of_mem _ hw)
  have hown : s.vm.findClass RX10 = some m.cls := findClass_of_methodNamed B.named
  have hlocks := B.notSynchronized
  have hK := hC.1
  have hS : va_S (fun _ => False) s.heap s.heap [] := va_S.rf
  have hl := lv_entry ([.ref x0, .int i1]) (n := 3) (Nat.le_of_ble_eq_true rfl)
  rw [lg_entry_eq]
  generalize (lg_sl ([.ref x0, .int i1]) ++ List.replicate (3 - (lg_sl ([.ref x0, .int i1])).length) Slot.unset).toArray = ls at hl ⊢
  have hl : lv_has ls 3 [(0, .ref x0), (1, .int i1)] := hl
  refine lv_aload_n hx hb dX10_pivot_0 rfl (lv_at hl 0 rfl) ?_
  refine puI (cV (As := []) (rest := []) ⟨hx, hb, hml, hown, hts⟩ (c_X10_hasTown l D T x0 a0 a2 a15 a16 a17 a18 a19 a20 a21 a22 a23 a24 a25 a26 a27 a36 a37 a38 a130 a131 a132 a141 a144 a150 a151) k_X10_hasTown v_X10_hasTown m760 rfl rfl ⟨(Nat.le_of_ble_eq_true rfl), (Nat.le_of_ble_eq_true rfl)⟩ (preP hC (hP.sub (ws' := [(x0, .inr (10, [.ref a0, .ref a2, .ref a15, .ref a38, .ref a130, .ref a131, .ref a132, .ref a141, .ref a144, .ref a150, .ref a151])), (a15, .inr (3, [.ref a16, .ref a27, .int 0, .int 0, .int 2, .long 0, .int 0, .ref a36, .ref a37])), (a16, .inr (5, [.int 0, .int 0, .int 0, .int 0, .int 0, .int 0, .int 0, .int 0, .int 0, .ref a17, .ref a18, .ref a19, .ref a20, .ref a21, .ref a22, .ref a23, .ref a24, .ref a25, .ref a26]))]) [0, 1, 2] rfl)) (va_recv hK hP (ci := 10) (q0 := 0) rfl rfl) rfl hl.1 rfl (Nat.le_of_ble_eq_true rfl) dX10_pivot_1 ⟨(Nat.le_of_ble_eq_true rfl), (Nat.le_of_ble_eq_true rfl)⟩) hS hP (fun r_1 H locs hw hP hS => ?_)
  obtain rfl : r_1 = 0 := hw
  refine lv_if_eq (tgt := 16) hx hb dX10_pivot_4 (by decide) (fun _ => ?_) (fun c_3 => absurd (by decide) c_3)
  refine lv_bipush (v := (-2)) hx hb dX10_pivot_16 (by decide) ?_
  exact W.iret (v := (-2)) hx hb hr (fun t ht hW => ⟨⟨(-2), (), rfl, rfl, trivial⟩, hS.F ht⟩) hS.2.2 dX10_pivot_18

set_option maxHeartbeats 4000000 in
set_option maxRecDepth 100000 in
theorem c_X10_fetch (l : Launch) (D : va_G) (T : Nat → ClassId) (x0 a0 a2 a15 a16 a17 a18 a19 a20 a21 a22 a23 a24 a25 a26 a27 a36 a37 a38 a130 a131 a132 a141 a144 a150 a151 : Nat) (i1 : Int32) (i2 : Int32) : Met l yX10_fetch (wM yX10_fetch cX10_fetch 3 (some .int)) ({ frames := 2, cells := 0, slots := 0, locals := 41 }) (va_Pc [.ref x0, .int i1, .int i2] (pwP D T [(x0, .inr (10, [.ref a0, .ref a2, .ref a15, .ref a38, .ref a130, .ref a131, .ref a132, .ref a141, .ref a144, .ref a150, .ref a151])), (a15, .inr (3, [.ref a16, .ref a27, .int 0, .int 0, .int 2, .long 0, .int 0, .ref a36, .ref a37])), (a16, .inr (5, [.int 0, .int 0, .int 0, .int 0, .int 0, .int 0, .int 0, .int 0, .int 0, .ref a17, .ref a18, .ref a19, .ref a20, .ref a21, .ref a22, .ref a23, .ref a24, .ref a25, .ref a26]))])) (va_Qi (fun (r : Int32) (u : Unit) => r = (-2)) (fun _ _ => True) (fun _ => False)) 0 0 (fun _ => False) := by
  refine Met.ofW (cc := cX10_fetch) (maxL := 3) (ret := (some .int)) (by decide) rfl ?_
  intro p e s m args below meth c s₁ B hml hv
  obtain ⟨rfl, hP, hC⟩ := hv
  have hx := B.exec
  have hb := B.bytes
  have hr := B.returns
  have hts : ∀ w ∈ gt, w.before _ s = true := fun w hw => atoms_spec (ws := (wM yX10_fetch cX10_fetch 3 (some .int))) B.pre w (List.mem_cons_of_mem _ hw)
  have hown : s.vm.findClass RX10 = some m.cls := findClass_of_methodNamed B.named
  have hlocks := B.notSynchronized
  have hK := hC.1
  have hS : va_S (fun _ => False) s.heap s.heap [] := va_S.rf
  have hl := lv_entry ([.ref x0, .int i1, .int i2]) (n := 3) (Nat.le_of_ble_eq_true rfl)
  rw [lg_entry_eq]
  generalize (lg_sl ([.ref x0, .int i1, .int i2]) ++ List.replicate (3 - (lg_sl ([.ref x0, .int i1, .int i2])).length) Slot.unset).toArray = ls at hl ⊢
  have hl : lv_has ls 3 [(0, .ref x0), (1, .int i1), (2, .int i2)] := hl
  refine lv_aload_n hx hb dX10_fetch_0 rfl (lv_at hl 0 rfl) ?_
  refine lv_iload_n hx hb dX10_fetch_1 rfl (lv_at hl 1 rfl) ?_
  refine puI (cV (As := [.int i1]) (rest := []) ⟨hx, hb, hml, hown, hts⟩ (c_X10_hasSide l D T x0 a0 a2 a15 a16 a17 a18 a19 a20 a21 a22 a23 a24 a25 a26 a27 a36 a37 a38 a130 a131 a132 a141 a144 a150 a151 i1) k_X10_hasSide v_X10_hasSide m756 rfl rfl ⟨(Nat.le_of_ble_eq_true rfl), (Nat.le_of_ble_eq_true rfl)⟩ (preP hC (hP.sub (ws' := [(x0, .inr (10, [.ref a0, .ref a2, .ref a15, .ref a38, .ref a130, .ref a131, .ref a132, .ref a141, .ref a144, .ref a150, .ref a151])), (a15, .inr (3, [.ref a16, .ref a27, .int 0, .int 0, .int 2, .long 0, .int 0, .ref a36, .ref a37])), (a16, .inr (5, [.int 0, .int 0, .int 0, .int 0, .int 0, .int 0, .int 0, .int 0, .int 0, .ref a17, .ref a18, .ref a19, .ref a20, .ref a21, .ref a22, .ref a23, .ref a24, .ref a25, .ref a26]))]) [0, 1, 2] rfl)) (va_recv hK hP (ci := 10) (q0 := 0) rfl rfl) rfl hl.1 rfl (Nat.le_of_ble_eq_true rfl) dX10_fetch_2 ⟨(Nat.le_of_ble_eq_true rfl), (Nat.le_of_ble_eq_true rfl)⟩) hS hP (fun r_1 H locs hw hP hS => ?_)
  obtain rfl : r_1 = 0 := hw
  refine lv_if_eq (tgt := 19) hx hb dX10_fetch_5 (by decide) (fun _ => ?_) (fun c_3 => absurd (by decide) c_3)
  refine lv_bipush (v := (-2)) hx hb dX10_fetch_19 (by decide) ?_
  exact W.iret (v := (-2)) hx hb hr (fun t ht hW => ⟨⟨(-2), (), rfl, rfl, trivial⟩, hS.F ht⟩) hS.2.2 dX10_fetch_21

set_option maxHeartbeats 4000000 in
set_option maxRecDepth 100000 in
theorem c_X10_margin (l : Launch) (D : va_G) (T : Nat → ClassId) (x0 a0 a2 a15 a16 a17 a18 a19 a20 a21 a22 a23 a24 a25 a26 a27 a36 a37 a38 a130 a131 a132 a141 a144 a150 a151 : Nat) (i1 : Int32) (i2 : Int32) : Met l yX10_margin (wM yX10_margin cX10_margin 3 (some .int)) ({ frames := 2, cells := 0, slots := 0, locals := 41 }) (va_Pc [.ref x0, .int i1, .int i2] (pwP D T [(x0, .inr (10, [.ref a0, .ref a2, .ref a15, .ref a38, .ref a130, .ref a131, .ref a132, .ref a141, .ref a144, .ref a150, .ref a151])), (a15, .inr (3, [.ref a16, .ref a27, .int 0, .int 0, .int 2, .long 0, .int 0, .ref a36, .ref a37])), (a16, .inr (5, [.int 0, .int 0, .int 0, .int 0, .int 0, .int 0, .int 0, .int 0, .int 0, .ref a17, .ref a18, .ref a19, .ref a20, .ref a21, .ref a22, .ref a23, .ref a24, .ref a25, .ref a26]))])) (va_Qi (fun (r : Int32) (u : Unit) => r = (-1000000)) (fun _ _ => True) (fun _ => False)) 0 0 (fun _ => False) := by
  refine Met.ofW (cc := cX10_margin) (maxL := 3) (ret := (some .int)) (by decide) rfl ?_
  intro p e s m args below meth c s₁ B hml hv
  obtain ⟨rfl, hP, hC⟩ := hv
  have hx := B.exec
  have hb := B.bytes
  have hr := B.returns
  have hts : ∀ w ∈ gt, w.before _ s = true := fun w hw => atoms_spec (ws := (wM yX10_margin cX10_margin 3 (some .int))) B.pre w (List.mem_cons_of_mem _ hw)
  have hown : s.vm.findClass RX10 = some m.cls := findClass_of_methodNamed B.named
  have hlocks := B.notSynchronized
  have hK := hC.1
  have hS : va_S (fun _ => False) s.heap s.heap [] := va_S.rf
  have hl := lv_entry ([.ref x0, .int i1, .int i2]) (n := 3) (Nat.le_of_ble_eq_true rfl)
  rw [lg_entry_eq]
  generalize (lg_sl ([.ref x0, .int i1, .int i2]) ++ List.replicate (3 - (lg_sl ([.ref x0, .int i1, .int i2])).length) Slot.unset).toArray = ls at hl ⊢
  have hl : lv_has ls 3 [(0, .ref x0), (1, .int i1), (2, .int i2)] := hl
  refine lv_aload_n hx hb dX10_margin_0 rfl (lv_at hl 0 rfl) ?_
  refine lv_iload_n hx hb dX10_margin_1 rfl (lv_at hl 1 rfl) ?_
  refine puI (cV (As := [.int i1]) (rest := []) ⟨hx, hb, hml, hown, hts⟩ (c_X10_hasSide l D T x0 a0 a2 a15 a16 a17 a18 a19 a20 a21 a22 a23 a24 a25 a26 a27 a36 a37 a38 a130 a131 a132 a141 a144 a150 a151 i1) k_X10_hasSide v_X10_hasSide m756 rfl rfl ⟨(Nat.le_of_ble_eq_true rfl), (Nat.le_of_ble_eq_true rfl)⟩ (preP hC (hP.sub (ws' := [(x0, .inr (10, [.ref a0, .ref a2, .ref a15, .ref a38, .ref a130, .ref a131, .ref a132, .ref a141, .ref a144, .ref a150, .ref a151])), (a15, .inr (3, [.ref a16, .ref a27, .int 0, .int 0, .int 2, .long 0, .int 0, .ref a36, .ref a37])), (a16, .inr (5, [.int 0, .int 0, .int 0, .int 0, .int 0, .int 0, .int 0, .int 0, .int 0, .ref a17, .ref a18, .ref a19, .ref a20, .ref a21, .ref a22, .ref a23, .ref a24, .ref a25, .ref a26]))]) [0, 1, 2] rfl)) (va_recv hK hP (ci := 10) (q0 := 0) rfl rfl) rfl hl.1 rfl (Nat.le_of_ble_eq_true rfl) dX10_margin_2 ⟨(Nat.le_of_ble_eq_true rfl), (Nat.le_of_ble_eq_true rfl)⟩) hS hP (fun r_1 H locs hw hP hS => ?_)
  obtain rfl : r_1 = 0 := hw
  refine lv_if_eq (tgt := 26) hx hb dX10_margin_5 (by decide) (fun _ => ?_) (fun c_3 => absurd (by decide) c_3)
  refine lv_ldcw (v := (-1000000)) hx hb hown (hts _ m1034) dX10_margin_26 ?_
  exact W.iret (v := (-1000000)) hx hb hr (fun t ht hW => ⟨⟨(-1000000), (), rfl, rfl, trivial⟩, hS.F ht⟩) hS.2.2 dX10_margin_29

set_option maxHeartbeats 4000000 in
set_option maxRecDepth 100000 in
theorem c_X10_cheap (l : Launch) (D : va_G) (T : Nat → ClassId) (x0 a0 a2 a15 a16 a17 a18 a19 a20 a21 a22 a23 a24 a25 a26 a27 a36 a37 a38 a130 a131 a132 a141 a144 a150 a151 : Nat) (i1 : Int32) : Met l yX10_cheap (wM yX10_cheap cX10_cheap 2 (some .int)) ({ frames := 2, cells := 0, slots := 0, locals := 41 }) (va_Pc [.ref x0, .int i1] (pwP D T [(x0, .inr (10, [.ref a0, .ref a2, .ref a15, .ref a38, .ref a130, .ref a131, .ref a132, .ref a141, .ref a144, .ref a150, .ref a151])), (a15, .inr (3, [.ref a16, .ref a27, .int 0, .int 0, .int 2, .long 0, .int 0, .ref a36, .ref a37])), (a16, .inr (5, [.int 0, .int 0, .int 0, .int 0, .int 0, .int 0, .int 0, .int 0, .int 0, .ref a17, .ref a18, .ref a19, .ref a20, .ref a21, .ref a22, .ref a23, .ref a24, .ref a25, .ref a26]))])) (va_Qi (fun (r : Int32) (u : Unit) => r = (-2)) (fun _ _ => True) (fun _ => False)) 0 0 (fun _ => False) := by
  refine Met.ofW (cc := cX10_cheap) (maxL := 2) (ret := (some .int)) (by decide) rfl ?_
  intro p e s m args below meth c s₁ B hml hv
  obtain ⟨rfl, hP, hC⟩ := hv
  have hx := B.exec
  have hb := B.bytes
  have hr := B.returns
  have hts : ∀ w ∈ gt, w.before _ s = true := fun w hw => atoms_spec (ws := (wM yX10_cheap cX10_cheap 2 (some .int))) B.pre w (List.mem_cons_of_mem _ hw)
  have hown : s.vm.findClass RX10 = some m.cls := findClass_of_methodNamed B.named
  have hlocks := B.notSynchronized
  have hK := hC.1
  have hS : va_S (fun _ => False) s.heap s.heap [] := va_S.rf
  have hl := lv_entry ([.ref x0, .int i1]) (n := 2) (Nat.le_of_ble_eq_true rfl)
  rw [lg_entry_eq]
  generalize (lg_sl ([.ref x0, .int i1]) ++ List.replicate (2 - (lg_sl ([.ref x0, .int i1])).length) Slot.unset).toArray = ls at hl ⊢
  have hl : lv_has ls 2 [(0, .ref x0), (1, .int i1)] := hl
  refine lv_aload_n hx hb dX10_cheap_0 rfl (lv_at hl 0 rfl) ?_
  refine lv_iload_n hx hb dX10_cheap_1 rfl (lv_at hl 1 rfl) ?_
  refine puI (cV (As := [.int i1]) (rest := []) ⟨hx, hb, hml, hown, hts⟩ (c_X10_hasSide l D T x0 a0 a2 a15 a16 a17 a18 a19 a20 a21 a22 a23 a24 a25 a26 a27 a36 a37 a38 a130 a131 a132 a141 a144 a150 a151 i1) k_X10_hasSide v_X10_hasSide m756 rfl rfl ⟨(Nat.le_of_ble_eq_true rfl), (Nat.le_of_ble_eq_true rfl)⟩ (preP hC (hP.sub (ws' := [(x0, .inr (10, [.ref a0, .ref a2, .ref a15, .ref a38, .ref a130, .ref a131, .ref a132, .ref a141, .ref a144, .ref a150, .ref a151])), (a15, .inr (3, [.ref a16, .ref a27, .int 0, .int 0, .int 2, .long 0, .int 0, .ref a36, .ref a37])), (a16, .inr (5, [.int 0, .int 0, .int 0, .int 0, .int 0, .int 0, .int 0, .int 0, .int 0, .ref a17, .ref a18, .ref a19, .ref a20, .ref a21, .ref a22, .ref a23, .ref a24, .ref a25, .ref a26]))]) [0, 1, 2] rfl)) (va_recv hK hP (ci := 10) (q0 := 0) rfl rfl) rfl hl.1 rfl (Nat.le_of_ble_eq_true rfl) dX10_cheap_2 ⟨(Nat.le_of_ble_eq_true rfl), (Nat.le_of_ble_eq_true rfl)⟩) hS hP (fun r_1 H locs hw hP hS => ?_)
  obtain rfl : r_1 = 0 := hw
  refine lv_if_ne (tgt := 11) hx hb dX10_cheap_5 (by decide) (fun c_3 => absurd c_3 (by decide)) (fun _ => ?_)
  refine lv_bipush (v := (-2)) hx hb dX10_cheap_8 (by decide) ?_
  exact W.iret (v := (-2)) hx hb hr (fun t ht hW => ⟨⟨(-2), (), rfl, rfl, trivial⟩, hS.F ht⟩) hS.2.2 dX10_cheap_10

set_option maxHeartbeats 4000000 in
set_option maxRecDepth 100000 in
theorem c_X10_turn (l : Launch) (D : va_G) (T : Nat → ClassId) (x0 a0 a2 a15 a16 a17 a18 a19 a20 a21 a22 a23 a24 a25 a26 a27 a36 a37 a38 a130 a131 a132 a141 a144 a150 a151 : Nat) (i1 : Int32) (i2 : Int32) : Met l yX10_turn (wM yX10_turn cX10_turn 4 (some .int)) ({ frames := 2, cells := 0, slots := 0, locals := 41 }) (va_Pc [.ref x0, .int i1, .int i2] (pwP D T [(x0, .inr (10, [.ref a0, .ref a2, .ref a15, .ref a38, .ref a130, .ref a131, .ref a132, .ref a141, .ref a144, .ref a150, .ref a151])), (a15, .inr (3, [.ref a16, .ref a27, .int 0, .int 0, .int 2, .long 0, .int 0, .ref a36, .ref a37])), (a16, .inr (5, [.int 0, .int 0, .int 0, .int 0, .int 0, .int 0, .int 0, .int 0, .int 0, .ref a17, .ref a18, .ref a19, .ref a20, .ref a21, .ref a22, .ref a23, .ref a24, .ref a25, .ref a26]))])) (va_Qi (fun (r : Int32) (u : Unit) => r = (-2)) (fun _ _ => True) (fun _ => False)) 0 0 (fun _ => False) := by
  refine Met.ofW (cc := cX10_turn) (maxL := 4) (ret := (some .int)) (by decide) rfl ?_
  intro p e s m args below meth c s₁ B hml hv
  obtain ⟨rfl, hP, hC⟩ := hv
  have hx := B.exec
  have hb := B.bytes
  have hr := B.returns
  have hts : ∀ w ∈ gt, w.before _ s = true := fun w hw => atoms_spec (ws := (wM yX10_turn cX10_turn 4 (some .int))) B.pre w (List.mem_cons_of_mem _ hw)
  have hown : s.vm.findClass RX10 = some m.cls := findClass_of_methodNamed B.named
  have hlocks := B.notSynchronized
  have hK := hC.1
  have hS : va_S (fun _ => False) s.heap s.heap [] := va_S.rf
  have hl := lv_entry ([.ref x0, .int i1, .int i2]) (n := 4) (Nat.le_of_ble_eq_true rfl)
  rw [lg_entry_eq]
  generalize (lg_sl ([.ref x0, .int i1, .int i2]) ++ List.replicate (4 - (lg_sl ([.ref x0, .int i1, .int i2])).length) Slot.unset).toArray = ls at hl ⊢
  have hl : lv_has ls 4 [(0, .ref x0), (1, .int i1), (2, .int i2)] := hl
  refine lv_aload_n hx hb dX10_turn_0 rfl (lv_at hl 0 rfl) ?_
  refine lv_iload_n hx hb dX10_turn_1 rfl (lv_at hl 1 rfl) ?_
  refine puI (cV (As := [.int i1]) (rest := []) ⟨hx, hb, hml, hown, hts⟩ (c_X10_hasSide l D T x0 a0 a2 a15 a16 a17 a18 a19 a20 a21 a22 a23 a24 a25 a26 a27 a36 a37 a38 a130 a131 a132 a141 a144 a150 a151 i1) k_X10_hasSide v_X10_hasSide m756 rfl rfl ⟨(Nat.le_of_ble_eq_true rfl), (Nat.le_of_ble_eq_true rfl)⟩ (preP hC (hP.sub (ws' := [(x0, .inr (10, [.ref a0, .ref a2, .ref a15, .ref a38, .ref a130, .ref a131, .ref a132, .ref a141, .ref a144, .ref a150, .ref a151])), (a15, .inr (3, [.ref a16, .ref a27, .int 0, .int 0, .int 2, .long 0, .int 0, .ref a36, .ref a37])), (a16, .inr (5, [.int 0, .int 0, .int 0, .int 0, .int 0, .int 0, .int 0, .int 0, .int 0, .ref a17, .ref a18, .ref a19, .ref a20, .ref a21, .ref a22, .ref a23, .ref a24, .ref a25, .ref a26]))]) [0, 1, 2] rfl)) (va_recv hK hP (ci := 10) (q0 := 0) rfl rfl) rfl hl.1 rfl (Nat.le_of_ble_eq_true rfl) dX10_turn_2 ⟨(Nat.le_of_ble_eq_true rfl), (Nat.le_of_ble_eq_true rfl)⟩) hS hP (fun r_1 H locs hw hP hS => ?_)
  obtain rfl : r_1 = 0 := hw
  refine lv_if_eq (tgt := 17) hx hb dX10_turn_5 (by decide) (fun _ => ?_) (fun c_3 => absurd (by decide) c_3)
  refine lv_bipush (v := (-2)) hx hb dX10_turn_17 (by decide) ?_
  exact W.iret (v := (-2)) hx hb hr (fun t ht hW => ⟨⟨(-2), (), rfl, rfl, trivial⟩, hS.F ht⟩) hS.2.2 dX10_turn_19

set_option maxHeartbeats 4000000 in
set_option maxRecDepth 100000 in
theorem c_X10_bribe (l : Launch) (D : va_G) (T : Nat → ClassId) (x0 a0 a2 a15 a16 a17 a18 a19 a20 a21 a22 a23 a24 a25 a26 a27 a36 a37 a38 a130 a131 a132 a141 a144 a150 a151 : Nat) (i1 : Int32) : Met l yX10_bribe (wM yX10_bribe cX10_bribe 3 (some .int)) ({ frames := 2, cells := 0, slots := 0, locals := 41 }) (va_Pc [.ref x0, .int i1] (pwP D T [(x0, .inr (10, [.ref a0, .ref a2, .ref a15, .ref a38, .ref a130, .ref a131, .ref a132, .ref a141, .ref a144, .ref a150, .ref a151])), (a15, .inr (3, [.ref a16, .ref a27, .int 0, .int 0, .int 2, .long 0, .int 0, .ref a36, .ref a37])), (a16, .inr (5, [.int 0, .int 0, .int 0, .int 0, .int 0, .int 0, .int 0, .int 0, .int 0, .ref a17, .ref a18, .ref a19, .ref a20, .ref a21, .ref a22, .ref a23, .ref a24, .ref a25, .ref a26]))])) (va_Qi (fun (r : Int32) (u : Unit) => r = (-2)) (fun _ _ => True) (fun _ => False)) 0 0 (fun _ => False) := by
  refine Met.ofW (cc := cX10_bribe) (maxL := 3) (ret := (some .int)) (by decide) rfl ?_
  intro p e s m args below meth c s₁ B hml hv
  obtain ⟨rfl, hP, hC⟩ := hv
  have hx := B.exec
  have hb := B.bytes
  have hr := B.returns
  have hts : ∀ w ∈ gt, w.before _ s = true := fun w hw => atoms_spec (ws := (wM yX10_bribe cX10_bribe 3 (some .int))) B.pre w (List.mem_cons_of_mem _ hw)
  have hown : s.vm.findClass RX10 = some m.cls := findClass_of_methodNamed B.named
  have hlocks := B.notSynchronized
  have hK := hC.1
  have hS : va_S (fun _ => False) s.heap s.heap [] := va_S.rf
  have hl := lv_entry ([.ref x0, .int i1]) (n := 3) (Nat.le_of_ble_eq_true rfl)
  rw [lg_entry_eq]
  generalize (lg_sl ([.ref x0, .int i1]) ++ List.replicate (3 - (lg_sl ([.ref x0, .int i1])).length) Slot.unset).toArray = ls at hl ⊢
  have hl : lv_has ls 3 [(0, .ref x0), (1, .int i1)] := hl
  refine lv_aload_n hx hb dX10_bribe_0 rfl (lv_at hl 0 rfl) ?_
  refine lv_iload_n hx hb dX10_bribe_1 rfl (lv_at hl 1 rfl) ?_
  refine puI (cV (As := [.int i1]) (rest := []) ⟨hx, hb, hml, hown, hts⟩ (c_X10_hasSide l D T x0 a0 a2 a15 a16 a17 a18 a19 a20 a21 a22 a23 a24 a25 a26 a27 a36 a37 a38 a130 a131 a132 a141 a144 a150 a151 i1) k_X10_hasSide v_X10_hasSide m756 rfl rfl ⟨(Nat.le_of_ble_eq_true rfl), (Nat.le_of_ble_eq_true rfl)⟩ (preP hC (hP.sub (ws' := [(x0, .inr (10, [.ref a0, .ref a2, .ref a15, .ref a38, .ref a130, .ref a131, .ref a132, .ref a141, .ref a144, .ref a150, .ref a151])), (a15, .inr (3, [.ref a16, .ref a27, .int 0, .int 0, .int 2, .long 0, .int 0, .ref a36, .ref a37])), (a16, .inr (5, [.int 0, .int 0, .int 0, .int 0, .int 0, .int 0, .int 0, .int 0, .int 0, .ref a17, .ref a18, .ref a19, .ref a20, .ref a21, .ref a22, .ref a23, .ref a24, .ref a25, .ref a26]))]) [0, 1, 2] rfl)) (va_recv hK hP (ci := 10) (q0 := 0) rfl rfl) rfl hl.1 rfl (Nat.le_of_ble_eq_true rfl) dX10_bribe_2 ⟨(Nat.le_of_ble_eq_true rfl), (Nat.le_of_ble_eq_true rfl)⟩) hS hP (fun r_1 H locs hw hP hS => ?_)
  obtain rfl : r_1 = 0 := hw
  refine lv_if_ne (tgt := 11) hx hb dX10_bribe_5 (by decide) (fun c_3 => absurd c_3 (by decide)) (fun _ => ?_)
  refine lv_bipush (v := (-2)) hx hb dX10_bribe_8 (by decide) ?_
  exact W.iret (v := (-2)) hx hb hr (fun t ht hW => ⟨⟨(-2), (), rfl, rfl, trivial⟩, hS.F ht⟩) hS.2.2 dX10_bribe_10

set_option maxHeartbeats 4000000 in
set_option maxRecDepth 100000 in
theorem c_X10_tear (l : Launch) (D : va_G) (T : Nat → ClassId) (x0 a0 a2 a15 a16 a17 a18 a19 a20 a21 a22 a23 a24 a25 a26 a27 a36 a37 a38 a130 a131 a132 a141 a144 a150 a151 : Nat) (i1 : Int32) : Met l yX10_tear (wM yX10_tear cX10_tear 2 (some .int)) ({ frames := 2, cells := 0, slots := 0, locals := 41 }) (va_Pc [.ref x0, .int i1] (pwP D T [(x0, .inr (10, [.ref a0, .ref a2, .ref a15, .ref a38, .ref a130, .ref a131, .ref a132, .ref a141, .ref a144, .ref a150, .ref a151])), (a15, .inr (3, [.ref a16, .ref a27, .int 0, .int 0, .int 2, .long 0, .int 0, .ref a36, .ref a37])), (a16, .inr (5, [.int 0, .int 0, .int 0, .int 0, .int 0, .int 0, .int 0, .int 0, .int 0, .ref a17, .ref a18, .ref a19, .ref a20, .ref a21, .ref a22, .ref a23, .ref a24, .ref a25, .ref a26]))])) (va_Qi (fun (r : Int32) (u : Unit) => r = (-2)) (fun _ _ => True) (fun _ => False)) 0 0 (fun _ => False) := by
  refine Met.ofW (cc := cX10_tear) (maxL := 2) (ret := (some .int)) (by decide) rfl ?_
  intro p e s m args below meth c s₁ B hml hv
  obtain ⟨rfl, hP, hC⟩ := hv
  have hx := B.exec
  have hb := B.bytes
  have hr := B.returns
  have hts : ∀ w ∈ gt, w.before _ s = true := fun w hw => atoms_spec (ws := (wM yX10_tear cX10_tear 2 (some .int))) B.pre w (List.mem_cons_of_mem _ hw)
  have hown : s.vm.findClass RX10 = some m.cls := findClass_of_methodNamed B.named
  have hlocks := B.notSynchronized
  have hK := hC.1
  have hS : va_S (fun _ => False) s.heap s.heap [] := va_S.rf
  have hl := lv_entry ([.ref x0, .int i1]) (n := 2) (Nat.le_of_ble_eq_true rfl)
  rw [lg_entry_eq]
  generalize (lg_sl ([.ref x0, .int i1]) ++ List.replicate (2 - (lg_sl ([.ref x0, .int i1])).length) Slot.unset).toArray = ls at hl ⊢
  have hl : lv_has ls 2 [(0, .ref x0), (1, .int i1)] := hl
  refine lv_aload_n hx hb dX10_tear_0 rfl (lv_at hl 0 rfl) ?_
  refine lv_iload_n hx hb dX10_tear_1 rfl (lv_at hl 1 rfl) ?_
  refine puI (cV (As := [.int i1]) (rest := []) ⟨hx, hb, hml, hown, hts⟩ (c_X10_hasSide l D T x0 a0 a2 a15 a16 a17 a18 a19 a20 a21 a22 a23 a24 a25 a26 a27 a36 a37 a38 a130 a131 a132 a141 a144 a150 a151 i1) k_X10_hasSide v_X10_hasSide m756 rfl rfl ⟨(Nat.le_of_ble_eq_true rfl), (Nat.le_of_ble_eq_true rfl)⟩ (preP hC (hP.sub (ws' := [(x0, .inr (10, [.ref a0, .ref a2, .ref a15, .ref a38, .ref a130, .ref a131, .ref a132, .ref a141, .ref a144, .ref a150, .ref a151])), (a15, .inr (3, [.ref a16, .ref a27, .int 0, .int 0, .int 2, .long 0, .int 0, .ref a36, .ref a37])), (a16, .inr (5, [.int 0, .int 0, .int 0, .int 0, .int 0, .int 0, .int 0, .int 0, .int 0, .ref a17, .ref a18, .ref a19, .ref a20, .ref a21, .ref a22, .ref a23, .ref a24, .ref a25, .ref a26]))]) [0, 1, 2] rfl)) (va_recv hK hP (ci := 10) (q0 := 0) rfl rfl) rfl hl.1 rfl (Nat.le_of_ble_eq_true rfl) dX10_tear_2 ⟨(Nat.le_of_ble_eq_true rfl), (Nat.le_of_ble_eq_true rfl)⟩) hS hP (fun r_1 H locs hw hP hS => ?_)
  obtain rfl : r_1 = 0 := hw
  refine lv_if_ne (tgt := 11) hx hb dX10_tear_5 (by decide) (fun c_3 => absurd c_3 (by decide)) (fun _ => ?_)
  refine lv_bipush (v := (-2)) hx hb dX10_tear_8 (by decide) ?_
  exact W.iret (v := (-2)) hx hb hr (fun t ht hW => ⟨⟨(-2), (), rfl, rfl, trivial⟩, hS.F ht⟩) hS.2.2 dX10_tear_10

set_option maxHeartbeats 4000000 in
set_option maxRecDepth 100000 in
theorem c_X10_gale (l : Launch) (D : va_G) (T : Nat → ClassId) (x0 a0 a2 a15 a16 a17 a18 a19 a20 a21 a22 a23 a24 a25 a26 a27 a36 a37 a38 a130 a131 a132 a141 a144 a150 a151 : Nat) (i1 : Int32) : Met l yX10_gale (wM yX10_gale cX10_gale 2 (some .long)) ({ frames := 1, cells := 0, slots := 0, locals := 20 }) (va_Pc [.ref x0, .int i1] (pwP D T [(x0, .inr (10, [.ref a0, .ref a2, .ref a15, .ref a38, .ref a130, .ref a131, .ref a132, .ref a141, .ref a144, .ref a150, .ref a151])), (a15, .inr (3, [.ref a16, .ref a27, .int 0, .int 0, .int 2, .long 0, .int 0, .ref a36, .ref a37])), (a16, .inr (5, [.int 0, .int 0, .int 0, .int 0, .int 0, .int 0, .int 0, .int 0, .int 0, .ref a17, .ref a18, .ref a19, .ref a20, .ref a21, .ref a22, .ref a23, .ref a24, .ref a25, .ref a26]))])) (va_Ql (fun (r : Int64) (u : Unit) => r = (-2)) (fun _ _ => True) (fun _ => False)) 0 0 (fun _ => False) := by
  refine Met.ofW (cc := cX10_gale) (maxL := 2) (ret := (some .long)) (by decide) rfl ?_
  intro p e s m args below meth c s₁ B hml hv
  obtain ⟨rfl, hP, hC⟩ := hv
  have hx := B.exec
  have hb := B.bytes
  have hr := B.returns
  have hts : ∀ w ∈ gt, w.before _ s = true := fun w hw => atoms_spec (ws := (wM yX10_gale cX10_gale 2 (some .long))) B.pre w (List.mem_cons_of_mem _ hw)
  have hown : s.vm.findClass RX10 = some m.cls := findClass_of_methodNamed B.named
  have hlocks := B.notSynchronized
  have hK := hC.1
  have hS : va_S (fun _ => False) s.heap s.heap [] := va_S.rf
  have hl := lv_entry ([.ref x0, .int i1]) (n := 2) (Nat.le_of_ble_eq_true rfl)
  rw [lg_entry_eq]
  generalize (lg_sl ([.ref x0, .int i1]) ++ List.replicate (2 - (lg_sl ([.ref x0, .int i1])).length) Slot.unset).toArray = ls at hl ⊢
  have hl : lv_has ls 2 [(0, .ref x0), (1, .int i1)] := hl
  refine lv_aload_n hx hb dX10_gale_0 rfl (lv_at hl 0 rfl) ?_
  refine puI (cV (As := []) (rest := []) ⟨hx, hb, hml, hown, hts⟩ (c_X10_hasTown l D T x0 a0 a2 a15 a16 a17 a18 a19 a20 a21 a22 a23 a24 a25 a26 a27 a36 a37 a38 a130 a131 a132 a141 a144 a150 a151) k_X10_hasTown v_X10_hasTown m760 rfl rfl ⟨(Nat.le_of_ble_eq_true rfl), (Nat.le_of_ble_eq_true rfl)⟩ (preP hC (hP.sub (ws' := [(x0, .inr (10, [.ref a0, .ref a2, .ref a15, .ref a38, .ref a130, .ref a131, .ref a132, .ref a141, .ref a144, .ref a150, .ref a151])), (a15, .inr (3, [.ref a16, .ref a27, .int 0, .int 0, .int 2, .long 0, .int 0, .ref a36, .ref a37])), (a16, .inr (5, [.int 0, .int 0, .int 0, .int 0, .int 0, .int 0, .int 0, .int 0, .int 0, .ref a17, .ref a18, .ref a19, .ref a20, .ref a21, .ref a22, .ref a23, .ref a24, .ref a25, .ref a26]))]) [0, 1, 2] rfl)) (va_recv hK hP (ci := 10) (q0 := 0) rfl rfl) rfl hl.1 rfl (Nat.le_of_ble_eq_true rfl) dX10_gale_1 ⟨(Nat.le_of_ble_eq_true rfl), (Nat.le_of_ble_eq_true rfl)⟩) hS hP (fun r_1 H locs hw hP hS => ?_)
  obtain rfl : r_1 = 0 := hw
  refine lv_if_eq (tgt := 16) hx hb dX10_gale_4 (by decide) (fun _ => ?_) (fun c_3 => absurd (by decide) c_3)
  refine lv_ldc2 (v := (-2)) hx hb hown (hts _ m1112) dX10_gale_16 ?_
  exact W.lret (v := (-2)) hx hb hr (fun t ht hW => ⟨⟨(-2), (), rfl, rfl, trivial⟩, hS.F ht⟩) hS.2.2 dX10_gale_19

set_option maxHeartbeats 4000000 in
set_option maxRecDepth 100000 in
theorem c_X10_falls (l : Launch) (D : va_G) (T : Nat → ClassId) (x0 a0 a2 a15 a16 a17 a18 a19 a20 a21 a22 a23 a24 a25 a26 a27 a36 a37 a38 a130 a131 a132 a141 a144 a150 a151 : Nat) (i1 : Int32) : Met l yX10_falls (wM yX10_falls cX10_falls 2 (some .long)) ({ frames := 1, cells := 0, slots := 0, locals := 20 }) (va_Pc [.ref x0, .int i1] (pwP D T [(x0, .inr (10, [.ref a0, .ref a2, .ref a15, .ref a38, .ref a130, .ref a131, .ref a132, .ref a141, .ref a144, .ref a150, .ref a151])), (a15, .inr (3, [.ref a16, .ref a27, .int 0, .int 0, .int 2, .long 0, .int 0, .ref a36, .ref a37])), (a16, .inr (5, [.int 0, .int 0, .int 0, .int 0, .int 0, .int 0, .int 0, .int 0, .int 0, .ref a17, .ref a18, .ref a19, .ref a20, .ref a21, .ref a22, .ref a23, .ref a24, .ref a25, .ref a26]))])) (va_Ql (fun (r : Int64) (u : Unit) => r = (-2)) (fun _ _ => True) (fun _ => False)) 0 0 (fun _ => False) := by
  refine Met.ofW (cc := cX10_falls) (maxL := 2) (ret := (some .long)) (by decide) rfl ?_
  intro p e s m args below meth c s₁ B hml hv
  obtain ⟨rfl, hP, hC⟩ := hv
  have hx := B.exec
  have hb := B.bytes
  have hr := B.returns
  have hts : ∀ w ∈ gt, w.before _ s = true := fun w hw => atoms_spec (ws := (wM yX10_falls cX10_falls 2 (some .long))) B.pre w (List.mem_cons_of_mem _ hw)
  have hown : s.vm.findClass RX10 = some m.cls := findClass_of_methodNamed B.named
  have hlocks := B.notSynchronized
  have hK := hC.1
  have hS : va_S (fun _ => False) s.heap s.heap [] := va_S.rf
  have hl := lv_entry ([.ref x0, .int i1]) (n := 2) (Nat.le_of_ble_eq_true rfl)
  rw [lg_entry_eq]
  generalize (lg_sl ([.ref x0, .int i1]) ++ List.replicate (2 - (lg_sl ([.ref x0, .int i1])).length) Slot.unset).toArray = ls at hl ⊢
  have hl : lv_has ls 2 [(0, .ref x0), (1, .int i1)] := hl
  refine lv_aload_n hx hb dX10_falls_0 rfl (lv_at hl 0 rfl) ?_
  refine puI (cV (As := []) (rest := []) ⟨hx, hb, hml, hown, hts⟩ (c_X10_hasTown l D T x0 a0 a2 a15 a16 a17 a18 a19 a20 a21 a22 a23 a24 a25 a26 a27 a36 a37 a38 a130 a131 a132 a141 a144 a150 a151) k_X10_hasTown v_X10_hasTown m760 rfl rfl ⟨(Nat.le_of_ble_eq_true rfl), (Nat.le_of_ble_eq_true rfl)⟩ (preP hC (hP.sub (ws' := [(x0, .inr (10, [.ref a0, .ref a2, .ref a15, .ref a38, .ref a130, .ref a131, .ref a132, .ref a141, .ref a144, .ref a150, .ref a151])), (a15, .inr (3, [.ref a16, .ref a27, .int 0, .int 0, .int 2, .long 0, .int 0, .ref a36, .ref a37])), (a16, .inr (5, [.int 0, .int 0, .int 0, .int 0, .int 0, .int 0, .int 0, .int 0, .int 0, .ref a17, .ref a18, .ref a19, .ref a20, .ref a21, .ref a22, .ref a23, .ref a24, .ref a25, .ref a26]))]) [0, 1, 2] rfl)) (va_recv hK hP (ci := 10) (q0 := 0) rfl rfl) rfl hl.1 rfl (Nat.le_of_ble_eq_true rfl) dX10_falls_1 ⟨(Nat.le_of_ble_eq_true rfl), (Nat.le_of_ble_eq_true rfl)⟩) hS hP (fun r_1 H locs hw hP hS => ?_)
  obtain rfl : r_1 = 0 := hw
  refine lv_if_eq (tgt := 17) hx hb dX10_falls_4 (by decide) (fun _ => ?_) (fun c_3 => absurd (by decide) c_3)
  refine lv_ldc2 (v := (-2)) hx hb hown (hts _ m1112) dX10_falls_17 ?_
  exact W.lret (v := (-2)) hx hb hr (fun t ht hW => ⟨⟨(-2), (), rfl, rfl, trivial⟩, hS.F ht⟩) hS.2.2 dX10_falls_20

set_option maxHeartbeats 4000000 in
set_option maxRecDepth 100000 in
theorem c_X10_power (l : Launch) (D : va_G) (T : Nat → ClassId) (x0 a0 a2 a15 a16 a17 a18 a19 a20 a21 a22 a23 a24 a25 a26 a27 a36 a37 a38 a130 a131 a132 a141 a144 a150 a151 : Nat) (i1 : Int32) : Met l yX10_power (wM yX10_power cX10_power 2 (some .int)) ({ frames := 1, cells := 0, slots := 0, locals := 21 }) (va_Pc [.ref x0, .int i1] (pwP D T [(x0, .inr (10, [.ref a0, .ref a2, .ref a15, .ref a38, .ref a130, .ref a131, .ref a132, .ref a141, .ref a144, .ref a150, .ref a151])), (a15, .inr (3, [.ref a16, .ref a27, .int 0, .int 0, .int 2, .long 0, .int 0, .ref a36, .ref a37])), (a16, .inr (5, [.int 0, .int 0, .int 0, .int 0, .int 0, .int 0, .int 0, .int 0, .int 0, .ref a17, .ref a18, .ref a19, .ref a20, .ref a21, .ref a22, .ref a23, .ref a24, .ref a25, .ref a26]))])) (va_Qi (fun (r : Int32) (u : Unit) => r = (-2)) (fun _ _ => True) (fun _ => False)) 0 0 (fun _ => False) := by
  refine Met.ofW (cc := cX10_power) (maxL := 2) (ret := (some .int)) (by decide) rfl ?_
  intro p e s m args below meth c s₁ B hml hv
  obtain ⟨rfl, hP, hC⟩ := hv
  have hx := B.exec
  have hb := B.bytes
  have hr := B.returns
  have hts : ∀ w ∈ gt, w.before _ s = true := fun w hw => atoms_spec (ws := (wM yX10_power cX10_power 2 (some .int))) B.pre w (List.mem_cons_of_mem _ hw)
  have hown : s.vm.findClass RX10 = some m.cls := findClass_of_methodNamed B.named
  have hlocks := B.notSynchronized
  have hK := hC.1
  have hS : va_S (fun _ => False) s.heap s.heap [] := va_S.rf
  have hl := lv_entry ([.ref x0, .int i1]) (n := 2) (Nat.le_of_ble_eq_true rfl)
  rw [lg_entry_eq]
  generalize (lg_sl ([.ref x0, .int i1]) ++ List.replicate (2 - (lg_sl ([.ref x0, .int i1])).length) Slot.unset).toArray = ls at hl ⊢
  have hl : lv_has ls 2 [(0, .ref x0), (1, .int i1)] := hl
  refine lv_aload_n hx hb dX10_power_0 rfl (lv_at hl 0 rfl) ?_
  refine lv_iload_n hx hb dX10_power_1 rfl (lv_at hl 1 rfl) ?_
  refine puI (cV (As := [.int i1]) (rest := []) ⟨hx, hb, hml, hown, hts⟩ (c_X10_hasVoter l D T x0 a0 a2 a15 a16 a17 a18 a19 a20 a21 a22 a23 a24 a25 a26 a27 a36 a37 a38 a130 a131 a132 a141 a144 a150 a151 i1) k_X10_hasVoter v_X10_hasVoter m882 rfl rfl ⟨(Nat.le_of_ble_eq_true rfl), (Nat.le_of_ble_eq_true rfl)⟩ (preP hC (hP.sub (ws' := [(x0, .inr (10, [.ref a0, .ref a2, .ref a15, .ref a38, .ref a130, .ref a131, .ref a132, .ref a141, .ref a144, .ref a150, .ref a151])), (a15, .inr (3, [.ref a16, .ref a27, .int 0, .int 0, .int 2, .long 0, .int 0, .ref a36, .ref a37])), (a16, .inr (5, [.int 0, .int 0, .int 0, .int 0, .int 0, .int 0, .int 0, .int 0, .int 0, .ref a17, .ref a18, .ref a19, .ref a20, .ref a21, .ref a22, .ref a23, .ref a24, .ref a25, .ref a26]))]) [0, 1, 2] rfl)) (va_recv hK hP (ci := 10) (q0 := 0) rfl rfl) rfl hl.1 rfl (Nat.le_of_ble_eq_true rfl) dX10_power_2 ⟨(Nat.le_of_ble_eq_true rfl), (Nat.le_of_ble_eq_true rfl)⟩) hS hP (fun r_1 H locs hw hP hS => ?_)
  obtain rfl : r_1 = 0 := hw
  refine lv_if_ne (tgt := 11) hx hb dX10_power_5 (by decide) (fun c_3 => absurd c_3 (by decide)) (fun _ => ?_)
  refine lv_bipush (v := (-2)) hx hb dX10_power_8 (by decide) ?_
  exact W.iret (v := (-2)) hx hb hr (fun t ht hW => ⟨⟨(-2), (), rfl, rfl, trivial⟩, hS.F ht⟩) hS.2.2 dX10_power_10

set_option maxHeartbeats 4000000 in
set_option maxRecDepth 100000 in
theorem c_X10_span (l : Launch) (D : va_G) (T : Nat → ClassId) (x0 a0 a2 a15 a16 a27 a36 a37 a38 a130 a131 a132 a141 a144 a150 a151 : Nat) (i1 : Int32) (i2 : Int32) (i3 : Int32) : Met l yX10_span (wM yX10_span cX10_span 5 (some .int)) ({ frames := 1, cells := 0, slots := 0, locals := 21 }) (va_Pc [.ref x0, .int i1, .int i2, .int i3] (pwP D T [(x0, .inr (10, [.ref a0, .ref a2, .ref a15, .ref a38, .ref a130, .ref a131, .ref a132, .ref a141, .ref a144, .ref a150, .ref a151])), (a15, .inr (3, [.ref a16, .ref a27, .int 0, .int 0, .int 2, .long 0, .int 0, .ref a36, .ref a37]))])) (va_Qi (fun (r : Int32) (u : Unit) => r = (-2)) (fun _ _ => True) (fun _ => False)) 0 0 (fun _ => False) := by
  refine Met.ofW (cc := cX10_span) (maxL := 5) (ret := (some .int)) (by decide) rfl ?_
  intro p e s m args below meth c s₁ B hml hv
  obtain ⟨rfl, hP, hC⟩ := hv
  have hx := B.exec
  have hb := B.bytes
  have hr := B.returns
  have hts : ∀ w ∈ gt, w.before _ s = true := fun w hw => atoms_spec (ws := (wM yX10_span cX10_span 5 (some .int))) B.pre w (List.mem_cons_of_mem _ hw)
  have hown : s.vm.findClass RX10 = some m.cls := findClass_of_methodNamed B.named
  have hlocks := B.notSynchronized
  have hK := hC.1
  have hS : va_S (fun _ => False) s.heap s.heap [] := va_S.rf
  have hl := lv_entry ([.ref x0, .int i1, .int i2, .int i3]) (n := 5) (Nat.le_of_ble_eq_true rfl)
  rw [lg_entry_eq]
  generalize (lg_sl ([.ref x0, .int i1, .int i2, .int i3]) ++ List.replicate (5 - (lg_sl ([.ref x0, .int i1, .int i2, .int i3])).length) Slot.unset).toArray = ls at hl ⊢
  have hl : lv_has ls 5 [(0, .ref x0), (1, .int i1), (2, .int i2), (3, .int i3)] := hl
  refine lv_aload_n hx hb dX10_span_0 rfl (lv_at hl 0 rfl) ?_
  refine lv_iload_n hx hb dX10_span_1 rfl (lv_at hl 1 rfl) ?_
  refine puI (cV (As := [.int i1]) (rest := []) ⟨hx, hb, hml, hown, hts⟩ (c_X10_hadElection l D T x0 a0 a2 a15 a16 a27 a36 a37 a38 a130 a131 a132 a141 a144 a150 a151 i1) k_X10_hadElection v_X10_hadElection m946 rfl rfl ⟨(Nat.le_of_ble_eq_true rfl), (Nat.le_of_ble_eq_true rfl)⟩ (preP hC (hP.sub (ws' := [(x0, .inr (10, [.ref a0, .ref a2, .ref a15, .ref a38, .ref a130, .ref a131, .ref a132, .ref a141, .ref a144, .ref a150, .ref a151])), (a15, .inr (3, [.ref a16, .ref a27, .int 0, .int 0, .int 2, .long 0, .int 0, .ref a36, .ref a37]))]) [0, 1] rfl)) (va_recv hK hP (ci := 10) (q0 := 0) rfl rfl) rfl hl.1 rfl (Nat.le_of_ble_eq_true rfl) dX10_span_2 ⟨(Nat.le_of_ble_eq_true rfl), (Nat.le_of_ble_eq_true rfl)⟩) hS hP (fun r_1 H locs hw hP hS => ?_)
  obtain rfl : r_1 = 0 := hw
  refine lv_if_eq (tgt := 25) hx hb dX10_span_5 (by decide) (fun _ => ?_) (fun c_3 => absurd (by decide) c_3)
  refine lv_bipush (v := (-2)) hx hb dX10_span_25 (by decide) ?_
  exact W.iret (v := (-2)) hx hb hr (fun t ht hW => ⟨⟨(-2), (), rfl, rfl, trivial⟩, hS.F ht⟩) hS.2.2 dX10_span_27

set_option maxHeartbeats 4000000 in
set_option maxRecDepth 100000 in
theorem c_X10_oldest (l : Launch) (D : va_G) (T : Nat → ClassId) (x0 a0 a2 a15 a16 a17 a18 a19 a20 a21 a22 a23 a24 a25 a26 a27 a36 a37 a38 a130 a131 a132 a141 a144 a150 a151 : Nat) (i1 : Int32) : Met l yX10_oldest (wM yX10_oldest cX10_oldest 2 (some .int)) ({ frames := 2, cells := 0, slots := 0, locals := 41 }) (va_Pc [.ref x0, .int i1] (pwP D T [(x0, .inr (10, [.ref a0, .ref a2, .ref a15, .ref a38, .ref a130, .ref a131, .ref a132, .ref a141, .ref a144, .ref a150, .ref a151])), (a15, .inr (3, [.ref a16, .ref a27, .int 0, .int 0, .int 2, .long 0, .int 0, .ref a36, .ref a37])), (a16, .inr (5, [.int 0, .int 0, .int 0, .int 0, .int 0, .int 0, .int 0, .int 0, .int 0, .ref a17, .ref a18, .ref a19, .ref a20, .ref a21, .ref a22, .ref a23, .ref a24, .ref a25, .ref a26]))])) (va_Qi (fun (r : Int32) (u : Unit) => r = (-2)) (fun _ _ => True) (fun _ => False)) 0 0 (fun _ => False) := by
  refine Met.ofW (cc := cX10_oldest) (maxL := 2) (ret := (some .int)) (by decide) rfl ?_
  intro p e s m args below meth c s₁ B hml hv
  obtain ⟨rfl, hP, hC⟩ := hv
  have hx := B.exec
  have hb := B.bytes
  have hr := B.returns
  have hts : ∀ w ∈ gt, w.before _ s = true := fun w hw => atoms_spec (ws := (wM yX10_oldest cX10_oldest 2 (some .int))) B.pre w (List.mem_cons_of_mem _ hw)
  have hown : s.vm.findClass RX10 = some m.cls := findClass_of_methodNamed B.named
  have hlocks := B.notSynchronized
  have hK := hC.1
  have hS : va_S (fun _ => False) s.heap s.heap [] := va_S.rf
  have hl := lv_entry ([.ref x0, .int i1]) (n := 2) (Nat.le_of_ble_eq_true rfl)
  rw [lg_entry_eq]
  generalize (lg_sl ([.ref x0, .int i1]) ++ List.replicate (2 - (lg_sl ([.ref x0, .int i1])).length) Slot.unset).toArray = ls at hl ⊢
  have hl : lv_has ls 2 [(0, .ref x0), (1, .int i1)] := hl
  refine lv_aload_n hx hb dX10_oldest_0 rfl (lv_at hl 0 rfl) ?_
  refine lv_iload_n hx hb dX10_oldest_1 rfl (lv_at hl 1 rfl) ?_
  refine puI (cV (As := [.int i1]) (rest := []) ⟨hx, hb, hml, hown, hts⟩ (c_X10_hasSide l D T x0 a0 a2 a15 a16 a17 a18 a19 a20 a21 a22 a23 a24 a25 a26 a27 a36 a37 a38 a130 a131 a132 a141 a144 a150 a151 i1) k_X10_hasSide v_X10_hasSide m756 rfl rfl ⟨(Nat.le_of_ble_eq_true rfl), (Nat.le_of_ble_eq_true rfl)⟩ (preP hC (hP.sub (ws' := [(x0, .inr (10, [.ref a0, .ref a2, .ref a15, .ref a38, .ref a130, .ref a131, .ref a132, .ref a141, .ref a144, .ref a150, .ref a151])), (a15, .inr (3, [.ref a16, .ref a27, .int 0, .int 0, .int 2, .long 0, .int 0, .ref a36, .ref a37])), (a16, .inr (5, [.int 0, .int 0, .int 0, .int 0, .int 0, .int 0, .int 0, .int 0, .int 0, .ref a17, .ref a18, .ref a19, .ref a20, .ref a21, .ref a22, .ref a23, .ref a24, .ref a25, .ref a26]))]) [0, 1, 2] rfl)) (va_recv hK hP (ci := 10) (q0 := 0) rfl rfl) rfl hl.1 rfl (Nat.le_of_ble_eq_true rfl) dX10_oldest_2 ⟨(Nat.le_of_ble_eq_true rfl), (Nat.le_of_ble_eq_true rfl)⟩) hS hP (fun r_1 H locs hw hP hS => ?_)
  obtain rfl : r_1 = 0 := hw
  refine lv_if_eq (tgt := 22) hx hb dX10_oldest_5 (by decide) (fun _ => ?_) (fun c_3 => absurd (by decide) c_3)
  refine lv_bipush (v := (-2)) hx hb dX10_oldest_22 (by decide) ?_
  exact W.iret (v := (-2)) hx hb hr (fun t ht hW => ⟨⟨(-2), (), rfl, rfl, trivial⟩, hS.F ht⟩) hS.2.2 dX10_oldest_24

set_option maxHeartbeats 4000000 in
set_option maxRecDepth 100000 in
theorem c_X10_course (l : Launch) (D : va_G) (T : Nat → ClassId) (x0 a0 a2 a15 a16 a17 a18 a19 a20 a21 a22 a23 a24 a25 a26 a27 a36 a37 a38 a130 a131 a132 a141 a144 a150 a151 : Nat) (i1 : Int32) (i2 : Int32) : Met l yX10_course (wM yX10_course cX10_course 5 (some .int)) ({ frames := 2, cells := 0, slots := 0, locals := 41 }) (va_Pc [.ref x0, .int i1, .int i2] (pwP D T [(x0, .inr (10, [.ref a0, .ref a2, .ref a15, .ref a38, .ref a130, .ref a131, .ref a132, .ref a141, .ref a144, .ref a150, .ref a151])), (a15, .inr (3, [.ref a16, .ref a27, .int 0, .int 0, .int 2, .long 0, .int 0, .ref a36, .ref a37])), (a16, .inr (5, [.int 0, .int 0, .int 0, .int 0, .int 0, .int 0, .int 0, .int 0, .int 0, .ref a17, .ref a18, .ref a19, .ref a20, .ref a21, .ref a22, .ref a23, .ref a24, .ref a25, .ref a26]))])) (va_Qi (fun (r : Int32) (u : Unit) => r = (-2)) (fun _ _ => True) (fun _ => False)) 0 0 (fun _ => False) := by
  refine Met.ofW (cc := cX10_course) (maxL := 5) (ret := (some .int)) (by decide) rfl ?_
  intro p e s m args below meth c s₁ B hml hv
  obtain ⟨rfl, hP, hC⟩ := hv
  have hx := B.exec
  have hb := B.bytes
  have hr := B.returns
  have hts : ∀ w ∈ gt, w.before _ s = true := fun w hw => atoms_spec (ws := (wM yX10_course cX10_course 5 (some .int))) B.pre w (List.mem_cons_of_mem _ hw)
  have hown : s.vm.findClass RX10 = some m.cls := findClass_of_methodNamed B.named
  have hlocks := B.notSynchronized
  have hK := hC.1
  have hS : va_S (fun _ => False) s.heap s.heap [] := va_S.rf
  have hl := lv_entry ([.ref x0, .int i1, .int i2]) (n := 5) (Nat.le_of_ble_eq_true rfl)
  rw [lg_entry_eq]
  generalize (lg_sl ([.ref x0, .int i1, .int i2]) ++ List.replicate (5 - (lg_sl ([.ref x0, .int i1, .int i2])).length) Slot.unset).toArray = ls at hl ⊢
  have hl : lv_has ls 5 [(0, .ref x0), (1, .int i1), (2, .int i2)] := hl
  refine lv_aload_n hx hb dX10_course_0 rfl (lv_at hl 0 rfl) ?_
  refine lv_iload_n hx hb dX10_course_1 rfl (lv_at hl 1 rfl) ?_
  refine puI (cV (As := [.int i1]) (rest := []) ⟨hx, hb, hml, hown, hts⟩ (c_X10_hasSide l D T x0 a0 a2 a15 a16 a17 a18 a19 a20 a21 a22 a23 a24 a25 a26 a27 a36 a37 a38 a130 a131 a132 a141 a144 a150 a151 i1) k_X10_hasSide v_X10_hasSide m756 rfl rfl ⟨(Nat.le_of_ble_eq_true rfl), (Nat.le_of_ble_eq_true rfl)⟩ (preP hC (hP.sub (ws' := [(x0, .inr (10, [.ref a0, .ref a2, .ref a15, .ref a38, .ref a130, .ref a131, .ref a132, .ref a141, .ref a144, .ref a150, .ref a151])), (a15, .inr (3, [.ref a16, .ref a27, .int 0, .int 0, .int 2, .long 0, .int 0, .ref a36, .ref a37])), (a16, .inr (5, [.int 0, .int 0, .int 0, .int 0, .int 0, .int 0, .int 0, .int 0, .int 0, .ref a17, .ref a18, .ref a19, .ref a20, .ref a21, .ref a22, .ref a23, .ref a24, .ref a25, .ref a26]))]) [0, 1, 2] rfl)) (va_recv hK hP (ci := 10) (q0 := 0) rfl rfl) rfl hl.1 rfl (Nat.le_of_ble_eq_true rfl) dX10_course_2 ⟨(Nat.le_of_ble_eq_true rfl), (Nat.le_of_ble_eq_true rfl)⟩) hS hP (fun r_1 H locs hw hP hS => ?_)
  obtain rfl : r_1 = 0 := hw
  refine lv_if_eq (tgt := 19) hx hb dX10_course_5 (by decide) (fun _ => ?_) (fun c_3 => absurd (by decide) c_3)
  refine lv_bipush (v := (-2)) hx hb dX10_course_19 (by decide) ?_
  exact W.iret (v := (-2)) hx hb hr (fun t ht hW => ⟨⟨(-2), (), rfl, rfl, trivial⟩, hS.F ht⟩) hS.2.2 dX10_course_21

set_option maxHeartbeats 4000000 in
set_option maxRecDepth 100000 in
theorem c_X10_rise (l : Launch) (D : va_G) (T : Nat → ClassId) (x0 a0 a2 a15 a16 a17 a18 a19 a20 a21 a22 a23 a24 a25 a26 a27 a36 a37 a38 a130 a131 a132 a141 a144 a150 a151 : Nat) (i1 : Int32) (i2 : Int32) (i3 : Int32) : Met l yX10_rise (wM yX10_rise cX10_rise 5 (some .int)) ({ frames := 3, cells := 0, slots := 0, locals := 63 }) (va_Pc [.ref x0, .int i1, .int i2, .int i3] (pwP D T [(x0, .inr (10, [.ref a0, .ref a2, .ref a15, .ref a38, .ref a130, .ref a131, .ref a132, .ref a141, .ref a144, .ref a150, .ref a151])), (a15, .inr (3, [.ref a16, .ref a27, .int 0, .int 0, .int 2, .long 0, .int 0, .ref a36, .ref a37])), (a16, .inr (5, [.int 0, .int 0, .int 0, .int 0, .int 0, .int 0, .int 0, .int 0, .int 0, .ref a17, .ref a18, .ref a19, .ref a20, .ref a21, .ref a22, .ref a23, .ref a24, .ref a25, .ref a26]))])) (va_Qi (fun (r : Int32) (u : Unit) => r = (-2)) (fun _ _ => True) (fun _ => False)) 0 0 (fun _ => False) := by
  refine Met.ofW (cc := cX10_rise) (maxL := 5) (ret := (some .int)) (by decide) rfl ?_
  intro p e s m args below meth c s₁ B hml hv
  obtain ⟨rfl, hP, hC⟩ := hv
  have hx := B.exec
  have hb := B.bytes
  have hr := B.returns
  have hts : ∀ w ∈ gt, w.before _ s = true := fun w hw => atoms_spec (ws := (wM yX10_rise cX10_rise 5 (some .int))) B.pre w (List.mem_cons_of_mem _ hw)
  have hown : s.vm.findClass RX10 = some m.cls := findClass_of_methodNamed B.named
  have hlocks := B.notSynchronized
  have hK := hC.1
  have hS : va_S (fun _ => False) s.heap s.heap [] := va_S.rf
  have hl := lv_entry ([.ref x0, .int i1, .int i2, .int i3]) (n := 5) (Nat.le_of_ble_eq_true rfl)
  rw [lg_entry_eq]
  generalize (lg_sl ([.ref x0, .int i1, .int i2, .int i3]) ++ List.replicate (5 - (lg_sl ([.ref x0, .int i1, .int i2, .int i3])).length) Slot.unset).toArray = ls at hl ⊢
  have hl : lv_has ls 5 [(0, .ref x0), (1, .int i1), (2, .int i2), (3, .int i3)] := hl
  refine lv_aload_n hx hb dX10_rise_0 rfl (lv_at hl 0 rfl) ?_
  refine lv_iload_n hx hb dX10_rise_1 rfl (lv_at hl 1 rfl) ?_
  refine lv_iload_n hx hb dX10_rise_2 rfl (lv_at hl 2 rfl) ?_
  refine puI (cV (As := [.int i1, .int i2]) (rest := []) ⟨hx, hb, hml, hown, hts⟩ (c_X10_hasColumn l D T x0 a0 a2 a15 a16 a17 a18 a19 a20 a21 a22 a23 a24 a25 a26 a27 a36 a37 a38 a130 a131 a132 a141 a144 a150 a151 i1 i2) k_X10_hasColumn v_X10_hasColumn m752 rfl rfl ⟨(Nat.le_of_ble_eq_true rfl), (Nat.le_of_ble_eq_true rfl)⟩ (preP hC (hP.sub (ws' := [(x0, .inr (10, [.ref a0, .ref a2, .ref a15, .ref a38, .ref a130, .ref a131, .ref a132, .ref a141, .ref a144, .ref a150, .ref a151])), (a15, .inr (3, [.ref a16, .ref a27, .int 0, .int 0, .int 2, .long 0, .int 0, .ref a36, .ref a37])), (a16, .inr (5, [.int 0, .int 0, .int 0, .int 0, .int 0, .int 0, .int 0, .int 0, .int 0, .ref a17, .ref a18, .ref a19, .ref a20, .ref a21, .ref a22, .ref a23, .ref a24, .ref a25, .ref a26]))]) [0, 1, 2] rfl)) (va_recv hK hP (ci := 10) (q0 := 0) rfl rfl) rfl hl.1 rfl (Nat.le_of_ble_eq_true rfl) dX10_rise_3 ⟨(Nat.le_of_ble_eq_true rfl), (Nat.le_of_ble_eq_true rfl)⟩) hS hP (fun r_1 H locs hw hP hS => ?_)
  obtain rfl : r_1 = 0 := hw
  refine lv_if_eq (tgt := 19) hx hb dX10_rise_6 (by decide) (fun _ => ?_) (fun c_3 => absurd (by decide) c_3)
  refine lv_bipush (v := (-2)) hx hb dX10_rise_19 (by decide) ?_
  exact W.iret (v := (-2)) hx hb hr (fun t ht hW => ⟨⟨(-2), (), rfl, rfl, trivial⟩, hS.F ht⟩) hS.2.2 dX10_rise_21

set_option maxHeartbeats 4000000 in
set_option maxRecDepth 100000 in
theorem c_X10_mean (l : Launch) (D : va_G) (T : Nat → ClassId) (x0 a0 a2 a15 a16 a17 a18 a19 a20 a21 a22 a23 a24 a25 a26 a27 a36 a37 a38 a130 a131 a132 a141 a144 a150 a151 : Nat) (i1 : Int32) : Met l yX10_mean (wM yX10_mean cX10_mean 2 (some .long)) ({ frames := 2, cells := 0, slots := 0, locals := 41 }) (va_Pc [.ref x0, .int i1] (pwP D T [(x0, .inr (10, [.ref a0, .ref a2, .ref a15, .ref a38, .ref a130, .ref a131, .ref a132, .ref a141, .ref a144, .ref a150, .ref a151])), (a15, .inr (3, [.ref a16, .ref a27, .int 0, .int 0, .int 2, .long 0, .int 0, .ref a36, .ref a37])), (a16, .inr (5, [.int 0, .int 0, .int 0, .int 0, .int 0, .int 0, .int 0, .int 0, .int 0, .ref a17, .ref a18, .ref a19, .ref a20, .ref a21, .ref a22, .ref a23, .ref a24, .ref a25, .ref a26]))])) (va_Ql (fun (r : Int64) (u : Unit) => r = (-2)) (fun _ _ => True) (fun _ => False)) 0 0 (fun _ => False) := by
  refine Met.ofW (cc := cX10_mean) (maxL := 2) (ret := (some .long)) (by decide) rfl ?_
  intro p e s m args below meth c s₁ B hml hv
  obtain ⟨rfl, hP, hC⟩ := hv
  have hx := B.exec
  have hb := B.bytes
  have hr := B.returns
  have hts : ∀ w ∈ gt, w.before _ s = true := fun w hw => atoms_spec (ws := (wM yX10_mean cX10_mean 2 (some .long))) B.pre w (List.mem_cons_of_mem _ hw)
  have hown : s.vm.findClass RX10 = some m.cls := findClass_of_methodNamed B.named
  have hlocks := B.notSynchronized
  have hK := hC.1
  have hS : va_S (fun _ => False) s.heap s.heap [] := va_S.rf
  have hl := lv_entry ([.ref x0, .int i1]) (n := 2) (Nat.le_of_ble_eq_true rfl)
  rw [lg_entry_eq]
  generalize (lg_sl ([.ref x0, .int i1]) ++ List.replicate (2 - (lg_sl ([.ref x0, .int i1])).length) Slot.unset).toArray = ls at hl ⊢
  have hl : lv_has ls 2 [(0, .ref x0), (1, .int i1)] := hl
  refine lv_aload_n hx hb dX10_mean_0 rfl (lv_at hl 0 rfl) ?_
  refine lv_iload_n hx hb dX10_mean_1 rfl (lv_at hl 1 rfl) ?_
  refine puI (cV (As := [.int i1]) (rest := []) ⟨hx, hb, hml, hown, hts⟩ (c_X10_hasSide l D T x0 a0 a2 a15 a16 a17 a18 a19 a20 a21 a22 a23 a24 a25 a26 a27 a36 a37 a38 a130 a131 a132 a141 a144 a150 a151 i1) k_X10_hasSide v_X10_hasSide m756 rfl rfl ⟨(Nat.le_of_ble_eq_true rfl), (Nat.le_of_ble_eq_true rfl)⟩ (preP hC (hP.sub (ws' := [(x0, .inr (10, [.ref a0, .ref a2, .ref a15, .ref a38, .ref a130, .ref a131, .ref a132, .ref a141, .ref a144, .ref a150, .ref a151])), (a15, .inr (3, [.ref a16, .ref a27, .int 0, .int 0, .int 2, .long 0, .int 0, .ref a36, .ref a37])), (a16, .inr (5, [.int 0, .int 0, .int 0, .int 0, .int 0, .int 0, .int 0, .int 0, .int 0, .ref a17, .ref a18, .ref a19, .ref a20, .ref a21, .ref a22, .ref a23, .ref a24, .ref a25, .ref a26]))]) [0, 1, 2] rfl)) (va_recv hK hP (ci := 10) (q0 := 0) rfl rfl) rfl hl.1 rfl (Nat.le_of_ble_eq_true rfl) dX10_mean_2 ⟨(Nat.le_of_ble_eq_true rfl), (Nat.le_of_ble_eq_true rfl)⟩) hS hP (fun r_1 H locs hw hP hS => ?_)
  obtain rfl : r_1 = 0 := hw
  refine lv_if_ne (tgt := 12) hx hb dX10_mean_5 (by decide) (fun c_3 => absurd c_3 (by decide)) (fun _ => ?_)
  refine lv_ldc2 (v := (-2)) hx hb hown (hts _ m1112) dX10_mean_8 ?_
  exact W.lret (v := (-2)) hx hb hr (fun t ht hW => ⟨⟨(-2), (), rfl, rfl, trivial⟩, hS.F ht⟩) hS.2.2 dX10_mean_11

set_option maxHeartbeats 4000000 in
set_option maxRecDepth 100000 in
theorem c_X10_storm (l : Launch) (D : va_G) (T : Nat → ClassId) (x0 a0 a2 a15 a16 a17 a18 a19 a20 a21 a22 a23 a24 a25 a26 a27 a36 a37 a38 a130 a131 a132 a141 a144 a150 a151 : Nat) (i1 : Int32) : Met l yX10_storm (wM yX10_storm cX10_storm 2 (some .int)) ({ frames := 1, cells := 0, slots := 0, locals := 20 }) (va_Pc [.ref x0, .int i1] (pwP D T [(x0, .inr (10, [.ref a0, .ref a2, .ref a15, .ref a38, .ref a130, .ref a131, .ref a132, .ref a141, .ref a144, .ref a150, .ref a151])), (a15, .inr (3, [.ref a16, .ref a27, .int 0, .int 0, .int 2, .long 0, .int 0, .ref a36, .ref a37])), (a16, .inr (5, [.int 0, .int 0, .int 0, .int 0, .int 0, .int 0, .int 0, .int 0, .int 0, .ref a17, .ref a18, .ref a19, .ref a20, .ref a21, .ref a22, .ref a23, .ref a24, .ref a25, .ref a26]))])) (va_Qi (fun (r : Int32) (u : Unit) => r = (-2)) (fun _ _ => True) (fun _ => False)) 0 0 (fun _ => False) := by
  refine Met.ofW (cc := cX10_storm) (maxL := 2) (ret := (some .int)) (by decide) rfl ?_
  intro p e s m args below meth c s₁ B hml hv
  obtain ⟨rfl, hP, hC⟩ := hv
  have hx := B.exec
  have hb := B.bytes
  have hr := B.returns
  have hts : ∀ w ∈ gt, w.before _ s = true := fun w hw => atoms_spec (ws := (wM yX10_storm cX10_storm 2 (some .int))) B.pre w (List.mem_cons_of_mem _ hw)
  have hown : s.vm.findClass RX10 = some m.cls := findClass_of_methodNamed B.named
  have hlocks := B.notSynchronized
  have hK := hC.1
  have hS : va_S (fun _ => False) s.heap s.heap [] := va_S.rf
  have hl := lv_entry ([.ref x0, .int i1]) (n := 2) (Nat.le_of_ble_eq_true rfl)
  rw [lg_entry_eq]
  generalize (lg_sl ([.ref x0, .int i1]) ++ List.replicate (2 - (lg_sl ([.ref x0, .int i1])).length) Slot.unset).toArray = ls at hl ⊢
  have hl : lv_has ls 2 [(0, .ref x0), (1, .int i1)] := hl
  refine lv_aload_n hx hb dX10_storm_0 rfl (lv_at hl 0 rfl) ?_
  refine puI (cV (As := []) (rest := []) ⟨hx, hb, hml, hown, hts⟩ (c_X10_hasTown l D T x0 a0 a2 a15 a16 a17 a18 a19 a20 a21 a22 a23 a24 a25 a26 a27 a36 a37 a38 a130 a131 a132 a141 a144 a150 a151) k_X10_hasTown v_X10_hasTown m760 rfl rfl ⟨(Nat.le_of_ble_eq_true rfl), (Nat.le_of_ble_eq_true rfl)⟩ (preP hC (hP.sub (ws' := [(x0, .inr (10, [.ref a0, .ref a2, .ref a15, .ref a38, .ref a130, .ref a131, .ref a132, .ref a141, .ref a144, .ref a150, .ref a151])), (a15, .inr (3, [.ref a16, .ref a27, .int 0, .int 0, .int 2, .long 0, .int 0, .ref a36, .ref a37])), (a16, .inr (5, [.int 0, .int 0, .int 0, .int 0, .int 0, .int 0, .int 0, .int 0, .int 0, .ref a17, .ref a18, .ref a19, .ref a20, .ref a21, .ref a22, .ref a23, .ref a24, .ref a25, .ref a26]))]) [0, 1, 2] rfl)) (va_recv hK hP (ci := 10) (q0 := 0) rfl rfl) rfl hl.1 rfl (Nat.le_of_ble_eq_true rfl) dX10_storm_1 ⟨(Nat.le_of_ble_eq_true rfl), (Nat.le_of_ble_eq_true rfl)⟩) hS hP (fun r_1 H locs hw hP hS => ?_)
  obtain rfl : r_1 = 0 := hw
  refine lv_if_eq (tgt := 14) hx hb dX10_storm_4 (by decide) (fun _ => ?_) (fun c_3 => absurd (by decide) c_3)
  refine lv_bipush (v := (-2)) hx hb dX10_storm_14 (by decide) ?_
  exact W.iret (v := (-2)) hx hb hr (fun t ht hW => ⟨⟨(-2), (), rfl, rfl, trivial⟩, hS.F ht⟩) hS.2.2 dX10_storm_16

set_option maxHeartbeats 4000000 in
set_option maxRecDepth 100000 in
theorem c_X10_run (l : Launch) (D : va_G) (T : Nat → ClassId) (x0 a0 a2 a15 a16 a17 a18 a19 a20 a21 a22 a23 a24 a25 a26 a27 a36 a37 a38 a130 a131 a132 a141 a144 a150 a151 : Nat) (i1 : Int32) (i2 : Int32) : Met l yX10_run (wM yX10_run cX10_run 3 (some .int)) ({ frames := 1, cells := 0, slots := 0, locals := 20 }) (va_Pc [.ref x0, .int i1, .int i2] (pwP D T [(x0, .inr (10, [.ref a0, .ref a2, .ref a15, .ref a38, .ref a130, .ref a131, .ref a132, .ref a141, .ref a144, .ref a150, .ref a151])), (a15, .inr (3, [.ref a16, .ref a27, .int 0, .int 0, .int 2, .long 0, .int 0, .ref a36, .ref a37])), (a16, .inr (5, [.int 0, .int 0, .int 0, .int 0, .int 0, .int 0, .int 0, .int 0, .int 0, .ref a17, .ref a18, .ref a19, .ref a20, .ref a21, .ref a22, .ref a23, .ref a24, .ref a25, .ref a26]))])) (va_Qi (fun (r : Int32) (u : Unit) => r = (-2)) (fun _ _ => True) (fun _ => False)) 0 0 (fun _ => False) := by
  refine Met.ofW (cc := cX10_run) (maxL := 3) (ret := (some .int)) (by decide) rfl ?_
  intro p e s m args below meth c s₁ B hml hv
  obtain ⟨rfl, hP, hC⟩ := hv
  have hx := B.exec
  have hb := B.bytes
  have hr := B.returns
  have hts : ∀ w ∈ gt, w.before _ s = true := fun w hw => atoms_spec (ws := (wM yX10_run cX10_run 3 (some .int))) B.pre w (List.mem_cons_of_mem _ hw)
  have hown : s.vm.findClass RX10 = some m.cls := findClass_of_methodNamed B.named
  have hlocks := B.notSynchronized
  have hK := hC.1
  have hS : va_S (fun _ => False) s.heap s.heap [] := va_S.rf
  have hl := lv_entry ([.ref x0, .int i1, .int i2]) (n := 3) (Nat.le_of_ble_eq_true rfl)
  rw [lg_entry_eq]
  generalize (lg_sl ([.ref x0, .int i1, .int i2]) ++ List.replicate (3 - (lg_sl ([.ref x0, .int i1, .int i2])).length) Slot.unset).toArray = ls at hl ⊢
  have hl : lv_has ls 3 [(0, .ref x0), (1, .int i1), (2, .int i2)] := hl
  refine lv_aload_n hx hb dX10_run_0 rfl (lv_at hl 0 rfl) ?_
  refine puI (cV (As := []) (rest := []) ⟨hx, hb, hml, hown, hts⟩ (c_X10_hasTown l D T x0 a0 a2 a15 a16 a17 a18 a19 a20 a21 a22 a23 a24 a25 a26 a27 a36 a37 a38 a130 a131 a132 a141 a144 a150 a151) k_X10_hasTown v_X10_hasTown m760 rfl rfl ⟨(Nat.le_of_ble_eq_true rfl), (Nat.le_of_ble_eq_true rfl)⟩ (preP hC (hP.sub (ws' := [(x0, .inr (10, [.ref a0, .ref a2, .ref a15, .ref a38, .ref a130, .ref a131, .ref a132, .ref a141, .ref a144, .ref a150, .ref a151])), (a15, .inr (3, [.ref a16, .ref a27, .int 0, .int 0, .int 2, .long 0, .int 0, .ref a36, .ref a37])), (a16, .inr (5, [.int 0, .int 0, .int 0, .int 0, .int 0, .int 0, .int 0, .int 0, .int 0, .ref a17, .ref a18, .ref a19, .ref a20, .ref a21, .ref a22, .ref a23, .ref a24, .ref a25, .ref a26]))]) [0, 1, 2] rfl)) (va_recv hK hP (ci := 10) (q0 := 0) rfl rfl) rfl hl.1 rfl (Nat.le_of_ble_eq_true rfl) dX10_run_1 ⟨(Nat.le_of_ble_eq_true rfl), (Nat.le_of_ble_eq_true rfl)⟩) hS hP (fun r_1 H locs hw hP hS => ?_)
  obtain rfl : r_1 = 0 := hw
  refine lv_if_eq (tgt := 25) hx hb dX10_run_4 (by decide) (fun _ => ?_) (fun c_3 => absurd (by decide) c_3)
  refine lv_bipush (v := (-2)) hx hb dX10_run_25 (by decide) ?_
  exact W.iret (v := (-2)) hx hb hr (fun t ht hW => ⟨⟨(-2), (), rfl, rfl, trivial⟩, hS.F ht⟩) hS.2.2 dX10_run_27

set_option maxHeartbeats 4000000 in
set_option maxRecDepth 100000 in
theorem c_X10_runs (l : Launch) (D : va_G) (T : Nat → ClassId) (x0 a0 a2 a15 a16 a17 a18 a19 a20 a21 a22 a23 a24 a25 a26 a27 a36 a37 a38 a130 a131 a132 a141 a144 a150 a151 : Nat) (i1 : Int32) (i2 : Int32) (i3 : Int32) (i4 : Int32) : Met l yX10_runs (wM yX10_runs cX10_runs 7 (some .int)) ({ frames := 1, cells := 0, slots := 0, locals := 20 }) (va_Pc [.ref x0, .int i1, .int i2, .int i3, .int i4] (pwP D T [(x0, .inr (10, [.ref a0, .ref a2, .ref a15, .ref a38, .ref a130, .ref a131, .ref a132, .ref a141, .ref a144, .ref a150, .ref a151])), (a15, .inr (3, [.ref a16, .ref a27, .int 0, .int 0, .int 2, .long 0, .int 0, .ref a36, .ref a37])), (a16, .inr (5, [.int 0, .int 0, .int 0, .int 0, .int 0, .int 0, .int 0, .int 0, .int 0, .ref a17, .ref a18, .ref a19, .ref a20, .ref a21, .ref a22, .ref a23, .ref a24, .ref a25, .ref a26]))])) (va_Qi (fun (r : Int32) (u : Unit) => r = (-2)) (fun _ _ => True) (fun _ => False)) 0 0 (fun _ => False) := by
  refine Met.ofW (cc := cX10_runs) (maxL := 7) (ret := (some .int)) (by decide) rfl ?_
  intro p e s m args below meth c s₁ B hml hv
  obtain ⟨rfl, hP, hC⟩ := hv
  have hx := B.exec
  have hb := B.bytes
  have hr := B.returns
  have hts : ∀ w ∈ gt, w.before _ s = true := fun w hw => atoms_spec (ws := (wM yX10_runs cX10_runs 7 (some .int))) B.pre w (List.mem_cons_of_mem _ hw)
  have hown : s.vm.findClass RX10 = some m.cls := findClass_of_methodNamed B.named
  have hlocks := B.notSynchronized
  have hK := hC.1
  have hS : va_S (fun _ => False) s.heap s.heap [] := va_S.rf
  have hl := lv_entry ([.ref x0, .int i1, .int i2, .int i3, .int i4]) (n := 7) (Nat.le_of_ble_eq_true rfl)
  rw [lg_entry_eq]
  generalize (lg_sl ([.ref x0, .int i1, .int i2, .int i3, .int i4]) ++ List.replicate (7 - (lg_sl ([.ref x0, .int i1, .int i2, .int i3, .int i4])).length) Slot.unset).toArray = ls at hl ⊢
  have hl : lv_has ls 7 [(0, .ref x0), (1, .int i1), (2, .int i2), (3, .int i3), (4, .int i4)] := hl
  refine lv_aload_n hx hb dX10_runs_0 rfl (lv_at hl 0 rfl) ?_
  refine puI (cV (As := []) (rest := []) ⟨hx, hb, hml, hown, hts⟩ (c_X10_hasTown l D T x0 a0 a2 a15 a16 a17 a18 a19 a20 a21 a22 a23 a24 a25 a26 a27 a36 a37 a38 a130 a131 a132 a141 a144 a150 a151) k_X10_hasTown v_X10_hasTown m760 rfl rfl ⟨(Nat.le_of_ble_eq_true rfl), (Nat.le_of_ble_eq_true rfl)⟩ (preP hC (hP.sub (ws' := [(x0, .inr (10, [.ref a0, .ref a2, .ref a15, .ref a38, .ref a130, .ref a131, .ref a132, .ref a141, .ref a144, .ref a150, .ref a151])), (a15, .inr (3, [.ref a16, .ref a27, .int 0, .int 0, .int 2, .long 0, .int 0, .ref a36, .ref a37])), (a16, .inr (5, [.int 0, .int 0, .int 0, .int 0, .int 0, .int 0, .int 0, .int 0, .int 0, .ref a17, .ref a18, .ref a19, .ref a20, .ref a21, .ref a22, .ref a23, .ref a24, .ref a25, .ref a26]))]) [0, 1, 2] rfl)) (va_recv hK hP (ci := 10) (q0 := 0) rfl rfl) rfl hl.1 rfl (Nat.le_of_ble_eq_true rfl) dX10_runs_1 ⟨(Nat.le_of_ble_eq_true rfl), (Nat.le_of_ble_eq_true rfl)⟩) hS hP (fun r_1 H locs hw hP hS => ?_)
  obtain rfl : r_1 = 0 := hw
  refine lv_if_eq (tgt := 36) hx hb dX10_runs_4 (by decide) (fun _ => ?_) (fun c_3 => absurd (by decide) c_3)
  refine lv_bipush (v := (-2)) hx hb dX10_runs_36 (by decide) ?_
  exact W.iret (v := (-2)) hx hb hr (fun t ht hW => ⟨⟨(-2), (), rfl, rfl, trivial⟩, hS.F ht⟩) hS.2.2 dX10_runs_38

set_option maxHeartbeats 4000000 in
set_option maxRecDepth 100000 in
theorem c_X10_rule (l : Launch) (D : va_G) (T : Nat → ClassId) (x0 a0 a2 a15 a16 a17 a18 a19 a20 a21 a22 a23 a24 a25 a26 a27 a36 a37 a38 a130 a131 a132 a141 a144 a150 a151 : Nat) (i1 : Int32) : Met l yX10_rule (wM yX10_rule cX10_rule 3 (some .int)) ({ frames := 1, cells := 0, slots := 0, locals := 20 }) (va_Pc [.ref x0, .int i1] (pwP D T [(x0, .inr (10, [.ref a0, .ref a2, .ref a15, .ref a38, .ref a130, .ref a131, .ref a132, .ref a141, .ref a144, .ref a150, .ref a151])), (a15, .inr (3, [.ref a16, .ref a27, .int 0, .int 0, .int 2, .long 0, .int 0, .ref a36, .ref a37])), (a16, .inr (5, [.int 0, .int 0, .int 0, .int 0, .int 0, .int 0, .int 0, .int 0, .int 0, .ref a17, .ref a18, .ref a19, .ref a20, .ref a21, .ref a22, .ref a23, .ref a24, .ref a25, .ref a26]))])) (va_Qi (fun (r : Int32) (u : Unit) => r = (-2)) (fun _ _ => True) (fun _ => False)) 0 0 (fun _ => False) := by
  refine Met.ofW (cc := cX10_rule) (maxL := 3) (ret := (some .int)) (by decide) rfl ?_
  intro p e s m args below meth c s₁ B hml hv
  obtain ⟨rfl, hP, hC⟩ := hv
  have hx := B.exec
  have hb := B.bytes
  have hr := B.returns
  have hts : ∀ w ∈ gt, w.before _ s = true := fun w hw => atoms_spec (ws := (wM yX10_rule cX10_rule 3 (some .int))) B.pre w (List.mem_cons_of_mem _ hw)
  have hown : s.vm.findClass RX10 = some m.cls := findClass_of_methodNamed B.named
  have hlocks := B.notSynchronized
  have hK := hC.1
  have hS : va_S (fun _ => False) s.heap s.heap [] := va_S.rf
  have hl := lv_entry ([.ref x0, .int i1]) (n := 3) (Nat.le_of_ble_eq_true rfl)
  rw [lg_entry_eq]
  generalize (lg_sl ([.ref x0, .int i1]) ++ List.replicate (3 - (lg_sl ([.ref x0, .int i1])).length) Slot.unset).toArray = ls at hl ⊢
  have hl : lv_has ls 3 [(0, .ref x0), (1, .int i1)] := hl
  refine lv_aload_n hx hb dX10_rule_0 rfl (lv_at hl 0 rfl) ?_
  refine puI (cV (As := []) (rest := []) ⟨hx, hb, hml, hown, hts⟩ (c_X10_hasTown l D T x0 a0 a2 a15 a16 a17 a18 a19 a20 a21 a22 a23 a24 a25 a26 a27 a36 a37 a38 a130 a131 a132 a141 a144 a150 a151) k_X10_hasTown v_X10_hasTown m760 rfl rfl ⟨(Nat.le_of_ble_eq_true rfl), (Nat.le_of_ble_eq_true rfl)⟩ (preP hC (hP.sub (ws' := [(x0, .inr (10, [.ref a0, .ref a2, .ref a15, .ref a38, .ref a130, .ref a131, .ref a132, .ref a141, .ref a144, .ref a150, .ref a151])), (a15, .inr (3, [.ref a16, .ref a27, .int 0, .int 0, .int 2, .long 0, .int 0, .ref a36, .ref a37])), (a16, .inr (5, [.int 0, .int 0, .int 0, .int 0, .int 0, .int 0, .int 0, .int 0, .int 0, .ref a17, .ref a18, .ref a19, .ref a20, .ref a21, .ref a22, .ref a23, .ref a24, .ref a25, .ref a26]))]) [0, 1, 2] rfl)) (va_recv hK hP (ci := 10) (q0 := 0) rfl rfl) rfl hl.1 rfl (Nat.le_of_ble_eq_true rfl) dX10_rule_1 ⟨(Nat.le_of_ble_eq_true rfl), (Nat.le_of_ble_eq_true rfl)⟩) hS hP (fun r_1 H locs hw hP hS => ?_)
  obtain rfl : r_1 = 0 := hw
  refine lv_if_eq (tgt := 16) hx hb dX10_rule_4 (by decide) (fun _ => ?_) (fun c_3 => absurd (by decide) c_3)
  refine lv_bipush (v := (-2)) hx hb dX10_rule_16 (by decide) ?_
  exact W.iret (v := (-2)) hx hb hr (fun t ht hW => ⟨⟨(-2), (), rfl, rfl, trivial⟩, hS.F ht⟩) hS.2.2 dX10_rule_18

set_option maxHeartbeats 4000000 in
set_option maxRecDepth 100000 in
theorem c_X10_suits (l : Launch) (D : va_G) (T : Nat → ClassId) (x0 a0 a2 a15 a16 a17 a18 a19 a20 a21 a22 a23 a24 a25 a26 a27 a36 a37 a38 a130 a131 a132 a141 a144 a150 a151 : Nat) (i1 : Int32) : Met l yX10_suits (wM yX10_suits cX10_suits 3 (some .int)) ({ frames := 2, cells := 0, slots := 0, locals := 41 }) (va_Pc [.ref x0, .int i1] (pwP D T [(x0, .inr (10, [.ref a0, .ref a2, .ref a15, .ref a38, .ref a130, .ref a131, .ref a132, .ref a141, .ref a144, .ref a150, .ref a151])), (a15, .inr (3, [.ref a16, .ref a27, .int 0, .int 0, .int 2, .long 0, .int 0, .ref a36, .ref a37])), (a16, .inr (5, [.int 0, .int 0, .int 0, .int 0, .int 0, .int 0, .int 0, .int 0, .int 0, .ref a17, .ref a18, .ref a19, .ref a20, .ref a21, .ref a22, .ref a23, .ref a24, .ref a25, .ref a26]))])) (va_Qi (fun (r : Int32) (u : Unit) => r = (-2)) (fun _ _ => True) (fun _ => False)) 0 0 (fun _ => False) := by
  refine Met.ofW (cc := cX10_suits) (maxL := 3) (ret := (some .int)) (by decide) rfl ?_
  intro p e s m args below meth c s₁ B hml hv
  obtain ⟨rfl, hP, hC⟩ := hv
  have hx := B.exec
  have hb := B.bytes
  have hr := B.returns
  have hts : ∀ w ∈ gt, w.before _ s = true := fun w hw => atoms_spec (ws := (wM yX10_suits cX10_suits 3 (some .int))) B.pre w (List.mem_cons_of_mem _ hw)
  have hown : s.vm.findClass RX10 = some m.cls := findClass_of_methodNamed B.named
  have hlocks := B.notSynchronized
  have hK := hC.1
  have hS : va_S (fun _ => False) s.heap s.heap [] := va_S.rf
  have hl := lv_entry ([.ref x0, .int i1]) (n := 3) (Nat.le_of_ble_eq_true rfl)
  rw [lg_entry_eq]
  generalize (lg_sl ([.ref x0, .int i1]) ++ List.replicate (3 - (lg_sl ([.ref x0, .int i1])).length) Slot.unset).toArray = ls at hl ⊢
  have hl : lv_has ls 3 [(0, .ref x0), (1, .int i1)] := hl
  refine lv_aload_n hx hb dX10_suits_0 rfl (lv_at hl 0 rfl) ?_
  refine lv_iload_n hx hb dX10_suits_1 rfl (lv_at hl 1 rfl) ?_
  refine puI (cV (As := [.int i1]) (rest := []) ⟨hx, hb, hml, hown, hts⟩ (c_X10_hasSide l D T x0 a0 a2 a15 a16 a17 a18 a19 a20 a21 a22 a23 a24 a25 a26 a27 a36 a37 a38 a130 a131 a132 a141 a144 a150 a151 i1) k_X10_hasSide v_X10_hasSide m756 rfl rfl ⟨(Nat.le_of_ble_eq_true rfl), (Nat.le_of_ble_eq_true rfl)⟩ (preP hC (hP.sub (ws' := [(x0, .inr (10, [.ref a0, .ref a2, .ref a15, .ref a38, .ref a130, .ref a131, .ref a132, .ref a141, .ref a144, .ref a150, .ref a151])), (a15, .inr (3, [.ref a16, .ref a27, .int 0, .int 0, .int 2, .long 0, .int 0, .ref a36, .ref a37])), (a16, .inr (5, [.int 0, .int 0, .int 0, .int 0, .int 0, .int 0, .int 0, .int 0, .int 0, .ref a17, .ref a18, .ref a19, .ref a20, .ref a21, .ref a22, .ref a23, .ref a24, .ref a25, .ref a26]))]) [0, 1, 2] rfl)) (va_recv hK hP (ci := 10) (q0 := 0) rfl rfl) rfl hl.1 rfl (Nat.le_of_ble_eq_true rfl) dX10_suits_2 ⟨(Nat.le_of_ble_eq_true rfl), (Nat.le_of_ble_eq_true rfl)⟩) hS hP (fun r_1 H locs hw hP hS => ?_)
  obtain rfl : r_1 = 0 := hw
  refine lv_if_ne (tgt := 11) hx hb dX10_suits_5 (by decide) (fun c_3 => absurd c_3 (by decide)) (fun _ => ?_)
  refine lv_bipush (v := (-2)) hx hb dX10_suits_8 (by decide) ?_
  exact W.iret (v := (-2)) hx hb hr (fun t ht hW => ⟨⟨(-2), (), rfl, rfl, trivial⟩, hS.F ht⟩) hS.2.2 dX10_suits_10

set_option maxHeartbeats 4000000 in
set_option maxRecDepth 100000 in
theorem c_X10_judge (l : Launch) (D : va_G) (T : Nat → ClassId) (x0 a0 a2 a15 a16 a17 a18 a19 a20 a21 a22 a23 a24 a25 a26 a27 a36 a37 a38 a130 a131 a132 a141 a144 a150 a151 : Nat) (i1 : Int32) : Met l yX10_judge (wM yX10_judge cX10_judge 2 (some .int)) ({ frames := 1, cells := 0, slots := 0, locals := 20 }) (va_Pc [.ref x0, .int i1] (pwP D T [(x0, .inr (10, [.ref a0, .ref a2, .ref a15, .ref a38, .ref a130, .ref a131, .ref a132, .ref a141, .ref a144, .ref a150, .ref a151])), (a15, .inr (3, [.ref a16, .ref a27, .int 0, .int 0, .int 2, .long 0, .int 0, .ref a36, .ref a37])), (a16, .inr (5, [.int 0, .int 0, .int 0, .int 0, .int 0, .int 0, .int 0, .int 0, .int 0, .ref a17, .ref a18, .ref a19, .ref a20, .ref a21, .ref a22, .ref a23, .ref a24, .ref a25, .ref a26]))])) (va_Qi (fun (r : Int32) (u : Unit) => r = (-2)) (fun _ _ => True) (fun _ => False)) 0 0 (fun _ => False) := by
  refine Met.ofW (cc := cX10_judge) (maxL := 2) (ret := (some .int)) (by decide) rfl ?_
  intro p e s m args below meth c s₁ B hml hv
  obtain ⟨rfl, hP, hC⟩ := hv
  have hx := B.exec
  have hb := B.bytes
  have hr := B.returns
  have hts : ∀ w ∈ gt, w.before _ s = true := fun w hw => atoms_spec (ws := (wM yX10_judge cX10_judge 2 (some .int))) B.pre w (List.mem_cons_of_mem _ hw)
  have hown : s.vm.findClass RX10 = some m.cls := findClass_of_methodNamed B.named
  have hlocks := B.notSynchronized
  have hK := hC.1
  have hS : va_S (fun _ => False) s.heap s.heap [] := va_S.rf
  have hl := lv_entry ([.ref x0, .int i1]) (n := 2) (Nat.le_of_ble_eq_true rfl)
  rw [lg_entry_eq]
  generalize (lg_sl ([.ref x0, .int i1]) ++ List.replicate (2 - (lg_sl ([.ref x0, .int i1])).length) Slot.unset).toArray = ls at hl ⊢
  have hl : lv_has ls 2 [(0, .ref x0), (1, .int i1)] := hl
  refine lv_aload_n hx hb dX10_judge_0 rfl (lv_at hl 0 rfl) ?_
  refine puI (cV (As := []) (rest := []) ⟨hx, hb, hml, hown, hts⟩ (c_X10_hasTown l D T x0 a0 a2 a15 a16 a17 a18 a19 a20 a21 a22 a23 a24 a25 a26 a27 a36 a37 a38 a130 a131 a132 a141 a144 a150 a151) k_X10_hasTown v_X10_hasTown m760 rfl rfl ⟨(Nat.le_of_ble_eq_true rfl), (Nat.le_of_ble_eq_true rfl)⟩ (preP hC (hP.sub (ws' := [(x0, .inr (10, [.ref a0, .ref a2, .ref a15, .ref a38, .ref a130, .ref a131, .ref a132, .ref a141, .ref a144, .ref a150, .ref a151])), (a15, .inr (3, [.ref a16, .ref a27, .int 0, .int 0, .int 2, .long 0, .int 0, .ref a36, .ref a37])), (a16, .inr (5, [.int 0, .int 0, .int 0, .int 0, .int 0, .int 0, .int 0, .int 0, .int 0, .ref a17, .ref a18, .ref a19, .ref a20, .ref a21, .ref a22, .ref a23, .ref a24, .ref a25, .ref a26]))]) [0, 1, 2] rfl)) (va_recv hK hP (ci := 10) (q0 := 0) rfl rfl) rfl hl.1 rfl (Nat.le_of_ble_eq_true rfl) dX10_judge_1 ⟨(Nat.le_of_ble_eq_true rfl), (Nat.le_of_ble_eq_true rfl)⟩) hS hP (fun r_1 H locs hw hP hS => ?_)
  obtain rfl : r_1 = 0 := hw
  refine lv_if_eq (tgt := 15) hx hb dX10_judge_4 (by decide) (fun _ => ?_) (fun c_3 => absurd (by decide) c_3)
  refine lv_bipush (v := (-2)) hx hb dX10_judge_15 (by decide) ?_
  exact W.iret (v := (-2)) hx hb hr (fun t ht hW => ⟨⟨(-2), (), rfl, rfl, trivial⟩, hS.F ht⟩) hS.2.2 dX10_judge_17

set_option maxHeartbeats 4000000 in
set_option maxRecDepth 100000 in
theorem c_X10_then (l : Launch) (D : va_G) (T : Nat → ClassId) (x0 a0 a2 a15 a16 a17 a18 a19 a20 a21 a22 a23 a24 a25 a26 a27 a36 a37 a38 a130 a131 a132 a141 a144 a150 a151 : Nat) (i1 : Int32) : Met l yX10_then (wM yX10_then cX10_then 2 (some .int)) ({ frames := 1, cells := 0, slots := 0, locals := 20 }) (va_Pc [.ref x0, .int i1] (pwP D T [(x0, .inr (10, [.ref a0, .ref a2, .ref a15, .ref a38, .ref a130, .ref a131, .ref a132, .ref a141, .ref a144, .ref a150, .ref a151])), (a15, .inr (3, [.ref a16, .ref a27, .int 0, .int 0, .int 2, .long 0, .int 0, .ref a36, .ref a37])), (a16, .inr (5, [.int 0, .int 0, .int 0, .int 0, .int 0, .int 0, .int 0, .int 0, .int 0, .ref a17, .ref a18, .ref a19, .ref a20, .ref a21, .ref a22, .ref a23, .ref a24, .ref a25, .ref a26]))])) (va_Qi (fun (r : Int32) (u : Unit) => r = (-2)) (fun _ _ => True) (fun _ => False)) 0 0 (fun _ => False) := by
  refine Met.ofW (cc := cX10_then) (maxL := 2) (ret := (some .int)) (by decide) rfl ?_
  intro p e s m args below meth c s₁ B hml hv
  obtain ⟨rfl, hP, hC⟩ := hv
  have hx := B.exec
  have hb := B.bytes
  have hr := B.returns
  have hts : ∀ w ∈ gt, w.before _ s = true := fun w hw => atoms_spec (ws := (wM yX10_then cX10_then 2 (some .int))) B.pre w (List.mem_cons_of_mem _ hw)
  have hown : s.vm.findClass RX10 = some m.cls := findClass_of_methodNamed B.named
  have hlocks := B.notSynchronized
  have hK := hC.1
  have hS : va_S (fun _ => False) s.heap s.heap [] := va_S.rf
  have hl := lv_entry ([.ref x0, .int i1]) (n := 2) (Nat.le_of_ble_eq_true rfl)
  rw [lg_entry_eq]
  generalize (lg_sl ([.ref x0, .int i1]) ++ List.replicate (2 - (lg_sl ([.ref x0, .int i1])).length) Slot.unset).toArray = ls at hl ⊢
  have hl : lv_has ls 2 [(0, .ref x0), (1, .int i1)] := hl
  refine lv_aload_n hx hb dX10_then_0 rfl (lv_at hl 0 rfl) ?_
  refine puI (cV (As := []) (rest := []) ⟨hx, hb, hml, hown, hts⟩ (c_X10_hasTown l D T x0 a0 a2 a15 a16 a17 a18 a19 a20 a21 a22 a23 a24 a25 a26 a27 a36 a37 a38 a130 a131 a132 a141 a144 a150 a151) k_X10_hasTown v_X10_hasTown m760 rfl rfl ⟨(Nat.le_of_ble_eq_true rfl), (Nat.le_of_ble_eq_true rfl)⟩ (preP hC (hP.sub (ws' := [(x0, .inr (10, [.ref a0, .ref a2, .ref a15, .ref a38, .ref a130, .ref a131, .ref a132, .ref a141, .ref a144, .ref a150, .ref a151])), (a15, .inr (3, [.ref a16, .ref a27, .int 0, .int 0, .int 2, .long 0, .int 0, .ref a36, .ref a37])), (a16, .inr (5, [.int 0, .int 0, .int 0, .int 0, .int 0, .int 0, .int 0, .int 0, .int 0, .ref a17, .ref a18, .ref a19, .ref a20, .ref a21, .ref a22, .ref a23, .ref a24, .ref a25, .ref a26]))]) [0, 1, 2] rfl)) (va_recv hK hP (ci := 10) (q0 := 0) rfl rfl) rfl hl.1 rfl (Nat.le_of_ble_eq_true rfl) dX10_then_1 ⟨(Nat.le_of_ble_eq_true rfl), (Nat.le_of_ble_eq_true rfl)⟩) hS hP (fun r_1 H locs hw hP hS => ?_)
  obtain rfl : r_1 = 0 := hw
  refine lv_if_eq (tgt := 15) hx hb dX10_then_4 (by decide) (fun _ => ?_) (fun c_3 => absurd (by decide) c_3)
  refine lv_bipush (v := (-2)) hx hb dX10_then_15 (by decide) ?_
  exact W.iret (v := (-2)) hx hb hr (fun t ht hW => ⟨⟨(-2), (), rfl, rfl, trivial⟩, hS.F ht⟩) hS.2.2 dX10_then_17

theorem z8_c_X10_fault (i1 : Int32) (h0 : i1 = 0) : (0 : Int32) = a_end i1 := by
  unfold a_end
  (repeat' split) <;> first | rfl | assumption | (simp_all; done) | (exfalso; simp only [i_lt, i_le, i_eq, l_lt, l_le, l_eq, i_64, i_0, i_1, i_2, i_3, i_4, i_5, i_6, i_7, i_8, i_12, i_60, i_m1, l_0, l_1, l_2, l_3, l_4, l_12, l_m1, vp_in_iff] at *; omega)
theorem z9_c_X10_fault (i1 : Int32) (h0 : i1 = 1) : ((-1) : Int32) = a_end i1 := by
  unfold a_end
  (repeat' split) <;> first | rfl | assumption | (simp_all; done) | (exfalso; simp only [i_lt, i_le, i_eq, l_lt, l_le, l_eq, i_64, i_0, i_1, i_2, i_3, i_4, i_5, i_6, i_7, i_8, i_12, i_60, i_m1, l_0, l_1, l_2, l_3, l_4, l_12, l_m1, vp_in_iff] at *; omega)
theorem z10_c_X10_fault (i1 : Int32) (h0 : i1.toInt < 0 ∨ 1 < i1.toInt) : ((-1) : Int32) = a_end i1 := by
  unfold a_end
  (repeat' split) <;> first | rfl | assumption | (simp_all; done) | (exfalso; simp only [i_lt, i_le, i_eq, l_lt, l_le, l_eq, i_64, i_0, i_1, i_2, i_3, i_4, i_5, i_6, i_7, i_8, i_12, i_60, i_m1, l_0, l_1, l_2, l_3, l_4, l_12, l_m1, vp_in_iff] at *; omega)
set_option maxHeartbeats 4000000 in
set_option maxRecDepth 100000 in
theorem c_X10_fault (l : Launch) (D : va_G) (T : Nat → ClassId) (x0 a0 a2 a3 a14 a15 a38 a130 a131 a132 a141 a144 a150 a151 : Nat) (i1 : Int32) : Met l yX10_fault (wM yX10_fault cX10_fault 2 (some .int)) ({ frames := 0, cells := 0, slots := 0, locals := 0 }) (va_Pc [.ref x0, .int i1] (pwP D T [(x0, .inr (10, [.ref a0, .ref a2, .ref a15, .ref a38, .ref a130, .ref a131, .ref a132, .ref a141, .ref a144, .ref a150, .ref a151])), (a2, .inr (1, [.ref a3, .int 0, .int (-1), .ref a14, .int 0, .int 0, .int 0, .int 0, .int 0, .int 0]))])) (va_Qi (fun (r : Int32) (u : Unit) => r = a_end i1) (fun _ _ => True) (fun _ => False)) 0 0 (fun _ => False) := by
  refine Met.ofW (cc := cX10_fault) (maxL := 2) (ret := (some .int)) (by decide) rfl ?_
  intro p e s m args below meth c s₁ B hml hv
  obtain ⟨rfl, hP, hC⟩ := hv
  have hx := B.exec
  have hb := B.bytes
  have hr := B.returns
  have hts : ∀ w ∈ gt, w.before _ s = true := fun w hw => atoms_spec (ws := (wM yX10_fault cX10_fault 2 (some .int))) B.pre w (List.mem_cons_of_mem _ hw)
  have hown : s.vm.findClass RX10 = some m.cls := findClass_of_methodNamed B.named
  have hlocks := B.notSynchronized
  have hK := hC.1
  have hS : va_S (fun _ => False) s.heap s.heap [] := va_S.rf
  have hl := lv_entry ([.ref x0, .int i1]) (n := 2) (Nat.le_of_ble_eq_true rfl)
  rw [lg_entry_eq]
  generalize (lg_sl ([.ref x0, .int i1]) ++ List.replicate (2 - (lg_sl ([.ref x0, .int i1])).length) Slot.unset).toArray = ls at hl ⊢
  have hl : lv_has ls 2 [(0, .ref x0), (1, .int i1)] := hl
  refine lv_iload_n hx hb dX10_fault_0 rfl (lv_at hl 1 rfl) ?_
  rcases sw2 i1 with rfl | rfl | c_3
  · refine lv_lookup (off := 27) (tgt := 28) hx hb dX10_fault_1 (by decide) (by decide) (by decide) ?_
    refine lv_aload_n hx hb dX10_fault_28 rfl (lv_at hl 0 rfl) ?_
    refine va_get (D := D) (ci := 10) (C := RX10) (T := TX10) (N := 11) hx hb hts iX10 hown hK hP 0 rfl rfl 1 (by decide) (hts _ m526) (fun _ h9 => h9) rfl dX10_fault_29 ?_
    refine va_get (D := D) (ci := 1) (C := RX1) (T := TX1) (N := 10) hx hb hts iX1 hown hK hP 1 rfl rfl 1 (by decide) (hts _ m280) (fun _ h9 => h9) rfl dX10_fault_32 ?_
    exact W.iret (v := 0) hx hb hr (fun t ht hW => ⟨⟨0, (), rfl, (z8_c_X10_fault 0 rfl), trivial⟩, hS.F ht⟩) hS.2.2 dX10_fault_35
  · refine lv_lookup (off := 35) (tgt := 36) hx hb dX10_fault_1 (by decide) (by decide) (by decide) ?_
    refine lv_aload_n hx hb dX10_fault_36 rfl (lv_at hl 0 rfl) ?_
    refine va_get (D := D) (ci := 10) (C := RX10) (T := TX10) (N := 11) hx hb hts iX10 hown hK hP 0 rfl rfl 1 (by decide) (hts _ m526) (fun _ h9 => h9) rfl dX10_fault_37 ?_
    refine va_get (D := D) (ci := 1) (C := RX1) (T := TX1) (N := 10) hx hb hts iX1 hown hK hP 1 rfl rfl 2 (by decide) (hts _ m282) (fun _ h9 => h9) rfl dX10_fault_40 ?_
    exact W.iret (v := (-1)) hx hb hr (fun t ht hW => ⟨⟨(-1), (), rfl, (z9_c_X10_fault 1 rfl), trivial⟩, hS.F ht⟩) hS.2.2 dX10_fault_43
  · refine lv_lookup (off := 43) (tgt := 44) hx hb dX10_fault_1 (by decide) (by rw [Op.lookupswitch.offset_cons, if_neg (by omega)]; rw [Op.lookupswitch.offset_cons, if_neg (by omega)]; rfl) (by decide) ?_
    refine lv_iconst (v := (-1)) hx hb dX10_fault_44 (by decide) ?_
    exact W.iret (v := (-1)) hx hb hr (fun t ht hW => ⟨⟨(-1), (), rfl, (z10_c_X10_fault i1 c_3), trivial⟩, hS.F ht⟩) hS.2.2 dX10_fault_45

theorem z11_c_X10_back (i1 : Int32) (h0 : i1 < 0) : ((-2) : Int32) = a_back i1 := by
  unfold a_back
  (repeat' split) <;> first | rfl | assumption | (simp_all; done) | (exfalso; simp only [i_lt, i_le, i_eq, l_lt, l_le, l_eq, i_64, i_0, i_1, i_2, i_3, i_4, i_5, i_6, i_7, i_8, i_12, i_60, i_m1, l_0, l_1, l_2, l_3, l_4, l_12, l_m1, vp_in_iff] at *; omega)
theorem z12_c_X10_back (i1 : Int32) (h0 : ¬ i1 < 0) (h1 : i1 < 3) : vp_in i1 3 := by
  simp only [i_lt, i_le, i_eq, l_lt, l_le, l_eq, i_64, i_0, i_1, i_2, i_3, i_4, i_5, i_6, i_7, i_8, i_12, i_60, i_m1, l_0, l_1, l_2, l_3, l_4, l_12, l_m1, vp_in_iff] at *; omega
theorem z13_c_X10_back (i1 : Int32) (h0 : ¬ i1 < 0) (h1 : i1 < 3) : ((-6) : Int32) = a_back i1 := by
  unfold a_back
  (repeat' split) <;> first | rfl | assumption | (simp_all; done) | (exfalso; simp only [i_lt, i_le, i_eq, l_lt, l_le, l_eq, i_64, i_0, i_1, i_2, i_3, i_4, i_5, i_6, i_7, i_8, i_12, i_60, i_m1, l_0, l_1, l_2, l_3, l_4, l_12, l_m1, vp_in_iff] at *; omega)
theorem z14_c_X10_back (i1 : Int32) (h0 : ¬ i1 < 0) (h1 : ¬ i1 < 3) : ((-2) : Int32) = a_back i1 := by
  unfold a_back
  (repeat' split) <;> first | rfl | assumption | (simp_all; done) | (exfalso; simp only [i_lt, i_le, i_eq, l_lt, l_le, l_eq, i_64, i_0, i_1, i_2, i_3, i_4, i_5, i_6, i_7, i_8, i_12, i_60, i_m1, l_0, l_1, l_2, l_3, l_4, l_12, l_m1, vp_in_iff] at *; omega)
set_option maxHeartbeats 4000000 in
set_option maxRecDepth 100000 in
theorem c_X10_back (l : Launch) (D : va_G) (T : Nat → ClassId) (x0 a0 a2 a15 a38 a130 a131 a132 a141 a144 a150 a151 : Nat) (i1 : Int32) : Met l yX10_back (wM yX10_back cX10_back 2 (some .int)) ({ frames := 0, cells := 0, slots := 0, locals := 0 }) (va_Pc [.ref x0, .int i1] (pwP D T [(x0, .inr (10, [.ref a0, .ref a2, .ref a15, .ref a38, .ref a130, .ref a131, .ref a132, .ref a141, .ref a144, .ref a150, .ref a151])), (a131, .inl (T 3, 3, .inl (fun _ => 0)))])) (va_Qi (fun (r : Int32) (u : Unit) => r = a_back i1) (fun _ _ => True) (fun _ => False)) 0 0 (fun _ => False) := by
  refine Met.ofW (cc := cX10_back) (maxL := 2) (ret := (some .int)) (by decide) rfl ?_
  intro p e s m args below meth c s₁ B hml hv
  obtain ⟨rfl, hP, hC⟩ := hv
  have hx := B.exec
  have hb := B.bytes
  have hr := B.returns
  have hts : ∀ w ∈ gt, w.before _ s = true := fun w hw => atoms_spec (ws := (wM yX10_back cX10_back 2 (some .int))) B.pre w (List.mem_cons_of_mem _ hw)
  have hown : s.vm.findClass RX10 = some m.cls := findClass_of_methodNamed B.named
  have hlocks := B.notSynchronized
  have hK := hC.1
  have hS : va_S (fun _ => False) s.heap s.heap [] := va_S.rf
  have hl := lv_entry ([.ref x0, .int i1]) (n := 2) (Nat.le_of_ble_eq_true rfl)
  rw [lg_entry_eq]
  generalize (lg_sl ([.ref x0, .int i1]) ++ List.replicate (2 - (lg_sl ([.ref x0, .int i1])).length) Slot.unset).toArray = ls at hl ⊢
  have hl : lv_has ls 2 [(0, .ref x0), (1, .int i1)] := hl
  refine lv_iload_n hx hb dX10_back_0 rfl (lv_at hl 1 rfl) ?_
  refine lv_if_lt (tgt := 13) hx hb dX10_back_1 (by decide) (fun c_1 => ?_) (fun c_1 => ?_)
  · refine lv_bipush (v := (-2)) hx hb dX10_back_13 (by decide) ?_
    exact W.iret (v := (-2)) hx hb hr (fun t ht hW => ⟨⟨(-2), (), rfl, (z11_c_X10_back i1 c_1), trivial⟩, hS.F ht⟩) hS.2.2 dX10_back_15
  · refine lv_iload_n hx hb dX10_back_4 rfl (lv_at hl 1 rfl) ?_
    refine lv_aload_n hx hb dX10_back_5 rfl (lv_at hl 0 rfl) ?_
    refine va_get (D := D) (ci := 10) (C := RX10) (T := TX10) (N := 11) hx hb hts iX10 hown hK hP 0 rfl rfl 5 (by decide) (hts _ m530) (fun _ h9 => h9) rfl dX10_back_6 ?_
    refine va_alen (D := D) hx hb hK hP 1 3 rfl rfl (v := 3) rfl dX10_back_9 ?_
    refine lv_icmp_lt (tgt := 16) hx hb dX10_back_10 (by decide) (fun c_2 => ?_) (fun c_2 => ?_)
    · refine lv_aload_n hx hb dX10_back_16 rfl (lv_at hl 0 rfl) ?_
      refine va_get (D := D) (ci := 10) (C := RX10) (T := TX10) (N := 11) hx hb hts iX10 hown hK hP 0 rfl rfl 5 (by decide) (hts _ m530) (fun _ h9 => h9) rfl dX10_back_17 ?_
      refine lv_iload_n hx hb dX10_back_20 rfl (lv_at hl 1 rfl) ?_
      refine va_zald (D := D) hx hb hK hP 1 3 rfl rfl (z12_c_X10_back i1 c_1 c_2) dX10_back_21 ?_
      refine eqi (v := 0) rfl ?_
      refine lv_if_ne (tgt := 28) hx hb dX10_back_22 (by decide) (fun c_3 => absurd c_3 (by decide)) (fun _ => ?_)
      refine lv_bipush (v := (-6)) hx hb dX10_back_25 (by decide) ?_
      exact W.iret (v := (-6)) hx hb hr (fun t ht hW => ⟨⟨(-6), (), rfl, (z13_c_X10_back i1 c_1 c_2), trivial⟩, hS.F ht⟩) hS.2.2 dX10_back_27
    · refine lv_bipush (v := (-2)) hx hb dX10_back_13 (by decide) ?_
      exact W.iret (v := (-2)) hx hb hr (fun t ht hW => ⟨⟨(-2), (), rfl, (z14_c_X10_back i1 c_1 c_2), trivial⟩, hS.F ht⟩) hS.2.2 dX10_back_15
