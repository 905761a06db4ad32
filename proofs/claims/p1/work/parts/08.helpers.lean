def a_end (n : Int32) : Int32 := if n = 0 then 0 else -1
def a_count (w : Int32) : Int32 := if w = 6 then 2 else if 0 ≤ w ∧ w ≤ 12 then 0 else -1
def a_keep (k : Int32) : Int32 := if 0 ≤ k ∧ k ≤ 2 then 0 else -2
def a_back (k : Int32) : Int32 := if 0 ≤ k ∧ k ≤ 2 then -6 else -2
def a_row (s w n : Int32) : Int32 := if (0 ≤ s ∧ s ≤ 3) ∧ (0 ≤ w ∧ w ≤ 3) ∧ n ≤ 60 then (if n < 0 then -3 else 0) else -2
def a_write (s : Int32) : Int32 := if 0 ≤ s ∧ s ≤ 3 then -6 else -2
def a_paste (s t : Int32) : Int32 := if (0 ≤ s ∧ s ≤ 3) ∧ (0 ≤ t ∧ t ≤ 3) then -6 else -2

set_option maxHeartbeats 4000000 in
set_option maxRecDepth 100000 in
theorem c_X10_hasTown (l : Launch) (D : va_G) (T : Nat → ClassId) (x0 a0 a2 a15 a16 a17 a18 a19 a20 a21 a22 a23 a24 a25 a26 a27 a36 a37 a38 a130 a131 a132 a141 a144 a150 a151 : Nat) : Met l yX10_hasTown (wM yX10_hasTown cX10_hasTown 1 (some .boolean)) ({ frames := 0, cells := 0, slots := 0, locals := 0 }) (va_Pc [.ref x0] (pwP D T [(x0, .inr (10, [.ref a0, .ref a2, .ref a15, .ref a38, .ref a130, .ref a131, .ref a132, .ref a141, .ref a144, .ref a150, .ref a151])), (a15, .inr (3, [.ref a16, .ref a27, .int 0, .int 0, .int 2, .long 0, .int 0, .ref a36, .ref a37])), (a16, .inr (5, [.int 0, .int 0, .int 0, .int 0, .int 0, .int 0, .int 0, .int 0, .int 0, .ref a17, .ref a18, .ref a19, .ref a20, .ref a21, .ref a22, .ref a23, .ref a24, .ref a25, .ref a26]))])) (va_Qi (fun (r : Int32) (u : Unit) => r = 0) (fun _ _ => True) (fun _ => False)) 0 0 (fun _ => False) := by
  refine Met.ofW (cc := cX10_hasTown) (maxL := 1) (ret := (some .boolean)) (by decide) rfl ?_
  intro p e s m args below meth c s₁ B hml hv
  obtain ⟨rfl, hP, hC⟩ := hv
  have hx := B.exec
  have hb := B.bytes
  have hr := B.returns
  have hts : ∀ w ∈ gt, w.before _ s = true := fun w hw => atoms_spec (ws := (wM yX10_hasTown cX10_hasTown 1 (some .boolean))) B.pre w (List.mem_cons_of_mem _ hw)
  have hown : s.vm.findClass RX10 = some m.cls := findClass_of_methodNamed B.named
  have hlocks := B.notSynchronized
  have hK := hC.1
  have hS : va_S (fun _ => False) s.heap s.heap [] := va_S.rf
  have hl := lv_entry ([.ref x0]) (n := 1) (Nat.le_of_ble_eq_true rfl)
  rw [lg_entry_eq]
  generalize (lg_sl ([.ref x0]) ++ List.replicate (1 - (lg_sl ([.ref x0])).length) Slot.unset).toArray = ls at hl ⊢
  have hl : lv_has ls 1 [(0, .ref x0)] := hl
  refine lv_aload_n hx hb dX10_hasTown_0 rfl (lv_at hl 0 rfl) ?_
  refine va_get (D := D) (ci := 10) (C := RX10) (T := TX10) (N := 11) hx hb hts iX10 hown hK hP 0 rfl rfl 2 (by decide) (hts _ m527) (fun _ h9 => h9) rfl dX10_hasTown_1 ?_
  refine va_get (D := D) (ci := 3) (C := RX3) (T := TX3) (N := 9) hx hb hts iX3 hown hK hP 1 rfl rfl 0 (by decide) (hts _ m371) (fun _ h9 => h9) rfl dX10_hasTown_4 ?_
  refine va_get (D := D) (ci := 5) (C := RX5) (T := TX5) (N := 19) hx hb hts iX5 hown hK hP 2 rfl rfl 1 (by decide) (hts _ m173) (fun _ h9 => h9) rfl dX10_hasTown_7 ?_
  refine lv_if_le (tgt := 17) hx hb dX10_hasTown_10 (by decide) (fun _ => ?_) (fun c_1 => absurd (by decide) c_1)
  refine lv_iconst (v := 0) hx hb dX10_hasTown_17 (by decide) ?_
  exact W.zret (v := 0) hx hb hr rfl (fun t ht hW => ⟨⟨0, (), rfl, rfl, trivial⟩, hS.F ht⟩) hS.2.2 dX10_hasTown_18

set_option maxHeartbeats 4000000 in
set_option maxRecDepth 100000 in
theorem c_X10_hasSide (l : Launch) (D : va_G) (T : Nat → ClassId) (x0 a0 a2 a15 a16 a17 a18 a19 a20 a21 a22 a23 a24 a25 a26 a27 a36 a37 a38 a130 a131 a132 a141 a144 a150 a151 : Nat) (i1 : Int32) : Met l yX10_hasSide (wM yX10_hasSide cX10_hasSide 2 (some .boolean)) ({ frames := 1, cells := 0, slots := 0, locals := 20 }) (va_Pc [.ref x0, .int i1] (pwP D T [(x0, .inr (10, [.ref a0, .ref a2, .ref a15, .ref a38, .ref a130, .ref a131, .ref a132, .ref a141, .ref a144, .ref a150, .ref a151])), (a15, .inr (3, [.ref a16, .ref a27, .int 0, .int 0, .int 2, .long 0, .int 0, .ref a36, .ref a37])), (a16, .inr (5, [.int 0, .int 0, .int 0, .int 0, .int 0, .int 0, .int 0, .int 0, .int 0, .ref a17, .ref a18, .ref a19, .ref a20, .ref a21, .ref a22, .ref a23, .ref a24, .ref a25, .ref a26]))])) (va_Qi (fun (r : Int32) (u : Unit) => r = 0) (fun _ _ => True) (fun _ => False)) 0 0 (fun _ => False) := by
  refine Met.ofW (cc := cX10_hasSide) (maxL := 2) (ret := (some .boolean)) (by decide) rfl ?_
  intro p e s m args below meth c s₁ B hml hv
  obtain ⟨rfl, hP, hC⟩ := hv
  have hx := B.exec
  have hb := B.bytes
  have hr := B.returns
  have hts : ∀ w ∈ gt, w.before _ s = true := fun w hw => atoms_spec (ws := (wM yX10_hasSide cX10_hasSide 2 (some .boolean))) B.pre w (List.mem_cons_of_mem _ hw)
  have hown : s.vm.findClass RX10 = some m.cls := findClass_of_methodNamed B.named
  have hlocks := B.notSynchronized
  have hK := hC.1
  have hS : va_S (fun _ => False) s.heap s.heap [] := va_S.rf
  have hl := lv_entry ([.ref x0, .int i1]) (n := 2) (Nat.le_of_ble_eq_true rfl)
  rw [lg_entry_eq]
  generalize (lg_sl ([.ref x0, .int i1]) ++ List.replicate (2 - (lg_sl ([.ref x0, .int i1])).length) Slot.unset).toArray = ls at hl ⊢
  have hl : lv_has ls 2 [(0, .ref x0), (1, .int i1)] := hl
  refine lv_aload_n hx hb dX10_hasSide_0 rfl (lv_at hl 0 rfl) ?_
  refine puI (cV (As := []) (rest := []) ⟨hx, hb, hml, hown, hts⟩ (c_X10_hasTown l D T x0 a0 a2 a15 a16 a17 a18 a19 a20 a21 a22 a23 a24 a25 a26 a27 a36 a37 a38 a130 a131 a132 a141 a144 a150 a151) k_X10_hasTown v_X10_hasTown m760 rfl rfl ⟨(Nat.le_of_ble_eq_true rfl), (Nat.le_of_ble_eq_true rfl)⟩ (preP hC (hP.sub (ws' := [(x0, .inr (10, [.ref a0, .ref a2, .ref a15, .ref a38, .ref a130, .ref a131, .ref a132, .ref a141, .ref a144, .ref a150, .ref a151])), (a15, .inr (3, [.ref a16, .ref a27, .int 0, .int 0, .int 2, .long 0, .int 0, .ref a36, .ref a37])), (a16, .inr (5, [.int 0, .int 0, .int 0, .int 0, .int 0, .int 0, .int 0, .int 0, .int 0, .ref a17, .ref a18, .ref a19, .ref a20, .ref a21, .ref a22, .ref a23, .ref a24, .ref a25, .ref a26]))]) [0, 1, 2] rfl)) (va_recv hK hP (ci := 10) (q0 := 0) rfl rfl) rfl hl.1 rfl (Nat.le_of_ble_eq_true rfl) dX10_hasSide_1 ⟨(Nat.le_of_ble_eq_true rfl), (Nat.le_of_ble_eq_true rfl)⟩) hS hP (fun r_1 H locs hw hP hS => ?_)
  obtain rfl : r_1 = 0 := hw
  refine lv_if_eq (tgt := 20) hx hb dX10_hasSide_4 (by decide) (fun _ => ?_) (fun c_3 => absurd (by decide) c_3)
  refine lv_iconst (v := 0) hx hb dX10_hasSide_20 (by decide) ?_
  exact W.zret (v := 0) hx hb hr rfl (fun t ht hW => ⟨⟨0, (), rfl, rfl, trivial⟩, hS.F ht⟩) hS.2.2 dX10_hasSide_21

set_option maxHeartbeats 4000000 in
set_option maxRecDepth 100000 in
theorem c_X10_hasColumn (l : Launch) (D : va_G) (T : Nat → ClassId) (x0 a0 a2 a15 a16 a17 a18 a19 a20 a21 a22 a23 a24 a25 a26 a27 a36 a37 a38 a130 a131 a132 a141 a144 a150 a151 : Nat) (i1 : Int32) (i2 : Int32) : Met l yX10_hasColumn (wM yX10_hasColumn cX10_hasColumn 3 (some .boolean)) ({ frames := 2, cells := 0, slots := 0, locals := 41 }) (va_Pc [.ref x0, .int i1, .int i2] (pwP D T [(x0, .inr (10, [.ref a0, .ref a2, .ref a15, .ref a38, .ref a130, .ref a131, .ref a132, .ref a141, .ref a144, .ref a150, .ref a151])), (a15, .inr (3, [.ref a16, .ref a27, .int 0, .int 0, .int 2, .long 0, .int 0, .ref a36, .ref a37])), (a16, .inr (5, [.int 0, .int 0, .int 0, .int 0, .int 0, .int 0, .int 0, .int 0, .int 0, .ref a17, .ref a18, .ref a19, .ref a20, .ref a21, .ref a22, .ref a23, .ref a24, .ref a25, .ref a26]))])) (va_Qi (fun (r : Int32) (u : Unit) => r = 0) (fun _ _ => True) (fun _ => False)) 0 0 (fun _ => False) := by
  refine Met.ofW (cc := cX10_hasColumn) (maxL := 3) (ret := (some .boolean)) (by decide) rfl ?_
  intro p e s m args below meth c s₁ B hml hv
  obtain ⟨rfl, hP, hC⟩ := hv
  have hx := B.exec
  have hb := B.bytes
  have hr := B.returns
  have hts : ∀ w ∈ gt, w.before _ s = true := fun w hw => atoms_spec (ws := (wM yX10_hasColumn cX10_hasColumn 3 (some .boolean))) B.pre w (List.mem_cons_of_mem _ hw)
  have hown : s.vm.findClass RX10 = some m.cls := findClass_of_methodNamed B.named
  have hlocks := B.notSynchronized
  have hK := hC.1
  have hS : va_S (fun _ => False) s.heap s.heap [] := va_S.rf
  have hl := lv_entry ([.ref x0, .int i1, .int i2]) (n := 3) (Nat.le_of_ble_eq_true rfl)
  rw [lg_entry_eq]
  generalize (lg_sl ([.ref x0, .int i1, .int i2]) ++ List.replicate (3 - (lg_sl ([.ref x0, .int i1, .int i2])).length) Slot.unset).toArray = ls at hl ⊢
  have hl : lv_has ls 3 [(0, .ref x0), (1, .int i1), (2, .int i2)] := hl
  refine lv_aload_n hx hb dX10_hasColumn_0 rfl (lv_at hl 0 rfl) ?_
  refine lv_iload_n hx hb dX10_hasColumn_1 rfl (lv_at hl 1 rfl) ?_
  refine puI (cV (As := [.int i1]) (rest := []) ⟨hx, hb, hml, hown, hts⟩ (c_X10_hasSide l D T x0 a0 a2 a15 a16 a17 a18 a19 a20 a21 a22 a23 a24 a25 a26 a27 a36 a37 a38 a130 a131 a132 a141 a144 a150 a151 i1) k_X10_hasSide v_X10_hasSide m756 rfl rfl ⟨(Nat.le_of_ble_eq_true rfl), (Nat.le_of_ble_eq_true rfl)⟩ (preP hC (hP.sub (ws' := [(x0, .inr (10, [.ref a0, .ref a2, .ref a15, .ref a38, .ref a130, .ref a131, .ref a132, .ref a141, .ref a144, .ref a150, .ref a151])), (a15, .inr (3, [.ref a16, .ref a27, .int 0, .int 0, .int 2, .long 0, .int 0, .ref a36, .ref a37])), (a16, .inr (5, [.int 0, .int 0, .int 0, .int 0, .int 0, .int 0, .int 0, .int 0, .int 0, .ref a17, .ref a18, .ref a19, .ref a20, .ref a21, .ref a22, .ref a23, .ref a24, .ref a25, .ref a26]))]) [0, 1, 2] rfl)) (va_recv hK hP (ci := 10) (q0 := 0) rfl rfl) rfl hl.1 rfl (Nat.le_of_ble_eq_true rfl) dX10_hasColumn_2 ⟨(Nat.le_of_ble_eq_true rfl), (Nat.le_of_ble_eq_true rfl)⟩) hS hP (fun r_1 H locs hw hP hS => ?_)
  obtain rfl : r_1 = 0 := hw
  refine lv_if_eq (tgt := 30) hx hb dX10_hasColumn_5 (by decide) (fun _ => ?_) (fun c_3 => absurd (by decide) c_3)
  refine lv_iconst (v := 0) hx hb dX10_hasColumn_30 (by decide) ?_
  exact W.zret (v := 0) hx hb hr rfl (fun t ht hW => ⟨⟨0, (), rfl, rfl, trivial⟩, hS.F ht⟩) hS.2.2 dX10_hasColumn_31

theorem z1_c_X10_hasSort (i1 : Int32) (h0 : ¬ i1 < 0) (h1 : ¬ 0 ≤ i1) : False := by
  simp only [i_lt, i_le, i_eq, l_lt, l_le, l_eq, i_64, i_0, i_1, i_2, i_3, i_4, i_5, i_6, i_7, i_8, i_12, i_60, i_m1, l_0, l_1, l_2, l_3, l_4, l_12, l_m1, vp_in_iff] at *; omega
set_option maxHeartbeats 4000000 in
set_option maxRecDepth 100000 in
theorem c_X10_hasSort (l : Launch) (D : va_G) (T : Nat → ClassId) (x0 a0 a2 a15 a16 a17 a18 a19 a20 a21 a22 a23 a24 a25 a26 a27 a36 a37 a38 a130 a131 a132 a141 a144 a150 a151 : Nat) (i1 : Int32) : Met l yX10_hasSort (wM yX10_hasSort cX10_hasSort 2 (some .boolean)) ({ frames := 0, cells := 0, slots := 0, locals := 0 }) (va_Pc [.ref x0, .int i1] (pwP D T [(x0, .inr (10, [.ref a0, .ref a2, .ref a15, .ref a38, .ref a130, .ref a131, .ref a132, .ref a141, .ref a144, .ref a150, .ref a151])), (a15, .inr (3, [.ref a16, .ref a27, .int 0, .int 0, .int 2, .long 0, .int 0, .ref a36, .ref a37])), (a16, .inr (5, [.int 0, .int 0, .int 0, .int 0, .int 0, .int 0, .int 0, .int 0, .int 0, .ref a17, .ref a18, .ref a19, .ref a20, .ref a21, .ref a22, .ref a23, .ref a24, .ref a25, .ref a26]))])) (va_Qi (fun (r : Int32) (u : Unit) => r = 0) (fun _ _ => True) (fun _ => False)) 0 0 (fun _ => False) := by
  refine Met.ofW (cc := cX10_hasSort) (maxL := 2) (ret := (some .boolean)) (by decide) rfl ?_
  intro p e s m args below meth c s₁ B hml hv
  obtain ⟨rfl, hP, hC⟩ := hv
  have hx := B.exec
  have hb := B.bytes
  have hr := B.returns
  have hts : ∀ w ∈ gt, w.before _ s = true := fun w hw => atoms_spec (ws := (wM yX10_hasSort cX10_hasSort 2 (some .boolean))) B.pre w (List.mem_cons_of_mem _ hw)
  have hown : s.vm.findClass RX10 = some m.cls := findClass_of_methodNamed B.named
  have hlocks := B.notSynchronized
  have hK := hC.1
  have hS : va_S (fun _ => False) s.heap s.heap [] := va_S.rf
  have hl := lv_entry ([.ref x0, .int i1]) (n := 2) (Nat.le_of_ble_eq_true rfl)
  rw [lg_entry_eq]
  generalize (lg_sl ([.ref x0, .int i1]) ++ List.replicate (2 - (lg_sl ([.ref x0, .int i1])).length) Slot.unset).toArray = ls at hl ⊢
  have hl : lv_has ls 2 [(0, .ref x0), (1, .int i1)] := hl
  refine lv_iload_n hx hb dX10_hasSort_0 rfl (lv_at hl 1 rfl) ?_
  refine lv_if_lt (tgt := 22) hx hb dX10_hasSort_1 (by decide) (fun c_1 => ?_) (fun c_1 => ?_)
  · refine lv_iconst (v := 0) hx hb dX10_hasSort_22 (by decide) ?_
    exact W.zret (v := 0) hx hb hr rfl (fun t ht hW => ⟨⟨0, (), rfl, rfl, trivial⟩, hS.F ht⟩) hS.2.2 dX10_hasSort_23
  · refine lv_iload_n hx hb dX10_hasSort_4 rfl (lv_at hl 1 rfl) ?_
    refine lv_aload_n hx hb dX10_hasSort_5 rfl (lv_at hl 0 rfl) ?_
    refine va_get (D := D) (ci := 10) (C := RX10) (T := TX10) (N := 11) hx hb hts iX10 hown hK hP 0 rfl rfl 2 (by decide) (hts _ m527) (fun _ h9 => h9) rfl dX10_hasSort_6 ?_
    refine va_get (D := D) (ci := 3) (C := RX3) (T := TX3) (N := 9) hx hb hts iX3 hown hK hP 1 rfl rfl 0 (by decide) (hts _ m371) (fun _ h9 => h9) rfl dX10_hasSort_9 ?_
    refine va_get (D := D) (ci := 5) (C := RX5) (T := TX5) (N := 19) hx hb hts iX5 hown hK hP 2 rfl rfl 4 (by decide) (hts _ m186) (fun _ h9 => h9) rfl dX10_hasSort_12 ?_
    refine lv_icmp_ge (tgt := 22) hx hb dX10_hasSort_15 (by decide) (fun c_2 => ?_) (fun c_2 => ?_)
    · refine lv_iconst (v := 0) hx hb dX10_hasSort_22 (by decide) ?_
      exact W.zret (v := 0) hx hb hr rfl (fun t ht hW => ⟨⟨0, (), rfl, rfl, trivial⟩, hS.F ht⟩) hS.2.2 dX10_hasSort_23
    · refine lv_iconst (v := 1) hx hb dX10_hasSort_18 (by decide) ?_
      refine lv_goto (tgt := 23) hx hb dX10_hasSort_19 (by decide) ?_
      exact W.zret (v := 1) hx hb hr rfl (fun t ht hW => ⟨⟨1, (), rfl, ((z1_c_X10_hasSort i1 c_1 c_2)).elim, trivial⟩, hS.F ht⟩) hS.2.2 dX10_hasSort_23

theorem z2_c_X10_hasVoter (i1 : Int32) (h0 : ¬ i1 < 0) (h1 : ¬ 0 ≤ i1) : False := by
  simp only [i_lt, i_le, i_eq, l_lt, l_le, l_eq, i_64, i_0, i_1, i_2, i_3, i_4, i_5, i_6, i_7, i_8, i_12, i_60, i_m1, l_0, l_1, l_2, l_3, l_4, l_12, l_m1, vp_in_iff] at *; omega
set_option maxHeartbeats 4000000 in
set_option maxRecDepth 100000 in
theorem c_X10_hasVoter (l : Launch) (D : va_G) (T : Nat → ClassId) (x0 a0 a2 a15 a16 a17 a18 a19 a20 a21 a22 a23 a24 a25 a26 a27 a36 a37 a38 a130 a131 a132 a141 a144 a150 a151 : Nat) (i1 : Int32) : Met l yX10_hasVoter (wM yX10_hasVoter cX10_hasVoter 2 (some .boolean)) ({ frames := 0, cells := 0, slots := 0, locals := 0 }) (va_Pc [.ref x0, .int i1] (pwP D T [(x0, .inr (10, [.ref a0, .ref a2, .ref a15, .ref a38, .ref a130, .ref a131, .ref a132, .ref a141, .ref a144, .ref a150, .ref a151])), (a15, .inr (3, [.ref a16, .ref a27, .int 0, .int 0, .int 2, .long 0, .int 0, .ref a36, .ref a37])), (a16, .inr (5, [.int 0, .int 0, .int 0, .int 0, .int 0, .int 0, .int 0, .int 0, .int 0, .ref a17, .ref a18, .ref a19, .ref a20, .ref a21, .ref a22, .ref a23, .ref a24, .ref a25, .ref a26]))])) (va_Qi (fun (r : Int32) (u : Unit) => r = 0) (fun _ _ => True) (fun _ => False)) 0 0 (fun _ => False) := by
  refine Met.ofW (cc := cX10_hasVoter) (maxL := 2) (ret := (some .boolean)) (by decide) rfl ?_
  intro p e s m args below meth c s₁ B hml hv
  obtain ⟨rfl, hP, hC⟩ := hv
  have hx := B.exec
  have hb := B.bytes
  have hr := B.returns
  have hts : ∀ w ∈ gt, w.before _ s = true := fun w hw => atoms_spec (ws := (wM yX10_hasVoter cX10_hasVoter 2 (some .boolean))) B.pre w (List.mem_cons_of_mem _ hw)
  have hown : s.vm.findClass RX10 = some m.cls := findClass_of_methodNamed B.named
  have hlocks := B.notSynchronized
  have hK := hC.1
  have hS : va_S (fun _ => False) s.heap s.heap [] := va_S.rf
  have hl := lv_entry ([.ref x0, .int i1]) (n := 2) (Nat.le_of_ble_eq_true rfl)
  rw [lg_entry_eq]
  generalize (lg_sl ([.ref x0, .int i1]) ++ List.replicate (2 - (lg_sl ([.ref x0, .int i1])).length) Slot.unset).toArray = ls at hl ⊢
  have hl : lv_has ls 2 [(0, .ref x0), (1, .int i1)] := hl
  refine lv_iload_n hx hb dX10_hasVoter_0 rfl (lv_at hl 1 rfl) ?_
  refine lv_if_lt (tgt := 22) hx hb dX10_hasVoter_1 (by decide) (fun c_1 => ?_) (fun c_1 => ?_)
  · refine lv_iconst (v := 0) hx hb dX10_hasVoter_22 (by decide) ?_
    exact W.zret (v := 0) hx hb hr rfl (fun t ht hW => ⟨⟨0, (), rfl, rfl, trivial⟩, hS.F ht⟩) hS.2.2 dX10_hasVoter_23
  · refine lv_iload_n hx hb dX10_hasVoter_4 rfl (lv_at hl 1 rfl) ?_
    refine lv_aload_n hx hb dX10_hasVoter_5 rfl (lv_at hl 0 rfl) ?_
    refine va_get (D := D) (ci := 10) (C := RX10) (T := TX10) (N := 11) hx hb hts iX10 hown hK hP 0 rfl rfl 2 (by decide) (hts _ m527) (fun _ h9 => h9) rfl dX10_hasVoter_6 ?_
    refine va_get (D := D) (ci := 3) (C := RX3) (T := TX3) (N := 9) hx hb hts iX3 hown hK hP 1 rfl rfl 0 (by decide) (hts _ m371) (fun _ h9 => h9) rfl dX10_hasVoter_9 ?_
    refine va_get (D := D) (ci := 5) (C := RX5) (T := TX5) (N := 19) hx hb hts iX5 hown hK hP 2 rfl rfl 5 (by decide) (hts _ m191) (fun _ h9 => h9) rfl dX10_hasVoter_12 ?_
    refine lv_icmp_ge (tgt := 22) hx hb dX10_hasVoter_15 (by decide) (fun c_2 => ?_) (fun c_2 => ?_)
    · refine lv_iconst (v := 0) hx hb dX10_hasVoter_22 (by decide) ?_
      exact W.zret (v := 0) hx hb hr rfl (fun t ht hW => ⟨⟨0, (), rfl, rfl, trivial⟩, hS.F ht⟩) hS.2.2 dX10_hasVoter_23
    · refine lv_iconst (v := 1) hx hb dX10_hasVoter_18 (by decide) ?_
      refine lv_goto (tgt := 23) hx hb dX10_hasVoter_19 (by decide) ?_
      exact W.zret (v := 1) hx hb hr rfl (fun t ht hW => ⟨⟨1, (), rfl, ((z2_c_X10_hasVoter i1 c_1 c_2)).elim, trivial⟩, hS.F ht⟩) hS.2.2 dX10_hasVoter_23

set_option maxHeartbeats 4000000 in
set_option maxRecDepth 100000 in
theorem c_X10_hasSet (l : Launch) (D : va_G) (T : Nat → ClassId) (x0 a0 a2 a15 a16 a17 a18 a19 a20 a21 a22 a23 a24 a25 a26 a27 a36 a37 a38 a130 a131 a132 a141 a144 a150 a151 : Nat) (i1 : Int32) : Met l yX10_hasSet (wM yX10_hasSet cX10_hasSet 2 (some .boolean)) ({ frames := 1, cells := 0, slots := 0, locals := 20 }) (va_Pc [.ref x0, .int i1] (pwP D T [(x0, .inr (10, [.ref a0, .ref a2, .ref a15, .ref a38, .ref a130, .ref a131, .ref a132, .ref a141, .ref a144, .ref a150, .ref a151])), (a15, .inr (3, [.ref a16, .ref a27, .int 0, .int 0, .int 2, .long 0, .int 0, .ref a36, .ref a37])), (a16, .inr (5, [.int 0, .int 0, .int 0, .int 0, .int 0, .int 0, .int 0, .int 0, .int 0, .ref a17, .ref a18, .ref a19, .ref a20, .ref a21, .ref a22, .ref a23, .ref a24, .ref a25, .ref a26]))])) (va_Qi (fun (r : Int32) (u : Unit) => r = 0) (fun _ _ => True) (fun _ => False)) 0 0 (fun _ => False) := by
  refine Met.ofW (cc := cX10_hasSet) (maxL := 2) (ret := (some .boolean)) (by decide) rfl ?_
  intro p e s m args below meth c s₁ B hml hv
  obtain ⟨rfl, hP, hC⟩ := hv
  have hx := B.exec
  have hb := B.bytes
  have hr := B.returns
  have hts : ∀ w ∈ gt, w.before _ s = true := fun w hw => atoms_spec (ws := (wM yX10_hasSet cX10_hasSet 2 (some .boolean))) B.pre w (List.mem_cons_of_mem _ hw)
  have hown : s.vm.findClass RX10 = some m.cls := findClass_of_methodNamed B.named
  have hlocks := B.notSynchronized
  have hK := hC.1
  have hS : va_S (fun _ => False) s.heap s.heap [] := va_S.rf
  have hl := lv_entry ([.ref x0, .int i1]) (n := 2) (Nat.le_of_ble_eq_true rfl)
  rw [lg_entry_eq]
  generalize (lg_sl ([.ref x0, .int i1]) ++ List.replicate (2 - (lg_sl ([.ref x0, .int i1])).length) Slot.unset).toArray = ls at hl ⊢
  have hl : lv_has ls 2 [(0, .ref x0), (1, .int i1)] := hl
  refine lv_aload_n hx hb dX10_hasSet_0 rfl (lv_at hl 0 rfl) ?_
  refine puI (cV (As := []) (rest := []) ⟨hx, hb, hml, hown, hts⟩ (c_X10_hasTown l D T x0 a0 a2 a15 a16 a17 a18 a19 a20 a21 a22 a23 a24 a25 a26 a27 a36 a37 a38 a130 a131 a132 a141 a144 a150 a151) k_X10_hasTown v_X10_hasTown m760 rfl rfl ⟨(Nat.le_of_ble_eq_true rfl), (Nat.le_of_ble_eq_true rfl)⟩ (preP hC (hP.sub (ws' := [(x0, .inr (10, [.ref a0, .ref a2, .ref a15, .ref a38, .ref a130, .ref a131, .ref a132, .ref a141, .ref a144, .ref a150, .ref a151])), (a15, .inr (3, [.ref a16, .ref a27, .int 0, .int 0, .int 2, .long 0, .int 0, .ref a36, .ref a37])), (a16, .inr (5, [.int 0, .int 0, .int 0, .int 0, .int 0, .int 0, .int 0, .int 0, .int 0, .ref a17, .ref a18, .ref a19, .ref a20, .ref a21, .ref a22, .ref a23, .ref a24, .ref a25, .ref a26]))]) [0, 1, 2] rfl)) (va_recv hK hP (ci := 10) (q0 := 0) rfl rfl) rfl hl.1 rfl (Nat.le_of_ble_eq_true rfl) dX10_hasSet_1 ⟨(Nat.le_of_ble_eq_true rfl), (Nat.le_of_ble_eq_true rfl)⟩) hS hP (fun r_1 H locs hw hP hS => ?_)
  obtain rfl : r_1 = 0 := hw
  refine lv_if_eq (tgt := 31) hx hb dX10_hasSet_4 (by decide) (fun _ => ?_) (fun c_3 => absurd (by decide) c_3)
  refine lv_iconst (v := 0) hx hb dX10_hasSet_31 (by decide) ?_
  exact W.zret (v := 0) hx hb hr rfl (fun t ht hW => ⟨⟨0, (), rfl, rfl, trivial⟩, hS.F ht⟩) hS.2.2 dX10_hasSet_32

theorem z3_c_X10_hadElection (i1 : Int32) (h0 : ¬ i1 < 0) (h1 : ¬ 0 ≤ i1) : False := by
  simp only [i_lt, i_le, i_eq, l_lt, l_le, l_eq, i_64, i_0, i_1, i_2, i_3, i_4, i_5, i_6, i_7, i_8, i_12, i_60, i_m1, l_0, l_1, l_2, l_3, l_4, l_12, l_m1, vp_in_iff] at *; omega
set_option maxHeartbeats 4000000 in
set_option maxRecDepth 100000 in
theorem c_X10_hadElection (l : Launch) (D : va_G) (T : Nat → ClassId) (x0 a0 a2 a15 a16 a27 a36 a37 a38 a130 a131 a132 a141 a144 a150 a151 : Nat) (i1 : Int32) : Met l yX10_hadElection (wM yX10_hadElection cX10_hadElection 2 (some .boolean)) ({ frames := 0, cells := 0, slots := 0, locals := 0 }) (va_Pc [.ref x0, .int i1] (pwP D T [(x0, .inr (10, [.ref a0, .ref a2, .ref a15, .ref a38, .ref a130, .ref a131, .ref a132, .ref a141, .ref a144, .ref a150, .ref a151])), (a15, .inr (3, [.ref a16, .ref a27, .int 0, .int 0, .int 2, .long 0, .int 0, .ref a36, .ref a37]))])) (va_Qi (fun (r : Int32) (u : Unit) => r = 0) (fun _ _ => True) (fun _ => False)) 0 0 (fun _ => False) := by
  refine Met.ofW (cc := cX10_hadElection) (maxL := 2) (ret := (some .boolean)) (by decide) rfl ?_
  intro p e s m args below meth c s₁ B hml hv
  obtain ⟨rfl, hP, hC⟩ := hv
  have hx := B.exec
  have hb := B.bytes
  have hr := B.returns
  have hts : ∀ w ∈ gt, w.before _ s = true := fun w hw => atoms_spec (ws := (wM yX10_hadElection cX10_hadElection 2 (some .boolean))) B.pre w (List.mem_cons_of_mem _ hw)
  have hown : s.vm.findClass RX10 = some m.cls := findClass_of_methodNamed B.named
  have hlocks := B.notSynchronized
  have hK := hC.1
  have hS : va_S (fun _ => False) s.heap s.heap [] := va_S.rf
  have hl := lv_entry ([.ref x0, .int i1]) (n := 2) (Nat.le_of_ble_eq_true rfl)
  rw [lg_entry_eq]
  generalize (lg_sl ([.ref x0, .int i1]) ++ List.replicate (2 - (lg_sl ([.ref x0, .int i1])).length) Slot.unset).toArray = ls at hl ⊢
  have hl : lv_has ls 2 [(0, .ref x0), (1, .int i1)] := hl
  refine lv_iload_n hx hb dX10_hadElection_0 rfl (lv_at hl 1 rfl) ?_
  refine lv_if_lt (tgt := 19) hx hb dX10_hadElection_1 (by decide) (fun c_1 => ?_) (fun c_1 => ?_)
  · refine lv_iconst (v := 0) hx hb dX10_hadElection_19 (by decide) ?_
    exact W.zret (v := 0) hx hb hr rfl (fun t ht hW => ⟨⟨0, (), rfl, rfl, trivial⟩, hS.F ht⟩) hS.2.2 dX10_hadElection_20
  · refine lv_iload_n hx hb dX10_hadElection_4 rfl (lv_at hl 1 rfl) ?_
    refine lv_aload_n hx hb dX10_hadElection_5 rfl (lv_at hl 0 rfl) ?_
    refine va_get (D := D) (ci := 10) (C := RX10) (T := TX10) (N := 11) hx hb hts iX10 hown hK hP 0 rfl rfl 2 (by decide) (hts _ m527) (fun _ h9 => h9) rfl dX10_hadElection_6 ?_
    refine va_get (D := D) (ci := 3) (C := RX3) (T := TX3) (N := 9) hx hb hts iX3 hown hK hP 1 rfl rfl 2 (by decide) (hts _ m380) (fun _ h9 => h9) rfl dX10_hadElection_9 ?_
    refine lv_icmp_ge (tgt := 19) hx hb dX10_hadElection_12 (by decide) (fun c_2 => ?_) (fun c_2 => ?_)
    · refine lv_iconst (v := 0) hx hb dX10_hadElection_19 (by decide) ?_
      exact W.zret (v := 0) hx hb hr rfl (fun t ht hW => ⟨⟨0, (), rfl, rfl, trivial⟩, hS.F ht⟩) hS.2.2 dX10_hadElection_20
    · refine lv_iconst (v := 1) hx hb dX10_hadElection_15 (by decide) ?_
      refine lv_goto (tgt := 20) hx hb dX10_hadElection_16 (by decide) ?_
      exact W.zret (v := 1) hx hb hr rfl (fun t ht hW => ⟨⟨1, (), rfl, ((z3_c_X10_hadElection i1 c_1 c_2)).elim, trivial⟩, hS.F ht⟩) hS.2.2 dX10_hadElection_20

set_option maxHeartbeats 4000000 in
set_option maxRecDepth 100000 in
theorem c_X10_isOver (l : Launch) (D : va_G) (T : Nat → ClassId) (x0 a0 a2 a15 a16 a27 a36 a37 a38 a130 a131 a132 a141 a144 a150 a151 : Nat) : Met l yX10_isOver (wM yX10_isOver cX10_isOver 1 (some .boolean)) ({ frames := 0, cells := 0, slots := 0, locals := 0 }) (va_Pc [.ref x0] (pwP D T [(x0, .inr (10, [.ref a0, .ref a2, .ref a15, .ref a38, .ref a130, .ref a131, .ref a132, .ref a141, .ref a144, .ref a150, .ref a151])), (a15, .inr (3, [.ref a16, .ref a27, .int 0, .int 0, .int 2, .long 0, .int 0, .ref a36, .ref a37]))])) (va_Qi (fun (r : Int32) (u : Unit) => r = 0) (fun _ _ => True) (fun _ => False)) 0 0 (fun _ => False) := by
  refine Met.ofW (cc := cX10_isOver) (maxL := 1) (ret := (some .boolean)) (by decide) rfl ?_
  intro p e s m args below meth c s₁ B hml hv
  obtain ⟨rfl, hP, hC⟩ := hv
  have hx := B.exec
  have hb := B.bytes
  have hr := B.returns
  have hts : ∀ w ∈ gt, w.before _ s = true := fun w hw => atoms_spec (ws := (wM yX10_isOver cX10_isOver 1 (some .boolean))) B.pre w (List.mem_cons_of_mem _ hw)
  have hown : s.vm.findClass RX10 = some m.cls := findClass_of_methodNamed B.named
  have hlocks := B.notSynchronized
  have hK := hC.1
  have hS : va_S (fun _ => False) s.heap s.heap [] := va_S.rf
  have hl := lv_entry ([.ref x0]) (n := 1) (Nat.le_of_ble_eq_true rfl)
  rw [lg_entry_eq]
  generalize (lg_sl ([.ref x0]) ++ List.replicate (1 - (lg_sl ([.ref x0])).length) Slot.unset).toArray = ls at hl ⊢
  have hl : lv_has ls 1 [(0, .ref x0)] := hl
  refine lv_aload_n hx hb dX10_isOver_0 rfl (lv_at hl 0 rfl) ?_
  refine va_get (D := D) (ci := 10) (C := RX10) (T := TX10) (N := 11) hx hb hts iX10 hown hK hP 0 rfl rfl 2 (by decide) (hts _ m527) (fun _ h9 => h9) rfl dX10_isOver_1 ?_
  refine va_get (D := D) (ci := 3) (C := RX3) (T := TX3) (N := 9) hx hb hts iX3 hown hK hP 1 rfl rfl 2 (by decide) (hts _ m380) (fun _ h9 => h9) rfl dX10_isOver_4 ?_
  refine lv_bipush (v := 100) hx hb dX10_isOver_7 (by decide) ?_
  refine lv_icmp_lt (tgt := 16) hx hb dX10_isOver_9 (by decide) (fun _ => ?_) (fun c_1 => absurd (by decide) c_1)
  refine lv_iconst (v := 0) hx hb dX10_isOver_16 (by decide) ?_
  exact W.zret (v := 0) hx hb hr rfl (fun t ht hW => ⟨⟨0, (), rfl, rfl, trivial⟩, hS.F ht⟩) hS.2.2 dX10_isOver_17

theorem z4_c_X10_isSlot (i1 : Int32) (h0 : i1 < 0) : ¬ (0 ≤ i1 ∧ i1 < 4) := by
  simp only [i_lt, i_le, i_eq, l_lt, l_le, l_eq, i_64, i_0, i_1, i_2, i_3, i_4, i_5, i_6, i_7, i_8, i_12, i_60, i_m1, l_0, l_1, l_2, l_3, l_4, l_12, l_m1, vp_in_iff] at *; omega
theorem z5_c_X10_isSlot (i1 : Int32) (h0 : ¬ i1 < 0) (h1 : 4 ≤ i1) : ¬ (0 ≤ i1 ∧ i1 < 4) := by
  simp only [i_lt, i_le, i_eq, l_lt, l_le, l_eq, i_64, i_0, i_1, i_2, i_3, i_4, i_5, i_6, i_7, i_8, i_12, i_60, i_m1, l_0, l_1, l_2, l_3, l_4, l_12, l_m1, vp_in_iff] at *; omega
theorem z6_c_X10_isSlot (i1 : Int32) (h0 : ¬ i1 < 0) (h1 : ¬ 4 ≤ i1) : 0 ≤ i1 := by
  simp only [i_lt, i_le, i_eq, l_lt, l_le, l_eq, i_64, i_0, i_1, i_2, i_3, i_4, i_5, i_6, i_7, i_8, i_12, i_60, i_m1, l_0, l_1, l_2, l_3, l_4, l_12, l_m1, vp_in_iff] at *; omega
theorem z7_c_X10_isSlot (i1 : Int32) (h0 : ¬ i1 < 0) (h1 : ¬ 4 ≤ i1) : i1 < 4 := by
  simp only [i_lt, i_le, i_eq, l_lt, l_le, l_eq, i_64, i_0, i_1, i_2, i_3, i_4, i_5, i_6, i_7, i_8, i_12, i_60, i_m1, l_0, l_1, l_2, l_3, l_4, l_12, l_m1, vp_in_iff] at *; omega
set_option maxHeartbeats 4000000 in
set_option maxRecDepth 100000 in
theorem c_X10_isSlot (l : Launch) (D : va_G) (T : Nat → ClassId) (x0 a0 a2 a15 a38 a130 a131 a132 a133 a135 a137 a139 a141 a144 a150 a151 : Nat) (i1 : Int32) : Met l yX10_isSlot (wM yX10_isSlot cX10_isSlot 2 (some .boolean)) ({ frames := 0, cells := 0, slots := 0, locals := 0 }) (va_Pc [.ref x0, .int i1] (pwP D T [(x0, .inr (10, [.ref a0, .ref a2, .ref a15, .ref a38, .ref a130, .ref a131, .ref a132, .ref a141, .ref a144, .ref a150, .ref a151])), (a132, .inl (T 4, 4, .inr (.inr (.inr (.inr (va_up (va_up (va_up (va_up (fun _ => none) 0 (some a133)) 1 (some a135)) 2 (some a137)) 3 (some a139)))))))])) (va_Qi (fun (r : Int32) (u : Unit) => (r = 1 ∧ 0 ≤ i1 ∧ i1 < 4) ∨ (r = 0 ∧ ¬ (0 ≤ i1 ∧ i1 < 4))) (fun _ _ => True) (fun _ => False)) 0 0 (fun _ => False) := by
  refine Met.ofW (cc := cX10_isSlot) (maxL := 2) (ret := (some .boolean)) (by decide) rfl ?_
  intro p e s m args below meth c s₁ B hml hv
  obtain ⟨rfl, hP, hC⟩ := hv
  have hx := B.exec
  have hb := B.bytes
  have hr := B.returns
  have hts : ∀ w ∈ gt, w.before _ s = true := fun w hw => atoms_spec (ws := (wM yX10_isSlot cX10_isSlot 2 (some .boolean))) B.pre w (List.mem_cons_of_mem _ hw)
  have hown : s.vm.findClass RX10 = some m.cls := findClass_of_methodNamed B.named
  have hlocks := B.notSynchronized
  have hK := hC.1
  have hS : va_S (fun _ => False) s.heap s.heap [] := va_S.rf
  have hl := lv_entry ([.ref x0, .int i1]) (n := 2) (Nat.le_of_ble_eq_true rfl)
  rw [lg_entry_eq]
  generalize (lg_sl ([.ref x0, .int i1]) ++ List.replicate (2 - (lg_sl ([.ref x0, .int i1])).length) Slot.unset).toArray = ls at hl ⊢
  have hl : lv_has ls 2 [(0, .ref x0), (1, .int i1)] := hl
  refine lv_iload_n hx hb dX10_isSlot_0 rfl (lv_at hl 1 rfl) ?_
  refine lv_if_lt (tgt := 17) hx hb dX10_isSlot_1 (by decide) (fun c_1 => ?_) (fun c_1 => ?_)
  · refine lv_iconst (v := 0) hx hb dX10_isSlot_17 (by decide) ?_
    exact W.zret (v := 0) hx hb hr rfl (fun t ht hW => ⟨⟨0, (), rfl, (Or.inr (⟨rfl, (z4_c_X10_isSlot i1 c_1)⟩)), trivial⟩, hS.F ht⟩) hS.2.2 dX10_isSlot_18
  · refine lv_iload_n hx hb dX10_isSlot_4 rfl (lv_at hl 1 rfl) ?_
    refine lv_aload_n hx hb dX10_isSlot_5 rfl (lv_at hl 0 rfl) ?_
    refine va_get (D := D) (ci := 10) (C := RX10) (T := TX10) (N := 11) hx hb hts iX10 hown hK hP 0 rfl rfl 6 (by decide) (hts _ m531) (fun _ h9 => h9) rfl dX10_isSlot_6 ?_
    refine va_alen (D := D) hx hb hK hP 1 4 rfl rfl (v := 4) rfl dX10_isSlot_9 ?_
    refine lv_icmp_ge (tgt := 17) hx hb dX10_isSlot_10 (by decide) (fun c_2 => ?_) (fun c_2 => ?_)
    · refine lv_iconst (v := 0) hx hb dX10_isSlot_17 (by decide) ?_
      exact W.zret (v := 0) hx hb hr rfl (fun t ht hW => ⟨⟨0, (), rfl, (Or.inr (⟨rfl, (z5_c_X10_isSlot i1 c_1 c_2)⟩)), trivial⟩, hS.F ht⟩) hS.2.2 dX10_isSlot_18
    · refine lv_iconst (v := 1) hx hb dX10_isSlot_13 (by decide) ?_
      refine lv_goto (tgt := 18) hx hb dX10_isSlot_14 (by decide) ?_
      exact W.zret (v := 1) hx hb hr rfl (fun t ht hW => ⟨⟨1, (), rfl, (Or.inl (⟨rfl, (z6_c_X10_isSlot i1 c_1 c_2), (z7_c_X10_isSlot i1 c_1 c_2)⟩)), trivial⟩, hS.F ht⟩) hS.2.2 dX10_isSlot_18
