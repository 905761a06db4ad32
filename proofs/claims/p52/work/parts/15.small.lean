set_option maxHeartbeats 4000000 in
set_option maxRecDepth 100000 in
theorem c_X2_isVoid (l : Launch) (D : va_G) (T : Nat → ClassId) (h0 nb : Nat) (w9 z9 : Int32) (h_z9 : (-1) ≤ z9.toInt ∧ z9.toInt ≤ 60) : Met l yX2_isVoid (wM yX2_isVoid cX2_isVoid 1 (some .boolean)) ({ frames := 0, cells := 0, slots := 0, locals := 0 }) (va_Pc [.ref h0] (pwP D T [(h0, .inr (2, [.ref nb, .int w9, .int z9]))])) (va_Qi (fun (r : Int32) (u : Unit) => (r = 1 ∧ z9.toInt = -1) ∨ (r = 0 ∧ ¬ z9.toInt = -1)) (fun _ _ => True) (fun _ => False)) 0 0 (fun _ => False) := by
  refine Met.ofW (cc := cX2_isVoid) (maxL := 1) (ret := (some .boolean)) (by decide) rfl ?_
  intro p e s m args below meth c s₁ B hml hv
  obtain ⟨rfl, hP, hC⟩ := hv
  have hx := B.exec
  have hb := B.bytes
  have hr := B.returns
  have hts : ∀ w ∈ gt, w.before _ s = true := fun w hw => atoms_spec (ws := (wM yX2_isVoid cX2_isVoid 1 (some .boolean))) B.pre w (List.mem_cons_of_mem _ hw)
  have hown : s.vm.findClass RX2 = some m.cls := findClass_of_methodNamed B.named
  have hlocks := B.notSynchronized
  have hK := hC.1
  have hS : va_S (fun _ => False) s.heap s.heap [] := va_S.rf
  have hl := lv_entry ([.ref h0]) (n := 1) (Nat.le_of_ble_eq_true rfl)
  rw [lg_entry_eq]
  generalize (lg_sl ([.ref h0]) ++ List.replicate (1 - (lg_sl ([.ref h0])).length) Slot.unset).toArray = ls at hl ⊢
  have hl : lv_has ls 1 [(0, .ref h0)] := hl
  refine lv_aload_n hx hb dX2_isVoid_0 rfl (lv_at hl 0 rfl) ?_
  refine va_get (D := D) (ci := 2) (C := RX2) (T := TX2) (N := 3) hx hb hts iX2 hown hK hP 0 rfl rfl 2 (by decide) (hts _ m428) (fun _ h9 => h9) rfl dX2_isVoid_1 ?_
  refine lv_iconst (v := (-1)) hx hb dX2_isVoid_4 (by decide) ?_
  refine lv_icmp_ne (tgt := 12) hx hb dX2_isVoid_5 (by decide) (fun c_1 => ?_) (fun c_1 => ?_)
  · have c_1 : ¬ z9.toInt = (-1) := fun h => c_1 ((c_eq (x := z9.toInt) (y := (-1)) rfl rfl).mpr h)
    refine lv_iconst (v := 0) hx hb dX2_isVoid_12 (by decide) ?_
    exact W.zret (v := 0) hx hb hr rfl (fun t ht hW => ⟨⟨0, (), rfl, (Or.inr (⟨rfl, (show ¬ z9.toInt = -1 by omega)⟩)), trivial⟩, hS.F ht⟩) hS.2.2 dX2_isVoid_13
  · have c_1 : z9.toInt = (-1) := (c_eq (x := z9.toInt) (y := (-1)) rfl rfl).mp c_1
    refine lv_iconst (v := 1) hx hb dX2_isVoid_8 (by decide) ?_
    refine lv_goto (tgt := 13) hx hb dX2_isVoid_9 (by decide) ?_
    exact W.zret (v := 1) hx hb hr rfl (fun t ht hW => ⟨⟨1, (), rfl, (Or.inl (⟨rfl, (show z9.toInt = -1 by omega)⟩)), trivial⟩, hS.F ht⟩) hS.2.2 dX2_isVoid_13

set_option maxHeartbeats 4000000 in
set_option maxRecDepth 100000 in
theorem c_X2_begin (l : Launch) (D : va_G) (T : Nat → ClassId) (h0 nb : Nat) (i1 i2 w9 z9 : Int32) (g9 : Nat → Int64) (sz : Nat) (h_z9 : (-1) ≤ z9.toInt ∧ z9.toInt ≤ 60) (h_i2 : 0 ≤ i2.toInt ∧ i2.toInt ≤ 60) : Met l yX2_begin (wM yX2_begin cX2_begin 3 none) ({ frames := 1, cells := 0, slots := 0, locals := 24 }) (va_Pc [.ref h0, .int i1, .int i2] (pwM D T [(h0, .inr (2, [.ref nb, .int w9, .int z9])), (nb, .inl (T 2, 60, .inr (.inl g9)))] sz)) (va_Qv (fun (u : U5) => True) (fun u t => pwE D (va_A [(h0, .inr (2, [.ref nb, .int w9, .int z9])), (nb, .inl (T 2, 60, .inr (.inl g9)))] sz) [(h0, .inr (2, [.ref nb, .int i1, .int i2])), (nb, .inl (T 2, 60, .inr (.inl (u.2.2.1 0))))] t) (va_A [(h0, .inr (2, [.ref nb, .int w9, .int z9])), (nb, .inl (T 2, 60, .inr (.inl g9)))] sz)) 0 0 (va_A [(h0, .inr (2, [.ref nb, .int w9, .int z9])), (nb, .inl (T 2, 60, .inr (.inl g9)))] sz) := by
  refine Met.ofW (cc := cX2_begin) (maxL := 3) (ret := none) (by decide) rfl ?_
  intro p e s m args below meth c s₁ B hml hv
  obtain ⟨rfl, hsz, hP, hC, hD0⟩ := hv
  have hx := B.exec
  have hb := B.bytes
  have hr := B.returns
  have hts : ∀ w ∈ gt, w.before _ s = true := fun w hw => atoms_spec (ws := (wM yX2_begin cX2_begin 3 none)) B.pre w (List.mem_cons_of_mem _ hw)
  have hown : s.vm.findClass RX2 = some m.cls := findClass_of_methodNamed B.named
  have hlocks := B.notSynchronized
  have hK := hC.1
  subst hsz
  have hD := hD0.self (sz := s.heap.size)
  generalize hAe : va_A [(h0, .inr (2, [.ref nb, .int w9, .int z9])), (nb, .inl (T 2, 60, .inr (.inl g9)))] s.heap.size = A at hD ⊢
  have hA : ∀ q : Nat, s.heap.size ≤ q → A q := fun q h => by rw [← hAe]; exact Or.inr h
  have hS : va_S A s.heap s.heap [] := va_S.rf
  have hl := lv_entry ([.ref h0, .int i1, .int i2]) (n := 3) (Nat.le_of_ble_eq_true rfl)
  rw [lg_entry_eq]
  generalize (lg_sl ([.ref h0, .int i1, .int i2]) ++ List.replicate (3 - (lg_sl ([.ref h0, .int i1, .int i2])).length) Slot.unset).toArray = ls at hl ⊢
  have hl : lv_has ls 3 [(0, .ref h0), (1, .int i1), (2, .int i2)] := hl
  refine lv_aload_n hx hb dX2_begin_0 rfl (lv_at hl 0 rfl) ?_
  refine lv_iload_n hx hb dX2_begin_1 rfl (lv_at hl 1 rfl) ?_
  refine va_put (D := D) (ci := 2) (v := .int i1) (ty := .int) (C := RX2) (T := TX2) (N := 3) hx hb hts iX2 tyX2 tyX2_ok nmX2 hown hK hP hD hS 0 rfl rfl 1 (by decide) (hts _ m426) (fun _ h9 => h9) rfl (by decide +kernel) rfl rfl (Nat.le_of_ble_eq_true rfl) dX2_begin_2 (fun H locs hP hD hS => ?_)
  have hP : va_P D vwCl [(h0, .inr (2, [.ref nb, .int i1, .int z9])), (nb, .inl (T 2, 60, .inr (.inl g9)))] H := hP
  have hD : va_D A [(h0, .inr (2, [.ref nb, .int i1, .int z9])), (nb, .inl (T 2, 60, .inr (.inl g9)))] := hD
  refine lv_aload_n hx hb dX2_begin_5 rfl (lv_at hl 0 rfl) ?_
  refine lv_iload_n hx hb dX2_begin_6 rfl (lv_at hl 2 rfl) ?_
  refine va_put (D := D) (ci := 2) (v := .int i2) (ty := .int) (C := RX2) (T := TX2) (N := 3) hx hb hts iX2 tyX2 tyX2_ok nmX2 hown hK hP hD hS 0 rfl rfl 2 (by decide) (hts _ m428) (fun _ h9 => h9) rfl (by decide +kernel) rfl rfl (Nat.le_of_ble_eq_true rfl) dX2_begin_7 (fun H locs hP hD hS => ?_)
  have hP : va_P D vwCl [(h0, .inr (2, [.ref nb, .int i1, .int i2])), (nb, .inl (T 2, 60, .inr (.inl g9)))] H := hP
  have hD : va_D A [(h0, .inr (2, [.ref nb, .int i1, .int i2])), (nb, .inl (T 2, 60, .inr (.inl g9)))] := hD
  refine lv_aload_n hx hb dX2_begin_10 rfl (lv_at hl 0 rfl) ?_
  refine va_get (D := D) (ci := 2) (C := RX2) (T := TX2) (N := 3) hx hb hts iX2 hown hK hP 0 rfl rfl 0 (by decide) (hts _ m424) (fun _ h9 => h9) rfl dX2_begin_11 ?_
  refine lv_lconst (v := 0) hx hb dX2_begin_14 (by decide) ?_
  refine mtV (wr := [(h0, .inr (2, [.ref nb, .int i1, .int i2]))]) (cS (As := [.ref nb, .long 0]) (rest := []) ⟨hx, hb, hml, hown, hts⟩ (c_fillL l D T nb 60 0 g9 _ (by omega)) k_J7_fill_d0a16 m1129 m1289 rfl rfl ⟨(Nat.le_of_ble_eq_true rfl), (Nat.le_of_ble_eq_true rfl)⟩ (preM hC (hP.sub (ws' := [(nb, .inl (T 2, 60, .inr (.inl g9)))]) [1] rfl) (hD.sub (ws' := [(nb, .inl (T 2, 60, .inr (.inl g9)))]) [1] (by decide) rfl)) rfl hl.1 rfl (Nat.le_of_ble_eq_true rfl) dX2_begin_15 ⟨(Nat.le_of_ble_eq_true rfl), (Nat.le_of_ble_eq_true rfl)⟩) hS hA hP hD [1] [0] rfl rfl (by decide) (by decide) (fun u_2 H locs hw hP hD hS => ?_)
  have hP : va_P D vwCl [(h0, .inr (2, [.ref nb, .int i1, .int i2])), (nb, .inl (T 2, 60, .inr (.inl (u_2.2.2.1 0))))] H := hP.sub [0, 1] rfl
  have hD : va_D A [(h0, .inr (2, [.ref nb, .int i1, .int i2])), (nb, .inl (T 2, 60, .inr (.inl (u_2.2.2.1 0))))] := hD.sub [0, 1] (by decide) rfl
  have hP9 := hP.sub (ws' := [(h0, .inr (2, [.ref nb, .int i1, .int i2])), (nb, .inl (T 2, 60, .inr (.inl (u_2.2.2.1 0))))]) [0, 1] rfl
  have hD9 := hD.sub (ws' := [(h0, .inr (2, [.ref nb, .int i1, .int i2])), (nb, .inl (T 2, 60, .inr (.inl (u_2.2.2.1 0))))]) [0, 1] (by decide) rfl
  exact W.vret hx hb hr (fun t ht hW => ⟨⟨(fun k => ([] : List (Nat)).getD k 0, fun k => ([] : List (Nat → Int32)).getD k (fun _ => 0), fun k => ([u_2.2.2.1 0] : List (Nat → Int64)).getD k (fun _ => 0), fun k => ([] : List (Int32)).getD k 0, fun k => ([] : List (Int64)).getD k 0), rfl, trivial, by rw [ht]; exact hP9, hD9⟩, hS.F ht⟩) hS.2.2 dX2_begin_18

set_option maxHeartbeats 4000000 in
set_option maxRecDepth 100000 in
theorem c_X2_cut (l : Launch) (D : va_G) (T : Nat → ClassId) (h0 nb : Nat) (w9 z9 : Int32) (v1 : Int64) (h_z9 : (-1) ≤ z9.toInt ∧ z9.toInt ≤ 60) : Met l yX2_cut (wM yX2_cut cX2_cut 3 (some .long)) ({ frames := 0, cells := 0, slots := 0, locals := 0 }) (va_Pc [.ref h0, .long v1] (pwP D T [(h0, .inr (2, [.ref nb, .int w9, .int z9]))])) (va_Ql (fun (r : Int64) (u : Unit) => True) (fun _ _ => True) (fun _ => False)) 0 0 (fun _ => False) := by
  refine Met.ofW (cc := cX2_cut) (maxL := 3) (ret := (some .long)) (by decide) rfl ?_
  intro p e s m args below meth c s₁ B hml hv
  obtain ⟨rfl, hP, hC⟩ := hv
  have hx := B.exec
  have hb := B.bytes
  have hr := B.returns
  have hts : ∀ w ∈ gt, w.before _ s = true := fun w hw => atoms_spec (ws := (wM yX2_cut cX2_cut 3 (some .long))) B.pre w (List.mem_cons_of_mem _ hw)
  have hown : s.vm.findClass RX2 = some m.cls := findClass_of_methodNamed B.named
  have hlocks := B.notSynchronized
  have hK := hC.1
  have hS : va_S (fun _ => False) s.heap s.heap [] := va_S.rf
  have hl := lv_entry ([.ref h0, .long v1]) (n := 3) (Nat.le_of_ble_eq_true rfl)
  rw [lg_entry_eq]
  generalize (lg_sl ([.ref h0, .long v1]) ++ List.replicate (3 - (lg_sl ([.ref h0, .long v1])).length) Slot.unset).toArray = ls at hl ⊢
  have hl : lv_has ls 3 [(0, .ref h0), (1, .long v1)] := hl
  refine lv_aload_n hx hb dX2_cut_0 rfl (lv_at hl 0 rfl) ?_
  refine va_get (D := D) (ci := 2) (C := RX2) (T := TX2) (N := 3) hx hb hts iX2 hown hK hP 0 rfl rfl 1 (by decide) (hts _ m426) (fun _ h9 => h9) rfl dX2_cut_1 ?_
  rcases (show (w9.toInt = 0) ∨ (w9.toInt = 1) ∨ (w9.toInt = 2) ∨ (¬ w9.toInt = 0 ∧ ¬ w9.toInt = 1 ∧ ¬ w9.toInt = 2) by omega) with c_1 | c_1 | c_1 | c_1
  · refine lv_tableIn (off := 28) (tgt := 32) hx hb dX2_cut_4 (by omega) (by omega) (by rw [c_1]; decide) (by decide) ?_
    refine lv_lload_n hx hb dX2_cut_32 rfl (lv_at hl 1 rfl) ?_
    refine lv_l2i hx hb dX2_cut_33 rfl ?_
    refine lv_topi (fun x_2 ex_2 => ?_)
    refine lv_i2b hx hb dX2_cut_34 rfl ?_
    refine lv_topi (fun x_3 ex_3 => ?_)
    refine lv_i2l hx hb dX2_cut_35 rfl ?_
    exact W.lret (v := x_3.toInt64) hx hb hr (fun t ht hW => ⟨⟨x_3.toInt64, (), rfl, trivial, trivial⟩, hS.F ht⟩) hS.2.2 dX2_cut_36
  · refine lv_tableIn (off := 33) (tgt := 37) hx hb dX2_cut_4 (by omega) (by omega) (by rw [c_1]; decide) (by decide) ?_
    refine lv_lload_n hx hb dX2_cut_37 rfl (lv_at hl 1 rfl) ?_
    refine lv_l2i hx hb dX2_cut_38 rfl ?_
    refine lv_topi (fun x_4 ex_4 => ?_)
    refine lv_i2s hx hb dX2_cut_39 rfl ?_
    refine lv_topi (fun x_5 ex_5 => ?_)
    refine lv_i2l hx hb dX2_cut_40 rfl ?_
    exact W.lret (v := x_5.toInt64) hx hb hr (fun t ht hW => ⟨⟨x_5.toInt64, (), rfl, trivial, trivial⟩, hS.F ht⟩) hS.2.2 dX2_cut_41
  · refine lv_tableIn (off := 38) (tgt := 42) hx hb dX2_cut_4 (by omega) (by omega) (by rw [c_1]; decide) (by decide) ?_
    refine lv_lload_n hx hb dX2_cut_42 rfl (lv_at hl 1 rfl) ?_
    refine lv_l2i hx hb dX2_cut_43 rfl ?_
    refine lv_topi (fun x_6 ex_6 => ?_)
    refine lv_i2l hx hb dX2_cut_44 rfl ?_
    exact W.lret (v := x_6.toInt64) hx hb hr (fun t ht hW => ⟨⟨x_6.toInt64, (), rfl, trivial, trivial⟩, hS.F ht⟩) hS.2.2 dX2_cut_45
  · refine lv_tableOut (tgt := 46) hx hb dX2_cut_4 (by omega) (by decide) ?_
    refine lv_lload_n hx hb dX2_cut_46 rfl (lv_at hl 1 rfl) ?_
    exact W.lret (v := v1) hx hb hr (fun t ht hW => ⟨⟨v1, (), rfl, trivial, trivial⟩, hS.F ht⟩) hS.2.2 dX2_cut_47

set_option maxHeartbeats 4000000 in
set_option maxRecDepth 100000 in
theorem c_X2_holds (l : Launch) (D : va_G) (T : Nat → ClassId) (h0 nb : Nat) (i1 i2 w9 z9 : Int32) (h_z9 : (-1) ≤ z9.toInt ∧ z9.toInt ≤ 60) : Met l yX2_holds (wM yX2_holds cX2_holds 3 (some .boolean)) ({ frames := 0, cells := 0, slots := 0, locals := 0 }) (va_Pc [.ref h0, .int i1, .int i2] (pwP D T [(h0, .inr (2, [.ref nb, .int w9, .int z9]))])) (va_Qi (fun (r : Int32) (u : Unit) => (r = 1 ∧ 0 ≤ i1.toInt ∧ 0 ≤ i2.toInt ∧ i1.toInt + i2.toInt ≤ z9.toInt) ∨ (r = 0)) (fun _ _ => True) (fun _ => False)) 0 0 (fun _ => False) := by
  refine Met.ofW (cc := cX2_holds) (maxL := 3) (ret := (some .boolean)) (by decide) rfl ?_
  intro p e s m args below meth c s₁ B hml hv
  obtain ⟨rfl, hP, hC⟩ := hv
  have hx := B.exec
  have hb := B.bytes
  have hr := B.returns
  have hts : ∀ w ∈ gt, w.before _ s = true := fun w hw => atoms_spec (ws := (wM yX2_holds cX2_holds 3 (some .boolean))) B.pre w (List.mem_cons_of_mem _ hw)
  have hown : s.vm.findClass RX2 = some m.cls := findClass_of_methodNamed B.named
  have hlocks := B.notSynchronized
  have hK := hC.1
  have hS : va_S (fun _ => False) s.heap s.heap [] := va_S.rf
  have hl := lv_entry ([.ref h0, .int i1, .int i2]) (n := 3) (Nat.le_of_ble_eq_true rfl)
  rw [lg_entry_eq]
  generalize (lg_sl ([.ref h0, .int i1, .int i2]) ++ List.replicate (3 - (lg_sl ([.ref h0, .int i1, .int i2])).length) Slot.unset).toArray = ls at hl ⊢
  have hl : lv_has ls 3 [(0, .ref h0), (1, .int i1), (2, .int i2)] := hl
  refine lv_iload_n hx hb dX2_holds_0 rfl (lv_at hl 1 rfl) ?_
  refine lv_if_lt (tgt := 30) hx hb dX2_holds_1 (by decide) (fun c_1 => ?_) (fun c_1 => ?_)
  · have c_1 : i1.toInt < 0 := (c_lt (x := i1.toInt) (y := 0) rfl rfl).mp c_1
    refine lv_iconst (v := 0) hx hb dX2_holds_30 (by decide) ?_
    exact W.zret (v := 0) hx hb hr rfl (fun t ht hW => ⟨⟨0, (), rfl, (Or.inr rfl), trivial⟩, hS.F ht⟩) hS.2.2 dX2_holds_31
  · have c_1 : 0 ≤ i1.toInt := by have h := mt (c_lt (x := i1.toInt) (y := 0) rfl rfl).mpr c_1; omega
    refine lv_iload_n hx hb dX2_holds_4 rfl (lv_at hl 2 rfl) ?_
    refine lv_if_lt (tgt := 30) hx hb dX2_holds_5 (by decide) (fun c_2 => ?_) (fun c_2 => ?_)
    · have c_2 : i2.toInt < 0 := (c_lt (x := i2.toInt) (y := 0) rfl rfl).mp c_2
      refine lv_iconst (v := 0) hx hb dX2_holds_30 (by decide) ?_
      exact W.zret (v := 0) hx hb hr rfl (fun t ht hW => ⟨⟨0, (), rfl, (Or.inr rfl), trivial⟩, hS.F ht⟩) hS.2.2 dX2_holds_31
    · have c_2 : 0 ≤ i2.toInt := by have h := mt (c_lt (x := i2.toInt) (y := 0) rfl rfl).mpr c_2; omega
      refine lv_iload_n hx hb dX2_holds_8 rfl (lv_at hl 2 rfl) ?_
      refine lv_aload_n hx hb dX2_holds_9 rfl (lv_at hl 0 rfl) ?_
      refine va_get (D := D) (ci := 2) (C := RX2) (T := TX2) (N := 3) hx hb hts iX2 hown hK hP 0 rfl rfl 2 (by decide) (hts _ m428) (fun _ h9 => h9) rfl dX2_holds_10 ?_
      refine lv_icmp_gt (tgt := 30) hx hb dX2_holds_13 (by decide) (fun c_3 => ?_) (fun c_3 => ?_)
      · have c_3 : z9.toInt < i2.toInt := (c_lt (x := z9.toInt) (y := i2.toInt) rfl rfl).mp c_3
        refine lv_iconst (v := 0) hx hb dX2_holds_30 (by decide) ?_
        exact W.zret (v := 0) hx hb hr rfl (fun t ht hW => ⟨⟨0, (), rfl, (Or.inr rfl), trivial⟩, hS.F ht⟩) hS.2.2 dX2_holds_31
      · have c_3 : i2.toInt ≤ z9.toInt := by have h := mt (c_lt (x := z9.toInt) (y := i2.toInt) rfl rfl).mpr c_3; omega
        refine lv_iload_n hx hb dX2_holds_16 rfl (lv_at hl 1 rfl) ?_
        refine lv_aload_n hx hb dX2_holds_17 rfl (lv_at hl 0 rfl) ?_
        refine va_get (D := D) (ci := 2) (C := RX2) (T := TX2) (N := 3) hx hb hts iX2 hown hK hP 0 rfl rfl 2 (by decide) (hts _ m428) (fun _ h9 => h9) rfl dX2_holds_18 ?_
        refine lv_iload_n hx hb dX2_holds_21 rfl (lv_at hl 2 rfl) ?_
        refine lv_isub hx hb dX2_holds_22 ?_
        refine lv_topi (fun x_4 ex_4 => ?_)
        have tx_4 : x_4.toInt = z9.toInt - i2.toInt := t_sub (x := z9.toInt) (y := i2.toInt) ex_4 rfl rfl (by omega) (by omega)
        refine lv_icmp_gt (tgt := 30) hx hb dX2_holds_23 (by decide) (fun c_5 => ?_) (fun c_5 => ?_)
        · have c_5 : x_4.toInt < i1.toInt := (c_lt (x := x_4.toInt) (y := i1.toInt) rfl rfl).mp c_5
          refine lv_iconst (v := 0) hx hb dX2_holds_30 (by decide) ?_
          exact W.zret (v := 0) hx hb hr rfl (fun t ht hW => ⟨⟨0, (), rfl, (Or.inr rfl), trivial⟩, hS.F ht⟩) hS.2.2 dX2_holds_31
        · have c_5 : i1.toInt ≤ x_4.toInt := by have h := mt (c_lt (x := x_4.toInt) (y := i1.toInt) rfl rfl).mpr c_5; omega
          refine lv_iconst (v := 1) hx hb dX2_holds_26 (by decide) ?_
          refine lv_goto (tgt := 31) hx hb dX2_holds_27 (by decide) ?_
          exact W.zret (v := 1) hx hb hr rfl (fun t ht hW => ⟨⟨1, (), rfl, (Or.inl (⟨rfl, (show 0 ≤ i1.toInt by omega), (show 0 ≤ i2.toInt by omega), (show i1.toInt + i2.toInt ≤ z9.toInt by omega)⟩)), trivial⟩, hS.F ht⟩) hS.2.2 dX2_holds_31

set_option maxHeartbeats 4000000 in
set_option maxRecDepth 100000 in
theorem c_X4_append (l : Launch) (D : va_G) (T : Nat → ClassId) (h0 tb : Nat) (i1 z4 : Int32) (g4 : Nat → Int32) (sz : Nat) (h_z4 : 0 ≤ z4.toInt ∧ z4.toInt ≤ 1600) : Met l yX4_append (wM yX4_append cX4_append 3 none) ({ frames := 0, cells := 0, slots := 0, locals := 0 }) (va_Pc [.ref h0, .int i1] (pwM D T [(h0, .inr (4, [.ref tb, .int z4])), (tb, .inl (T 1, 1600, .inl g4))] sz)) (va_Qv (fun (u : U5) => (0 ≤ (u.2.2.2.1 0).toInt ∧ (u.2.2.2.1 0).toInt ≤ 1600)) (fun u t => pwE D (va_A [(h0, .inr (4, [.ref tb, .int z4])), (tb, .inl (T 1, 1600, .inl g4))] sz) [(h0, .inr (4, [.ref tb, .int (u.2.2.2.1 0)])), (tb, .inl (T 1, 1600, .inl (u.2.1 0)))] t) (va_A [(h0, .inr (4, [.ref tb, .int z4])), (tb, .inl (T 1, 1600, .inl g4))] sz)) 0 0 (va_A [(h0, .inr (4, [.ref tb, .int z4])), (tb, .inl (T 1, 1600, .inl g4))] sz) := by
  refine Met.ofW (cc := cX4_append) (maxL := 3) (ret := none) (by decide) rfl ?_
  intro p e s m args below meth c s₁ B hml hv
  obtain ⟨rfl, hsz, hP, hC, hD0⟩ := hv
  have hx := B.exec
  have hb := B.bytes
  have hr := B.returns
  have hts : ∀ w ∈ gt, w.before _ s = true := fun w hw => atoms_spec (ws := (wM yX4_append cX4_append 3 none)) B.pre w (List.mem_cons_of_mem _ hw)
  have hown : s.vm.findClass RX4 = some m.cls := findClass_of_methodNamed B.named
  have hlocks := B.notSynchronized
  have hK := hC.1
  subst hsz
  have hD := hD0.self (sz := s.heap.size)
  generalize hAe : va_A [(h0, .inr (4, [.ref tb, .int z4])), (tb, .inl (T 1, 1600, .inl g4))] s.heap.size = A at hD ⊢
  have hA : ∀ q : Nat, s.heap.size ≤ q → A q := fun q h => by rw [← hAe]; exact Or.inr h
  have hS : va_S A s.heap s.heap [] := va_S.rf
  have hl := lv_entry ([.ref h0, .int i1]) (n := 3) (Nat.le_of_ble_eq_true rfl)
  rw [lg_entry_eq]
  generalize (lg_sl ([.ref h0, .int i1]) ++ List.replicate (3 - (lg_sl ([.ref h0, .int i1])).length) Slot.unset).toArray = ls at hl ⊢
  have hl : lv_has ls 3 [(0, .ref h0), (1, .int i1)] := hl
  refine lv_bipush (v := 24) hx hb dX4_append_0 (by decide) ?_
  refine lv_istore_n (lv' := [(2, .int 24), (0, .ref h0), (1, .int i1)]) hx hb dX4_append_2 rfl hl (by decide) rfl (fun ls hl => ?_)
  refine lp_ind (fun (a : Heap × List Loc × Array Slot × (Int32) × (Int32) × (Nat → Int32)) => match a with | (H, locs, ls, i_1, w_2, f_3) => W p l e _ s m _ below meth c H locs 0 0 _ (F0 m 3 ls [])) (fun (a : Heap × List Loc × Array Slot × (Int32) × (Int32) × (Nat → Int32)) => match a with | (H, locs, ls, i_1, w_2, f_3) => (-8) ≤ i_1.toInt ∧ i_1.toInt ≤ 24 ∧ 0 ≤ w_2.toInt ∧ w_2.toInt ≤ 1600 ∧ va_P D vwCl [(h0, .inr (4, [.ref tb, .int w_2])), (tb, .inl (T 1, 1600, .inl f_3))] H ∧ va_D A [(h0, .inr (4, [.ref tb, .int w_2])), (tb, .inl (T 1, 1600, .inl f_3))] ∧ va_S A s.heap H locs ∧ lv_has ls 3 [(2, .int i_1), (0, .ref h0), (1, .int i1)]) (fun (a : Heap × List Loc × Array Slot × (Int32) × (Int32) × (Nat → Int32)) => match a with | (H, locs, ls, i_1, w_2, f_3) => (i_1.toInt - (-8)).toNat) ?_ (_, _, ls, (24 : Int32), z4, g4) ⟨(show (-8) ≤ 24 by omega), (show 24 ≤ 24 by omega), (show 0 ≤ z4.toInt by omega), (show z4.toInt ≤ 1600 by omega), hP, hD, hS, lv_sub hl [0, 1, 2] rfl⟩
  rintro ⟨H, locs, ls, i_1, w_2, f_3⟩ ⟨c_4, c_5, c_6, c_7, hP, hD, hS, hl⟩ ih_8
  refine lv_iload_n hx hb dX4_append_3 rfl (lv_at hl 0 rfl) ?_
  refine lv_if_lt (tgt := 46) hx hb dX4_append_4 (by decide) (fun c_9 => ?_) (fun c_9 => ?_)
  · have c_9 : i_1.toInt < 0 := (c_lt (x := i_1.toInt) (y := 0) rfl rfl).mp c_9
    have hP9 := hP.sub (ws' := [(h0, .inr (4, [.ref tb, .int w_2])), (tb, .inl (T 1, 1600, .inl f_3))]) [0, 1] rfl
    have hD9 := hD.sub (ws' := [(h0, .inr (4, [.ref tb, .int w_2])), (tb, .inl (T 1, 1600, .inl f_3))]) [0, 1] (by decide) rfl
    exact W.vret hx hb hr (fun t ht hW => ⟨⟨(fun k => ([] : List (Nat)).getD k 0, fun k => ([f_3] : List (Nat → Int32)).getD k (fun _ => 0), fun k => ([] : List (Nat → Int64)).getD k (fun _ => 0), fun k => ([w_2] : List (Int32)).getD k 0, fun k => ([] : List (Int64)).getD k 0), rfl, (show 0 ≤ w_2.toInt ∧ w_2.toInt ≤ 1600 by omega), by rw [ht]; exact hP9, hD9⟩, hS.F ht⟩) hS.2.2 dX4_append_46
  · have c_9 : 0 ≤ i_1.toInt := by have h := mt (c_lt (x := i_1.toInt) (y := 0) rfl rfl).mpr c_9; omega
    refine lv_aload_n hx hb dX4_append_7 rfl (lv_at hl 1 rfl) ?_
    refine va_get (D := D) (ci := 4) (C := RX4) (T := TX4) (N := 2) hx hb hts iX4 hown hK hP 0 rfl rfl 1 (by decide) (hts _ m144) (fun _ h9 => h9) rfl dX4_append_8 ?_
    refine lv_sipush (v := 1600) hx hb dX4_append_11 (by decide) ?_
    refine lv_icmp_ge (tgt := 46) hx hb dX4_append_14 (by decide) (fun c_10 => ?_) (fun c_10 => ?_)
    · have c_10 : 1600 ≤ w_2.toInt := (c_le (x := 1600) (y := w_2.toInt) rfl rfl).mp c_10
      have hP9 := hP.sub (ws' := [(h0, .inr (4, [.ref tb, .int w_2])), (tb, .inl (T 1, 1600, .inl f_3))]) [0, 1] rfl
      have hD9 := hD.sub (ws' := [(h0, .inr (4, [.ref tb, .int w_2])), (tb, .inl (T 1, 1600, .inl f_3))]) [0, 1] (by decide) rfl
      exact W.vret hx hb hr (fun t ht hW => ⟨⟨(fun k => ([] : List (Nat)).getD k 0, fun k => ([f_3] : List (Nat → Int32)).getD k (fun _ => 0), fun k => ([] : List (Nat → Int64)).getD k (fun _ => 0), fun k => ([w_2] : List (Int32)).getD k 0, fun k => ([] : List (Int64)).getD k 0), rfl, (show 0 ≤ w_2.toInt ∧ w_2.toInt ≤ 1600 by omega), by rw [ht]; exact hP9, hD9⟩, hS.F ht⟩) hS.2.2 dX4_append_46
    · have c_10 : w_2.toInt < 1600 := by have h := mt (c_le (x := 1600) (y := w_2.toInt) rfl rfl).mpr c_10; omega
      refine lv_aload_n hx hb dX4_append_17 rfl (lv_at hl 1 rfl) ?_
      refine va_get (D := D) (ci := 4) (C := RX4) (T := TX4) (N := 2) hx hb hts iX4 hown hK hP 0 rfl rfl 0 (by decide) (hts _ m141) (fun _ h9 => h9) rfl dX4_append_18 ?_
      refine lv_aload_n hx hb dX4_append_21 rfl (lv_at hl 1 rfl) ?_
      refine va_get (D := D) (ci := 4) (C := RX4) (T := TX4) (N := 2) hx hb hts iX4 hown hK hP 0 rfl rfl 1 (by decide) (hts _ m144) (fun _ h9 => h9) rfl dX4_append_22 ?_
      refine lv_iload_n hx hb dX4_append_25 rfl (lv_at hl 2 rfl) ?_
      refine lv_iload_n hx hb dX4_append_26 rfl (lv_at hl 0 rfl) ?_
      refine lv_ishr hx hb dX4_append_27 ?_
      refine lv_topi (fun x_11 ex_11 => ?_)
      refine lv_i2b hx hb dX4_append_28 rfl ?_
      refine lv_topi (fun x_12 ex_12 => ?_)
      refine va_bast (D := D) hx hb hK hP hD hS 1 1 rfl rfl (v_in (x := w_2.toInt) rfl (by omega) (by omega)) dX4_append_29 (fun H locs hP hD hS => ?_)
      obtain ⟨f_13, hf_13⟩ : ∃ g : Nat → Int32, g = upd f_3 w_2.toNatClampNeg (vp_nar .byte x_12) := ⟨_, rfl⟩
      have hP : va_P D vwCl [(h0, .inr (4, [.ref tb, .int w_2])), (tb, .inl (T 1, 1600, .inl (upd f_3 w_2.toNatClampNeg (vp_nar .byte x_12))))] H := hP
      have hD : va_D A [(h0, .inr (4, [.ref tb, .int w_2])), (tb, .inl (T 1, 1600, .inl (upd f_3 w_2.toNatClampNeg (vp_nar .byte x_12))))] := hD
      rw [← hf_13] at hP hD
      refine lv_aload_n hx hb dX4_append_30 rfl (lv_at hl 1 rfl) ?_
      refine lv_dup hx hb dX4_append_31 rfl ?_
      refine va_get (D := D) (ci := 4) (C := RX4) (T := TX4) (N := 2) hx hb hts iX4 hown hK hP 0 rfl rfl 1 (by decide) (hts _ m144) (fun _ h9 => h9) rfl dX4_append_32 ?_
      refine lv_iconst (v := 1) hx hb dX4_append_35 (by decide) ?_
      refine lv_iadd hx hb dX4_append_36 ?_
      refine lv_topi (fun x_14 ex_14 => ?_)
      have tx_14 : x_14.toInt = w_2.toInt + 1 := t_add (x := w_2.toInt) (y := 1) ex_14 rfl rfl (by omega) (by omega)
      refine va_put (D := D) (ci := 4) (v := .int x_14) (ty := .int) (C := RX4) (T := TX4) (N := 2) hx hb hts iX4 tyX4 tyX4_ok nmX4 hown hK hP hD hS 0 rfl rfl 1 (by decide) (hts _ m144) (fun _ h9 => h9) rfl (by decide +kernel) rfl rfl (Nat.le_of_ble_eq_true rfl) dX4_append_37 (fun H locs hP hD hS => ?_)
      have hP : va_P D vwCl [(h0, .inr (4, [.ref tb, .int x_14])), (tb, .inl (T 1, 1600, .inl f_13))] H := hP
      have hD : va_D A [(h0, .inr (4, [.ref tb, .int x_14])), (tb, .inl (T 1, 1600, .inl f_13))] := hD
      obtain ⟨x_15, ex_15⟩ : ∃ y : Int32, y = i_1 + (-8) := ⟨_, rfl⟩
      have tx_15 : x_15.toInt = i_1.toInt + (-8) := t_add (x := i_1.toInt) (y := (-8)) ex_15 rfl rfl (by omega) (by omega)
      refine lv_iinc (v := x_15) (lv' := [(2, .int x_15), (0, .ref h0), (1, .int i1)]) hx hb dX4_append_40 hl (k := 0) rfl (by rw [ex_15]; rfl) (by decide) rfl (fun ls hl => ?_)
      refine lv_goto (tgt := 3) hx hb dX4_append_43 (by decide) ?_
      exact ih_8 (_, _, _, x_15, x_14, f_13) ⟨(show (-8) ≤ x_15.toInt by omega), (show x_15.toInt ≤ 24 by omega), (show 0 ≤ x_14.toInt by omega), (show x_14.toInt ≤ 1600 by omega), hP, hD, hS, lv_sub hl [0, 1, 2] rfl⟩ (show (x_15.toInt - (-8)).toNat < (i_1.toInt - (-8)).toNat by omega)

set_option maxHeartbeats 4000000 in
set_option maxRecDepth 100000 in
theorem c_J6_bitCount_0f7a4 (l : Launch) (D : va_G) (T : Nat → ClassId) (i1 : Int32) : Met l yJ6_bitCount_0f7a4 (wM yJ6_bitCount_0f7a4 cJ6_bitCount_0f7a4 1 (some .int)) ({ frames := 0, cells := 0, slots := 0, locals := 0 }) (va_Pc [.int i1] (pwP D T [])) (va_Qi (fun (r : Int32) (u : Unit) => True) (fun _ _ => True) (fun _ => False)) 0 0 (fun _ => False) := by
  refine Met.ofW (cc := cJ6_bitCount_0f7a4) (maxL := 1) (ret := (some .int)) (by decide) rfl ?_
  intro p e s m args below meth c s₁ B hml hv
  obtain ⟨rfl, hP, hC⟩ := hv
  have hx := B.exec
  have hb := B.bytes
  have hr := B.returns
  have hts : ∀ w ∈ gt, w.before _ s = true := fun w hw => atoms_spec (ws := (wM yJ6_bitCount_0f7a4 cJ6_bitCount_0f7a4 1 (some .int))) B.pre w (List.mem_cons_of_mem _ hw)
  have hown : s.vm.findClass RJ6 = some m.cls := findClass_of_methodNamed B.named
  have hlocks := B.notSynchronized
  have hK := hC.1
  have hS : va_S (fun _ => False) s.heap s.heap [] := va_S.rf
  have hl := lv_entry ([.int i1]) (n := 1) (Nat.le_of_ble_eq_true rfl)
  rw [lg_entry_eq]
  generalize (lg_sl ([.int i1]) ++ List.replicate (1 - (lg_sl ([.int i1])).length) Slot.unset).toArray = ls at hl ⊢
  have hl : lv_has ls 1 [(0, .int i1)] := hl
  refine lv_iload_n hx hb dJ6_bitCount_0f7a4_0 rfl (lv_at hl 0 rfl) ?_
  refine lv_iload_n hx hb dJ6_bitCount_0f7a4_1 rfl (lv_at hl 0 rfl) ?_
  refine lv_iconst (v := 1) hx hb dJ6_bitCount_0f7a4_2 (by decide) ?_
  refine lv_iushr hx hb dJ6_bitCount_0f7a4_3 rfl ?_
  refine lv_topi (fun x_1 ex_1 => ?_)
  refine lv_ldcw (v := 1431655765) hx hb hown (hts _ m1010) dJ6_bitCount_0f7a4_4 ?_
  refine lv_iand hx hb dJ6_bitCount_0f7a4_7 ?_
  refine lv_topi (fun x_2 ex_2 => ?_)
  have tx_2 : 0 ≤ x_2.toInt ∧ x_2.toInt ≤ 1431655765 := t_and2 ex_2 (by decide)
  refine lv_isub hx hb dJ6_bitCount_0f7a4_8 ?_
  refine lv_topi (fun x_3 ex_3 => ?_)
  refine lv_istore_n (lv' := [(0, .int x_3)]) hx hb dJ6_bitCount_0f7a4_9 rfl hl (by decide) rfl (fun ls hl => ?_)
  refine lv_iload_n hx hb dJ6_bitCount_0f7a4_10 rfl (lv_at hl 0 rfl) ?_
  refine lv_ldcw (v := 858993459) hx hb hown (hts _ m1011) dJ6_bitCount_0f7a4_11 ?_
  refine lv_iand hx hb dJ6_bitCount_0f7a4_14 ?_
  refine lv_topi (fun x_4 ex_4 => ?_)
  have tx_4 : 0 ≤ x_4.toInt ∧ x_4.toInt ≤ 858993459 := t_and2 ex_4 (by decide)
  refine lv_iload_n hx hb dJ6_bitCount_0f7a4_15 rfl (lv_at hl 0 rfl) ?_
  refine lv_iconst (v := 2) hx hb dJ6_bitCount_0f7a4_16 (by decide) ?_
  refine lv_iushr hx hb dJ6_bitCount_0f7a4_17 rfl ?_
  refine lv_topi (fun x_5 ex_5 => ?_)
  refine lv_ldcw (v := 858993459) hx hb hown (hts _ m1011) dJ6_bitCount_0f7a4_18 ?_
  refine lv_iand hx hb dJ6_bitCount_0f7a4_21 ?_
  refine lv_topi (fun x_6 ex_6 => ?_)
  have tx_6 : 0 ≤ x_6.toInt ∧ x_6.toInt ≤ 858993459 := t_and2 ex_6 (by decide)
  refine lv_iadd hx hb dJ6_bitCount_0f7a4_22 ?_
  refine lv_topi (fun x_7 ex_7 => ?_)
  have tx_7 : x_7.toInt = x_4.toInt + x_6.toInt := t_add (x := x_4.toInt) (y := x_6.toInt) ex_7 rfl rfl (by omega) (by omega)
  refine lv_istore_n (lv' := [(0, .int x_7)]) hx hb dJ6_bitCount_0f7a4_23 rfl hl (by decide) rfl (fun ls hl => ?_)
  refine lv_iload_n hx hb dJ6_bitCount_0f7a4_24 rfl (lv_at hl 0 rfl) ?_
  refine lv_iload_n hx hb dJ6_bitCount_0f7a4_25 rfl (lv_at hl 0 rfl) ?_
  refine lv_iconst (v := 4) hx hb dJ6_bitCount_0f7a4_26 (by decide) ?_
  refine lv_iushr hx hb dJ6_bitCount_0f7a4_27 rfl ?_
  refine lv_topi (fun x_8 ex_8 => ?_)
  refine lv_iadd hx hb dJ6_bitCount_0f7a4_28 ?_
  refine lv_topi (fun x_9 ex_9 => ?_)
  refine lv_ldcw (v := 252645135) hx hb hown (hts _ m1012) dJ6_bitCount_0f7a4_29 ?_
  refine lv_iand hx hb dJ6_bitCount_0f7a4_32 ?_
  refine lv_topi (fun x_10 ex_10 => ?_)
  have tx_10 : 0 ≤ x_10.toInt ∧ x_10.toInt ≤ 252645135 := t_and2 ex_10 (by decide)
  refine lv_istore_n (lv' := [(0, .int x_10)]) hx hb dJ6_bitCount_0f7a4_33 rfl hl (by decide) rfl (fun ls hl => ?_)
  refine lv_iload_n hx hb dJ6_bitCount_0f7a4_34 rfl (lv_at hl 0 rfl) ?_
  refine lv_iload_n hx hb dJ6_bitCount_0f7a4_35 rfl (lv_at hl 0 rfl) ?_
  refine lv_bipush (v := 8) hx hb dJ6_bitCount_0f7a4_36 (by decide) ?_
  refine lv_iushr hx hb dJ6_bitCount_0f7a4_38 rfl ?_
  refine lv_topi (fun x_11 ex_11 => ?_)
  refine lv_iadd hx hb dJ6_bitCount_0f7a4_39 ?_
  refine lv_topi (fun x_12 ex_12 => ?_)
  refine lv_istore_n (lv' := [(0, .int x_12)]) hx hb dJ6_bitCount_0f7a4_40 rfl hl (by decide) rfl (fun ls hl => ?_)
  refine lv_iload_n hx hb dJ6_bitCount_0f7a4_41 rfl (lv_at hl 0 rfl) ?_
  refine lv_iload_n hx hb dJ6_bitCount_0f7a4_42 rfl (lv_at hl 0 rfl) ?_
  refine lv_bipush (v := 16) hx hb dJ6_bitCount_0f7a4_43 (by decide) ?_
  refine lv_iushr hx hb dJ6_bitCount_0f7a4_45 rfl ?_
  refine lv_topi (fun x_13 ex_13 => ?_)
  refine lv_iadd hx hb dJ6_bitCount_0f7a4_46 ?_
  refine lv_topi (fun x_14 ex_14 => ?_)
  refine lv_istore_n (lv' := [(0, .int x_14)]) hx hb dJ6_bitCount_0f7a4_47 rfl hl (by decide) rfl (fun ls hl => ?_)
  refine lv_iload_n hx hb dJ6_bitCount_0f7a4_48 rfl (lv_at hl 0 rfl) ?_
  refine lv_bipush (v := 63) hx hb dJ6_bitCount_0f7a4_49 (by decide) ?_
  refine lv_iand hx hb dJ6_bitCount_0f7a4_51 ?_
  refine lv_topi (fun x_15 ex_15 => ?_)
  have tx_15 : 0 ≤ x_15.toInt ∧ x_15.toInt ≤ 63 := t_and2 ex_15 (by decide)
  exact W.iret (v := x_15) hx hb hr (fun t ht hW => ⟨⟨x_15, (), rfl, trivial, trivial⟩, hS.F ht⟩) hS.2.2 dJ6_bitCount_0f7a4_52

set_option maxHeartbeats 4000000 in
set_option maxRecDepth 100000 in
theorem c_X6_winnerBy (l : Launch) (D : va_G) (T : Nat → ClassId) (ds h0 ld : Nat) (i1 n2 n3 n4 : Int32) (gl : Nat → Int32) (h_n2 : 0 ≤ n2.toInt ∧ n2.toInt ≤ 10) (h_n3 : 1 ≤ n3.toInt ∧ n3.toInt ≤ 1024) (h_i1 : 0 ≤ i1.toInt ∧ i1.toInt ≤ 1023) : Met l yX6_winnerBy (wM yX6_winnerBy cX6_winnerBy 2 (some .int)) ({ frames := 0, cells := 0, slots := 0, locals := 0 }) (va_Pc [.ref h0, .int i1] (pwP D T [(h0, .inr (6, [.ref ld, .ref ds, .int n2, .int n3, .int n4])), (ld, .inl (T 0, 1024, .inl gl))])) (va_Qi (fun (r : Int32) (u : Unit) => True) (fun _ _ => True) (fun _ => False)) 0 0 (fun _ => False) := by
  refine Met.ofW (cc := cX6_winnerBy) (maxL := 2) (ret := (some .int)) (by decide) rfl ?_
  intro p e s m args below meth c s₁ B hml hv
  obtain ⟨rfl, hP, hC⟩ := hv
  have hx := B.exec
  have hb := B.bytes
  have hr := B.returns
  have hts : ∀ w ∈ gt, w.before _ s = true := fun w hw => atoms_spec (ws := (wM yX6_winnerBy cX6_winnerBy 2 (some .int))) B.pre w (List.mem_cons_of_mem _ hw)
  have hown : s.vm.findClass RX6 = some m.cls := findClass_of_methodNamed B.named
  have hlocks := B.notSynchronized
  have hK := hC.1
  have hS : va_S (fun _ => False) s.heap s.heap [] := va_S.rf
  have hl := lv_entry ([.ref h0, .int i1]) (n := 2) (Nat.le_of_ble_eq_true rfl)
  rw [lg_entry_eq]
  generalize (lg_sl ([.ref h0, .int i1]) ++ List.replicate (2 - (lg_sl ([.ref h0, .int i1])).length) Slot.unset).toArray = ls at hl ⊢
  have hl : lv_has ls 2 [(0, .ref h0), (1, .int i1)] := hl
  refine lv_aload_n hx hb dX6_winnerBy_0 rfl (lv_at hl 0 rfl) ?_
  refine va_get (D := D) (ci := 6) (C := RX6) (T := TX6) (N := 5) hx hb hts iX6 hown hK hP 0 rfl rfl 0 (by decide) (hts _ m445) (fun _ h9 => h9) rfl dX6_winnerBy_1 ?_
  refine lv_iload_n hx hb dX6_winnerBy_4 rfl (lv_at hl 1 rfl) ?_
  refine va_iald (D := D) hx hb hK hP 1 0 rfl rfl (v_in (x := i1.toInt) rfl (by omega) (by omega)) dX6_winnerBy_5 ?_
  refine lv_topi (fun x_1 ex_1 => ?_)
  refine lv_if_ne (tgt := 14) hx hb dX6_winnerBy_6 (by decide) (fun c_2 => ?_) (fun c_2 => ?_)
  · have c_2 : ¬ x_1.toInt = 0 := fun h => c_2 ((c_eq (x := x_1.toInt) (y := 0) rfl rfl).mpr h)
    refine lv_aload_n hx hb dX6_winnerBy_14 rfl (lv_at hl 0 rfl) ?_
    refine va_get (D := D) (ci := 6) (C := RX6) (T := TX6) (N := 5) hx hb hts iX6 hown hK hP 0 rfl rfl 0 (by decide) (hts _ m445) (fun _ h9 => h9) rfl dX6_winnerBy_15 ?_
    refine lv_iload_n hx hb dX6_winnerBy_18 rfl (lv_at hl 1 rfl) ?_
    refine va_iald (D := D) hx hb hK hP 1 0 rfl rfl (v_in (x := i1.toInt) rfl (by omega) (by omega)) dX6_winnerBy_19 ?_
    refine lv_topi (fun x_3 ex_3 => ?_)
    refine lv_if_le (tgt := 27) hx hb dX6_winnerBy_20 (by decide) (fun c_4 => ?_) (fun c_4 => ?_)
    · have c_4 : x_3.toInt ≤ 0 := (c_le (x := x_3.toInt) (y := 0) rfl rfl).mp c_4
      refine lv_iconst (v := 1) hx hb dX6_winnerBy_27 (by decide) ?_
      exact W.iret (v := 1) hx hb hr (fun t ht hW => ⟨⟨1, (), rfl, trivial, trivial⟩, hS.F ht⟩) hS.2.2 dX6_winnerBy_28
    · have c_4 : 0 < x_3.toInt := by have h := mt (c_le (x := x_3.toInt) (y := 0) rfl rfl).mpr c_4; omega
      refine lv_iconst (v := 0) hx hb dX6_winnerBy_23 (by decide) ?_
      refine lv_goto (tgt := 28) hx hb dX6_winnerBy_24 (by decide) ?_
      exact W.iret (v := 0) hx hb hr (fun t ht hW => ⟨⟨0, (), rfl, trivial, trivial⟩, hS.F ht⟩) hS.2.2 dX6_winnerBy_28
  · have c_2 : x_1.toInt = 0 := (c_eq (x := x_1.toInt) (y := 0) rfl rfl).mp c_2
    refine lv_aload_n hx hb dX6_winnerBy_9 rfl (lv_at hl 0 rfl) ?_
    refine va_get (D := D) (ci := 6) (C := RX6) (T := TX6) (N := 5) hx hb hts iX6 hown hK hP 0 rfl rfl 4 (by decide) (hts _ m449) (fun _ h9 => h9) rfl dX6_winnerBy_10 ?_
    exact W.iret (v := n4) hx hb hr (fun t ht hW => ⟨⟨n4, (), rfl, trivial, trivial⟩, hS.F ht⟩) hS.2.2 dX6_winnerBy_13

set_option maxHeartbeats 4000000 in
set_option maxRecDepth 100000 in
theorem c_X6_fewestAway (l : Launch) (D : va_G) (T : Nat → ClassId) (ds h0 ld : Nat) (n2 n3 n4 : Int32) (gl : Nat → Int32) (h_n2 : 0 ≤ n2.toInt ∧ n2.toInt ≤ 10) (h_n3 : 1 ≤ n3.toInt ∧ n3.toInt ≤ 1024) : Met l yX6_fewestAway (wM yX6_fewestAway cX6_fewestAway 5 (some .int)) ({ frames := 1, cells := 0, slots := 0, locals := 21 }) (va_Pc [.ref h0] (pwP D T [(h0, .inr (6, [.ref ld, .ref ds, .int n2, .int n3, .int n4])), (ld, .inl (T 0, 1024, .inl gl))])) (va_Qi (fun (r : Int32) (u : Unit) => ((-1) ≤ r.toInt ∧ r.toInt ≤ 1023)) (fun _ _ => True) (fun _ => False)) 0 0 (fun _ => False) := by
  refine Met.ofW (cc := cX6_fewestAway) (maxL := 5) (ret := (some .int)) (by decide) rfl ?_
  intro p e s m args below meth c s₁ B hml hv
  obtain ⟨rfl, hP, hC⟩ := hv
  have hx := B.exec
  have hb := B.bytes
  have hr := B.returns
  have hts : ∀ w ∈ gt, w.before _ s = true := fun w hw => atoms_spec (ws := (wM yX6_fewestAway cX6_fewestAway 5 (some .int))) B.pre w (List.mem_cons_of_mem _ hw)
  have hown : s.vm.findClass RX6 = some m.cls := findClass_of_methodNamed B.named
  have hlocks := B.notSynchronized
  have hK := hC.1
  have hS : va_S (fun _ => False) s.heap s.heap [] := va_S.rf
  have hl := lv_entry ([.ref h0]) (n := 5) (Nat.le_of_ble_eq_true rfl)
  rw [lg_entry_eq]
  generalize (lg_sl ([.ref h0]) ++ List.replicate (5 - (lg_sl ([.ref h0])).length) Slot.unset).toArray = ls at hl ⊢
  have hl : lv_has ls 5 [(0, .ref h0)] := hl
  refine lv_aload_n hx hb dX6_fewestAway_0 rfl (lv_at hl 0 rfl) ?_
  refine va_get (D := D) (ci := 6) (C := RX6) (T := TX6) (N := 5) hx hb hts iX6 hown hK hP 0 rfl rfl 3 (by decide) (hts _ m448) (fun _ h9 => h9) rfl dX6_fewestAway_1 ?_
  refine lv_iconst (v := 1) hx hb dX6_fewestAway_4 (by decide) ?_
  refine lv_isub hx hb dX6_fewestAway_5 ?_
  refine lv_topi (fun x_1 ex_1 => ?_)
  have tx_1 : x_1.toInt = n3.toInt - 1 := t_sub (x := n3.toInt) (y := 1) ex_1 rfl rfl (by omega) (by omega)
  refine lv_istore_n (lv' := [(1, .int x_1), (0, .ref h0)]) hx hb dX6_fewestAway_6 rfl hl (by decide) rfl (fun ls hl => ?_)
  refine lv_iconst (v := (-1)) hx hb dX6_fewestAway_7 (by decide) ?_
  refine lv_istore_n (lv' := [(2, .int (-1)), (1, .int x_1), (0, .ref h0)]) hx hb dX6_fewestAway_8 rfl hl (by decide) rfl (fun ls hl => ?_)
  refine lv_iconst (v := 1) hx hb dX6_fewestAway_9 (by decide) ?_
  refine lv_istore_n (lv' := [(3, .int 1), (2, .int (-1)), (1, .int x_1), (0, .ref h0)]) hx hb dX6_fewestAway_10 rfl hl (by decide) rfl (fun ls hl => ?_)
  refine lp_ind (fun (a : Heap × List Loc × Array Slot × (Int32) × (Int32)) => match a with | (H, locs, ls, i_2, i_3) => W p l e _ s m _ below meth c H locs 0 0 _ (F0 m 11 ls [])) (fun (a : Heap × List Loc × Array Slot × (Int32) × (Int32)) => match a with | (H, locs, ls, i_2, i_3) => 1 ≤ i_2.toInt ∧ i_2.toInt ≤ 1024 ∧ (-1) ≤ i_3.toInt ∧ i_3.toInt ≤ 1023 ∧ va_P D vwCl [(h0, .inr (6, [.ref ld, .ref ds, .int n2, .int n3, .int n4])), (ld, .inl (T 0, 1024, .inl gl))] H ∧ va_S (fun _ => False) s.heap H locs ∧ lv_has ls 5 [(3, .int i_2), (2, .int i_3), (1, .int x_1), (0, .ref h0)]) (fun (a : Heap × List Loc × Array Slot × (Int32) × (Int32)) => match a with | (H, locs, ls, i_2, i_3) => (1024 - i_2.toInt).toNat) ?_ (_, _, ls, (1 : Int32), ((-1) : Int32)) ⟨(show 1 ≤ 1 by omega), (show 1 ≤ 1024 by omega), (show (-1) ≤ (-1) by omega), (show (-1) ≤ 1023 by omega), hP, hS, lv_sub hl [0, 1, 2, 3] rfl⟩
  rintro ⟨H, locs, ls, i_2, i_3⟩ ⟨c_4, c_5, c_6, c_7, hP, hS, hl⟩ ih_8
  refine lv_iload_n hx hb dX6_fewestAway_11 rfl (lv_at hl 0 rfl) ?_
  refine lv_aload_n hx hb dX6_fewestAway_12 rfl (lv_at hl 3 rfl) ?_
  refine va_get (D := D) (ci := 6) (C := RX6) (T := TX6) (N := 5) hx hb hts iX6 hown hK hP 0 rfl rfl 3 (by decide) (hts _ m448) (fun _ h9 => h9) rfl dX6_fewestAway_13 ?_
  refine lv_icmp_ge (tgt := 72) hx hb dX6_fewestAway_16 (by decide) (fun c_9 => ?_) (fun c_9 => ?_)
  · have c_9 : n3.toInt ≤ i_2.toInt := (c_le (x := n3.toInt) (y := i_2.toInt) rfl rfl).mp c_9
    refine lv_iload_n hx hb dX6_fewestAway_72 rfl (lv_at hl 1 rfl) ?_
    exact W.iret (v := i_3) hx hb hr (fun t ht hW => ⟨⟨i_3, (), rfl, (show (-1) ≤ i_3.toInt ∧ i_3.toInt ≤ 1023 by omega), trivial⟩, hS.F ht⟩) hS.2.2 dX6_fewestAway_73
  · have c_9 : i_2.toInt < n3.toInt := by have h := mt (c_le (x := n3.toInt) (y := i_2.toInt) rfl rfl).mpr c_9; omega
    refine lv_iload_n hx hb dX6_fewestAway_19 rfl (lv_at hl 1 rfl) ?_
    refine lv_iconst (v := (-1)) hx hb dX6_fewestAway_20 (by decide) ?_
    refine lv_icmp_eq (tgt := 35) hx hb dX6_fewestAway_21 (by decide) (fun c_10 => ?_) (fun c_10 => ?_)
    · have c_10 : i_3.toInt = (-1) := (c_eq (x := i_3.toInt) (y := (-1)) rfl rfl).mp c_10
      refine lv_iconst (v := 1) hx hb dX6_fewestAway_35 (by decide) ?_
      refine lv_goto (tgt := 40) hx hb dX6_fewestAway_36 (by decide) ?_
      refine lv_istore (lv' := [(4, .int 1), (3, .int i_2), (2, .int i_3), (1, .int x_1), (0, .ref h0)]) hx hb dX6_fewestAway_40 hl (by decide) rfl (fun ls hl => ?_)
      refine lv_iload hx hb dX6_fewestAway_42 (lv_at hl 0 rfl) ?_
      refine lv_if_eq (tgt := 66) hx hb dX6_fewestAway_44 (by decide) (fun c_11 => absurd c_11 (by decide)) (fun _ => ?_)
      refine lv_aload_n hx hb dX6_fewestAway_47 rfl (lv_at hl 4 rfl) ?_
      refine lv_iload_n hx hb dX6_fewestAway_48 rfl (lv_at hl 3 rfl) ?_
      refine lv_iload_n hx hb dX6_fewestAway_49 rfl (lv_at hl 1 rfl) ?_
      refine lv_iconst (v := (-1)) hx hb dX6_fewestAway_50 (by decide) ?_
      refine lv_ixor hx hb dX6_fewestAway_51 ?_
      refine lv_topi (fun x_12 ex_12 => ?_)
      refine lv_iand hx hb dX6_fewestAway_52 ?_
      refine lv_topi (fun x_13 ex_13 => ?_)
      have tx_13 := t_and1 ex_13 (by omega)
      refine puI (cV (As := [.int x_13]) (rest := []) ⟨hx, hb, hml, hown, hts⟩ (c_X6_winnerBy l D T ds h0 ld x_13 n2 n3 n4 gl ⟨by omega, by omega⟩ ⟨by omega, by omega⟩ ⟨by omega, by omega⟩) k_X6_winnerBy v_X6_winnerBy m1013 rfl rfl ⟨(Nat.le_of_ble_eq_true rfl), (Nat.le_of_ble_eq_true rfl)⟩ (preP hC (hP.sub (ws' := [(h0, .inr (6, [.ref ld, .ref ds, .int n2, .int n3, .int n4])), (ld, .inl (T 0, 1024, .inl gl))]) [0, 1] rfl)) (va_recv hK hP (ci := 6) (q0 := 0) rfl rfl) rfl hl.1 rfl (Nat.le_of_ble_eq_true rfl) dX6_fewestAway_53 ⟨(Nat.le_of_ble_eq_true rfl), (Nat.le_of_ble_eq_true rfl)⟩) hS hP (fun r_14 H locs hw hP hS => ?_)
      refine lv_aload_n hx hb dX6_fewestAway_56 rfl (lv_at hl 4 rfl) ?_
      refine lv_iload_n hx hb dX6_fewestAway_57 rfl (lv_at hl 3 rfl) ?_
      refine puI (cV (As := [.int x_1]) (rest := [.int r_14]) ⟨hx, hb, hml, hown, hts⟩ (c_X6_winnerBy l D T ds h0 ld x_1 n2 n3 n4 gl ⟨by omega, by omega⟩ ⟨by omega, by omega⟩ ⟨by omega, by omega⟩) k_X6_winnerBy v_X6_winnerBy m1013 rfl rfl ⟨(Nat.le_of_ble_eq_true rfl), (Nat.le_of_ble_eq_true rfl)⟩ (preP hC (hP.sub (ws' := [(h0, .inr (6, [.ref ld, .ref ds, .int n2, .int n3, .int n4])), (ld, .inl (T 0, 1024, .inl gl))]) [0, 1] rfl)) (va_recv hK hP (ci := 6) (q0 := 0) rfl rfl) rfl hl.1 rfl (Nat.le_of_ble_eq_true rfl) dX6_fewestAway_58 ⟨(Nat.le_of_ble_eq_true rfl), (Nat.le_of_ble_eq_true rfl)⟩) hS hP (fun r_16 H locs hw hP hS => ?_)
      refine lv_icmp_eq (tgt := 66) hx hb dX6_fewestAway_61 (by decide) (fun c_18 => ?_) (fun c_18 => ?_)
      · have c_18 : r_14.toInt = r_16.toInt := (c_eq (x := r_14.toInt) (y := r_16.toInt) rfl rfl).mp c_18
        obtain ⟨x_19, ex_19⟩ : ∃ y : Int32, y = i_2 + 1 := ⟨_, rfl⟩
        have tx_19 : x_19.toInt = i_2.toInt + 1 := t_add (x := i_2.toInt) (y := 1) ex_19 rfl rfl (by omega) (by omega)
        refine lv_iinc (v := x_19) (lv' := [(3, .int x_19), (4, .int 1), (2, .int i_3), (1, .int x_1), (0, .ref h0)]) hx hb dX6_fewestAway_66 hl (k := 1) rfl (by rw [ex_19]; rfl) (by decide) rfl (fun ls hl => ?_)
        refine lv_goto (tgt := 11) hx hb dX6_fewestAway_69 (by decide) ?_
        exact ih_8 (_, _, _, x_19, i_3) ⟨(show 1 ≤ x_19.toInt by omega), (show x_19.toInt ≤ 1024 by omega), (show (-1) ≤ i_3.toInt by omega), (show i_3.toInt ≤ 1023 by omega), hP, hS, lv_sub hl [0, 2, 3, 4] rfl⟩ (show (1024 - x_19.toInt).toNat < (1024 - i_2.toInt).toNat by omega)
      · have c_18 : ¬ r_14.toInt = r_16.toInt := fun h => c_18 ((c_eq (x := r_14.toInt) (y := r_16.toInt) rfl rfl).mpr h)
        refine lv_iload_n hx hb dX6_fewestAway_64 rfl (lv_at hl 1 rfl) ?_
        refine lv_istore_n (lv' := [(2, .int i_2), (4, .int 1), (3, .int i_2), (1, .int x_1), (0, .ref h0)]) hx hb dX6_fewestAway_65 rfl hl (by decide) rfl (fun ls hl => ?_)
        obtain ⟨x_20, ex_20⟩ : ∃ y : Int32, y = i_2 + 1 := ⟨_, rfl⟩
        have tx_20 : x_20.toInt = i_2.toInt + 1 := t_add (x := i_2.toInt) (y := 1) ex_20 rfl rfl (by omega) (by omega)
        refine lv_iinc (v := x_20) (lv' := [(3, .int x_20), (2, .int i_2), (4, .int 1), (1, .int x_1), (0, .ref h0)]) hx hb dX6_fewestAway_66 hl (k := 2) rfl (by rw [ex_20]; rfl) (by decide) rfl (fun ls hl => ?_)
        refine lv_goto (tgt := 11) hx hb dX6_fewestAway_69 (by decide) ?_
        exact ih_8 (_, _, _, x_20, i_2) ⟨(show 1 ≤ x_20.toInt by omega), (show x_20.toInt ≤ 1024 by omega), (show (-1) ≤ i_2.toInt by omega), (show i_2.toInt ≤ 1023 by omega), hP, hS, lv_sub hl [0, 1, 3, 4] rfl⟩ (show (1024 - x_20.toInt).toNat < (1024 - i_2.toInt).toNat by omega)
    · have c_10 : ¬ i_3.toInt = (-1) := fun h => c_10 ((c_eq (x := i_3.toInt) (y := (-1)) rfl rfl).mpr h)
      refine lv_iload_n hx hb dX6_fewestAway_24 rfl (lv_at hl 0 rfl) ?_
      refine puI (cS (As := [.int i_2]) (rest := []) ⟨hx, hb, hml, hown, hts⟩ (c_J6_bitCount_0f7a4 l D T i_2) k_J6_bitCount_0f7a4 m1008 m1007 rfl rfl ⟨(Nat.le_of_ble_eq_true rfl), (Nat.le_of_ble_eq_true rfl)⟩ (preP hC (hP.sub (ws' := []) [] rfl)) rfl hl.1 rfl (Nat.le_of_ble_eq_true rfl) dX6_fewestAway_25 ⟨(Nat.le_of_ble_eq_true rfl), (Nat.le_of_ble_eq_true rfl)⟩) hS hP (fun r_21 H locs hw hP hS => ?_)
      refine lv_iload_n hx hb dX6_fewestAway_28 rfl (lv_at hl 1 rfl) ?_
      refine puI (cS (As := [.int i_3]) (rest := [.int r_21]) ⟨hx, hb, hml, hown, hts⟩ (c_J6_bitCount_0f7a4 l D T i_3) k_J6_bitCount_0f7a4 m1008 m1007 rfl rfl ⟨(Nat.le_of_ble_eq_true rfl), (Nat.le_of_ble_eq_true rfl)⟩ (preP hC (hP.sub (ws' := []) [] rfl)) rfl hl.1 rfl (Nat.le_of_ble_eq_true rfl) dX6_fewestAway_29 ⟨(Nat.le_of_ble_eq_true rfl), (Nat.le_of_ble_eq_true rfl)⟩) hS hP (fun r_23 H locs hw hP hS => ?_)
      refine lv_icmp_ge (tgt := 39) hx hb dX6_fewestAway_32 (by decide) (fun c_25 => ?_) (fun c_25 => ?_)
      · have c_25 : r_23.toInt ≤ r_21.toInt := (c_le (x := r_23.toInt) (y := r_21.toInt) rfl rfl).mp c_25
        refine lv_iconst (v := 0) hx hb dX6_fewestAway_39 (by decide) ?_
        refine lv_istore (lv' := [(4, .int 0), (3, .int i_2), (2, .int i_3), (1, .int x_1), (0, .ref h0)]) hx hb dX6_fewestAway_40 hl (by decide) rfl (fun ls hl => ?_)
        refine lv_iload hx hb dX6_fewestAway_42 (lv_at hl 0 rfl) ?_
        refine lv_if_eq (tgt := 66) hx hb dX6_fewestAway_44 (by decide) (fun _ => ?_) (fun c_26 => absurd (by decide) c_26)
        obtain ⟨x_27, ex_27⟩ : ∃ y : Int32, y = i_2 + 1 := ⟨_, rfl⟩
        have tx_27 : x_27.toInt = i_2.toInt + 1 := t_add (x := i_2.toInt) (y := 1) ex_27 rfl rfl (by omega) (by omega)
        refine lv_iinc (v := x_27) (lv' := [(3, .int x_27), (4, .int 0), (2, .int i_3), (1, .int x_1), (0, .ref h0)]) hx hb dX6_fewestAway_66 hl (k := 1) rfl (by rw [ex_27]; rfl) (by decide) rfl (fun ls hl => ?_)
        refine lv_goto (tgt := 11) hx hb dX6_fewestAway_69 (by decide) ?_
        exact ih_8 (_, _, _, x_27, i_3) ⟨(show 1 ≤ x_27.toInt by omega), (show x_27.toInt ≤ 1024 by omega), (show (-1) ≤ i_3.toInt by omega), (show i_3.toInt ≤ 1023 by omega), hP, hS, lv_sub hl [0, 2, 3, 4] rfl⟩ (show (1024 - x_27.toInt).toNat < (1024 - i_2.toInt).toNat by omega)
      · have c_25 : r_21.toInt < r_23.toInt := by have h := mt (c_le (x := r_23.toInt) (y := r_21.toInt) rfl rfl).mpr c_25; omega
        refine lv_iconst (v := 1) hx hb dX6_fewestAway_35 (by decide) ?_
        refine lv_goto (tgt := 40) hx hb dX6_fewestAway_36 (by decide) ?_
        refine lv_istore (lv' := [(4, .int 1), (3, .int i_2), (2, .int i_3), (1, .int x_1), (0, .ref h0)]) hx hb dX6_fewestAway_40 hl (by decide) rfl (fun ls hl => ?_)
        refine lv_iload hx hb dX6_fewestAway_42 (lv_at hl 0 rfl) ?_
        refine lv_if_eq (tgt := 66) hx hb dX6_fewestAway_44 (by decide) (fun c_28 => absurd c_28 (by decide)) (fun _ => ?_)
        refine lv_aload_n hx hb dX6_fewestAway_47 rfl (lv_at hl 4 rfl) ?_
        refine lv_iload_n hx hb dX6_fewestAway_48 rfl (lv_at hl 3 rfl) ?_
        refine lv_iload_n hx hb dX6_fewestAway_49 rfl (lv_at hl 1 rfl) ?_
        refine lv_iconst (v := (-1)) hx hb dX6_fewestAway_50 (by decide) ?_
        refine lv_ixor hx hb dX6_fewestAway_51 ?_
        refine lv_topi (fun x_29 ex_29 => ?_)
        refine lv_iand hx hb dX6_fewestAway_52 ?_
        refine lv_topi (fun x_30 ex_30 => ?_)
        have tx_30 := t_and1 ex_30 (by omega)
        refine puI (cV (As := [.int x_30]) (rest := []) ⟨hx, hb, hml, hown, hts⟩ (c_X6_winnerBy l D T ds h0 ld x_30 n2 n3 n4 gl ⟨by omega, by omega⟩ ⟨by omega, by omega⟩ ⟨by omega, by omega⟩) k_X6_winnerBy v_X6_winnerBy m1013 rfl rfl ⟨(Nat.le_of_ble_eq_true rfl), (Nat.le_of_ble_eq_true rfl)⟩ (preP hC (hP.sub (ws' := [(h0, .inr (6, [.ref ld, .ref ds, .int n2, .int n3, .int n4])), (ld, .inl (T 0, 1024, .inl gl))]) [0, 1] rfl)) (va_recv hK hP (ci := 6) (q0 := 0) rfl rfl) rfl hl.1 rfl (Nat.le_of_ble_eq_true rfl) dX6_fewestAway_53 ⟨(Nat.le_of_ble_eq_true rfl), (Nat.le_of_ble_eq_true rfl)⟩) hS hP (fun r_31 H locs hw hP hS => ?_)
        refine lv_aload_n hx hb dX6_fewestAway_56 rfl (lv_at hl 4 rfl) ?_
        refine lv_iload_n hx hb dX6_fewestAway_57 rfl (lv_at hl 3 rfl) ?_
        refine puI (cV (As := [.int x_1]) (rest := [.int r_31]) ⟨hx, hb, hml, hown, hts⟩ (c_X6_winnerBy l D T ds h0 ld x_1 n2 n3 n4 gl ⟨by omega, by omega⟩ ⟨by omega, by omega⟩ ⟨by omega, by omega⟩) k_X6_winnerBy v_X6_winnerBy m1013 rfl rfl ⟨(Nat.le_of_ble_eq_true rfl), (Nat.le_of_ble_eq_true rfl)⟩ (preP hC (hP.sub (ws' := [(h0, .inr (6, [.ref ld, .ref ds, .int n2, .int n3, .int n4])), (ld, .inl (T 0, 1024, .inl gl))]) [0, 1] rfl)) (va_recv hK hP (ci := 6) (q0 := 0) rfl rfl) rfl hl.1 rfl (Nat.le_of_ble_eq_true rfl) dX6_fewestAway_58 ⟨(Nat.le_of_ble_eq_true rfl), (Nat.le_of_ble_eq_true rfl)⟩) hS hP (fun r_33 H locs hw hP hS => ?_)
        refine lv_icmp_eq (tgt := 66) hx hb dX6_fewestAway_61 (by decide) (fun c_35 => ?_) (fun c_35 => ?_)
        · have c_35 : r_31.toInt = r_33.toInt := (c_eq (x := r_31.toInt) (y := r_33.toInt) rfl rfl).mp c_35
          obtain ⟨x_36, ex_36⟩ : ∃ y : Int32, y = i_2 + 1 := ⟨_, rfl⟩
          have tx_36 : x_36.toInt = i_2.toInt + 1 := t_add (x := i_2.toInt) (y := 1) ex_36 rfl rfl (by omega) (by omega)
          refine lv_iinc (v := x_36) (lv' := [(3, .int x_36), (4, .int 1), (2, .int i_3), (1, .int x_1), (0, .ref h0)]) hx hb dX6_fewestAway_66 hl (k := 1) rfl (by rw [ex_36]; rfl) (by decide) rfl (fun ls hl => ?_)
          refine lv_goto (tgt := 11) hx hb dX6_fewestAway_69 (by decide) ?_
          exact ih_8 (_, _, _, x_36, i_3) ⟨(show 1 ≤ x_36.toInt by omega), (show x_36.toInt ≤ 1024 by omega), (show (-1) ≤ i_3.toInt by omega), (show i_3.toInt ≤ 1023 by omega), hP, hS, lv_sub hl [0, 2, 3, 4] rfl⟩ (show (1024 - x_36.toInt).toNat < (1024 - i_2.toInt).toNat by omega)
        · have c_35 : ¬ r_31.toInt = r_33.toInt := fun h => c_35 ((c_eq (x := r_31.toInt) (y := r_33.toInt) rfl rfl).mpr h)
          refine lv_iload_n hx hb dX6_fewestAway_64 rfl (lv_at hl 1 rfl) ?_
          refine lv_istore_n (lv' := [(2, .int i_2), (4, .int 1), (3, .int i_2), (1, .int x_1), (0, .ref h0)]) hx hb dX6_fewestAway_65 rfl hl (by decide) rfl (fun ls hl => ?_)
          obtain ⟨x_37, ex_37⟩ : ∃ y : Int32, y = i_2 + 1 := ⟨_, rfl⟩
          have tx_37 : x_37.toInt = i_2.toInt + 1 := t_add (x := i_2.toInt) (y := 1) ex_37 rfl rfl (by omega) (by omega)
          refine lv_iinc (v := x_37) (lv' := [(3, .int x_37), (2, .int i_2), (4, .int 1), (1, .int x_1), (0, .ref h0)]) hx hb dX6_fewestAway_66 hl (k := 2) rfl (by rw [ex_37]; rfl) (by decide) rfl (fun ls hl => ?_)
          refine lv_goto (tgt := 11) hx hb dX6_fewestAway_69 (by decide) ?_
          exact ih_8 (_, _, _, x_37, i_2) ⟨(show 1 ≤ x_37.toInt by omega), (show x_37.toInt ≤ 1024 by omega), (show (-1) ≤ i_2.toInt by omega), (show i_2.toInt ≤ 1023 by omega), hP, hS, lv_sub hl [0, 1, 3, 4] rfl⟩ (show (1024 - x_37.toInt).toNat < (1024 - i_2.toInt).toNat by omega)

set_option maxHeartbeats 4000000 in
set_option maxRecDepth 100000 in
theorem c_X6_ahead (l : Launch) (D : va_G) (T : Nat → ClassId) (ds h0 ld : Nat) (i1 i2 n2 n3 n4 : Int32) (gl : Nat → Int32) (h_n2 : 0 ≤ n2.toInt ∧ n2.toInt ≤ 10) (h_n3 : 1 ≤ n3.toInt ∧ n3.toInt ≤ 1024) (h_i1 : 0 ≤ i1.toInt ∧ i1.toInt ≤ 1023) : Met l yX6_ahead (wM yX6_ahead cX6_ahead 3 (some .int)) ({ frames := 0, cells := 0, slots := 0, locals := 0 }) (va_Pc [.ref h0, .int i1, .int i2] (pwP D T [(h0, .inr (6, [.ref ld, .ref ds, .int n2, .int n3, .int n4])), (ld, .inl (T 0, 1024, .inl gl))])) (va_Qi (fun (r : Int32) (u : Unit) => True) (fun _ _ => True) (fun _ => False)) 0 0 (fun _ => False) := by
  refine Met.ofW (cc := cX6_ahead) (maxL := 3) (ret := (some .int)) (by decide) rfl ?_
  intro p e s m args below meth c s₁ B hml hv
  obtain ⟨rfl, hP, hC⟩ := hv
  have hx := B.exec
  have hb := B.bytes
  have hr := B.returns
  have hts : ∀ w ∈ gt, w.before _ s = true := fun w hw => atoms_spec (ws := (wM yX6_ahead cX6_ahead 3 (some .int))) B.pre w (List.mem_cons_of_mem _ hw)
  have hown : s.vm.findClass RX6 = some m.cls := findClass_of_methodNamed B.named
  have hlocks := B.notSynchronized
  have hK := hC.1
  have hS : va_S (fun _ => False) s.heap s.heap [] := va_S.rf
  have hl := lv_entry ([.ref h0, .int i1, .int i2]) (n := 3) (Nat.le_of_ble_eq_true rfl)
  rw [lg_entry_eq]
  generalize (lg_sl ([.ref h0, .int i1, .int i2]) ++ List.replicate (3 - (lg_sl ([.ref h0, .int i1, .int i2])).length) Slot.unset).toArray = ls at hl ⊢
  have hl : lv_has ls 3 [(0, .ref h0), (1, .int i1), (2, .int i2)] := hl
  refine lv_iload_n hx hb dX6_ahead_0 rfl (lv_at hl 2 rfl) ?_
  refine lv_if_ne (tgt := 13) hx hb dX6_ahead_1 (by decide) (fun c_1 => ?_) (fun c_1 => ?_)
  · have c_1 : ¬ i2.toInt = 0 := fun h => c_1 ((c_eq (x := i2.toInt) (y := 0) rfl rfl).mpr h)
    refine lv_aload_n hx hb dX6_ahead_13 rfl (lv_at hl 0 rfl) ?_
    refine va_get (D := D) (ci := 6) (C := RX6) (T := TX6) (N := 5) hx hb hts iX6 hown hK hP 0 rfl rfl 0 (by decide) (hts _ m445) (fun _ h9 => h9) rfl dX6_ahead_14 ?_
    refine lv_iload_n hx hb dX6_ahead_17 rfl (lv_at hl 1 rfl) ?_
    refine va_iald (D := D) hx hb hK hP 1 0 rfl rfl (v_in (x := i1.toInt) rfl (by omega) (by omega)) dX6_ahead_18 ?_
    refine lv_topi (fun x_2 ex_2 => ?_)
    refine lv_ineg hx hb dX6_ahead_19 ?_
    refine lv_topi (fun x_3 ex_3 => ?_)
    exact W.iret (v := x_3) hx hb hr (fun t ht hW => ⟨⟨x_3, (), rfl, trivial, trivial⟩, hS.F ht⟩) hS.2.2 dX6_ahead_20
  · have c_1 : i2.toInt = 0 := (c_eq (x := i2.toInt) (y := 0) rfl rfl).mp c_1
    refine lv_aload_n hx hb dX6_ahead_4 rfl (lv_at hl 0 rfl) ?_
    refine va_get (D := D) (ci := 6) (C := RX6) (T := TX6) (N := 5) hx hb hts iX6 hown hK hP 0 rfl rfl 0 (by decide) (hts _ m445) (fun _ h9 => h9) rfl dX6_ahead_5 ?_
    refine lv_iload_n hx hb dX6_ahead_8 rfl (lv_at hl 1 rfl) ?_
    refine va_iald (D := D) hx hb hK hP 1 0 rfl rfl (v_in (x := i1.toInt) rfl (by omega) (by omega)) dX6_ahead_9 ?_
    refine lv_topi (fun x_4 ex_4 => ?_)
    refine lv_goto (tgt := 20) hx hb dX6_ahead_10 (by decide) ?_
    exact W.iret (v := x_4) hx hb hr (fun t ht hW => ⟨⟨x_4, (), rfl, trivial, trivial⟩, hS.F ht⟩) hS.2.2 dX6_ahead_20

set_option maxHeartbeats 4000000 in
set_option maxRecDepth 100000 in
theorem c_X6_farthestAhead (l : Launch) (D : va_G) (T : Nat → ClassId) (ds h0 ld : Nat) (i1 i2 n2 n3 n4 : Int32) (gd gl : Nat → Int32) (h_n2 : 0 ≤ n2.toInt ∧ n2.toInt ≤ 10) (h_n3 : 1 ≤ n3.toInt ∧ n3.toInt ≤ 1024) : Met l yX6_farthestAhead (wM yX6_farthestAhead cX6_farthestAhead 7 (some .int)) ({ frames := 1, cells := 0, slots := 0, locals := 22 }) (va_Pc [.ref h0, .int i1, .int i2] (pwP D T [(h0, .inr (6, [.ref ld, .ref ds, .int n2, .int n3, .int n4])), (ld, .inl (T 0, 1024, .inl gl)), (ds, .inl (T 0, 1024, .inl gd))])) (va_Qi (fun (r : Int32) (u : Unit) => (0 ≤ r.toInt ∧ r.toInt ≤ 1023)) (fun _ _ => True) (fun _ => False)) 0 0 (fun _ => False) := by
  refine Met.ofW (cc := cX6_farthestAhead) (maxL := 7) (ret := (some .int)) (by decide) rfl ?_
  intro p e s m args below meth c s₁ B hml hv
  obtain ⟨rfl, hP, hC⟩ := hv
  have hx := B.exec
  have hb := B.bytes
  have hr := B.returns
  have hts : ∀ w ∈ gt, w.before _ s = true := fun w hw => atoms_spec (ws := (wM yX6_farthestAhead cX6_farthestAhead 7 (some .int))) B.pre w (List.mem_cons_of_mem _ hw)
  have hown : s.vm.findClass RX6 = some m.cls := findClass_of_methodNamed B.named
  have hlocks := B.notSynchronized
  have hK := hC.1
  have hS : va_S (fun _ => False) s.heap s.heap [] := va_S.rf
  have hl := lv_entry ([.ref h0, .int i1, .int i2]) (n := 7) (Nat.le_of_ble_eq_true rfl)
  rw [lg_entry_eq]
  generalize (lg_sl ([.ref h0, .int i1, .int i2]) ++ List.replicate (7 - (lg_sl ([.ref h0, .int i1, .int i2])).length) Slot.unset).toArray = ls at hl ⊢
  have hl : lv_has ls 7 [(0, .ref h0), (1, .int i1), (2, .int i2)] := hl
  refine lv_iconst (v := 0) hx hb dX6_farthestAhead_0 (by decide) ?_
  refine lv_istore_n (lv' := [(3, .int 0), (0, .ref h0), (1, .int i1), (2, .int i2)]) hx hb dX6_farthestAhead_1 rfl hl (by decide) rfl (fun ls hl => ?_)
  refine lv_iconst (v := 1) hx hb dX6_farthestAhead_2 (by decide) ?_
  refine lv_istore (lv' := [(4, .int 1), (3, .int 0), (0, .ref h0), (1, .int i1), (2, .int i2)]) hx hb dX6_farthestAhead_3 hl (by decide) rfl (fun ls hl => ?_)
  refine lp_ind (fun (a : Heap × List Loc × Array Slot × (Int32) × (Int32)) => match a with | (H, locs, ls, i_1, i_2) => W p l e _ s m _ below meth c H locs 0 0 _ (F0 m 5 ls [])) (fun (a : Heap × List Loc × Array Slot × (Int32) × (Int32)) => match a with | (H, locs, ls, i_1, i_2) => 1 ≤ i_1.toInt ∧ i_1.toInt ≤ 1024 ∧ 0 ≤ i_2.toInt ∧ i_2.toInt ≤ 1023 ∧ va_P D vwCl [(h0, .inr (6, [.ref ld, .ref ds, .int n2, .int n3, .int n4])), (ld, .inl (T 0, 1024, .inl gl)), (ds, .inl (T 0, 1024, .inl gd))] H ∧ va_S (fun _ => False) s.heap H locs ∧ lv_has ls 7 [(4, .int i_1), (3, .int i_2), (0, .ref h0), (1, .int i1), (2, .int i2)]) (fun (a : Heap × List Loc × Array Slot × (Int32) × (Int32)) => match a with | (H, locs, ls, i_1, i_2) => (1024 - i_1.toInt).toNat) ?_ (_, _, ls, (1 : Int32), (0 : Int32)) ⟨(show 1 ≤ 1 by omega), (show 1 ≤ 1024 by omega), (show 0 ≤ 0 by omega), (show 0 ≤ 1023 by omega), hP, hS, lv_sub hl [0, 1, 2, 3, 4] rfl⟩
  rintro ⟨H, locs, ls, i_1, i_2⟩ ⟨c_3, c_4, c_5, c_6, hP, hS, hl⟩ ih_7
  refine lv_iload hx hb dX6_farthestAhead_5 (lv_at hl 0 rfl) ?_
  refine lv_aload_n hx hb dX6_farthestAhead_7 rfl (lv_at hl 2 rfl) ?_
  refine va_get (D := D) (ci := 6) (C := RX6) (T := TX6) (N := 5) hx hb hts iX6 hown hK hP 0 rfl rfl 3 (by decide) (hts _ m448) (fun _ h9 => h9) rfl dX6_farthestAhead_8 ?_
  refine lv_icmp_ge (tgt := 88) hx hb dX6_farthestAhead_11 (by decide) (fun c_8 => ?_) (fun c_8 => ?_)
  · have c_8 : n3.toInt ≤ i_1.toInt := (c_le (x := n3.toInt) (y := i_1.toInt) rfl rfl).mp c_8
    refine lv_iload_n hx hb dX6_farthestAhead_88 rfl (lv_at hl 1 rfl) ?_
    exact W.iret (v := i_2) hx hb hr (fun t ht hW => ⟨⟨i_2, (), rfl, (show 0 ≤ i_2.toInt ∧ i_2.toInt ≤ 1023 by omega), trivial⟩, hS.F ht⟩) hS.2.2 dX6_farthestAhead_89
  · have c_8 : i_1.toInt < n3.toInt := by have h := mt (c_le (x := n3.toInt) (y := i_1.toInt) rfl rfl).mpr c_8; omega
    refine lv_aload_n hx hb dX6_farthestAhead_14 rfl (lv_at hl 2 rfl) ?_
    refine lv_iload hx hb dX6_farthestAhead_15 (lv_at hl 0 rfl) ?_
    refine lv_iload_n hx hb dX6_farthestAhead_17 rfl (lv_at hl 3 rfl) ?_
    refine puI (cV (As := [.int i_1, .int i1]) (rest := []) ⟨hx, hb, hml, hown, hts⟩ (c_X6_ahead l D T ds h0 ld i_1 i1 n2 n3 n4 gl ⟨by omega, by omega⟩ ⟨by omega, by omega⟩ ⟨by omega, by omega⟩) k_X6_ahead v_X6_ahead m1026 rfl rfl ⟨(Nat.le_of_ble_eq_true rfl), (Nat.le_of_ble_eq_true rfl)⟩ (preP hC (hP.sub (ws' := [(h0, .inr (6, [.ref ld, .ref ds, .int n2, .int n3, .int n4])), (ld, .inl (T 0, 1024, .inl gl))]) [0, 1] rfl)) (va_recv hK hP (ci := 6) (q0 := 0) rfl rfl) rfl hl.1 rfl (Nat.le_of_ble_eq_true rfl) dX6_farthestAhead_18 ⟨(Nat.le_of_ble_eq_true rfl), (Nat.le_of_ble_eq_true rfl)⟩) hS hP (fun r_9 H locs hw hP hS => ?_)
    refine lv_aload_n hx hb dX6_farthestAhead_21 rfl (lv_at hl 2 rfl) ?_
    refine lv_iload_n hx hb dX6_farthestAhead_22 rfl (lv_at hl 1 rfl) ?_
    refine lv_iload_n hx hb dX6_farthestAhead_23 rfl (lv_at hl 3 rfl) ?_
    refine puI (cV (As := [.int i_2, .int i1]) (rest := [.int r_9]) ⟨hx, hb, hml, hown, hts⟩ (c_X6_ahead l D T ds h0 ld i_2 i1 n2 n3 n4 gl ⟨by omega, by omega⟩ ⟨by omega, by omega⟩ ⟨by omega, by omega⟩) k_X6_ahead v_X6_ahead m1026 rfl rfl ⟨(Nat.le_of_ble_eq_true rfl), (Nat.le_of_ble_eq_true rfl)⟩ (preP hC (hP.sub (ws' := [(h0, .inr (6, [.ref ld, .ref ds, .int n2, .int n3, .int n4])), (ld, .inl (T 0, 1024, .inl gl))]) [0, 1] rfl)) (va_recv hK hP (ci := 6) (q0 := 0) rfl rfl) rfl hl.1 rfl (Nat.le_of_ble_eq_true rfl) dX6_farthestAhead_24 ⟨(Nat.le_of_ble_eq_true rfl), (Nat.le_of_ble_eq_true rfl)⟩) hS hP (fun r_11 H locs hw hP hS => ?_)
    refine lv_isub hx hb dX6_farthestAhead_27 ?_
    refine lv_topi (fun x_13 ex_13 => ?_)
    refine lv_istore (lv' := [(5, .int x_13), (4, .int i_1), (3, .int i_2), (0, .ref h0), (1, .int i1), (2, .int i2)]) hx hb dX6_farthestAhead_28 hl (by decide) rfl (fun ls hl => ?_)
    refine lv_iload hx hb dX6_farthestAhead_30 (lv_at hl 0 rfl) ?_
    refine lv_if_gt (tgt := 56) hx hb dX6_farthestAhead_32 (by decide) (fun c_14 => ?_) (fun c_14 => ?_)
    · have c_14 : 0 < x_13.toInt := (c_lt (x := 0) (y := x_13.toInt) rfl rfl).mp c_14
      refine lv_iconst (v := 1) hx hb dX6_farthestAhead_56 (by decide) ?_
      refine lv_goto (tgt := 61) hx hb dX6_farthestAhead_57 (by decide) ?_
      refine lv_istore (lv' := [(6, .int 1), (5, .int x_13), (4, .int i_1), (3, .int i_2), (0, .ref h0), (1, .int i1), (2, .int i2)]) hx hb dX6_farthestAhead_61 hl (by decide) rfl (fun ls hl => ?_)
      refine lv_aload_n hx hb dX6_farthestAhead_63 rfl (lv_at hl 4 rfl) ?_
      refine va_get (D := D) (ci := 6) (C := RX6) (T := TX6) (N := 5) hx hb hts iX6 hown hK hP 0 rfl rfl 1 (by decide) (hts _ m446) (fun _ h9 => h9) rfl dX6_farthestAhead_64 ?_
      refine lv_iload hx hb dX6_farthestAhead_67 (lv_at hl 2 rfl) ?_
      refine va_iald (D := D) hx hb hK hP 2 0 rfl rfl (v_in (x := i_1.toInt) rfl (by omega) (by omega)) dX6_farthestAhead_69 ?_
      refine lv_topi (fun x_15 ex_15 => ?_)
      refine lv_iload_n hx hb dX6_farthestAhead_70 rfl (lv_at hl 6 rfl) ?_
      refine lv_icmp_gt (tgt := 82) hx hb dX6_farthestAhead_71 (by decide) (fun c_16 => ?_) (fun c_16 => ?_)
      · have c_16 : i2.toInt < x_15.toInt := (c_lt (x := i2.toInt) (y := x_15.toInt) rfl rfl).mp c_16
        obtain ⟨x_17, ex_17⟩ : ∃ y : Int32, y = i_1 + 1 := ⟨_, rfl⟩
        have tx_17 : x_17.toInt = i_1.toInt + 1 := t_add (x := i_1.toInt) (y := 1) ex_17 rfl rfl (by omega) (by omega)
        refine lv_iinc (v := x_17) (lv' := [(4, .int x_17), (6, .int 1), (5, .int x_13), (3, .int i_2), (0, .ref h0), (1, .int i1), (2, .int i2)]) hx hb dX6_farthestAhead_82 hl (k := 2) rfl (by rw [ex_17]; rfl) (by decide) rfl (fun ls hl => ?_)
        refine lv_goto (tgt := 5) hx hb dX6_farthestAhead_85 (by decide) ?_
        exact ih_7 (_, _, _, x_17, i_2) ⟨(show 1 ≤ x_17.toInt by omega), (show x_17.toInt ≤ 1024 by omega), (show 0 ≤ i_2.toInt by omega), (show i_2.toInt ≤ 1023 by omega), hP, hS, lv_sub hl [0, 3, 4, 5, 6] rfl⟩ (show (1024 - x_17.toInt).toNat < (1024 - i_1.toInt).toNat by omega)
      · have c_16 : x_15.toInt ≤ i2.toInt := by have h := mt (c_lt (x := i2.toInt) (y := x_15.toInt) rfl rfl).mpr c_16; omega
        refine lv_iload hx hb dX6_farthestAhead_74 (lv_at hl 0 rfl) ?_
        refine lv_if_eq (tgt := 82) hx hb dX6_farthestAhead_76 (by decide) (fun c_18 => absurd c_18 (by decide)) (fun _ => ?_)
        refine lv_iload hx hb dX6_farthestAhead_79 (lv_at hl 2 rfl) ?_
        refine lv_istore_n (lv' := [(3, .int i_1), (6, .int 1), (5, .int x_13), (4, .int i_1), (0, .ref h0), (1, .int i1), (2, .int i2)]) hx hb dX6_farthestAhead_81 rfl hl (by decide) rfl (fun ls hl => ?_)
        obtain ⟨x_19, ex_19⟩ : ∃ y : Int32, y = i_1 + 1 := ⟨_, rfl⟩
        have tx_19 : x_19.toInt = i_1.toInt + 1 := t_add (x := i_1.toInt) (y := 1) ex_19 rfl rfl (by omega) (by omega)
        refine lv_iinc (v := x_19) (lv' := [(4, .int x_19), (3, .int i_1), (6, .int 1), (5, .int x_13), (0, .ref h0), (1, .int i1), (2, .int i2)]) hx hb dX6_farthestAhead_82 hl (k := 3) rfl (by rw [ex_19]; rfl) (by decide) rfl (fun ls hl => ?_)
        refine lv_goto (tgt := 5) hx hb dX6_farthestAhead_85 (by decide) ?_
        exact ih_7 (_, _, _, x_19, i_1) ⟨(show 1 ≤ x_19.toInt by omega), (show x_19.toInt ≤ 1024 by omega), (show 0 ≤ i_1.toInt by omega), (show i_1.toInt ≤ 1023 by omega), hP, hS, lv_sub hl [0, 1, 4, 5, 6] rfl⟩ (show (1024 - x_19.toInt).toNat < (1024 - i_1.toInt).toNat by omega)
    · have c_14 : x_13.toInt ≤ 0 := by have h := mt (c_lt (x := 0) (y := x_13.toInt) rfl rfl).mpr c_14; omega
      refine lv_iload hx hb dX6_farthestAhead_35 (lv_at hl 0 rfl) ?_
      refine lv_if_ne (tgt := 60) hx hb dX6_farthestAhead_37 (by decide) (fun c_20 => ?_) (fun c_20 => ?_)
      · have c_20 : ¬ x_13.toInt = 0 := fun h => c_20 ((c_eq (x := x_13.toInt) (y := 0) rfl rfl).mpr h)
        refine lv_iconst (v := 0) hx hb dX6_farthestAhead_60 (by decide) ?_
        refine lv_istore (lv' := [(6, .int 0), (5, .int x_13), (4, .int i_1), (3, .int i_2), (0, .ref h0), (1, .int i1), (2, .int i2)]) hx hb dX6_farthestAhead_61 hl (by decide) rfl (fun ls hl => ?_)
        refine lv_aload_n hx hb dX6_farthestAhead_63 rfl (lv_at hl 4 rfl) ?_
        refine va_get (D := D) (ci := 6) (C := RX6) (T := TX6) (N := 5) hx hb hts iX6 hown hK hP 0 rfl rfl 1 (by decide) (hts _ m446) (fun _ h9 => h9) rfl dX6_farthestAhead_64 ?_
        refine lv_iload hx hb dX6_farthestAhead_67 (lv_at hl 2 rfl) ?_
        refine va_iald (D := D) hx hb hK hP 2 0 rfl rfl (v_in (x := i_1.toInt) rfl (by omega) (by omega)) dX6_farthestAhead_69 ?_
        refine lv_topi (fun x_21 ex_21 => ?_)
        refine lv_iload_n hx hb dX6_farthestAhead_70 rfl (lv_at hl 6 rfl) ?_
        refine lv_icmp_gt (tgt := 82) hx hb dX6_farthestAhead_71 (by decide) (fun c_22 => ?_) (fun c_22 => ?_)
        · have c_22 : i2.toInt < x_21.toInt := (c_lt (x := i2.toInt) (y := x_21.toInt) rfl rfl).mp c_22
          obtain ⟨x_23, ex_23⟩ : ∃ y : Int32, y = i_1 + 1 := ⟨_, rfl⟩
          have tx_23 : x_23.toInt = i_1.toInt + 1 := t_add (x := i_1.toInt) (y := 1) ex_23 rfl rfl (by omega) (by omega)
          refine lv_iinc (v := x_23) (lv' := [(4, .int x_23), (6, .int 0), (5, .int x_13), (3, .int i_2), (0, .ref h0), (1, .int i1), (2, .int i2)]) hx hb dX6_farthestAhead_82 hl (k := 2) rfl (by rw [ex_23]; rfl) (by decide) rfl (fun ls hl => ?_)
          refine lv_goto (tgt := 5) hx hb dX6_farthestAhead_85 (by decide) ?_
          exact ih_7 (_, _, _, x_23, i_2) ⟨(show 1 ≤ x_23.toInt by omega), (show x_23.toInt ≤ 1024 by omega), (show 0 ≤ i_2.toInt by omega), (show i_2.toInt ≤ 1023 by omega), hP, hS, lv_sub hl [0, 3, 4, 5, 6] rfl⟩ (show (1024 - x_23.toInt).toNat < (1024 - i_1.toInt).toNat by omega)
        · have c_22 : x_21.toInt ≤ i2.toInt := by have h := mt (c_lt (x := i2.toInt) (y := x_21.toInt) rfl rfl).mpr c_22; omega
          refine lv_iload hx hb dX6_farthestAhead_74 (lv_at hl 0 rfl) ?_
          refine lv_if_eq (tgt := 82) hx hb dX6_farthestAhead_76 (by decide) (fun _ => ?_) (fun c_24 => absurd (by decide) c_24)
          obtain ⟨x_25, ex_25⟩ : ∃ y : Int32, y = i_1 + 1 := ⟨_, rfl⟩
          have tx_25 : x_25.toInt = i_1.toInt + 1 := t_add (x := i_1.toInt) (y := 1) ex_25 rfl rfl (by omega) (by omega)
          refine lv_iinc (v := x_25) (lv' := [(4, .int x_25), (6, .int 0), (5, .int x_13), (3, .int i_2), (0, .ref h0), (1, .int i1), (2, .int i2)]) hx hb dX6_farthestAhead_82 hl (k := 2) rfl (by rw [ex_25]; rfl) (by decide) rfl (fun ls hl => ?_)
          refine lv_goto (tgt := 5) hx hb dX6_farthestAhead_85 (by decide) ?_
          exact ih_7 (_, _, _, x_25, i_2) ⟨(show 1 ≤ x_25.toInt by omega), (show x_25.toInt ≤ 1024 by omega), (show 0 ≤ i_2.toInt by omega), (show i_2.toInt ≤ 1023 by omega), hP, hS, lv_sub hl [0, 3, 4, 5, 6] rfl⟩ (show (1024 - x_25.toInt).toNat < (1024 - i_1.toInt).toNat by omega)
      · have c_20 : x_13.toInt = 0 := (c_eq (x := x_13.toInt) (y := 0) rfl rfl).mp c_20
        refine lv_aload_n hx hb dX6_farthestAhead_40 rfl (lv_at hl 3 rfl) ?_
        refine va_get (D := D) (ci := 6) (C := RX6) (T := TX6) (N := 5) hx hb hts iX6 hown hK hP 0 rfl rfl 1 (by decide) (hts _ m446) (fun _ h9 => h9) rfl dX6_farthestAhead_41 ?_
        refine lv_iload hx hb dX6_farthestAhead_44 (lv_at hl 1 rfl) ?_
        refine va_iald (D := D) hx hb hK hP 2 0 rfl rfl (v_in (x := i_1.toInt) rfl (by omega) (by omega)) dX6_farthestAhead_46 ?_
        refine lv_topi (fun x_26 ex_26 => ?_)
        refine lv_aload_n hx hb dX6_farthestAhead_47 rfl (lv_at hl 3 rfl) ?_
        refine va_get (D := D) (ci := 6) (C := RX6) (T := TX6) (N := 5) hx hb hts iX6 hown hK hP 0 rfl rfl 1 (by decide) (hts _ m446) (fun _ h9 => h9) rfl dX6_farthestAhead_48 ?_
        refine lv_iload_n hx hb dX6_farthestAhead_51 rfl (lv_at hl 2 rfl) ?_
        refine va_iald (D := D) hx hb hK hP 2 0 rfl rfl (v_in (x := i_2.toInt) rfl (by omega) (by omega)) dX6_farthestAhead_52 ?_
        refine lv_topi (fun x_27 ex_27 => ?_)
        refine lv_icmp_ge (tgt := 60) hx hb dX6_farthestAhead_53 (by decide) (fun c_28 => ?_) (fun c_28 => ?_)
        · have c_28 : x_27.toInt ≤ x_26.toInt := (c_le (x := x_27.toInt) (y := x_26.toInt) rfl rfl).mp c_28
          refine lv_iconst (v := 0) hx hb dX6_farthestAhead_60 (by decide) ?_
          refine lv_istore (lv' := [(6, .int 0), (5, .int x_13), (4, .int i_1), (3, .int i_2), (0, .ref h0), (1, .int i1), (2, .int i2)]) hx hb dX6_farthestAhead_61 hl (by decide) rfl (fun ls hl => ?_)
          refine lv_aload_n hx hb dX6_farthestAhead_63 rfl (lv_at hl 4 rfl) ?_
          refine va_get (D := D) (ci := 6) (C := RX6) (T := TX6) (N := 5) hx hb hts iX6 hown hK hP 0 rfl rfl 1 (by decide) (hts _ m446) (fun _ h9 => h9) rfl dX6_farthestAhead_64 ?_
          refine lv_iload hx hb dX6_farthestAhead_67 (lv_at hl 2 rfl) ?_
          refine va_iald (D := D) hx hb hK hP 2 0 rfl rfl (v_in (x := i_1.toInt) rfl (by omega) (by omega)) dX6_farthestAhead_69 ?_
          refine lv_topi (fun x_29 ex_29 => ?_)
          refine lv_iload_n hx hb dX6_farthestAhead_70 rfl (lv_at hl 6 rfl) ?_
          refine lv_icmp_gt (tgt := 82) hx hb dX6_farthestAhead_71 (by decide) (fun c_30 => ?_) (fun c_30 => ?_)
          · have c_30 : i2.toInt < x_29.toInt := (c_lt (x := i2.toInt) (y := x_29.toInt) rfl rfl).mp c_30
            obtain ⟨x_31, ex_31⟩ : ∃ y : Int32, y = i_1 + 1 := ⟨_, rfl⟩
            have tx_31 : x_31.toInt = i_1.toInt + 1 := t_add (x := i_1.toInt) (y := 1) ex_31 rfl rfl (by omega) (by omega)
            refine lv_iinc (v := x_31) (lv' := [(4, .int x_31), (6, .int 0), (5, .int x_13), (3, .int i_2), (0, .ref h0), (1, .int i1), (2, .int i2)]) hx hb dX6_farthestAhead_82 hl (k := 2) rfl (by rw [ex_31]; rfl) (by decide) rfl (fun ls hl => ?_)
            refine lv_goto (tgt := 5) hx hb dX6_farthestAhead_85 (by decide) ?_
            exact ih_7 (_, _, _, x_31, i_2) ⟨(show 1 ≤ x_31.toInt by omega), (show x_31.toInt ≤ 1024 by omega), (show 0 ≤ i_2.toInt by omega), (show i_2.toInt ≤ 1023 by omega), hP, hS, lv_sub hl [0, 3, 4, 5, 6] rfl⟩ (show (1024 - x_31.toInt).toNat < (1024 - i_1.toInt).toNat by omega)
          · have c_30 : x_29.toInt ≤ i2.toInt := by have h := mt (c_lt (x := i2.toInt) (y := x_29.toInt) rfl rfl).mpr c_30; omega
            refine lv_iload hx hb dX6_farthestAhead_74 (lv_at hl 0 rfl) ?_
            refine lv_if_eq (tgt := 82) hx hb dX6_farthestAhead_76 (by decide) (fun _ => ?_) (fun c_32 => absurd (by decide) c_32)
            obtain ⟨x_33, ex_33⟩ : ∃ y : Int32, y = i_1 + 1 := ⟨_, rfl⟩
            have tx_33 : x_33.toInt = i_1.toInt + 1 := t_add (x := i_1.toInt) (y := 1) ex_33 rfl rfl (by omega) (by omega)
            refine lv_iinc (v := x_33) (lv' := [(4, .int x_33), (6, .int 0), (5, .int x_13), (3, .int i_2), (0, .ref h0), (1, .int i1), (2, .int i2)]) hx hb dX6_farthestAhead_82 hl (k := 2) rfl (by rw [ex_33]; rfl) (by decide) rfl (fun ls hl => ?_)
            refine lv_goto (tgt := 5) hx hb dX6_farthestAhead_85 (by decide) ?_
            exact ih_7 (_, _, _, x_33, i_2) ⟨(show 1 ≤ x_33.toInt by omega), (show x_33.toInt ≤ 1024 by omega), (show 0 ≤ i_2.toInt by omega), (show i_2.toInt ≤ 1023 by omega), hP, hS, lv_sub hl [0, 3, 4, 5, 6] rfl⟩ (show (1024 - x_33.toInt).toNat < (1024 - i_1.toInt).toNat by omega)
        · have c_28 : x_26.toInt < x_27.toInt := by have h := mt (c_le (x := x_27.toInt) (y := x_26.toInt) rfl rfl).mpr c_28; omega
          refine lv_iconst (v := 1) hx hb dX6_farthestAhead_56 (by decide) ?_
          refine lv_goto (tgt := 61) hx hb dX6_farthestAhead_57 (by decide) ?_
          refine lv_istore (lv' := [(6, .int 1), (5, .int x_13), (4, .int i_1), (3, .int i_2), (0, .ref h0), (1, .int i1), (2, .int i2)]) hx hb dX6_farthestAhead_61 hl (by decide) rfl (fun ls hl => ?_)
          refine lv_aload_n hx hb dX6_farthestAhead_63 rfl (lv_at hl 4 rfl) ?_
          refine va_get (D := D) (ci := 6) (C := RX6) (T := TX6) (N := 5) hx hb hts iX6 hown hK hP 0 rfl rfl 1 (by decide) (hts _ m446) (fun _ h9 => h9) rfl dX6_farthestAhead_64 ?_
          refine lv_iload hx hb dX6_farthestAhead_67 (lv_at hl 2 rfl) ?_
          refine va_iald (D := D) hx hb hK hP 2 0 rfl rfl (v_in (x := i_1.toInt) rfl (by omega) (by omega)) dX6_farthestAhead_69 ?_
          refine lv_topi (fun x_34 ex_34 => ?_)
          refine lv_iload_n hx hb dX6_farthestAhead_70 rfl (lv_at hl 6 rfl) ?_
          refine lv_icmp_gt (tgt := 82) hx hb dX6_farthestAhead_71 (by decide) (fun c_35 => ?_) (fun c_35 => ?_)
          · have c_35 : i2.toInt < x_34.toInt := (c_lt (x := i2.toInt) (y := x_34.toInt) rfl rfl).mp c_35
            obtain ⟨x_36, ex_36⟩ : ∃ y : Int32, y = i_1 + 1 := ⟨_, rfl⟩
            have tx_36 : x_36.toInt = i_1.toInt + 1 := t_add (x := i_1.toInt) (y := 1) ex_36 rfl rfl (by omega) (by omega)
            refine lv_iinc (v := x_36) (lv' := [(4, .int x_36), (6, .int 1), (5, .int x_13), (3, .int i_2), (0, .ref h0), (1, .int i1), (2, .int i2)]) hx hb dX6_farthestAhead_82 hl (k := 2) rfl (by rw [ex_36]; rfl) (by decide) rfl (fun ls hl => ?_)
            refine lv_goto (tgt := 5) hx hb dX6_farthestAhead_85 (by decide) ?_
            exact ih_7 (_, _, _, x_36, i_2) ⟨(show 1 ≤ x_36.toInt by omega), (show x_36.toInt ≤ 1024 by omega), (show 0 ≤ i_2.toInt by omega), (show i_2.toInt ≤ 1023 by omega), hP, hS, lv_sub hl [0, 3, 4, 5, 6] rfl⟩ (show (1024 - x_36.toInt).toNat < (1024 - i_1.toInt).toNat by omega)
          · have c_35 : x_34.toInt ≤ i2.toInt := by have h := mt (c_lt (x := i2.toInt) (y := x_34.toInt) rfl rfl).mpr c_35; omega
            refine lv_iload hx hb dX6_farthestAhead_74 (lv_at hl 0 rfl) ?_
            refine lv_if_eq (tgt := 82) hx hb dX6_farthestAhead_76 (by decide) (fun c_37 => absurd c_37 (by decide)) (fun _ => ?_)
            refine lv_iload hx hb dX6_farthestAhead_79 (lv_at hl 2 rfl) ?_
            refine lv_istore_n (lv' := [(3, .int i_1), (6, .int 1), (5, .int x_13), (4, .int i_1), (0, .ref h0), (1, .int i1), (2, .int i2)]) hx hb dX6_farthestAhead_81 rfl hl (by decide) rfl (fun ls hl => ?_)
            obtain ⟨x_38, ex_38⟩ : ∃ y : Int32, y = i_1 + 1 := ⟨_, rfl⟩
            have tx_38 : x_38.toInt = i_1.toInt + 1 := t_add (x := i_1.toInt) (y := 1) ex_38 rfl rfl (by omega) (by omega)
            refine lv_iinc (v := x_38) (lv' := [(4, .int x_38), (3, .int i_1), (6, .int 1), (5, .int x_13), (0, .ref h0), (1, .int i1), (2, .int i2)]) hx hb dX6_farthestAhead_82 hl (k := 3) rfl (by rw [ex_38]; rfl) (by decide) rfl (fun ls hl => ?_)
            refine lv_goto (tgt := 5) hx hb dX6_farthestAhead_85 (by decide) ?_
            exact ih_7 (_, _, _, x_38, i_1) ⟨(show 1 ≤ x_38.toInt by omega), (show x_38.toInt ≤ 1024 by omega), (show 0 ≤ i_1.toInt by omega), (show i_1.toInt ≤ 1023 by omega), hP, hS, lv_sub hl [0, 1, 4, 5, 6] rfl⟩ (show (1024 - x_38.toInt).toNat < (1024 - i_1.toInt).toNat by omega)

set_option maxHeartbeats 4000000 in
set_option maxRecDepth 100000 in
theorem c_X6_leastFar (l : Launch) (D : va_G) (T : Nat → ClassId) (ds h0 ld : Nat) (i1 n2 n3 n4 : Int32) (gd gl : Nat → Int32) (h_n2 : 0 ≤ n2.toInt ∧ n2.toInt ≤ 10) (h_n3 : 1 ≤ n3.toInt ∧ n3.toInt ≤ 1024) : Met l yX6_leastFar (wM yX6_leastFar cX6_leastFar 5 (some .int)) ({ frames := 1, cells := 0, slots := 0, locals := 22 }) (va_Pc [.ref h0, .int i1] (pwP D T [(h0, .inr (6, [.ref ld, .ref ds, .int n2, .int n3, .int n4])), (ld, .inl (T 0, 1024, .inl gl)), (ds, .inl (T 0, 1024, .inl gd))])) (va_Qi (fun (r : Int32) (u : Unit) => True) (fun _ _ => True) (fun _ => False)) 0 0 (fun _ => False) := by
  refine Met.ofW (cc := cX6_leastFar) (maxL := 5) (ret := (some .int)) (by decide) rfl ?_
  intro p e s m args below meth c s₁ B hml hv
  obtain ⟨rfl, hP, hC⟩ := hv
  have hx := B.exec
  have hb := B.bytes
  have hr := B.returns
  have hts : ∀ w ∈ gt, w.before _ s = true := fun w hw => atoms_spec (ws := (wM yX6_leastFar cX6_leastFar 5 (some .int))) B.pre w (List.mem_cons_of_mem _ hw)
  have hown : s.vm.findClass RX6 = some m.cls := findClass_of_methodNamed B.named
  have hlocks := B.notSynchronized
  have hK := hC.1
  have hS : va_S (fun _ => False) s.heap s.heap [] := va_S.rf
  have hl := lv_entry ([.ref h0, .int i1]) (n := 5) (Nat.le_of_ble_eq_true rfl)
  rw [lg_entry_eq]
  generalize (lg_sl ([.ref h0, .int i1]) ++ List.replicate (5 - (lg_sl ([.ref h0, .int i1])).length) Slot.unset).toArray = ls at hl ⊢
  have hl : lv_has ls 5 [(0, .ref h0), (1, .int i1)] := hl
  refine lv_iconst (v := (-1)) hx hb dX6_leastFar_0 (by decide) ?_
  refine lv_istore_n (lv' := [(2, .int (-1)), (0, .ref h0), (1, .int i1)]) hx hb dX6_leastFar_1 rfl hl (by decide) rfl (fun ls hl => ?_)
  refine lv_iconst (v := 0) hx hb dX6_leastFar_2 (by decide) ?_
  refine lv_istore_n (lv' := [(3, .int 0), (2, .int (-1)), (0, .ref h0), (1, .int i1)]) hx hb dX6_leastFar_3 rfl hl (by decide) rfl (fun ls hl => ?_)
  refine lp_ind (fun (a : Heap × List Loc × Array Slot × (Int32) × (Int32)) => match a with | (H, locs, ls, i_1, i_2) => W p l e _ s m _ below meth c H locs 0 0 _ (F0 m 4 ls [])) (fun (a : Heap × List Loc × Array Slot × (Int32) × (Int32)) => match a with | (H, locs, ls, i_1, i_2) => 0 ≤ i_1.toInt ∧ i_1.toInt ≤ 1024 ∧ va_P D vwCl [(h0, .inr (6, [.ref ld, .ref ds, .int n2, .int n3, .int n4])), (ld, .inl (T 0, 1024, .inl gl)), (ds, .inl (T 0, 1024, .inl gd))] H ∧ va_S (fun _ => False) s.heap H locs ∧ lv_has ls 5 [(3, .int i_1), (2, .int i_2), (0, .ref h0), (1, .int i1)]) (fun (a : Heap × List Loc × Array Slot × (Int32) × (Int32)) => match a with | (H, locs, ls, i_1, i_2) => (1024 - i_1.toInt).toNat) ?_ (_, _, ls, (0 : Int32), ((-1) : Int32)) ⟨(show 0 ≤ 0 by omega), (show 0 ≤ 1024 by omega), hP, hS, lv_sub hl [0, 1, 2, 3] rfl⟩
  rintro ⟨H, locs, ls, i_1, i_2⟩ ⟨c_3, c_4, hP, hS, hl⟩ ih_5
  refine lv_iload_n hx hb dX6_leastFar_4 rfl (lv_at hl 0 rfl) ?_
  refine lv_aload_n hx hb dX6_leastFar_5 rfl (lv_at hl 2 rfl) ?_
  refine va_get (D := D) (ci := 6) (C := RX6) (T := TX6) (N := 5) hx hb hts iX6 hown hK hP 0 rfl rfl 3 (by decide) (hts _ m448) (fun _ h9 => h9) rfl dX6_leastFar_6 ?_
  refine lv_icmp_ge (tgt := 61) hx hb dX6_leastFar_9 (by decide) (fun c_6 => ?_) (fun c_6 => ?_)
  · have c_6 : n3.toInt ≤ i_1.toInt := (c_le (x := n3.toInt) (y := i_1.toInt) rfl rfl).mp c_6
    refine lv_iload_n hx hb dX6_leastFar_61 rfl (lv_at hl 1 rfl) ?_
    exact W.iret (v := i_2) hx hb hr (fun t ht hW => ⟨⟨i_2, (), rfl, trivial, trivial⟩, hS.F ht⟩) hS.2.2 dX6_leastFar_62
  · have c_6 : i_1.toInt < n3.toInt := by have h := mt (c_le (x := n3.toInt) (y := i_1.toInt) rfl rfl).mpr c_6; omega
    refine lv_iload_n hx hb dX6_leastFar_12 rfl (lv_at hl 1 rfl) ?_
    refine lv_iconst (v := (-1)) hx hb dX6_leastFar_13 (by decide) ?_
    refine lv_icmp_eq (tgt := 27) hx hb dX6_leastFar_14 (by decide) (fun c_7 => ?_) (fun c_7 => ?_)
    · have c_7 : i_2.toInt = (-1) := (c_eq (x := i_2.toInt) (y := (-1)) rfl rfl).mp c_7
      refine lv_iconst (v := 1) hx hb dX6_leastFar_27 (by decide) ?_
      refine lv_goto (tgt := 32) hx hb dX6_leastFar_28 (by decide) ?_
      refine lv_istore (lv' := [(4, .int 1), (3, .int i_1), (2, .int i_2), (0, .ref h0), (1, .int i1)]) hx hb dX6_leastFar_32 hl (by decide) rfl (fun ls hl => ?_)
      refine lv_iload hx hb dX6_leastFar_34 (lv_at hl 0 rfl) ?_
      refine lv_if_eq (tgt := 55) hx hb dX6_leastFar_36 (by decide) (fun c_8 => absurd c_8 (by decide)) (fun _ => ?_)
      refine lv_aload_n hx hb dX6_leastFar_39 rfl (lv_at hl 3 rfl) ?_
      refine lv_iload_n hx hb dX6_leastFar_40 rfl (lv_at hl 1 rfl) ?_
      refine lv_iload_n hx hb dX6_leastFar_41 rfl (lv_at hl 4 rfl) ?_
      refine puI (cV (As := [.int i_1, .int i1]) (rest := []) ⟨hx, hb, hml, hown, hts⟩ (c_X6_ahead l D T ds h0 ld i_1 i1 n2 n3 n4 gl ⟨by omega, by omega⟩ ⟨by omega, by omega⟩ ⟨by omega, by omega⟩) k_X6_ahead v_X6_ahead m1026 rfl rfl ⟨(Nat.le_of_ble_eq_true rfl), (Nat.le_of_ble_eq_true rfl)⟩ (preP hC (hP.sub (ws' := [(h0, .inr (6, [.ref ld, .ref ds, .int n2, .int n3, .int n4])), (ld, .inl (T 0, 1024, .inl gl))]) [0, 1] rfl)) (va_recv hK hP (ci := 6) (q0 := 0) rfl rfl) rfl hl.1 rfl (Nat.le_of_ble_eq_true rfl) dX6_leastFar_42 ⟨(Nat.le_of_ble_eq_true rfl), (Nat.le_of_ble_eq_true rfl)⟩) hS hP (fun r_9 H locs hw hP hS => ?_)
      refine lv_if_le (tgt := 55) hx hb dX6_leastFar_45 (by decide) (fun c_11 => ?_) (fun c_11 => ?_)
      · have c_11 : r_9.toInt ≤ 0 := (c_le (x := r_9.toInt) (y := 0) rfl rfl).mp c_11
        obtain ⟨x_12, ex_12⟩ : ∃ y : Int32, y = i_1 + 1 := ⟨_, rfl⟩
        have tx_12 : x_12.toInt = i_1.toInt + 1 := t_add (x := i_1.toInt) (y := 1) ex_12 rfl rfl (by omega) (by omega)
        refine lv_iinc (v := x_12) (lv' := [(3, .int x_12), (4, .int 1), (2, .int i_2), (0, .ref h0), (1, .int i1)]) hx hb dX6_leastFar_55 hl (k := 1) rfl (by rw [ex_12]; rfl) (by decide) rfl (fun ls hl => ?_)
        refine lv_goto (tgt := 4) hx hb dX6_leastFar_58 (by decide) ?_
        exact ih_5 (_, _, _, x_12, i_2) ⟨(show 0 ≤ x_12.toInt by omega), (show x_12.toInt ≤ 1024 by omega), hP, hS, lv_sub hl [0, 2, 3, 4] rfl⟩ (show (1024 - x_12.toInt).toNat < (1024 - i_1.toInt).toNat by omega)
      · have c_11 : 0 < r_9.toInt := by have h := mt (c_le (x := r_9.toInt) (y := 0) rfl rfl).mpr c_11; omega
        refine lv_aload_n hx hb dX6_leastFar_48 rfl (lv_at hl 3 rfl) ?_
        refine va_get (D := D) (ci := 6) (C := RX6) (T := TX6) (N := 5) hx hb hts iX6 hown hK hP 0 rfl rfl 1 (by decide) (hts _ m446) (fun _ h9 => h9) rfl dX6_leastFar_49 ?_
        refine lv_iload_n hx hb dX6_leastFar_52 rfl (lv_at hl 1 rfl) ?_
        refine va_iald (D := D) hx hb hK hP 2 0 rfl rfl (v_in (x := i_1.toInt) rfl (by omega) (by omega)) dX6_leastFar_53 ?_
        refine lv_topi (fun x_13 ex_13 => ?_)
        refine lv_istore_n (lv' := [(2, .int x_13), (4, .int 1), (3, .int i_1), (0, .ref h0), (1, .int i1)]) hx hb dX6_leastFar_54 rfl hl (by decide) rfl (fun ls hl => ?_)
        obtain ⟨x_14, ex_14⟩ : ∃ y : Int32, y = i_1 + 1 := ⟨_, rfl⟩
        have tx_14 : x_14.toInt = i_1.toInt + 1 := t_add (x := i_1.toInt) (y := 1) ex_14 rfl rfl (by omega) (by omega)
        refine lv_iinc (v := x_14) (lv' := [(3, .int x_14), (2, .int x_13), (4, .int 1), (0, .ref h0), (1, .int i1)]) hx hb dX6_leastFar_55 hl (k := 2) rfl (by rw [ex_14]; rfl) (by decide) rfl (fun ls hl => ?_)
        refine lv_goto (tgt := 4) hx hb dX6_leastFar_58 (by decide) ?_
        exact ih_5 (_, _, _, x_14, x_13) ⟨(show 0 ≤ x_14.toInt by omega), (show x_14.toInt ≤ 1024 by omega), hP, hS, lv_sub hl [0, 1, 3, 4] rfl⟩ (show (1024 - x_14.toInt).toNat < (1024 - i_1.toInt).toNat by omega)
    · have c_7 : ¬ i_2.toInt = (-1) := fun h => c_7 ((c_eq (x := i_2.toInt) (y := (-1)) rfl rfl).mpr h)
      refine lv_aload_n hx hb dX6_leastFar_17 rfl (lv_at hl 2 rfl) ?_
      refine va_get (D := D) (ci := 6) (C := RX6) (T := TX6) (N := 5) hx hb hts iX6 hown hK hP 0 rfl rfl 1 (by decide) (hts _ m446) (fun _ h9 => h9) rfl dX6_leastFar_18 ?_
      refine lv_iload_n hx hb dX6_leastFar_21 rfl (lv_at hl 0 rfl) ?_
      refine va_iald (D := D) hx hb hK hP 2 0 rfl rfl (v_in (x := i_1.toInt) rfl (by omega) (by omega)) dX6_leastFar_22 ?_
      refine lv_topi (fun x_15 ex_15 => ?_)
      refine lv_iload_n hx hb dX6_leastFar_23 rfl (lv_at hl 1 rfl) ?_
      refine lv_icmp_ge (tgt := 31) hx hb dX6_leastFar_24 (by decide) (fun c_16 => ?_) (fun c_16 => ?_)
      · have c_16 : i_2.toInt ≤ x_15.toInt := (c_le (x := i_2.toInt) (y := x_15.toInt) rfl rfl).mp c_16
        refine lv_iconst (v := 0) hx hb dX6_leastFar_31 (by decide) ?_
        refine lv_istore (lv' := [(4, .int 0), (3, .int i_1), (2, .int i_2), (0, .ref h0), (1, .int i1)]) hx hb dX6_leastFar_32 hl (by decide) rfl (fun ls hl => ?_)
        refine lv_iload hx hb dX6_leastFar_34 (lv_at hl 0 rfl) ?_
        refine lv_if_eq (tgt := 55) hx hb dX6_leastFar_36 (by decide) (fun _ => ?_) (fun c_17 => absurd (by decide) c_17)
        obtain ⟨x_18, ex_18⟩ : ∃ y : Int32, y = i_1 + 1 := ⟨_, rfl⟩
        have tx_18 : x_18.toInt = i_1.toInt + 1 := t_add (x := i_1.toInt) (y := 1) ex_18 rfl rfl (by omega) (by omega)
        refine lv_iinc (v := x_18) (lv' := [(3, .int x_18), (4, .int 0), (2, .int i_2), (0, .ref h0), (1, .int i1)]) hx hb dX6_leastFar_55 hl (k := 1) rfl (by rw [ex_18]; rfl) (by decide) rfl (fun ls hl => ?_)
        refine lv_goto (tgt := 4) hx hb dX6_leastFar_58 (by decide) ?_
        exact ih_5 (_, _, _, x_18, i_2) ⟨(show 0 ≤ x_18.toInt by omega), (show x_18.toInt ≤ 1024 by omega), hP, hS, lv_sub hl [0, 2, 3, 4] rfl⟩ (show (1024 - x_18.toInt).toNat < (1024 - i_1.toInt).toNat by omega)
      · have c_16 : x_15.toInt < i_2.toInt := by have h := mt (c_le (x := i_2.toInt) (y := x_15.toInt) rfl rfl).mpr c_16; omega
        refine lv_iconst (v := 1) hx hb dX6_leastFar_27 (by decide) ?_
        refine lv_goto (tgt := 32) hx hb dX6_leastFar_28 (by decide) ?_
        refine lv_istore (lv' := [(4, .int 1), (3, .int i_1), (2, .int i_2), (0, .ref h0), (1, .int i1)]) hx hb dX6_leastFar_32 hl (by decide) rfl (fun ls hl => ?_)
        refine lv_iload hx hb dX6_leastFar_34 (lv_at hl 0 rfl) ?_
        refine lv_if_eq (tgt := 55) hx hb dX6_leastFar_36 (by decide) (fun c_19 => absurd c_19 (by decide)) (fun _ => ?_)
        refine lv_aload_n hx hb dX6_leastFar_39 rfl (lv_at hl 3 rfl) ?_
        refine lv_iload_n hx hb dX6_leastFar_40 rfl (lv_at hl 1 rfl) ?_
        refine lv_iload_n hx hb dX6_leastFar_41 rfl (lv_at hl 4 rfl) ?_
        refine puI (cV (As := [.int i_1, .int i1]) (rest := []) ⟨hx, hb, hml, hown, hts⟩ (c_X6_ahead l D T ds h0 ld i_1 i1 n2 n3 n4 gl ⟨by omega, by omega⟩ ⟨by omega, by omega⟩ ⟨by omega, by omega⟩) k_X6_ahead v_X6_ahead m1026 rfl rfl ⟨(Nat.le_of_ble_eq_true rfl), (Nat.le_of_ble_eq_true rfl)⟩ (preP hC (hP.sub (ws' := [(h0, .inr (6, [.ref ld, .ref ds, .int n2, .int n3, .int n4])), (ld, .inl (T 0, 1024, .inl gl))]) [0, 1] rfl)) (va_recv hK hP (ci := 6) (q0 := 0) rfl rfl) rfl hl.1 rfl (Nat.le_of_ble_eq_true rfl) dX6_leastFar_42 ⟨(Nat.le_of_ble_eq_true rfl), (Nat.le_of_ble_eq_true rfl)⟩) hS hP (fun r_20 H locs hw hP hS => ?_)
        refine lv_if_le (tgt := 55) hx hb dX6_leastFar_45 (by decide) (fun c_22 => ?_) (fun c_22 => ?_)
        · have c_22 : r_20.toInt ≤ 0 := (c_le (x := r_20.toInt) (y := 0) rfl rfl).mp c_22
          obtain ⟨x_23, ex_23⟩ : ∃ y : Int32, y = i_1 + 1 := ⟨_, rfl⟩
          have tx_23 : x_23.toInt = i_1.toInt + 1 := t_add (x := i_1.toInt) (y := 1) ex_23 rfl rfl (by omega) (by omega)
          refine lv_iinc (v := x_23) (lv' := [(3, .int x_23), (4, .int 1), (2, .int i_2), (0, .ref h0), (1, .int i1)]) hx hb dX6_leastFar_55 hl (k := 1) rfl (by rw [ex_23]; rfl) (by decide) rfl (fun ls hl => ?_)
          refine lv_goto (tgt := 4) hx hb dX6_leastFar_58 (by decide) ?_
          exact ih_5 (_, _, _, x_23, i_2) ⟨(show 0 ≤ x_23.toInt by omega), (show x_23.toInt ≤ 1024 by omega), hP, hS, lv_sub hl [0, 2, 3, 4] rfl⟩ (show (1024 - x_23.toInt).toNat < (1024 - i_1.toInt).toNat by omega)
        · have c_22 : 0 < r_20.toInt := by have h := mt (c_le (x := r_20.toInt) (y := 0) rfl rfl).mpr c_22; omega
          refine lv_aload_n hx hb dX6_leastFar_48 rfl (lv_at hl 3 rfl) ?_
          refine va_get (D := D) (ci := 6) (C := RX6) (T := TX6) (N := 5) hx hb hts iX6 hown hK hP 0 rfl rfl 1 (by decide) (hts _ m446) (fun _ h9 => h9) rfl dX6_leastFar_49 ?_
          refine lv_iload_n hx hb dX6_leastFar_52 rfl (lv_at hl 1 rfl) ?_
          refine va_iald (D := D) hx hb hK hP 2 0 rfl rfl (v_in (x := i_1.toInt) rfl (by omega) (by omega)) dX6_leastFar_53 ?_
          refine lv_topi (fun x_24 ex_24 => ?_)
          refine lv_istore_n (lv' := [(2, .int x_24), (4, .int 1), (3, .int i_1), (0, .ref h0), (1, .int i1)]) hx hb dX6_leastFar_54 rfl hl (by decide) rfl (fun ls hl => ?_)
          obtain ⟨x_25, ex_25⟩ : ∃ y : Int32, y = i_1 + 1 := ⟨_, rfl⟩
          have tx_25 : x_25.toInt = i_1.toInt + 1 := t_add (x := i_1.toInt) (y := 1) ex_25 rfl rfl (by omega) (by omega)
          refine lv_iinc (v := x_25) (lv' := [(3, .int x_25), (2, .int x_24), (4, .int 1), (0, .ref h0), (1, .int i1)]) hx hb dX6_leastFar_55 hl (k := 2) rfl (by rw [ex_25]; rfl) (by decide) rfl (fun ls hl => ?_)
          refine lv_goto (tgt := 4) hx hb dX6_leastFar_58 (by decide) ?_
          exact ih_5 (_, _, _, x_25, x_24) ⟨(show 0 ≤ x_25.toInt by omega), (show x_25.toInt ≤ 1024 by omega), hP, hS, lv_sub hl [0, 1, 3, 4] rfl⟩ (show (1024 - x_25.toInt).toNat < (1024 - i_1.toInt).toNat by omega)

set_option maxHeartbeats 4000000 in
set_option maxRecDepth 100000 in
theorem c_X6_turnedBy (l : Launch) (D : va_G) (T : Nat → ClassId) (ds h0 ld : Nat) (i1 n2 n3 n4 : Int32) (gl : Nat → Int32) (h_n2 : 0 ≤ n2.toInt ∧ n2.toInt ≤ 10) (h_n3 : 1 ≤ n3.toInt ∧ n3.toInt ≤ 1024) (h_i1 : 0 ≤ i1.toInt ∧ i1.toInt ≤ 9) : Met l yX6_turnedBy (wM yX6_turnedBy cX6_turnedBy 5 (some .int)) ({ frames := 1, cells := 0, slots := 0, locals := 21 }) (va_Pc [.ref h0, .int i1] (pwP D T [(h0, .inr (6, [.ref ld, .ref ds, .int n2, .int n3, .int n4])), (ld, .inl (T 0, 1024, .inl gl))])) (va_Qi (fun (r : Int32) (u : Unit) => True) (fun _ _ => True) (fun _ => False)) 0 0 (fun _ => False) := by
  refine Met.ofW (cc := cX6_turnedBy) (maxL := 5) (ret := (some .int)) (by decide) rfl ?_
  intro p e s m args below meth c s₁ B hml hv
  obtain ⟨rfl, hP, hC⟩ := hv
  have hx := B.exec
  have hb := B.bytes
  have hr := B.returns
  have hts : ∀ w ∈ gt, w.before _ s = true := fun w hw => atoms_spec (ws := (wM yX6_turnedBy cX6_turnedBy 5 (some .int))) B.pre w (List.mem_cons_of_mem _ hw)
  have hown : s.vm.findClass RX6 = some m.cls := findClass_of_methodNamed B.named
  have hlocks := B.notSynchronized
  have hK := hC.1
  have hS : va_S (fun _ => False) s.heap s.heap [] := va_S.rf
  have hl := lv_entry ([.ref h0, .int i1]) (n := 5) (Nat.le_of_ble_eq_true rfl)
  rw [lg_entry_eq]
  generalize (lg_sl ([.ref h0, .int i1]) ++ List.replicate (5 - (lg_sl ([.ref h0, .int i1])).length) Slot.unset).toArray = ls at hl ⊢
  have hl : lv_has ls 5 [(0, .ref h0), (1, .int i1)] := hl
  refine lv_iconst (v := 0) hx hb dX6_turnedBy_0 (by decide) ?_
  refine lv_istore_n (lv' := [(2, .int 0), (0, .ref h0), (1, .int i1)]) hx hb dX6_turnedBy_1 rfl hl (by decide) rfl (fun ls hl => ?_)
  refine lv_iconst (v := 0) hx hb dX6_turnedBy_2 (by decide) ?_
  refine lv_istore_n (lv' := [(3, .int 0), (2, .int 0), (0, .ref h0), (1, .int i1)]) hx hb dX6_turnedBy_3 rfl hl (by decide) rfl (fun ls hl => ?_)
  refine lp_ind (fun (a : Heap × List Loc × Array Slot × (Int32) × (Int32)) => match a with | (H, locs, ls, i_1, i_2) => W p l e _ s m _ below meth c H locs 0 0 _ (F0 m 4 ls [])) (fun (a : Heap × List Loc × Array Slot × (Int32) × (Int32)) => match a with | (H, locs, ls, i_1, i_2) => 0 ≤ i_1.toInt ∧ i_1.toInt ≤ 1024 ∧ va_P D vwCl [(h0, .inr (6, [.ref ld, .ref ds, .int n2, .int n3, .int n4])), (ld, .inl (T 0, 1024, .inl gl))] H ∧ va_S (fun _ => False) s.heap H locs ∧ lv_has ls 5 [(3, .int i_1), (2, .int i_2), (0, .ref h0), (1, .int i1)]) (fun (a : Heap × List Loc × Array Slot × (Int32) × (Int32)) => match a with | (H, locs, ls, i_1, i_2) => (1024 - i_1.toInt).toNat) ?_ (_, _, ls, (0 : Int32), (0 : Int32)) ⟨(show 0 ≤ 0 by omega), (show 0 ≤ 1024 by omega), hP, hS, lv_sub hl [0, 1, 2, 3] rfl⟩
  rintro ⟨H, locs, ls, i_1, i_2⟩ ⟨c_3, c_4, hP, hS, hl⟩ ih_5
  refine lv_iload_n hx hb dX6_turnedBy_4 rfl (lv_at hl 0 rfl) ?_
  refine lv_aload_n hx hb dX6_turnedBy_5 rfl (lv_at hl 2 rfl) ?_
  refine va_get (D := D) (ci := 6) (C := RX6) (T := TX6) (N := 5) hx hb hts iX6 hown hK hP 0 rfl rfl 3 (by decide) (hts _ m448) (fun _ h9 => h9) rfl dX6_turnedBy_6 ?_
  refine lv_icmp_ge (tgt := 58) hx hb dX6_turnedBy_9 (by decide) (fun c_6 => ?_) (fun c_6 => ?_)
  · have c_6 : n3.toInt ≤ i_1.toInt := (c_le (x := n3.toInt) (y := i_1.toInt) rfl rfl).mp c_6
    refine lv_iload_n hx hb dX6_turnedBy_58 rfl (lv_at hl 1 rfl) ?_
    exact W.iret (v := i_2) hx hb hr (fun t ht hW => ⟨⟨i_2, (), rfl, trivial, trivial⟩, hS.F ht⟩) hS.2.2 dX6_turnedBy_59
  · have c_6 : i_1.toInt < n3.toInt := by have h := mt (c_le (x := n3.toInt) (y := i_1.toInt) rfl rfl).mpr c_6; omega
    refine lv_iload_n hx hb dX6_turnedBy_12 rfl (lv_at hl 0 rfl) ?_
    refine lv_iload_n hx hb dX6_turnedBy_13 rfl (lv_at hl 3 rfl) ?_
    refine lv_ishr hx hb dX6_turnedBy_14 ?_
    refine lv_topi (fun x_7 ex_7 => ?_)
    refine lv_iconst (v := 1) hx hb dX6_turnedBy_15 (by decide) ?_
    refine lv_iand hx hb dX6_turnedBy_16 ?_
    refine lv_topi (fun x_8 ex_8 => ?_)
    have tx_8 : 0 ≤ x_8.toInt ∧ x_8.toInt ≤ 1 := t_and2 ex_8 (by decide)
    refine lv_if_ne (tgt := 24) hx hb dX6_turnedBy_17 (by decide) (fun c_9 => ?_) (fun c_9 => ?_)
    · have c_9 : ¬ x_8.toInt = 0 := fun h => c_9 ((c_eq (x := x_8.toInt) (y := 0) rfl rfl).mpr h)
      refine lv_iconst (v := 0) hx hb dX6_turnedBy_24 (by decide) ?_
      refine lv_istore (lv' := [(4, .int 0), (3, .int i_1), (2, .int i_2), (0, .ref h0), (1, .int i1)]) hx hb dX6_turnedBy_25 hl (by decide) rfl (fun ls hl => ?_)
      refine lv_iload hx hb dX6_turnedBy_27 (lv_at hl 0 rfl) ?_
      refine lv_if_eq (tgt := 52) hx hb dX6_turnedBy_29 (by decide) (fun _ => ?_) (fun c_10 => absurd (by decide) c_10)
      obtain ⟨x_11, ex_11⟩ : ∃ y : Int32, y = i_1 + 1 := ⟨_, rfl⟩
      have tx_11 : x_11.toInt = i_1.toInt + 1 := t_add (x := i_1.toInt) (y := 1) ex_11 rfl rfl (by omega) (by omega)
      refine lv_iinc (v := x_11) (lv' := [(3, .int x_11), (4, .int 0), (2, .int i_2), (0, .ref h0), (1, .int i1)]) hx hb dX6_turnedBy_52 hl (k := 1) rfl (by rw [ex_11]; rfl) (by decide) rfl (fun ls hl => ?_)
      refine lv_goto (tgt := 4) hx hb dX6_turnedBy_55 (by decide) ?_
      exact ih_5 (_, _, _, x_11, i_2) ⟨(show 0 ≤ x_11.toInt by omega), (show x_11.toInt ≤ 1024 by omega), hP, hS, lv_sub hl [0, 2, 3, 4] rfl⟩ (show (1024 - x_11.toInt).toNat < (1024 - i_1.toInt).toNat by omega)
    · have c_9 : x_8.toInt = 0 := (c_eq (x := x_8.toInt) (y := 0) rfl rfl).mp c_9
      refine lv_iconst (v := 1) hx hb dX6_turnedBy_20 (by decide) ?_
      refine lv_goto (tgt := 25) hx hb dX6_turnedBy_21 (by decide) ?_
      refine lv_istore (lv' := [(4, .int 1), (3, .int i_1), (2, .int i_2), (0, .ref h0), (1, .int i1)]) hx hb dX6_turnedBy_25 hl (by decide) rfl (fun ls hl => ?_)
      refine lv_iload hx hb dX6_turnedBy_27 (lv_at hl 0 rfl) ?_
      refine lv_if_eq (tgt := 52) hx hb dX6_turnedBy_29 (by decide) (fun c_12 => absurd c_12 (by decide)) (fun _ => ?_)
      refine lv_aload_n hx hb dX6_turnedBy_32 rfl (lv_at hl 3 rfl) ?_
      refine lv_iload_n hx hb dX6_turnedBy_33 rfl (lv_at hl 1 rfl) ?_
      refine puI (cV (As := [.int i_1]) (rest := []) ⟨hx, hb, hml, hown, hts⟩ (c_X6_winnerBy l D T ds h0 ld i_1 n2 n3 n4 gl ⟨by omega, by omega⟩ ⟨by omega, by omega⟩ ⟨by omega, by omega⟩) k_X6_winnerBy v_X6_winnerBy m1013 rfl rfl ⟨(Nat.le_of_ble_eq_true rfl), (Nat.le_of_ble_eq_true rfl)⟩ (preP hC (hP.sub (ws' := [(h0, .inr (6, [.ref ld, .ref ds, .int n2, .int n3, .int n4])), (ld, .inl (T 0, 1024, .inl gl))]) [0, 1] rfl)) (va_recv hK hP (ci := 6) (q0 := 0) rfl rfl) rfl hl.1 rfl (Nat.le_of_ble_eq_true rfl) dX6_turnedBy_34 ⟨(Nat.le_of_ble_eq_true rfl), (Nat.le_of_ble_eq_true rfl)⟩) hS hP (fun r_13 H locs hw hP hS => ?_)
      refine lv_aload_n hx hb dX6_turnedBy_37 rfl (lv_at hl 3 rfl) ?_
      refine lv_iload_n hx hb dX6_turnedBy_38 rfl (lv_at hl 1 rfl) ?_
      refine lv_iconst (v := 1) hx hb dX6_turnedBy_39 (by decide) ?_
      refine lv_iload_n hx hb dX6_turnedBy_40 rfl (lv_at hl 4 rfl) ?_
      refine lv_ishl hx hb dX6_turnedBy_41 ?_
      refine lv_topi (fun x_15 ex_15 => ?_)
      have tx_15 := t_shl1 ex_15 (by omega) (by omega)
      refine lv_ior hx hb dX6_turnedBy_42 ?_
      refine lv_topi (fun x_16 ex_16 => ?_)
      have tx_16 := t_or ex_16 (by omega) (by omega) (by omega) (by omega)
      refine puI (cV (As := [.int x_16]) (rest := [.int r_13]) ⟨hx, hb, hml, hown, hts⟩ (c_X6_winnerBy l D T ds h0 ld x_16 n2 n3 n4 gl ⟨by omega, by omega⟩ ⟨by omega, by omega⟩ ⟨by omega, by omega⟩) k_X6_winnerBy v_X6_winnerBy m1013 rfl rfl ⟨(Nat.le_of_ble_eq_true rfl), (Nat.le_of_ble_eq_true rfl)⟩ (preP hC (hP.sub (ws' := [(h0, .inr (6, [.ref ld, .ref ds, .int n2, .int n3, .int n4])), (ld, .inl (T 0, 1024, .inl gl))]) [0, 1] rfl)) (va_recv hK hP (ci := 6) (q0 := 0) rfl rfl) rfl hl.1 rfl (Nat.le_of_ble_eq_true rfl) dX6_turnedBy_43 ⟨(Nat.le_of_ble_eq_true rfl), (Nat.le_of_ble_eq_true rfl)⟩) hS hP (fun r_17 H locs hw hP hS => ?_)
      refine lv_icmp_eq (tgt := 52) hx hb dX6_turnedBy_46 (by decide) (fun c_19 => ?_) (fun c_19 => ?_)
      · have c_19 : r_13.toInt = r_17.toInt := (c_eq (x := r_13.toInt) (y := r_17.toInt) rfl rfl).mp c_19
        obtain ⟨x_20, ex_20⟩ : ∃ y : Int32, y = i_1 + 1 := ⟨_, rfl⟩
        have tx_20 : x_20.toInt = i_1.toInt + 1 := t_add (x := i_1.toInt) (y := 1) ex_20 rfl rfl (by omega) (by omega)
        refine lv_iinc (v := x_20) (lv' := [(3, .int x_20), (4, .int 1), (2, .int i_2), (0, .ref h0), (1, .int i1)]) hx hb dX6_turnedBy_52 hl (k := 1) rfl (by rw [ex_20]; rfl) (by decide) rfl (fun ls hl => ?_)
        refine lv_goto (tgt := 4) hx hb dX6_turnedBy_55 (by decide) ?_
        exact ih_5 (_, _, _, x_20, i_2) ⟨(show 0 ≤ x_20.toInt by omega), (show x_20.toInt ≤ 1024 by omega), hP, hS, lv_sub hl [0, 2, 3, 4] rfl⟩ (show (1024 - x_20.toInt).toNat < (1024 - i_1.toInt).toNat by omega)
      · have c_19 : ¬ r_13.toInt = r_17.toInt := fun h => c_19 ((c_eq (x := r_13.toInt) (y := r_17.toInt) rfl rfl).mpr h)
        obtain ⟨x_21, ex_21⟩ : ∃ y : Int32, y = i_2 + 1 := ⟨_, rfl⟩
        refine lv_iinc (v := x_21) (lv' := [(2, .int x_21), (4, .int 1), (3, .int i_1), (0, .ref h0), (1, .int i1)]) hx hb dX6_turnedBy_49 hl (k := 2) rfl (by rw [ex_21]; rfl) (by decide) rfl (fun ls hl => ?_)
        obtain ⟨x_22, ex_22⟩ : ∃ y : Int32, y = i_1 + 1 := ⟨_, rfl⟩
        have tx_22 : x_22.toInt = i_1.toInt + 1 := t_add (x := i_1.toInt) (y := 1) ex_22 rfl rfl (by omega) (by omega)
        refine lv_iinc (v := x_22) (lv' := [(3, .int x_22), (2, .int x_21), (4, .int 1), (0, .ref h0), (1, .int i1)]) hx hb dX6_turnedBy_52 hl (k := 2) rfl (by rw [ex_22]; rfl) (by decide) rfl (fun ls hl => ?_)
        refine lv_goto (tgt := 4) hx hb dX6_turnedBy_55 (by decide) ?_
        exact ih_5 (_, _, _, x_22, x_21) ⟨(show 0 ≤ x_22.toInt by omega), (show x_22.toInt ≤ 1024 by omega), hP, hS, lv_sub hl [0, 1, 3, 4] rfl⟩ (show (1024 - x_22.toInt).toNat < (1024 - i_1.toInt).toNat by omega)

set_option maxHeartbeats 4000000 in
set_option maxRecDepth 100000 in
theorem c_X9_stonesAbove (l : Launch) (D : va_G) (T : Nat → ClassId) (b0 b1 b2 b3 b4 b5 b6 b7 b8 b9 bl e0 e1 e2 e3 e4 e5 e6 e7 h0 h1 sw tw wa : Nat) (i2 i3 s2 s3 s4 s6 t0 t1 t2 t3 t4 t5 t6 t7 t8 : Int32) (s5 : Int64) (p0 : Nat → Int32) (h_t1 : 0 ≤ t1.toInt ∧ t1.toInt ≤ 8) (h_t2 : 0 ≤ t2.toInt ∧ t2.toInt ≤ 12) (h_t4 : 0 ≤ t4.toInt ∧ t4.toInt ≤ 5) (h_t5 : 0 ≤ t5.toInt ∧ t5.toInt ≤ 10) (h_s2 : 0 ≤ s2.toInt ∧ s2.toInt ≤ 100) (h_i2 : 0 ≤ i2.toInt ∧ i2.toInt ≤ 1) (R_p0 : rg 0 12 p0) : Met l yX9_stonesAbove (wM yX9_stonesAbove cX9_stonesAbove 6 (some .int)) ({ frames := 1, cells := 0, slots := 0, locals := 21 }) (va_Pc [.ref h0, .ref h1, .int i2, .int i3] (pwP D T [(h1, .inr (3, [.ref tw, .ref wa, .int s2, .int s3, .int s4, .long s5, .int s6, .ref sw, .ref bl])), (tw, .inr (5, [.int t0, .int t1, .int t2, .int t3, .int t4, .int t5, .int t6, .int t7, .int t8, .ref b0, .ref b1, .ref b2, .ref b3, .ref b4, .ref b5, .ref b6, .ref b7, .ref b8, .ref b9])), (wa, .inr (7, [.ref tw, .ref e0, .ref e1, .ref e2, .ref e3, .ref e4, .ref e5, .ref e6, .ref e7])), (e0, .inl (T 0, 16, .inl p0))])) (va_Qi (fun (r : Int32) (u : Unit) => True) (fun _ _ => True) (fun _ => False)) 0 0 (fun _ => False) := by
  refine Met.ofW (cc := cX9_stonesAbove) (maxL := 6) (ret := (some .int)) (by decide) rfl ?_
  intro p e s m args below meth c s₁ B hml hv
  obtain ⟨rfl, hP, hC⟩ := hv
  have hx := B.exec
  have hb := B.bytes
  have hr := B.returns
  have hts : ∀ w ∈ gt, w.before _ s = true := fun w hw => atoms_spec (ws := (wM yX9_stonesAbove cX9_stonesAbove 6 (some .int))) B.pre w (List.mem_cons_of_mem _ hw)
  have hown : s.vm.findClass RX9 = some m.cls := findClass_of_methodNamed B.named
  have hlocks := B.notSynchronized
  have hK := hC.1
  have hS : va_S (fun _ => False) s.heap s.heap [] := va_S.rf
  have hl := lv_entry ([.ref h0, .ref h1, .int i2, .int i3]) (n := 6) (Nat.le_of_ble_eq_true rfl)
  rw [lg_entry_eq]
  generalize (lg_sl ([.ref h0, .ref h1, .int i2, .int i3]) ++ List.replicate (6 - (lg_sl ([.ref h0, .ref h1, .int i2, .int i3])).length) Slot.unset).toArray = ls at hl ⊢
  have hl : lv_has ls 6 [(0, .ref h0), (1, .ref h1), (2, .int i2), (3, .int i3)] := hl
  refine lv_iconst (v := 0) hx hb dX9_stonesAbove_0 (by decide) ?_
  refine lv_istore (lv' := [(4, .int 0), (0, .ref h0), (1, .ref h1), (2, .int i2), (3, .int i3)]) hx hb dX9_stonesAbove_1 hl (by decide) rfl (fun ls hl => ?_)
  refine lv_iconst (v := 0) hx hb dX9_stonesAbove_3 (by decide) ?_
  refine lv_istore (lv' := [(5, .int 0), (4, .int 0), (0, .ref h0), (1, .ref h1), (2, .int i2), (3, .int i3)]) hx hb dX9_stonesAbove_4 hl (by decide) rfl (fun ls hl => ?_)
  refine lp_ind (fun (a : Heap × List Loc × Array Slot × (Int32) × (Int32)) => match a with | (H, locs, ls, i_1, i_2) => W p l e _ s m _ below meth c H locs 0 0 _ (F0 m 6 ls [])) (fun (a : Heap × List Loc × Array Slot × (Int32) × (Int32)) => match a with | (H, locs, ls, i_1, i_2) => 0 ≤ i_1.toInt ∧ i_1.toInt ≤ 8 ∧ va_P D vwCl [(h1, .inr (3, [.ref tw, .ref wa, .int s2, .int s3, .int s4, .long s5, .int s6, .ref sw, .ref bl])), (tw, .inr (5, [.int t0, .int t1, .int t2, .int t3, .int t4, .int t5, .int t6, .int t7, .int t8, .ref b0, .ref b1, .ref b2, .ref b3, .ref b4, .ref b5, .ref b6, .ref b7, .ref b8, .ref b9])), (wa, .inr (7, [.ref tw, .ref e0, .ref e1, .ref e2, .ref e3, .ref e4, .ref e5, .ref e6, .ref e7])), (e0, .inl (T 0, 16, .inl p0))] H ∧ va_S (fun _ => False) s.heap H locs ∧ lv_has ls 6 [(5, .int i_1), (4, .int i_2), (0, .ref h0), (1, .ref h1), (2, .int i2), (3, .int i3)]) (fun (a : Heap × List Loc × Array Slot × (Int32) × (Int32)) => match a with | (H, locs, ls, i_1, i_2) => (8 - i_1.toInt).toNat) ?_ (_, _, ls, (0 : Int32), (0 : Int32)) ⟨(show 0 ≤ 0 by omega), (show 0 ≤ 8 by omega), hP, hS, lv_sub hl [0, 1, 2, 3, 4, 5] rfl⟩
  rintro ⟨H, locs, ls, i_1, i_2⟩ ⟨c_3, c_4, hP, hS, hl⟩ ih_5
  refine lv_iload hx hb dX9_stonesAbove_6 (lv_at hl 0 rfl) ?_
  refine lv_aload_n hx hb dX9_stonesAbove_8 rfl (lv_at hl 3 rfl) ?_
  refine va_get (D := D) (ci := 3) (C := RX3) (T := TX3) (N := 9) hx hb hts iX3 hown hK hP 0 rfl rfl 0 (by decide) (hts _ m369) (fun _ h9 => h9) rfl dX9_stonesAbove_9 ?_
  refine va_get (D := D) (ci := 5) (C := RX5) (T := TX5) (N := 19) hx hb hts iX5 hown hK hP 1 rfl rfl 1 (by decide) (hts _ m168) (fun _ h9 => h9) rfl dX9_stonesAbove_12 ?_
  refine lv_icmp_ge (tgt := 49) hx hb dX9_stonesAbove_15 (by decide) (fun c_6 => ?_) (fun c_6 => ?_)
  · have c_6 : t1.toInt ≤ i_1.toInt := (c_le (x := t1.toInt) (y := i_1.toInt) rfl rfl).mp c_6
    refine lv_iload hx hb dX9_stonesAbove_49 (lv_at hl 1 rfl) ?_
    exact W.iret (v := i_2) hx hb hr (fun t ht hW => ⟨⟨i_2, (), rfl, trivial, trivial⟩, hS.F ht⟩) hS.2.2 dX9_stonesAbove_51
  · have c_6 : i_1.toInt < t1.toInt := by have h := mt (c_le (x := t1.toInt) (y := i_1.toInt) rfl rfl).mpr c_6; omega
    refine lv_iload hx hb dX9_stonesAbove_18 (lv_at hl 1 rfl) ?_
    refine lv_iconst (v := 0) hx hb dX9_stonesAbove_20 (by decide) ?_
    refine lv_aload_n hx hb dX9_stonesAbove_21 rfl (lv_at hl 3 rfl) ?_
    refine va_get (D := D) (ci := 3) (C := RX3) (T := TX3) (N := 9) hx hb hts iX3 hown hK hP 0 rfl rfl 1 (by decide) (hts _ m373) (fun _ h9 => h9) rfl dX9_stonesAbove_22 ?_
    refine va_get (D := D) (ci := 7) (C := RX7) (T := TX7) (N := 9) hx hb hts iX7 hown hK hP 2 rfl rfl 1 (by decide) (hts _ m326) (fun _ h9 => h9) rfl dX9_stonesAbove_25 ?_
    refine lv_iload_n hx hb dX9_stonesAbove_28 rfl (lv_at hl 4 rfl) ?_
    refine lv_iload hx hb dX9_stonesAbove_29 (lv_at hl 0 rfl) ?_
    refine puI (cSN (As := [.int i2, .int i_1]) (rest := [.ref e0, .int 0, .int i_2]) ⟨hx, hb, hml, hown, hts⟩ (c_X10_placeOf l D T i2 i_1 ⟨by omega, by omega⟩ ⟨by omega, by omega⟩) k_X10_placeOf m769 (hC.2.1 _ (List.mem_of_getElem? (i := 13) rfl)) rfl rfl ⟨(Nat.le_of_ble_eq_true rfl), (Nat.le_of_ble_eq_true rfl)⟩ (preP hC (hP.sub (ws' := []) [] rfl)) rfl hl.1 rfl (Nat.le_of_ble_eq_true rfl) dX9_stonesAbove_31 ⟨(Nat.le_of_ble_eq_true rfl), (Nat.le_of_ble_eq_true rfl)⟩) hS hP (fun r_7 H locs hw hP hS => ?_)
    have w_9 : (r_7.toInt = 8 * i2.toInt + i_1.toInt) := hw
    obtain c_10 := w_9
    refine va_iald (D := D) hx hb hK hP 3 0 rfl rfl (v_in (x := r_7.toInt) rfl (by omega) (by omega)) dX9_stonesAbove_34 ?_
    refine lv_topi (fun x_11 ex_11 => ?_)
    have tx_11 : 0 ≤ x_11.toInt ∧ x_11.toInt ≤ 12 := rg_at R_p0 ex_11
    have qx_11 : x_11.toInt = (p0 r_7.toNatClampNeg).toInt := by rw [ex_11]
    refine lv_iload_n hx hb dX9_stonesAbove_35 rfl (lv_at hl 5 rfl) ?_
    refine lv_isub hx hb dX9_stonesAbove_36 ?_
    refine lv_topi (fun x_12 ex_12 => ?_)
    refine va_mmax hx hb (by rw [hml]; exact hl.1.symm) hown (hts _ m1103) (hts _ m826) (hts _ m123) (hts _ m827) (Nat.le_of_ble_eq_true rfl) (Nat.le_of_ble_eq_true rfl) (Nat.le_of_ble_eq_true rfl) (Nat.le_of_ble_eq_true rfl) dX9_stonesAbove_37 ?_
    refine lv_topi (fun x_13 ex_13 => ?_)
    refine lv_iadd hx hb dX9_stonesAbove_40 ?_
    refine lv_topi (fun x_14 ex_14 => ?_)
    refine lv_istore (lv' := [(4, .int x_14), (5, .int i_1), (0, .ref h0), (1, .ref h1), (2, .int i2), (3, .int i3)]) hx hb dX9_stonesAbove_41 hl (by decide) rfl (fun ls hl => ?_)
    obtain ⟨x_15, ex_15⟩ : ∃ y : Int32, y = i_1 + 1 := ⟨_, rfl⟩
    have tx_15 : x_15.toInt = i_1.toInt + 1 := t_add (x := i_1.toInt) (y := 1) ex_15 rfl rfl (by omega) (by omega)
    refine lv_iinc (v := x_15) (lv' := [(5, .int x_15), (4, .int x_14), (0, .ref h0), (1, .ref h1), (2, .int i2), (3, .int i3)]) hx hb dX9_stonesAbove_43 hl (k := 1) rfl (by rw [ex_15]; rfl) (by decide) rfl (fun ls hl => ?_)
    refine lv_goto (tgt := 6) hx hb dX9_stonesAbove_46 (by decide) ?_
    exact ih_5 (_, _, _, x_15, x_14) ⟨(show 0 ≤ x_15.toInt by omega), (show x_15.toInt ≤ 8 by omega), hP, hS, lv_sub hl [0, 1, 2, 3, 4, 5] rfl⟩ (show (8 - x_15.toInt).toNat < (8 - i_1.toInt).toNat by omega)

set_option maxHeartbeats 4000000 in
set_option maxRecDepth 100000 in
theorem c_X9_addColumn (l : Launch) (D : va_G) (T : Nat → ClassId) (b0 b1 b2 b3 b4 b5 b6 b7 b8 b9 e0 e1 e2 e3 e4 e5 e6 e7 h0 h1 tn0 tw : Nat) (i2 t0 t1 t2 t3 t4 t5 t6 t7 t8 : Int32) (f0 gt0 p0 p2 : Nat → Int32) (sz : Nat) (h_t1 : 0 ≤ t1.toInt ∧ t1.toInt ≤ 8) (h_t2 : 0 ≤ t2.toInt ∧ t2.toInt ≤ 12) (h_t4 : 0 ≤ t4.toInt ∧ t4.toInt ≤ 5) (h_t5 : 0 ≤ t5.toInt ∧ t5.toInt ≤ 10) (h_i2 : 0 ≤ i2.toInt ∧ i2.toInt ≤ 15) (R_p0 : rg 0 12 p0) (R_p2 : rg 0 4 p2) : Met l yX9_addColumn (wM yX9_addColumn cX9_addColumn 7 none) ({ frames := 2, cells := 0, slots := 0, locals := 43 }) (va_Pc [.ref h0, .ref h1, .int i2] (pwM D T [(h0, .inr (9, [.ref tn0])), (tn0, .inl (T 0, 97, .inl gt0)), (h1, .inr (7, [.ref tw, .ref e0, .ref e1, .ref e2, .ref e3, .ref e4, .ref e5, .ref e6, .ref e7])), (e0, .inl (T 0, 16, .inl p0)), (e2, .inl (T 0, 192, .inl p2)), (tw, .inr (5, [.int t0, .int t1, .int t2, .int t3, .int t4, .int t5, .int t6, .int t7, .int t8, .ref b0, .ref b1, .ref b2, .ref b3, .ref b4, .ref b5, .ref b6, .ref b7, .ref b8, .ref b9])), (b0, .inl (T 0, 5, .inl f0))] sz)) (va_Qv (fun (u : U5) => True) (fun u t => pwE D (va_A [(h0, .inr (9, [.ref tn0])), (tn0, .inl (T 0, 97, .inl gt0)), (h1, .inr (7, [.ref tw, .ref e0, .ref e1, .ref e2, .ref e3, .ref e4, .ref e5, .ref e6, .ref e7])), (e0, .inl (T 0, 16, .inl p0)), (e2, .inl (T 0, 192, .inl p2)), (tw, .inr (5, [.int t0, .int t1, .int t2, .int t3, .int t4, .int t5, .int t6, .int t7, .int t8, .ref b0, .ref b1, .ref b2, .ref b3, .ref b4, .ref b5, .ref b6, .ref b7, .ref b8, .ref b9])), (b0, .inl (T 0, 5, .inl f0))] sz) [(h0, .inr (9, [.ref tn0])), (tn0, .inl (T 0, 97, .inl (u.2.1 0))), (h1, .inr (7, [.ref tw, .ref e0, .ref e1, .ref e2, .ref e3, .ref e4, .ref e5, .ref e6, .ref e7])), (e0, .inl (T 0, 16, .inl p0)), (e2, .inl (T 0, 192, .inl p2)), (tw, .inr (5, [.int t0, .int t1, .int t2, .int t3, .int t4, .int t5, .int t6, .int t7, .int t8, .ref b0, .ref b1, .ref b2, .ref b3, .ref b4, .ref b5, .ref b6, .ref b7, .ref b8, .ref b9])), (b0, .inl (T 0, 5, .inl f0))] t) (va_A [(h0, .inr (9, [.ref tn0])), (tn0, .inl (T 0, 97, .inl gt0)), (h1, .inr (7, [.ref tw, .ref e0, .ref e1, .ref e2, .ref e3, .ref e4, .ref e5, .ref e6, .ref e7])), (e0, .inl (T 0, 16, .inl p0)), (e2, .inl (T 0, 192, .inl p2)), (tw, .inr (5, [.int t0, .int t1, .int t2, .int t3, .int t4, .int t5, .int t6, .int t7, .int t8, .ref b0, .ref b1, .ref b2, .ref b3, .ref b4, .ref b5, .ref b6, .ref b7, .ref b8, .ref b9])), (b0, .inl (T 0, 5, .inl f0))] sz)) 0 0 (va_A [(h0, .inr (9, [.ref tn0])), (tn0, .inl (T 0, 97, .inl gt0)), (h1, .inr (7, [.ref tw, .ref e0, .ref e1, .ref e2, .ref e3, .ref e4, .ref e5, .ref e6, .ref e7])), (e0, .inl (T 0, 16, .inl p0)), (e2, .inl (T 0, 192, .inl p2)), (tw, .inr (5, [.int t0, .int t1, .int t2, .int t3, .int t4, .int t5, .int t6, .int t7, .int t8, .ref b0, .ref b1, .ref b2, .ref b3, .ref b4, .ref b5, .ref b6, .ref b7, .ref b8, .ref b9])), (b0, .inl (T 0, 5, .inl f0))] sz) := by
  refine Met.ofW (cc := cX9_addColumn) (maxL := 7) (ret := none) (by decide) rfl ?_
  intro p e s m args below meth c s₁ B hml hv
  obtain ⟨rfl, hsz, hP, hC, hD0⟩ := hv
  have hx := B.exec
  have hb := B.bytes
  have hr := B.returns
  have hts : ∀ w ∈ gt, w.before _ s = true := fun w hw => atoms_spec (ws := (wM yX9_addColumn cX9_addColumn 7 none)) B.pre w (List.mem_cons_of_mem _ hw)
  have hown : s.vm.findClass RX9 = some m.cls := findClass_of_methodNamed B.named
  have hlocks := B.notSynchronized
  have hK := hC.1
  subst hsz
  have hD := hD0.self (sz := s.heap.size)
  generalize hAe : va_A [(h0, .inr (9, [.ref tn0])), (tn0, .inl (T 0, 97, .inl gt0)), (h1, .inr (7, [.ref tw, .ref e0, .ref e1, .ref e2, .ref e3, .ref e4, .ref e5, .ref e6, .ref e7])), (e0, .inl (T 0, 16, .inl p0)), (e2, .inl (T 0, 192, .inl p2)), (tw, .inr (5, [.int t0, .int t1, .int t2, .int t3, .int t4, .int t5, .int t6, .int t7, .int t8, .ref b0, .ref b1, .ref b2, .ref b3, .ref b4, .ref b5, .ref b6, .ref b7, .ref b8, .ref b9])), (b0, .inl (T 0, 5, .inl f0))] s.heap.size = A at hD ⊢
  have hA : ∀ q : Nat, s.heap.size ≤ q → A q := fun q h => by rw [← hAe]; exact Or.inr h
  have hS : va_S A s.heap s.heap [] := va_S.rf
  have hl := lv_entry ([.ref h0, .ref h1, .int i2]) (n := 7) (Nat.le_of_ble_eq_true rfl)
  rw [lg_entry_eq]
  generalize (lg_sl ([.ref h0, .ref h1, .int i2]) ++ List.replicate (7 - (lg_sl ([.ref h0, .ref h1, .int i2])).length) Slot.unset).toArray = ls at hl ⊢
  have hl : lv_has ls 7 [(0, .ref h0), (1, .ref h1), (2, .int i2)] := hl
  refine lv_aload_n hx hb dX9_addColumn_0 rfl (lv_at hl 1 rfl) ?_
  refine va_get (D := D) (ci := 7) (C := RX7) (T := TX7) (N := 9) hx hb hts iX7 hown hK hP 2 rfl rfl 1 (by decide) (hts _ m326) (fun _ h9 => h9) rfl dX9_addColumn_1 ?_
  refine lv_iload_n hx hb dX9_addColumn_4 rfl (lv_at hl 2 rfl) ?_
  refine va_iald (D := D) hx hb hK hP 3 0 rfl rfl (v_in (x := i2.toInt) rfl (by omega) (by omega)) dX9_addColumn_5 ?_
  refine lv_topi (fun x_1 ex_1 => ?_)
  have tx_1 : 0 ≤ x_1.toInt ∧ x_1.toInt ≤ 12 := rg_at R_p0 ex_1
  refine lv_istore_n (lv' := [(3, .int x_1), (0, .ref h0), (1, .ref h1), (2, .int i2)]) hx hb dX9_addColumn_6 rfl hl (by decide) rfl (fun ls hl => ?_)
  refine lv_bipush (v := 96) hx hb dX9_addColumn_7 (by decide) ?_
  refine lv_istore (lv' := [(4, .int 96), (3, .int x_1), (0, .ref h0), (1, .ref h1), (2, .int i2)]) hx hb dX9_addColumn_9 hl (by decide) rfl (fun ls hl => ?_)
  refine lp_ind (fun (a : Heap × List Loc × Array Slot × (Int32) × (Nat → Int32)) => match a with | (H, locs, ls, i_2, f_3) => W p l e _ s m _ below meth c H locs 0 0 _ (F0 m 11 ls [])) (fun (a : Heap × List Loc × Array Slot × (Int32) × (Nat → Int32)) => match a with | (H, locs, ls, i_2, f_3) => 0 ≤ i_2.toInt ∧ i_2.toInt ≤ 96 ∧ va_P D vwCl [(h0, .inr (9, [.ref tn0])), (tn0, .inl (T 0, 97, .inl f_3)), (h1, .inr (7, [.ref tw, .ref e0, .ref e1, .ref e2, .ref e3, .ref e4, .ref e5, .ref e6, .ref e7])), (e0, .inl (T 0, 16, .inl p0)), (e2, .inl (T 0, 192, .inl p2)), (tw, .inr (5, [.int t0, .int t1, .int t2, .int t3, .int t4, .int t5, .int t6, .int t7, .int t8, .ref b0, .ref b1, .ref b2, .ref b3, .ref b4, .ref b5, .ref b6, .ref b7, .ref b8, .ref b9])), (b0, .inl (T 0, 5, .inl f0))] H ∧ va_D A [(h0, .inr (9, [.ref tn0])), (tn0, .inl (T 0, 97, .inl f_3)), (h1, .inr (7, [.ref tw, .ref e0, .ref e1, .ref e2, .ref e3, .ref e4, .ref e5, .ref e6, .ref e7])), (e0, .inl (T 0, 16, .inl p0)), (e2, .inl (T 0, 192, .inl p2)), (tw, .inr (5, [.int t0, .int t1, .int t2, .int t3, .int t4, .int t5, .int t6, .int t7, .int t8, .ref b0, .ref b1, .ref b2, .ref b3, .ref b4, .ref b5, .ref b6, .ref b7, .ref b8, .ref b9])), (b0, .inl (T 0, 5, .inl f0))] ∧ va_S A s.heap H locs ∧ lv_has ls 7 [(4, .int i_2), (3, .int x_1), (0, .ref h0), (1, .ref h1), (2, .int i2)]) (fun (a : Heap × List Loc × Array Slot × (Int32) × (Nat → Int32)) => match a with | (H, locs, ls, i_2, f_3) => (i_2.toInt - 0).toNat) ?_ (_, _, ls, (96 : Int32), gt0) ⟨(show 0 ≤ 96 by omega), (show 96 ≤ 96 by omega), hP, hD, hS, lv_sub hl [0, 1, 2, 3, 4] rfl⟩
  rintro ⟨H, locs, ls, i_2, f_3⟩ ⟨c_4, c_5, hP, hD, hS, hl⟩ ih_6
  refine lv_iload hx hb dX9_addColumn_11 (lv_at hl 0 rfl) ?_
  refine lv_if_le (tgt := 91) hx hb dX9_addColumn_13 (by decide) (fun c_7 => ?_) (fun c_7 => ?_)
  · have c_7 : i_2.toInt ≤ 0 := (c_le (x := i_2.toInt) (y := 0) rfl rfl).mp c_7
    have hP9 := hP.sub (ws' := [(h0, .inr (9, [.ref tn0])), (tn0, .inl (T 0, 97, .inl f_3)), (h1, .inr (7, [.ref tw, .ref e0, .ref e1, .ref e2, .ref e3, .ref e4, .ref e5, .ref e6, .ref e7])), (e0, .inl (T 0, 16, .inl p0)), (e2, .inl (T 0, 192, .inl p2)), (tw, .inr (5, [.int t0, .int t1, .int t2, .int t3, .int t4, .int t5, .int t6, .int t7, .int t8, .ref b0, .ref b1, .ref b2, .ref b3, .ref b4, .ref b5, .ref b6, .ref b7, .ref b8, .ref b9])), (b0, .inl (T 0, 5, .inl f0))]) [0, 1, 2, 3, 4, 5, 6] rfl
    have hD9 := hD.sub (ws' := [(h0, .inr (9, [.ref tn0])), (tn0, .inl (T 0, 97, .inl f_3)), (h1, .inr (7, [.ref tw, .ref e0, .ref e1, .ref e2, .ref e3, .ref e4, .ref e5, .ref e6, .ref e7])), (e0, .inl (T 0, 16, .inl p0)), (e2, .inl (T 0, 192, .inl p2)), (tw, .inr (5, [.int t0, .int t1, .int t2, .int t3, .int t4, .int t5, .int t6, .int t7, .int t8, .ref b0, .ref b1, .ref b2, .ref b3, .ref b4, .ref b5, .ref b6, .ref b7, .ref b8, .ref b9])), (b0, .inl (T 0, 5, .inl f0))]) [0, 1, 2, 3, 4, 5, 6] (by decide) rfl
    exact W.vret hx hb hr (fun t ht hW => ⟨⟨(fun k => ([] : List (Nat)).getD k 0, fun k => ([f_3] : List (Nat → Int32)).getD k (fun _ => 0), fun k => ([] : List (Nat → Int64)).getD k (fun _ => 0), fun k => ([] : List (Int32)).getD k 0, fun k => ([] : List (Int64)).getD k 0), rfl, trivial, by rw [ht]; exact hP9, hD9⟩, hS.F ht⟩) hS.2.2 dX9_addColumn_91
  · have c_7 : 0 < i_2.toInt := by have h := mt (c_le (x := i_2.toInt) (y := 0) rfl rfl).mpr c_7; omega
    refine lv_iconst (v := 0) hx hb dX9_addColumn_16 (by decide) ?_
    refine lv_istore (lv' := [(5, .int 0), (4, .int i_2), (3, .int x_1), (0, .ref h0), (1, .ref h1), (2, .int i2)]) hx hb dX9_addColumn_17 hl (by decide) rfl (fun ls hl => ?_)
    refine lv_iconst (v := 1) hx hb dX9_addColumn_19 (by decide) ?_
    refine lv_istore (lv' := [(6, .int 1), (5, .int 0), (4, .int i_2), (3, .int x_1), (0, .ref h0), (1, .ref h1), (2, .int i2)]) hx hb dX9_addColumn_20 hl (by decide) rfl (fun ls hl => ?_)
    refine lp_ind (fun (a : Heap × List Loc × Array Slot × (Int32) × (Int32) × (Nat → Int32)) => match a with | (H, locs, ls, i_8, i_9, f_10) => W p l e _ s m _ below meth c H locs 0 0 _ (F0 m 22 ls [])) (fun (a : Heap × List Loc × Array Slot × (Int32) × (Int32) × (Nat → Int32)) => match a with | (H, locs, ls, i_8, i_9, f_10) => 1 ≤ i_8.toInt ∧ i_8.toInt ≤ 13 ∧ va_P D vwCl [(h0, .inr (9, [.ref tn0])), (tn0, .inl (T 0, 97, .inl f_10)), (h1, .inr (7, [.ref tw, .ref e0, .ref e1, .ref e2, .ref e3, .ref e4, .ref e5, .ref e6, .ref e7])), (e0, .inl (T 0, 16, .inl p0)), (e2, .inl (T 0, 192, .inl p2)), (tw, .inr (5, [.int t0, .int t1, .int t2, .int t3, .int t4, .int t5, .int t6, .int t7, .int t8, .ref b0, .ref b1, .ref b2, .ref b3, .ref b4, .ref b5, .ref b6, .ref b7, .ref b8, .ref b9])), (b0, .inl (T 0, 5, .inl f0))] H ∧ va_D A [(h0, .inr (9, [.ref tn0])), (tn0, .inl (T 0, 97, .inl f_10)), (h1, .inr (7, [.ref tw, .ref e0, .ref e1, .ref e2, .ref e3, .ref e4, .ref e5, .ref e6, .ref e7])), (e0, .inl (T 0, 16, .inl p0)), (e2, .inl (T 0, 192, .inl p2)), (tw, .inr (5, [.int t0, .int t1, .int t2, .int t3, .int t4, .int t5, .int t6, .int t7, .int t8, .ref b0, .ref b1, .ref b2, .ref b3, .ref b4, .ref b5, .ref b6, .ref b7, .ref b8, .ref b9])), (b0, .inl (T 0, 5, .inl f0))] ∧ va_S A s.heap H locs ∧ lv_has ls 7 [(6, .int i_8), (5, .int i_9), (4, .int i_2), (3, .int x_1), (0, .ref h0), (1, .ref h1), (2, .int i2)]) (fun (a : Heap × List Loc × Array Slot × (Int32) × (Int32) × (Nat → Int32)) => match a with | (H, locs, ls, i_8, i_9, f_10) => (13 - i_8.toInt).toNat) ?_ (_, _, ls, (1 : Int32), (0 : Int32), f_3) ⟨(show 1 ≤ 1 by omega), (show 1 ≤ 13 by omega), hP, hD, hS, lv_sub hl [0, 1, 2, 3, 4, 5, 6] rfl⟩
    rintro ⟨H, locs, ls, i_8, i_9, f_10⟩ ⟨c_11, c_12, hP, hD, hS, hl⟩ ih_13
    refine lv_iload hx hb dX9_addColumn_22 (lv_at hl 0 rfl) ?_
    refine lv_iload_n hx hb dX9_addColumn_24 rfl (lv_at hl 3 rfl) ?_
    refine lv_icmp_gt (tgt := 85) hx hb dX9_addColumn_25 (by decide) (fun c_14 => ?_) (fun c_14 => ?_)
    · have c_14 : x_1.toInt < i_8.toInt := (c_lt (x := x_1.toInt) (y := i_8.toInt) rfl rfl).mp c_14
      obtain ⟨x_15, ex_15⟩ : ∃ y : Int32, y = i_2 + (-1) := ⟨_, rfl⟩
      have tx_15 : x_15.toInt = i_2.toInt + (-1) := t_add (x := i_2.toInt) (y := (-1)) ex_15 rfl rfl (by omega) (by omega)
      refine lv_iinc (v := x_15) (lv' := [(4, .int x_15), (6, .int i_8), (5, .int i_9), (3, .int x_1), (0, .ref h0), (1, .ref h1), (2, .int i2)]) hx hb dX9_addColumn_85 hl (k := 2) rfl (by rw [ex_15]; rfl) (by decide) rfl (fun ls hl => ?_)
      refine lv_goto (tgt := 11) hx hb dX9_addColumn_88 (by decide) ?_
      exact ih_6 (_, _, _, x_15, f_10) ⟨(show 0 ≤ x_15.toInt by omega), (show x_15.toInt ≤ 96 by omega), hP, hD, hS, lv_sub hl [0, 3, 4, 5, 6] rfl⟩ (show (x_15.toInt - 0).toNat < (i_2.toInt - 0).toNat by omega)
    · have c_14 : i_8.toInt ≤ x_1.toInt := by have h := mt (c_lt (x := x_1.toInt) (y := i_8.toInt) rfl rfl).mpr c_14; omega
      refine lv_iload hx hb dX9_addColumn_28 (lv_at hl 0 rfl) ?_
      refine lv_iload hx hb dX9_addColumn_30 (lv_at hl 2 rfl) ?_
      refine lv_icmp_gt (tgt := 85) hx hb dX9_addColumn_32 (by decide) (fun c_16 => ?_) (fun c_16 => ?_)
      · have c_16 : i_2.toInt < i_8.toInt := (c_lt (x := i_2.toInt) (y := i_8.toInt) rfl rfl).mp c_16
        obtain ⟨x_17, ex_17⟩ : ∃ y : Int32, y = i_2 + (-1) := ⟨_, rfl⟩
        have tx_17 : x_17.toInt = i_2.toInt + (-1) := t_add (x := i_2.toInt) (y := (-1)) ex_17 rfl rfl (by omega) (by omega)
        refine lv_iinc (v := x_17) (lv' := [(4, .int x_17), (6, .int i_8), (5, .int i_9), (3, .int x_1), (0, .ref h0), (1, .ref h1), (2, .int i2)]) hx hb dX9_addColumn_85 hl (k := 2) rfl (by rw [ex_17]; rfl) (by decide) rfl (fun ls hl => ?_)
        refine lv_goto (tgt := 11) hx hb dX9_addColumn_88 (by decide) ?_
        exact ih_6 (_, _, _, x_17, f_10) ⟨(show 0 ≤ x_17.toInt by omega), (show x_17.toInt ≤ 96 by omega), hP, hD, hS, lv_sub hl [0, 3, 4, 5, 6] rfl⟩ (show (x_17.toInt - 0).toNat < (i_2.toInt - 0).toNat by omega)
      · have c_16 : i_8.toInt ≤ i_2.toInt := by have h := mt (c_lt (x := i_2.toInt) (y := i_8.toInt) rfl rfl).mpr c_16; omega
        refine lv_iload hx hb dX9_addColumn_35 (lv_at hl 1 rfl) ?_
        refine lv_aload_n hx hb dX9_addColumn_37 rfl (lv_at hl 5 rfl) ?_
        refine lv_iload_n hx hb dX9_addColumn_38 rfl (lv_at hl 6 rfl) ?_
        refine lv_iload_n hx hb dX9_addColumn_39 rfl (lv_at hl 3 rfl) ?_
        refine lv_iload hx hb dX9_addColumn_40 (lv_at hl 0 rfl) ?_
        refine lv_isub hx hb dX9_addColumn_42 ?_
        refine lv_topi (fun x_18 ex_18 => ?_)
        have tx_18 : x_18.toInt = x_1.toInt - i_8.toInt := t_sub (x := x_1.toInt) (y := i_8.toInt) ex_18 rfl rfl (by omega) (by omega)
        refine puI (cV (As := [.int i2, .int x_18]) (rest := [.int i_9]) ⟨hx, hb, hml, hown, hts⟩ (c_X7_weightOf l D T b0 b1 b2 b3 b4 b5 b6 b7 b8 b9 e0 e1 e2 e3 e4 e5 e6 e7 h1 tw i2 x_18 t0 t1 t2 t3 t4 t5 t6 t7 t8 f0 p2 ⟨by omega, by omega⟩ ⟨by omega, by omega⟩ ⟨by omega, by omega⟩ ⟨by omega, by omega⟩ ⟨by omega, by omega⟩ ⟨by omega, by omega⟩ R_p2) k_X7_weightOf v_X7_weightOf m1102 rfl rfl ⟨(Nat.le_of_ble_eq_true rfl), (Nat.le_of_ble_eq_true rfl)⟩ (preP hC (hP.sub (ws' := [(h1, .inr (7, [.ref tw, .ref e0, .ref e1, .ref e2, .ref e3, .ref e4, .ref e5, .ref e6, .ref e7])), (e2, .inl (T 0, 192, .inl p2)), (tw, .inr (5, [.int t0, .int t1, .int t2, .int t3, .int t4, .int t5, .int t6, .int t7, .int t8, .ref b0, .ref b1, .ref b2, .ref b3, .ref b4, .ref b5, .ref b6, .ref b7, .ref b8, .ref b9])), (b0, .inl (T 0, 5, .inl f0))]) [2, 4, 5, 6] rfl)) (va_recv hK hP (ci := 7) (q0 := 2) rfl rfl) rfl hl.1 rfl (Nat.le_of_ble_eq_true rfl) dX9_addColumn_43 ⟨(Nat.le_of_ble_eq_true rfl), (Nat.le_of_ble_eq_true rfl)⟩) hS hP (fun r_19 H locs hw hP hS => ?_)
        refine lv_iadd hx hb dX9_addColumn_46 ?_
        refine lv_topi (fun x_21 ex_21 => ?_)
        refine lv_istore (lv' := [(5, .int x_21), (6, .int i_8), (4, .int i_2), (3, .int x_1), (0, .ref h0), (1, .ref h1), (2, .int i2)]) hx hb dX9_addColumn_47 hl (by decide) rfl (fun ls hl => ?_)
        refine lv_aload_n hx hb dX9_addColumn_49 rfl (lv_at hl 4 rfl) ?_
        refine va_get (D := D) (ci := 9) (C := RX9) (T := TX9) (N := 1) hx hb hts iX9 hown hK hP 0 rfl rfl 0 (by decide) (hts _ m521) (fun _ h9 => h9) rfl dX9_addColumn_50 ?_
        refine lv_iload hx hb dX9_addColumn_53 (lv_at hl 2 rfl) ?_
        refine lv_aload_n hx hb dX9_addColumn_55 rfl (lv_at hl 4 rfl) ?_
        refine va_get (D := D) (ci := 9) (C := RX9) (T := TX9) (N := 1) hx hb hts iX9 hown hK hP 0 rfl rfl 0 (by decide) (hts _ m521) (fun _ h9 => h9) rfl dX9_addColumn_56 ?_
        refine lv_iload hx hb dX9_addColumn_59 (lv_at hl 2 rfl) ?_
        refine va_iald (D := D) hx hb hK hP 1 0 rfl rfl (v_in (x := i_2.toInt) rfl (by omega) (by omega)) dX9_addColumn_61 ?_
        refine lv_topi (fun x_22 ex_22 => ?_)
        refine lv_aload_n hx hb dX9_addColumn_62 rfl (lv_at hl 4 rfl) ?_
        refine va_get (D := D) (ci := 9) (C := RX9) (T := TX9) (N := 1) hx hb hts iX9 hown hK hP 0 rfl rfl 0 (by decide) (hts _ m521) (fun _ h9 => h9) rfl dX9_addColumn_63 ?_
        refine lv_iload hx hb dX9_addColumn_66 (lv_at hl 2 rfl) ?_
        refine lv_iload hx hb dX9_addColumn_68 (lv_at hl 1 rfl) ?_
        refine lv_isub hx hb dX9_addColumn_70 ?_
        refine lv_topi (fun x_23 ex_23 => ?_)
        have tx_23 : x_23.toInt = i_2.toInt - i_8.toInt := t_sub (x := i_2.toInt) (y := i_8.toInt) ex_23 rfl rfl (by omega) (by omega)
        refine va_iald (D := D) hx hb hK hP 1 0 rfl rfl (v_in (x := x_23.toInt) rfl (by omega) (by omega)) dX9_addColumn_71 ?_
        refine lv_topi (fun x_24 ex_24 => ?_)
        refine lv_iload hx hb dX9_addColumn_72 (lv_at hl 0 rfl) ?_
        refine lv_iadd hx hb dX9_addColumn_74 ?_
        refine lv_topi (fun x_25 ex_25 => ?_)
        refine va_mmax hx hb (by rw [hml]; exact hl.1.symm) hown (hts _ m1103) (hts _ m826) (hts _ m123) (hts _ m827) (Nat.le_of_ble_eq_true rfl) (Nat.le_of_ble_eq_true rfl) (Nat.le_of_ble_eq_true rfl) (Nat.le_of_ble_eq_true rfl) dX9_addColumn_75 ?_
        refine lv_topi (fun x_26 ex_26 => ?_)
        refine va_iast (D := D) hx hb hK hP hD hS 1 0 rfl rfl (v_in (x := i_2.toInt) rfl (by omega) (by omega)) dX9_addColumn_78 (fun H locs hP hD hS => ?_)
        obtain ⟨f_27, hf_27⟩ : ∃ g : Nat → Int32, g = upd f_10 i_2.toNatClampNeg x_26 := ⟨_, rfl⟩
        have hP : va_P D vwCl [(h0, .inr (9, [.ref tn0])), (tn0, .inl (T 0, 97, .inl (upd f_10 i_2.toNatClampNeg x_26))), (h1, .inr (7, [.ref tw, .ref e0, .ref e1, .ref e2, .ref e3, .ref e4, .ref e5, .ref e6, .ref e7])), (e0, .inl (T 0, 16, .inl p0)), (e2, .inl (T 0, 192, .inl p2)), (tw, .inr (5, [.int t0, .int t1, .int t2, .int t3, .int t4, .int t5, .int t6, .int t7, .int t8, .ref b0, .ref b1, .ref b2, .ref b3, .ref b4, .ref b5, .ref b6, .ref b7, .ref b8, .ref b9])), (b0, .inl (T 0, 5, .inl f0))] H := hP
        have hD : va_D A [(h0, .inr (9, [.ref tn0])), (tn0, .inl (T 0, 97, .inl (upd f_10 i_2.toNatClampNeg x_26))), (h1, .inr (7, [.ref tw, .ref e0, .ref e1, .ref e2, .ref e3, .ref e4, .ref e5, .ref e6, .ref e7])), (e0, .inl (T 0, 16, .inl p0)), (e2, .inl (T 0, 192, .inl p2)), (tw, .inr (5, [.int t0, .int t1, .int t2, .int t3, .int t4, .int t5, .int t6, .int t7, .int t8, .ref b0, .ref b1, .ref b2, .ref b3, .ref b4, .ref b5, .ref b6, .ref b7, .ref b8, .ref b9])), (b0, .inl (T 0, 5, .inl f0))] := hD
        rw [← hf_27] at hP hD
        obtain ⟨x_28, ex_28⟩ : ∃ y : Int32, y = i_8 + 1 := ⟨_, rfl⟩
        have tx_28 : x_28.toInt = i_8.toInt + 1 := t_add (x := i_8.toInt) (y := 1) ex_28 rfl rfl (by omega) (by omega)
        refine lv_iinc (v := x_28) (lv' := [(6, .int x_28), (5, .int x_21), (4, .int i_2), (3, .int x_1), (0, .ref h0), (1, .ref h1), (2, .int i2)]) hx hb dX9_addColumn_79 hl (k := 1) rfl (by rw [ex_28]; rfl) (by decide) rfl (fun ls hl => ?_)
        refine lv_goto (tgt := 22) hx hb dX9_addColumn_82 (by decide) ?_
        exact ih_13 (_, _, _, x_28, x_21, f_27) ⟨(show 1 ≤ x_28.toInt by omega), (show x_28.toInt ≤ 13 by omega), hP, hD, hS, lv_sub hl [0, 1, 2, 3, 4, 5, 6] rfl⟩ (show (13 - x_28.toInt).toNat < (13 - i_8.toInt).toNat by omega)

set_option maxHeartbeats 4000000 in
set_option maxRecDepth 100000 in
theorem c_X9_fewestOfWeight (l : Launch) (D : va_G) (T : Nat → ClassId) (b0 b1 b2 b3 b4 b5 b6 b7 b8 b9 bl e0 e1 e2 e3 e4 e5 e6 e7 h0 h1 sw tn0 tw wa : Nat) (i2 i3 s2 s3 s4 s6 t0 t1 t2 t3 t4 t5 t6 t7 t8 : Int32) (s5 : Int64) (f0 gt0 p0 p2 : Nat → Int32) (sz : Nat) (h_t1 : 0 ≤ t1.toInt ∧ t1.toInt ≤ 8) (h_t2 : 0 ≤ t2.toInt ∧ t2.toInt ≤ 12) (h_t4 : 0 ≤ t4.toInt ∧ t4.toInt ≤ 5) (h_t5 : 0 ≤ t5.toInt ∧ t5.toInt ≤ 10) (h_s2 : 0 ≤ s2.toInt ∧ s2.toInt ≤ 100) (h_i2 : 0 ≤ i2.toInt ∧ i2.toInt ≤ 1) (R_p0 : rg 0 12 p0) (R_p2 : rg 0 4 p2) : Met l yX9_fewestOfWeight (wM yX9_fewestOfWeight cX9_fewestOfWeight 5 (some .int)) ({ frames := 3, cells := 0, slots := 0, locals := 69 }) (va_Pc [.ref h0, .ref h1, .int i2, .int i3] (pwM D T [(h0, .inr (9, [.ref tn0])), (tn0, .inl (T 0, 97, .inl gt0)), (h1, .inr (3, [.ref tw, .ref wa, .int s2, .int s3, .int s4, .long s5, .int s6, .ref sw, .ref bl])), (tw, .inr (5, [.int t0, .int t1, .int t2, .int t3, .int t4, .int t5, .int t6, .int t7, .int t8, .ref b0, .ref b1, .ref b2, .ref b3, .ref b4, .ref b5, .ref b6, .ref b7, .ref b8, .ref b9])), (b0, .inl (T 0, 5, .inl f0)), (wa, .inr (7, [.ref tw, .ref e0, .ref e1, .ref e2, .ref e3, .ref e4, .ref e5, .ref e6, .ref e7])), (e0, .inl (T 0, 16, .inl p0)), (e2, .inl (T 0, 192, .inl p2))] sz)) (va_Qi (fun (r : Int32) (u : U5) => True) (fun u t => pwE D (va_A [(h0, .inr (9, [.ref tn0])), (tn0, .inl (T 0, 97, .inl gt0)), (h1, .inr (3, [.ref tw, .ref wa, .int s2, .int s3, .int s4, .long s5, .int s6, .ref sw, .ref bl])), (tw, .inr (5, [.int t0, .int t1, .int t2, .int t3, .int t4, .int t5, .int t6, .int t7, .int t8, .ref b0, .ref b1, .ref b2, .ref b3, .ref b4, .ref b5, .ref b6, .ref b7, .ref b8, .ref b9])), (b0, .inl (T 0, 5, .inl f0)), (wa, .inr (7, [.ref tw, .ref e0, .ref e1, .ref e2, .ref e3, .ref e4, .ref e5, .ref e6, .ref e7])), (e0, .inl (T 0, 16, .inl p0)), (e2, .inl (T 0, 192, .inl p2))] sz) [(h0, .inr (9, [.ref tn0])), (tn0, .inl (T 0, 97, .inl (u.2.1 0))), (h1, .inr (3, [.ref tw, .ref wa, .int s2, .int s3, .int s4, .long s5, .int s6, .ref sw, .ref bl])), (tw, .inr (5, [.int t0, .int t1, .int t2, .int t3, .int t4, .int t5, .int t6, .int t7, .int t8, .ref b0, .ref b1, .ref b2, .ref b3, .ref b4, .ref b5, .ref b6, .ref b7, .ref b8, .ref b9])), (b0, .inl (T 0, 5, .inl f0)), (wa, .inr (7, [.ref tw, .ref e0, .ref e1, .ref e2, .ref e3, .ref e4, .ref e5, .ref e6, .ref e7])), (e0, .inl (T 0, 16, .inl p0)), (e2, .inl (T 0, 192, .inl p2))] t) (va_A [(h0, .inr (9, [.ref tn0])), (tn0, .inl (T 0, 97, .inl gt0)), (h1, .inr (3, [.ref tw, .ref wa, .int s2, .int s3, .int s4, .long s5, .int s6, .ref sw, .ref bl])), (tw, .inr (5, [.int t0, .int t1, .int t2, .int t3, .int t4, .int t5, .int t6, .int t7, .int t8, .ref b0, .ref b1, .ref b2, .ref b3, .ref b4, .ref b5, .ref b6, .ref b7, .ref b8, .ref b9])), (b0, .inl (T 0, 5, .inl f0)), (wa, .inr (7, [.ref tw, .ref e0, .ref e1, .ref e2, .ref e3, .ref e4, .ref e5, .ref e6, .ref e7])), (e0, .inl (T 0, 16, .inl p0)), (e2, .inl (T 0, 192, .inl p2))] sz)) 0 0 (va_A [(h0, .inr (9, [.ref tn0])), (tn0, .inl (T 0, 97, .inl gt0)), (h1, .inr (3, [.ref tw, .ref wa, .int s2, .int s3, .int s4, .long s5, .int s6, .ref sw, .ref bl])), (tw, .inr (5, [.int t0, .int t1, .int t2, .int t3, .int t4, .int t5, .int t6, .int t7, .int t8, .ref b0, .ref b1, .ref b2, .ref b3, .ref b4, .ref b5, .ref b6, .ref b7, .ref b8, .ref b9])), (b0, .inl (T 0, 5, .inl f0)), (wa, .inr (7, [.ref tw, .ref e0, .ref e1, .ref e2, .ref e3, .ref e4, .ref e5, .ref e6, .ref e7])), (e0, .inl (T 0, 16, .inl p0)), (e2, .inl (T 0, 192, .inl p2))] sz) := by
  refine Met.ofW (cc := cX9_fewestOfWeight) (maxL := 5) (ret := (some .int)) (by decide) rfl ?_
  intro p e s m args below meth c s₁ B hml hv
  obtain ⟨rfl, hsz, hP, hC, hD0⟩ := hv
  have hx := B.exec
  have hb := B.bytes
  have hr := B.returns
  have hts : ∀ w ∈ gt, w.before _ s = true := fun w hw => atoms_spec (ws := (wM yX9_fewestOfWeight cX9_fewestOfWeight 5 (some .int))) B.pre w (List.mem_cons_of_mem _ hw)
  have hown : s.vm.findClass RX9 = some m.cls := findClass_of_methodNamed B.named
  have hlocks := B.notSynchronized
  have hK := hC.1
  subst hsz
  have hD := hD0.self (sz := s.heap.size)
  generalize hAe : va_A [(h0, .inr (9, [.ref tn0])), (tn0, .inl (T 0, 97, .inl gt0)), (h1, .inr (3, [.ref tw, .ref wa, .int s2, .int s3, .int s4, .long s5, .int s6, .ref sw, .ref bl])), (tw, .inr (5, [.int t0, .int t1, .int t2, .int t3, .int t4, .int t5, .int t6, .int t7, .int t8, .ref b0, .ref b1, .ref b2, .ref b3, .ref b4, .ref b5, .ref b6, .ref b7, .ref b8, .ref b9])), (b0, .inl (T 0, 5, .inl f0)), (wa, .inr (7, [.ref tw, .ref e0, .ref e1, .ref e2, .ref e3, .ref e4, .ref e5, .ref e6, .ref e7])), (e0, .inl (T 0, 16, .inl p0)), (e2, .inl (T 0, 192, .inl p2))] s.heap.size = A at hD ⊢
  have hA : ∀ q : Nat, s.heap.size ≤ q → A q := fun q h => by rw [← hAe]; exact Or.inr h
  have hS : va_S A s.heap s.heap [] := va_S.rf
  have hl := lv_entry ([.ref h0, .ref h1, .int i2, .int i3]) (n := 5) (Nat.le_of_ble_eq_true rfl)
  rw [lg_entry_eq]
  generalize (lg_sl ([.ref h0, .ref h1, .int i2, .int i3]) ++ List.replicate (5 - (lg_sl ([.ref h0, .ref h1, .int i2, .int i3])).length) Slot.unset).toArray = ls at hl ⊢
  have hl : lv_has ls 5 [(0, .ref h0), (1, .ref h1), (2, .int i2), (3, .int i3)] := hl
  refine lv_aload_n hx hb dX9_fewestOfWeight_0 rfl (lv_at hl 0 rfl) ?_
  refine va_get (D := D) (ci := 9) (C := RX9) (T := TX9) (N := 1) hx hb hts iX9 hown hK hP 0 rfl rfl 0 (by decide) (hts _ m521) (fun _ h9 => h9) rfl dX9_fewestOfWeight_1 ?_
  refine lv_iconst (v := 0) hx hb dX9_fewestOfWeight_4 (by decide) ?_
  refine mtV (wr := [(h0, .inr (9, [.ref tn0])), (h1, .inr (3, [.ref tw, .ref wa, .int s2, .int s3, .int s4, .long s5, .int s6, .ref sw, .ref bl])), (tw, .inr (5, [.int t0, .int t1, .int t2, .int t3, .int t4, .int t5, .int t6, .int t7, .int t8, .ref b0, .ref b1, .ref b2, .ref b3, .ref b4, .ref b5, .ref b6, .ref b7, .ref b8, .ref b9])), (b0, .inl (T 0, 5, .inl f0)), (wa, .inr (7, [.ref tw, .ref e0, .ref e1, .ref e2, .ref e3, .ref e4, .ref e5, .ref e6, .ref e7])), (e0, .inl (T 0, 16, .inl p0)), (e2, .inl (T 0, 192, .inl p2))]) (cS (As := [.ref tn0, .int 0]) (rest := []) ⟨hx, hb, hml, hown, hts⟩ (c_fillI l D T tn0 97 0 gt0 _ (by omega)) k_J7_fill_53178 m739 m1096 rfl rfl ⟨(Nat.le_of_ble_eq_true rfl), (Nat.le_of_ble_eq_true rfl)⟩ (preM hC (hP.sub (ws' := [(tn0, .inl (T 0, 97, .inl gt0))]) [1] rfl) (hD.sub (ws' := [(tn0, .inl (T 0, 97, .inl gt0))]) [1] (by decide) rfl)) rfl hl.1 rfl (Nat.le_of_ble_eq_true rfl) dX9_fewestOfWeight_5 ⟨(Nat.le_of_ble_eq_true rfl), (Nat.le_of_ble_eq_true rfl)⟩) hS hA hP hD [1] [0, 2, 3, 4, 5, 6, 7] rfl rfl (by decide) (by decide) (fun u_2 H locs hw hP hD hS => ?_)
  have hP : va_P D vwCl [(h0, .inr (9, [.ref tn0])), (tn0, .inl (T 0, 97, .inl (u_2.2.1 0))), (h1, .inr (3, [.ref tw, .ref wa, .int s2, .int s3, .int s4, .long s5, .int s6, .ref sw, .ref bl])), (tw, .inr (5, [.int t0, .int t1, .int t2, .int t3, .int t4, .int t5, .int t6, .int t7, .int t8, .ref b0, .ref b1, .ref b2, .ref b3, .ref b4, .ref b5, .ref b6, .ref b7, .ref b8, .ref b9])), (b0, .inl (T 0, 5, .inl f0)), (wa, .inr (7, [.ref tw, .ref e0, .ref e1, .ref e2, .ref e3, .ref e4, .ref e5, .ref e6, .ref e7])), (e0, .inl (T 0, 16, .inl p0)), (e2, .inl (T 0, 192, .inl p2))] H := hP.sub [0, 7, 1, 2, 3, 4, 5, 6] rfl
  have hD : va_D A [(h0, .inr (9, [.ref tn0])), (tn0, .inl (T 0, 97, .inl (u_2.2.1 0))), (h1, .inr (3, [.ref tw, .ref wa, .int s2, .int s3, .int s4, .long s5, .int s6, .ref sw, .ref bl])), (tw, .inr (5, [.int t0, .int t1, .int t2, .int t3, .int t4, .int t5, .int t6, .int t7, .int t8, .ref b0, .ref b1, .ref b2, .ref b3, .ref b4, .ref b5, .ref b6, .ref b7, .ref b8, .ref b9])), (b0, .inl (T 0, 5, .inl f0)), (wa, .inr (7, [.ref tw, .ref e0, .ref e1, .ref e2, .ref e3, .ref e4, .ref e5, .ref e6, .ref e7])), (e0, .inl (T 0, 16, .inl p0)), (e2, .inl (T 0, 192, .inl p2))] := hD.sub [0, 7, 1, 2, 3, 4, 5, 6] (by decide) rfl
  refine lv_iconst (v := 0) hx hb dX9_fewestOfWeight_8 (by decide) ?_
  refine lv_istore (lv' := [(4, .int 0), (0, .ref h0), (1, .ref h1), (2, .int i2), (3, .int i3)]) hx hb dX9_fewestOfWeight_9 hl (by decide) rfl (fun ls hl => ?_)
  refine lp_ind (fun (a : Heap × List Loc × Array Slot × (Int32) × (Nat → Int32)) => match a with | (H, locs, ls, i_3, f_4) => W p l e _ s m _ below meth c H locs 0 0 _ (F0 m 11 ls [])) (fun (a : Heap × List Loc × Array Slot × (Int32) × (Nat → Int32)) => match a with | (H, locs, ls, i_3, f_4) => 0 ≤ i_3.toInt ∧ i_3.toInt ≤ 8 ∧ va_P D vwCl [(h0, .inr (9, [.ref tn0])), (tn0, .inl (T 0, 97, .inl f_4)), (h1, .inr (3, [.ref tw, .ref wa, .int s2, .int s3, .int s4, .long s5, .int s6, .ref sw, .ref bl])), (tw, .inr (5, [.int t0, .int t1, .int t2, .int t3, .int t4, .int t5, .int t6, .int t7, .int t8, .ref b0, .ref b1, .ref b2, .ref b3, .ref b4, .ref b5, .ref b6, .ref b7, .ref b8, .ref b9])), (b0, .inl (T 0, 5, .inl f0)), (wa, .inr (7, [.ref tw, .ref e0, .ref e1, .ref e2, .ref e3, .ref e4, .ref e5, .ref e6, .ref e7])), (e0, .inl (T 0, 16, .inl p0)), (e2, .inl (T 0, 192, .inl p2))] H ∧ va_D A [(h0, .inr (9, [.ref tn0])), (tn0, .inl (T 0, 97, .inl f_4)), (h1, .inr (3, [.ref tw, .ref wa, .int s2, .int s3, .int s4, .long s5, .int s6, .ref sw, .ref bl])), (tw, .inr (5, [.int t0, .int t1, .int t2, .int t3, .int t4, .int t5, .int t6, .int t7, .int t8, .ref b0, .ref b1, .ref b2, .ref b3, .ref b4, .ref b5, .ref b6, .ref b7, .ref b8, .ref b9])), (b0, .inl (T 0, 5, .inl f0)), (wa, .inr (7, [.ref tw, .ref e0, .ref e1, .ref e2, .ref e3, .ref e4, .ref e5, .ref e6, .ref e7])), (e0, .inl (T 0, 16, .inl p0)), (e2, .inl (T 0, 192, .inl p2))] ∧ va_S A s.heap H locs ∧ lv_has ls 5 [(4, .int i_3), (0, .ref h0), (1, .ref h1), (2, .int i2), (3, .int i3)]) (fun (a : Heap × List Loc × Array Slot × (Int32) × (Nat → Int32)) => match a with | (H, locs, ls, i_3, f_4) => (8 - i_3.toInt).toNat) ?_ (_, _, ls, (0 : Int32), (u_2.2.1 0)) ⟨(show 0 ≤ 0 by omega), (show 0 ≤ 8 by omega), hP, hD, hS, lv_sub hl [0, 1, 2, 3, 4] rfl⟩
  rintro ⟨H, locs, ls, i_3, f_4⟩ ⟨c_5, c_6, hP, hD, hS, hl⟩ ih_7
  refine lv_iload hx hb dX9_fewestOfWeight_11 (lv_at hl 0 rfl) ?_
  refine lv_aload_n hx hb dX9_fewestOfWeight_13 rfl (lv_at hl 2 rfl) ?_
  refine va_get (D := D) (ci := 3) (C := RX3) (T := TX3) (N := 9) hx hb hts iX3 hown hK hP 2 rfl rfl 0 (by decide) (hts _ m369) (fun _ h9 => h9) rfl dX9_fewestOfWeight_14 ?_
  refine va_get (D := D) (ci := 5) (C := RX5) (T := TX5) (N := 19) hx hb hts iX5 hown hK hP 3 rfl rfl 1 (by decide) (hts _ m168) (fun _ h9 => h9) rfl dX9_fewestOfWeight_17 ?_
  refine lv_icmp_ge (tgt := 43) hx hb dX9_fewestOfWeight_20 (by decide) (fun c_8 => ?_) (fun c_8 => ?_)
  · have c_8 : t1.toInt ≤ i_3.toInt := (c_le (x := t1.toInt) (y := i_3.toInt) rfl rfl).mp c_8
    refine lv_iconst (v := 1) hx hb dX9_fewestOfWeight_43 (by decide) ?_
    refine lv_istore (lv' := [(4, .int 1), (0, .ref h0), (1, .ref h1), (2, .int i2), (3, .int i3)]) hx hb dX9_fewestOfWeight_44 hl (by decide) rfl (fun ls hl => ?_)
    refine lp_ind (fun (a : Heap × List Loc × Array Slot × (Int32)) => match a with | (H, locs, ls, i_9) => W p l e _ s m _ below meth c H locs 0 0 _ (F0 m 46 ls [])) (fun (a : Heap × List Loc × Array Slot × (Int32)) => match a with | (H, locs, ls, i_9) => 1 ≤ i_9.toInt ∧ i_9.toInt ≤ 97 ∧ va_P D vwCl [(h0, .inr (9, [.ref tn0])), (tn0, .inl (T 0, 97, .inl f_4)), (h1, .inr (3, [.ref tw, .ref wa, .int s2, .int s3, .int s4, .long s5, .int s6, .ref sw, .ref bl])), (tw, .inr (5, [.int t0, .int t1, .int t2, .int t3, .int t4, .int t5, .int t6, .int t7, .int t8, .ref b0, .ref b1, .ref b2, .ref b3, .ref b4, .ref b5, .ref b6, .ref b7, .ref b8, .ref b9])), (b0, .inl (T 0, 5, .inl f0)), (wa, .inr (7, [.ref tw, .ref e0, .ref e1, .ref e2, .ref e3, .ref e4, .ref e5, .ref e6, .ref e7])), (e0, .inl (T 0, 16, .inl p0)), (e2, .inl (T 0, 192, .inl p2))] H ∧ va_D A [(h0, .inr (9, [.ref tn0])), (tn0, .inl (T 0, 97, .inl f_4)), (h1, .inr (3, [.ref tw, .ref wa, .int s2, .int s3, .int s4, .long s5, .int s6, .ref sw, .ref bl])), (tw, .inr (5, [.int t0, .int t1, .int t2, .int t3, .int t4, .int t5, .int t6, .int t7, .int t8, .ref b0, .ref b1, .ref b2, .ref b3, .ref b4, .ref b5, .ref b6, .ref b7, .ref b8, .ref b9])), (b0, .inl (T 0, 5, .inl f0)), (wa, .inr (7, [.ref tw, .ref e0, .ref e1, .ref e2, .ref e3, .ref e4, .ref e5, .ref e6, .ref e7])), (e0, .inl (T 0, 16, .inl p0)), (e2, .inl (T 0, 192, .inl p2))] ∧ va_S A s.heap H locs ∧ lv_has ls 5 [(4, .int i_9), (0, .ref h0), (1, .ref h1), (2, .int i2), (3, .int i3)]) (fun (a : Heap × List Loc × Array Slot × (Int32)) => match a with | (H, locs, ls, i_9) => (97 - i_9.toInt).toNat) ?_ (_, _, ls, (1 : Int32)) ⟨(show 1 ≤ 1 by omega), (show 1 ≤ 97 by omega), hP, hD, hS, lv_sub hl [0, 1, 2, 3, 4] rfl⟩
    rintro ⟨H, locs, ls, i_9⟩ ⟨c_10, c_11, hP, hD, hS, hl⟩ ih_12
    refine lv_iload hx hb dX9_fewestOfWeight_46 (lv_at hl 0 rfl) ?_
    refine lv_bipush (v := 96) hx hb dX9_fewestOfWeight_48 (by decide) ?_
    refine lv_icmp_gt (tgt := 73) hx hb dX9_fewestOfWeight_50 (by decide) (fun c_13 => ?_) (fun c_13 => ?_)
    · have c_13 : 96 < i_9.toInt := (c_lt (x := 96) (y := i_9.toInt) rfl rfl).mp c_13
      refine lv_iconst (v := (-1)) hx hb dX9_fewestOfWeight_73 (by decide) ?_
      have hP9 := hP.sub (ws' := [(h0, .inr (9, [.ref tn0])), (tn0, .inl (T 0, 97, .inl f_4)), (h1, .inr (3, [.ref tw, .ref wa, .int s2, .int s3, .int s4, .long s5, .int s6, .ref sw, .ref bl])), (tw, .inr (5, [.int t0, .int t1, .int t2, .int t3, .int t4, .int t5, .int t6, .int t7, .int t8, .ref b0, .ref b1, .ref b2, .ref b3, .ref b4, .ref b5, .ref b6, .ref b7, .ref b8, .ref b9])), (b0, .inl (T 0, 5, .inl f0)), (wa, .inr (7, [.ref tw, .ref e0, .ref e1, .ref e2, .ref e3, .ref e4, .ref e5, .ref e6, .ref e7])), (e0, .inl (T 0, 16, .inl p0)), (e2, .inl (T 0, 192, .inl p2))]) [0, 1, 2, 3, 4, 5, 6, 7] rfl
      have hD9 := hD.sub (ws' := [(h0, .inr (9, [.ref tn0])), (tn0, .inl (T 0, 97, .inl f_4)), (h1, .inr (3, [.ref tw, .ref wa, .int s2, .int s3, .int s4, .long s5, .int s6, .ref sw, .ref bl])), (tw, .inr (5, [.int t0, .int t1, .int t2, .int t3, .int t4, .int t5, .int t6, .int t7, .int t8, .ref b0, .ref b1, .ref b2, .ref b3, .ref b4, .ref b5, .ref b6, .ref b7, .ref b8, .ref b9])), (b0, .inl (T 0, 5, .inl f0)), (wa, .inr (7, [.ref tw, .ref e0, .ref e1, .ref e2, .ref e3, .ref e4, .ref e5, .ref e6, .ref e7])), (e0, .inl (T 0, 16, .inl p0)), (e2, .inl (T 0, 192, .inl p2))]) [0, 1, 2, 3, 4, 5, 6, 7] (by decide) rfl
      exact W.iret (v := (-1)) hx hb hr (fun t ht hW => ⟨⟨(-1), (fun k => ([] : List (Nat)).getD k 0, fun k => ([f_4] : List (Nat → Int32)).getD k (fun _ => 0), fun k => ([] : List (Nat → Int64)).getD k (fun _ => 0), fun k => ([] : List (Int32)).getD k 0, fun k => ([] : List (Int64)).getD k 0), rfl, trivial, by rw [ht]; exact hP9, hD9⟩, hS.F ht⟩) hS.2.2 dX9_fewestOfWeight_74
    · have c_13 : i_9.toInt ≤ 96 := by have h := mt (c_lt (x := 96) (y := i_9.toInt) rfl rfl).mpr c_13; omega
      refine lv_aload_n hx hb dX9_fewestOfWeight_53 rfl (lv_at hl 1 rfl) ?_
      refine va_get (D := D) (ci := 9) (C := RX9) (T := TX9) (N := 1) hx hb hts iX9 hown hK hP 0 rfl rfl 0 (by decide) (hts _ m521) (fun _ h9 => h9) rfl dX9_fewestOfWeight_54 ?_
      refine lv_iload hx hb dX9_fewestOfWeight_57 (lv_at hl 0 rfl) ?_
      refine va_iald (D := D) hx hb hK hP 1 0 rfl rfl (v_in (x := i_9.toInt) rfl (by omega) (by omega)) dX9_fewestOfWeight_59 ?_
      refine lv_topi (fun x_14 ex_14 => ?_)
      refine lv_iload_n hx hb dX9_fewestOfWeight_60 rfl (lv_at hl 4 rfl) ?_
      refine lv_icmp_lt (tgt := 67) hx hb dX9_fewestOfWeight_61 (by decide) (fun c_15 => ?_) (fun c_15 => ?_)
      · have c_15 : x_14.toInt < i3.toInt := (c_lt (x := x_14.toInt) (y := i3.toInt) rfl rfl).mp c_15
        obtain ⟨x_16, ex_16⟩ : ∃ y : Int32, y = i_9 + 1 := ⟨_, rfl⟩
        have tx_16 : x_16.toInt = i_9.toInt + 1 := t_add (x := i_9.toInt) (y := 1) ex_16 rfl rfl (by omega) (by omega)
        refine lv_iinc (v := x_16) (lv' := [(4, .int x_16), (0, .ref h0), (1, .ref h1), (2, .int i2), (3, .int i3)]) hx hb dX9_fewestOfWeight_67 hl (k := 0) rfl (by rw [ex_16]; rfl) (by decide) rfl (fun ls hl => ?_)
        refine lv_goto (tgt := 46) hx hb dX9_fewestOfWeight_70 (by decide) ?_
        exact ih_12 (_, _, _, x_16) ⟨(show 1 ≤ x_16.toInt by omega), (show x_16.toInt ≤ 97 by omega), hP, hD, hS, lv_sub hl [0, 1, 2, 3, 4] rfl⟩ (show (97 - x_16.toInt).toNat < (97 - i_9.toInt).toNat by omega)
      · have c_15 : i3.toInt ≤ x_14.toInt := by have h := mt (c_lt (x := x_14.toInt) (y := i3.toInt) rfl rfl).mpr c_15; omega
        refine lv_iload hx hb dX9_fewestOfWeight_64 (lv_at hl 0 rfl) ?_
        have hP9 := hP.sub (ws' := [(h0, .inr (9, [.ref tn0])), (tn0, .inl (T 0, 97, .inl f_4)), (h1, .inr (3, [.ref tw, .ref wa, .int s2, .int s3, .int s4, .long s5, .int s6, .ref sw, .ref bl])), (tw, .inr (5, [.int t0, .int t1, .int t2, .int t3, .int t4, .int t5, .int t6, .int t7, .int t8, .ref b0, .ref b1, .ref b2, .ref b3, .ref b4, .ref b5, .ref b6, .ref b7, .ref b8, .ref b9])), (b0, .inl (T 0, 5, .inl f0)), (wa, .inr (7, [.ref tw, .ref e0, .ref e1, .ref e2, .ref e3, .ref e4, .ref e5, .ref e6, .ref e7])), (e0, .inl (T 0, 16, .inl p0)), (e2, .inl (T 0, 192, .inl p2))]) [0, 1, 2, 3, 4, 5, 6, 7] rfl
        have hD9 := hD.sub (ws' := [(h0, .inr (9, [.ref tn0])), (tn0, .inl (T 0, 97, .inl f_4)), (h1, .inr (3, [.ref tw, .ref wa, .int s2, .int s3, .int s4, .long s5, .int s6, .ref sw, .ref bl])), (tw, .inr (5, [.int t0, .int t1, .int t2, .int t3, .int t4, .int t5, .int t6, .int t7, .int t8, .ref b0, .ref b1, .ref b2, .ref b3, .ref b4, .ref b5, .ref b6, .ref b7, .ref b8, .ref b9])), (b0, .inl (T 0, 5, .inl f0)), (wa, .inr (7, [.ref tw, .ref e0, .ref e1, .ref e2, .ref e3, .ref e4, .ref e5, .ref e6, .ref e7])), (e0, .inl (T 0, 16, .inl p0)), (e2, .inl (T 0, 192, .inl p2))]) [0, 1, 2, 3, 4, 5, 6, 7] (by decide) rfl
        exact W.iret (v := i_9) hx hb hr (fun t ht hW => ⟨⟨i_9, (fun k => ([] : List (Nat)).getD k 0, fun k => ([f_4] : List (Nat → Int32)).getD k (fun _ => 0), fun k => ([] : List (Nat → Int64)).getD k (fun _ => 0), fun k => ([] : List (Int32)).getD k 0, fun k => ([] : List (Int64)).getD k 0), rfl, trivial, by rw [ht]; exact hP9, hD9⟩, hS.F ht⟩) hS.2.2 dX9_fewestOfWeight_66
  · have c_8 : i_3.toInt < t1.toInt := by have h := mt (c_le (x := t1.toInt) (y := i_3.toInt) rfl rfl).mpr c_8; omega
    refine lv_aload_n hx hb dX9_fewestOfWeight_23 rfl (lv_at hl 1 rfl) ?_
    refine lv_aload_n hx hb dX9_fewestOfWeight_24 rfl (lv_at hl 2 rfl) ?_
    refine va_get (D := D) (ci := 3) (C := RX3) (T := TX3) (N := 9) hx hb hts iX3 hown hK hP 2 rfl rfl 1 (by decide) (hts _ m373) (fun _ h9 => h9) rfl dX9_fewestOfWeight_25 ?_
    refine lv_iload_n hx hb dX9_fewestOfWeight_28 rfl (lv_at hl 3 rfl) ?_
    refine lv_iload hx hb dX9_fewestOfWeight_29 (lv_at hl 0 rfl) ?_
    refine puI (cSN (As := [.int i2, .int i_3]) (rest := [.ref wa, .ref h0]) ⟨hx, hb, hml, hown, hts⟩ (c_X10_placeOf l D T i2 i_3 ⟨by omega, by omega⟩ ⟨by omega, by omega⟩) k_X10_placeOf m769 (hC.2.1 _ (List.mem_of_getElem? (i := 13) rfl)) rfl rfl ⟨(Nat.le_of_ble_eq_true rfl), (Nat.le_of_ble_eq_true rfl)⟩ (preP hC (hP.sub (ws' := []) [] rfl)) rfl hl.1 rfl (Nat.le_of_ble_eq_true rfl) dX9_fewestOfWeight_31 ⟨(Nat.le_of_ble_eq_true rfl), (Nat.le_of_ble_eq_true rfl)⟩) hS hP (fun r_17 H locs hw hP hS => ?_)
    have w_19 : (r_17.toInt = 8 * i2.toInt + i_3.toInt) := hw
    obtain c_20 := w_19
    refine mtV (wr := [(h1, .inr (3, [.ref tw, .ref wa, .int s2, .int s3, .int s4, .long s5, .int s6, .ref sw, .ref bl]))]) (cV (As := [.ref wa, .int r_17]) (rest := []) ⟨hx, hb, hml, hown, hts⟩ (c_X9_addColumn l D T b0 b1 b2 b3 b4 b5 b6 b7 b8 b9 e0 e1 e2 e3 e4 e5 e6 e7 h0 wa tn0 tw r_17 t0 t1 t2 t3 t4 t5 t6 t7 t8 f0 f_4 p0 p2 _ ⟨by omega, by omega⟩ ⟨by omega, by omega⟩ ⟨by omega, by omega⟩ ⟨by omega, by omega⟩ ⟨by omega, by omega⟩ R_p0 R_p2) k_X9_addColumn v_X9_addColumn m1098 rfl rfl ⟨(Nat.le_of_ble_eq_true rfl), (Nat.le_of_ble_eq_true rfl)⟩ (preM hC (hP.sub (ws' := [(h0, .inr (9, [.ref tn0])), (tn0, .inl (T 0, 97, .inl f_4)), (wa, .inr (7, [.ref tw, .ref e0, .ref e1, .ref e2, .ref e3, .ref e4, .ref e5, .ref e6, .ref e7])), (e0, .inl (T 0, 16, .inl p0)), (e2, .inl (T 0, 192, .inl p2)), (tw, .inr (5, [.int t0, .int t1, .int t2, .int t3, .int t4, .int t5, .int t6, .int t7, .int t8, .ref b0, .ref b1, .ref b2, .ref b3, .ref b4, .ref b5, .ref b6, .ref b7, .ref b8, .ref b9])), (b0, .inl (T 0, 5, .inl f0))]) [0, 1, 5, 6, 7, 3, 4] rfl) (hD.sub (ws' := [(h0, .inr (9, [.ref tn0])), (tn0, .inl (T 0, 97, .inl f_4)), (wa, .inr (7, [.ref tw, .ref e0, .ref e1, .ref e2, .ref e3, .ref e4, .ref e5, .ref e6, .ref e7])), (e0, .inl (T 0, 16, .inl p0)), (e2, .inl (T 0, 192, .inl p2)), (tw, .inr (5, [.int t0, .int t1, .int t2, .int t3, .int t4, .int t5, .int t6, .int t7, .int t8, .ref b0, .ref b1, .ref b2, .ref b3, .ref b4, .ref b5, .ref b6, .ref b7, .ref b8, .ref b9])), (b0, .inl (T 0, 5, .inl f0))]) [0, 1, 5, 6, 7, 3, 4] (by decide) rfl)) (va_recv hK hP (ci := 9) (q0 := 0) rfl rfl) rfl hl.1 rfl (Nat.le_of_ble_eq_true rfl) dX9_fewestOfWeight_34 ⟨(Nat.le_of_ble_eq_true rfl), (Nat.le_of_ble_eq_true rfl)⟩) hS hA hP hD [0, 1, 5, 6, 7, 3, 4] [2] rfl rfl (by decide) (by decide) (fun u_22 H locs hw hP hD hS => ?_)
    have hP : va_P D vwCl [(h0, .inr (9, [.ref tn0])), (tn0, .inl (T 0, 97, .inl (u_22.2.1 0))), (h1, .inr (3, [.ref tw, .ref wa, .int s2, .int s3, .int s4, .long s5, .int s6, .ref sw, .ref bl])), (tw, .inr (5, [.int t0, .int t1, .int t2, .int t3, .int t4, .int t5, .int t6, .int t7, .int t8, .ref b0, .ref b1, .ref b2, .ref b3, .ref b4, .ref b5, .ref b6, .ref b7, .ref b8, .ref b9])), (b0, .inl (T 0, 5, .inl f0)), (wa, .inr (7, [.ref tw, .ref e0, .ref e1, .ref e2, .ref e3, .ref e4, .ref e5, .ref e6, .ref e7])), (e0, .inl (T 0, 16, .inl p0)), (e2, .inl (T 0, 192, .inl p2))] H := hP.sub [1, 2, 0, 6, 7, 3, 4, 5] rfl
    have hD : va_D A [(h0, .inr (9, [.ref tn0])), (tn0, .inl (T 0, 97, .inl (u_22.2.1 0))), (h1, .inr (3, [.ref tw, .ref wa, .int s2, .int s3, .int s4, .long s5, .int s6, .ref sw, .ref bl])), (tw, .inr (5, [.int t0, .int t1, .int t2, .int t3, .int t4, .int t5, .int t6, .int t7, .int t8, .ref b0, .ref b1, .ref b2, .ref b3, .ref b4, .ref b5, .ref b6, .ref b7, .ref b8, .ref b9])), (b0, .inl (T 0, 5, .inl f0)), (wa, .inr (7, [.ref tw, .ref e0, .ref e1, .ref e2, .ref e3, .ref e4, .ref e5, .ref e6, .ref e7])), (e0, .inl (T 0, 16, .inl p0)), (e2, .inl (T 0, 192, .inl p2))] := hD.sub [1, 2, 0, 6, 7, 3, 4, 5] (by decide) rfl
    obtain ⟨x_23, ex_23⟩ : ∃ y : Int32, y = i_3 + 1 := ⟨_, rfl⟩
    have tx_23 : x_23.toInt = i_3.toInt + 1 := t_add (x := i_3.toInt) (y := 1) ex_23 rfl rfl (by omega) (by omega)
    refine lv_iinc (v := x_23) (lv' := [(4, .int x_23), (0, .ref h0), (1, .ref h1), (2, .int i2), (3, .int i3)]) hx hb dX9_fewestOfWeight_37 hl (k := 0) rfl (by rw [ex_23]; rfl) (by decide) rfl (fun ls hl => ?_)
    refine lv_goto (tgt := 11) hx hb dX9_fewestOfWeight_40 (by decide) ?_
    exact ih_7 (_, _, _, x_23, (u_22.2.1 0)) ⟨(show 0 ≤ x_23.toInt by omega), (show x_23.toInt ≤ 8 by omega), hP, hD, hS, lv_sub hl [0, 1, 2, 3, 4] rfl⟩ (show (8 - x_23.toInt).toNat < (8 - i_3.toInt).toNat by omega)

set_option maxHeartbeats 4000000 in
set_option maxRecDepth 100000 in
theorem c_X9_fewestTorn (l : Launch) (D : va_G) (T : Nat → ClassId) (b0 b1 b2 b3 b4 b5 b6 b7 b8 b9 bl e0 e1 e2 e3 e4 e5 e6 e7 h0 h1 sw tn0 tw wa : Nat) (i2 s2 s3 s4 s6 t0 t1 t2 t3 t4 t5 t6 t7 t8 : Int32) (s5 : Int64) (f0 gt0 p0 p2 p5 p6 : Nat → Int32) (sz : Nat) (h_t1 : 0 ≤ t1.toInt ∧ t1.toInt ≤ 8) (h_t2 : 0 ≤ t2.toInt ∧ t2.toInt ≤ 12) (h_t4 : 0 ≤ t4.toInt ∧ t4.toInt ≤ 5) (h_t5 : 0 ≤ t5.toInt ∧ t5.toInt ≤ 10) (h_s2 : 0 ≤ s2.toInt ∧ s2.toInt ≤ 100) (h_i2 : 0 ≤ i2.toInt ∧ i2.toInt ≤ 1) (R_p0 : rg 0 12 p0) (R_p2 : rg 0 4 p2) : Met l yX9_fewestTorn (wM yX9_fewestTorn cX9_fewestTorn 5 (some .int)) ({ frames := 4, cells := 0, slots := 0, locals := 93 }) (va_Pc [.ref h0, .ref h1, .int i2] (pwM D T [(h0, .inr (9, [.ref tn0])), (tn0, .inl (T 0, 97, .inl gt0)), (h1, .inr (3, [.ref tw, .ref wa, .int s2, .int s3, .int s4, .long s5, .int s6, .ref sw, .ref bl])), (tw, .inr (5, [.int t0, .int t1, .int t2, .int t3, .int t4, .int t5, .int t6, .int t7, .int t8, .ref b0, .ref b1, .ref b2, .ref b3, .ref b4, .ref b5, .ref b6, .ref b7, .ref b8, .ref b9])), (b0, .inl (T 0, 5, .inl f0)), (wa, .inr (7, [.ref tw, .ref e0, .ref e1, .ref e2, .ref e3, .ref e4, .ref e5, .ref e6, .ref e7])), (e0, .inl (T 0, 16, .inl p0)), (e2, .inl (T 0, 192, .inl p2)), (e5, .inl (T 0, 2, .inl p5)), (e6, .inl (T 0, 2, .inl p6))] sz)) (va_Qi (fun (r : Int32) (u : U5) => True) (fun u t => pwE D (va_A [(h0, .inr (9, [.ref tn0])), (tn0, .inl (T 0, 97, .inl gt0)), (h1, .inr (3, [.ref tw, .ref wa, .int s2, .int s3, .int s4, .long s5, .int s6, .ref sw, .ref bl])), (tw, .inr (5, [.int t0, .int t1, .int t2, .int t3, .int t4, .int t5, .int t6, .int t7, .int t8, .ref b0, .ref b1, .ref b2, .ref b3, .ref b4, .ref b5, .ref b6, .ref b7, .ref b8, .ref b9])), (b0, .inl (T 0, 5, .inl f0)), (wa, .inr (7, [.ref tw, .ref e0, .ref e1, .ref e2, .ref e3, .ref e4, .ref e5, .ref e6, .ref e7])), (e0, .inl (T 0, 16, .inl p0)), (e2, .inl (T 0, 192, .inl p2)), (e5, .inl (T 0, 2, .inl p5)), (e6, .inl (T 0, 2, .inl p6))] sz) [(h0, .inr (9, [.ref tn0])), (tn0, .inl (T 0, 97, .inl (u.2.1 0))), (h1, .inr (3, [.ref tw, .ref wa, .int s2, .int s3, .int s4, .long s5, .int s6, .ref sw, .ref bl])), (tw, .inr (5, [.int t0, .int t1, .int t2, .int t3, .int t4, .int t5, .int t6, .int t7, .int t8, .ref b0, .ref b1, .ref b2, .ref b3, .ref b4, .ref b5, .ref b6, .ref b7, .ref b8, .ref b9])), (b0, .inl (T 0, 5, .inl f0)), (wa, .inr (7, [.ref tw, .ref e0, .ref e1, .ref e2, .ref e3, .ref e4, .ref e5, .ref e6, .ref e7])), (e0, .inl (T 0, 16, .inl p0)), (e2, .inl (T 0, 192, .inl p2)), (e5, .inl (T 0, 2, .inl p5)), (e6, .inl (T 0, 2, .inl p6))] t) (va_A [(h0, .inr (9, [.ref tn0])), (tn0, .inl (T 0, 97, .inl gt0)), (h1, .inr (3, [.ref tw, .ref wa, .int s2, .int s3, .int s4, .long s5, .int s6, .ref sw, .ref bl])), (tw, .inr (5, [.int t0, .int t1, .int t2, .int t3, .int t4, .int t5, .int t6, .int t7, .int t8, .ref b0, .ref b1, .ref b2, .ref b3, .ref b4, .ref b5, .ref b6, .ref b7, .ref b8, .ref b9])), (b0, .inl (T 0, 5, .inl f0)), (wa, .inr (7, [.ref tw, .ref e0, .ref e1, .ref e2, .ref e3, .ref e4, .ref e5, .ref e6, .ref e7])), (e0, .inl (T 0, 16, .inl p0)), (e2, .inl (T 0, 192, .inl p2)), (e5, .inl (T 0, 2, .inl p5)), (e6, .inl (T 0, 2, .inl p6))] sz)) 0 0 (va_A [(h0, .inr (9, [.ref tn0])), (tn0, .inl (T 0, 97, .inl gt0)), (h1, .inr (3, [.ref tw, .ref wa, .int s2, .int s3, .int s4, .long s5, .int s6, .ref sw, .ref bl])), (tw, .inr (5, [.int t0, .int t1, .int t2, .int t3, .int t4, .int t5, .int t6, .int t7, .int t8, .ref b0, .ref b1, .ref b2, .ref b3, .ref b4, .ref b5, .ref b6, .ref b7, .ref b8, .ref b9])), (b0, .inl (T 0, 5, .inl f0)), (wa, .inr (7, [.ref tw, .ref e0, .ref e1, .ref e2, .ref e3, .ref e4, .ref e5, .ref e6, .ref e7])), (e0, .inl (T 0, 16, .inl p0)), (e2, .inl (T 0, 192, .inl p2)), (e5, .inl (T 0, 2, .inl p5)), (e6, .inl (T 0, 2, .inl p6))] sz) := by
  refine Met.ofW (cc := cX9_fewestTorn) (maxL := 5) (ret := (some .int)) (by decide) rfl ?_
  intro p e s m args below meth c s₁ B hml hv
  obtain ⟨rfl, hsz, hP, hC, hD0⟩ := hv
  have hx := B.exec
  have hb := B.bytes
  have hr := B.returns
  have hts : ∀ w ∈ gt, w.before _ s = true := fun w hw => atoms_spec (ws := (wM yX9_fewestTorn cX9_fewestTorn 5 (some .int))) B.pre w (List.mem_cons_of_mem _ hw)
  have hown : s.vm.findClass RX9 = some m.cls := findClass_of_methodNamed B.named
  have hlocks := B.notSynchronized
  have hK := hC.1
  subst hsz
  have hD := hD0.self (sz := s.heap.size)
  generalize hAe : va_A [(h0, .inr (9, [.ref tn0])), (tn0, .inl (T 0, 97, .inl gt0)), (h1, .inr (3, [.ref tw, .ref wa, .int s2, .int s3, .int s4, .long s5, .int s6, .ref sw, .ref bl])), (tw, .inr (5, [.int t0, .int t1, .int t2, .int t3, .int t4, .int t5, .int t6, .int t7, .int t8, .ref b0, .ref b1, .ref b2, .ref b3, .ref b4, .ref b5, .ref b6, .ref b7, .ref b8, .ref b9])), (b0, .inl (T 0, 5, .inl f0)), (wa, .inr (7, [.ref tw, .ref e0, .ref e1, .ref e2, .ref e3, .ref e4, .ref e5, .ref e6, .ref e7])), (e0, .inl (T 0, 16, .inl p0)), (e2, .inl (T 0, 192, .inl p2)), (e5, .inl (T 0, 2, .inl p5)), (e6, .inl (T 0, 2, .inl p6))] s.heap.size = A at hD ⊢
  have hA : ∀ q : Nat, s.heap.size ≤ q → A q := fun q h => by rw [← hAe]; exact Or.inr h
  have hS : va_S A s.heap s.heap [] := va_S.rf
  have hl := lv_entry ([.ref h0, .ref h1, .int i2]) (n := 5) (Nat.le_of_ble_eq_true rfl)
  rw [lg_entry_eq]
  generalize (lg_sl ([.ref h0, .ref h1, .int i2]) ++ List.replicate (5 - (lg_sl ([.ref h0, .ref h1, .int i2])).length) Slot.unset).toArray = ls at hl ⊢
  have hl : lv_has ls 5 [(0, .ref h0), (1, .ref h1), (2, .int i2)] := hl
  refine lv_aload_n hx hb dX9_fewestTorn_0 rfl (lv_at hl 1 rfl) ?_
  refine va_get (D := D) (ci := 3) (C := RX3) (T := TX3) (N := 9) hx hb hts iX3 hown hK hP 2 rfl rfl 1 (by decide) (hts _ m373) (fun _ h9 => h9) rfl dX9_fewestTorn_1 ?_
  refine lv_iload_n hx hb dX9_fewestTorn_4 rfl (lv_at hl 2 rfl) ?_
  refine lv_aload_n hx hb dX9_fewestTorn_5 rfl (lv_at hl 1 rfl) ?_
  refine va_get (D := D) (ci := 3) (C := RX3) (T := TX3) (N := 9) hx hb hts iX3 hown hK hP 2 rfl rfl 3 (by decide) (hts _ m381) (fun _ h9 => h9) rfl dX9_fewestTorn_6 ?_
  refine puI (cV (As := [.int i2, .int s3]) (rest := []) ⟨hx, hb, hml, hown, hts⟩ (c_X7_tally l D T b0 b1 b2 b3 b4 b5 b6 b7 b8 b9 e0 e1 e2 e3 e4 e5 e6 e7 wa tw i2 s3 t0 t1 t2 t3 t4 t5 t6 t7 t8 p0 p5 p6 ⟨by omega, by omega⟩ ⟨by omega, by omega⟩ ⟨by omega, by omega⟩ ⟨by omega, by omega⟩ ⟨by omega, by omega⟩ R_p0) k_X7_tally v_X7_tally m1091 rfl rfl ⟨(Nat.le_of_ble_eq_true rfl), (Nat.le_of_ble_eq_true rfl)⟩ (preP hC (hP.sub (ws' := [(wa, .inr (7, [.ref tw, .ref e0, .ref e1, .ref e2, .ref e3, .ref e4, .ref e5, .ref e6, .ref e7])), (e0, .inl (T 0, 16, .inl p0)), (e5, .inl (T 0, 2, .inl p5)), (e6, .inl (T 0, 2, .inl p6)), (tw, .inr (5, [.int t0, .int t1, .int t2, .int t3, .int t4, .int t5, .int t6, .int t7, .int t8, .ref b0, .ref b1, .ref b2, .ref b3, .ref b4, .ref b5, .ref b6, .ref b7, .ref b8, .ref b9]))]) [5, 6, 8, 9, 3] rfl)) (va_recv hK hP (ci := 7) (q0 := 5) rfl rfl) rfl hl.1 rfl (Nat.le_of_ble_eq_true rfl) dX9_fewestTorn_9 ⟨(Nat.le_of_ble_eq_true rfl), (Nat.le_of_ble_eq_true rfl)⟩) hS hP (fun r_1 H locs hw hP hS => ?_)
  refine lv_istore_n (lv' := [(3, .int r_1), (0, .ref h0), (1, .ref h1), (2, .int i2)]) hx hb dX9_fewestTorn_12 rfl hl (by decide) rfl (fun ls hl => ?_)
  refine lv_aload_n hx hb dX9_fewestTorn_13 rfl (lv_at hl 2 rfl) ?_
  refine va_get (D := D) (ci := 3) (C := RX3) (T := TX3) (N := 9) hx hb hts iX3 hown hK hP 2 rfl rfl 1 (by decide) (hts _ m373) (fun _ h9 => h9) rfl dX9_fewestTorn_14 ?_
  refine lv_iconst (v := 1) hx hb dX9_fewestTorn_17 (by decide) ?_
  refine lv_iload_n hx hb dX9_fewestTorn_18 rfl (lv_at hl 3 rfl) ?_
  refine lv_isub hx hb dX9_fewestTorn_19 ?_
  refine lv_topi (fun x_3 ex_3 => ?_)
  have tx_3 : x_3.toInt = 1 - i2.toInt := t_sub (x := 1) (y := i2.toInt) ex_3 rfl rfl (by omega) (by omega)
  refine lv_aload_n hx hb dX9_fewestTorn_20 rfl (lv_at hl 2 rfl) ?_
  refine va_get (D := D) (ci := 3) (C := RX3) (T := TX3) (N := 9) hx hb hts iX3 hown hK hP 2 rfl rfl 3 (by decide) (hts _ m381) (fun _ h9 => h9) rfl dX9_fewestTorn_21 ?_
  refine puI (cV (As := [.int x_3, .int s3]) (rest := []) ⟨hx, hb, hml, hown, hts⟩ (c_X7_tally l D T b0 b1 b2 b3 b4 b5 b6 b7 b8 b9 e0 e1 e2 e3 e4 e5 e6 e7 wa tw x_3 s3 t0 t1 t2 t3 t4 t5 t6 t7 t8 p0 p5 p6 ⟨by omega, by omega⟩ ⟨by omega, by omega⟩ ⟨by omega, by omega⟩ ⟨by omega, by omega⟩ ⟨by omega, by omega⟩ R_p0) k_X7_tally v_X7_tally m1091 rfl rfl ⟨(Nat.le_of_ble_eq_true rfl), (Nat.le_of_ble_eq_true rfl)⟩ (preP hC (hP.sub (ws' := [(wa, .inr (7, [.ref tw, .ref e0, .ref e1, .ref e2, .ref e3, .ref e4, .ref e5, .ref e6, .ref e7])), (e0, .inl (T 0, 16, .inl p0)), (e5, .inl (T 0, 2, .inl p5)), (e6, .inl (T 0, 2, .inl p6)), (tw, .inr (5, [.int t0, .int t1, .int t2, .int t3, .int t4, .int t5, .int t6, .int t7, .int t8, .ref b0, .ref b1, .ref b2, .ref b3, .ref b4, .ref b5, .ref b6, .ref b7, .ref b8, .ref b9]))]) [5, 6, 8, 9, 3] rfl)) (va_recv hK hP (ci := 7) (q0 := 5) rfl rfl) rfl hl.1 rfl (Nat.le_of_ble_eq_true rfl) dX9_fewestTorn_24 ⟨(Nat.le_of_ble_eq_true rfl), (Nat.le_of_ble_eq_true rfl)⟩) hS hP (fun r_4 H locs hw hP hS => ?_)
  refine lv_istore (lv' := [(4, .int r_4), (3, .int r_1), (0, .ref h0), (1, .ref h1), (2, .int i2)]) hx hb dX9_fewestTorn_27 hl (by decide) rfl (fun ls hl => ?_)
  refine lv_iload_n hx hb dX9_fewestTorn_29 rfl (lv_at hl 1 rfl) ?_
  refine lv_iload hx hb dX9_fewestTorn_30 (lv_at hl 0 rfl) ?_
  refine lv_icmp_le (tgt := 37) hx hb dX9_fewestTorn_32 (by decide) (fun c_6 => ?_) (fun c_6 => ?_)
  · have c_6 : r_1.toInt ≤ r_4.toInt := (c_le (x := r_1.toInt) (y := r_4.toInt) rfl rfl).mp c_6
    refine lv_iload_n hx hb dX9_fewestTorn_37 rfl (lv_at hl 1 rfl) ?_
    refine lv_if_gt (tgt := 43) hx hb dX9_fewestTorn_38 (by decide) (fun c_7 => ?_) (fun c_7 => ?_)
    · have c_7 : 0 < r_1.toInt := (c_lt (x := 0) (y := r_1.toInt) rfl rfl).mp c_7
      refine lv_aload_n hx hb dX9_fewestTorn_43 rfl (lv_at hl 3 rfl) ?_
      refine va_get (D := D) (ci := 3) (C := RX3) (T := TX3) (N := 9) hx hb hts iX3 hown hK hP 2 rfl rfl 3 (by decide) (hts _ m381) (fun _ h9 => h9) rfl dX9_fewestTorn_44 ?_
      rcases (show (s3.toInt = 1) ∨ (s3.toInt = 2) ∨ (¬ s3.toInt = 1 ∧ ¬ s3.toInt = 2) by omega) with c_8 | c_8 | c_8
      · refine lv_lookup (off := 25) (tgt := 72) hx hb dX9_fewestTorn_47 (by decide) (by rw [c_8]; decide) (by decide) ?_
        refine lv_aload_n hx hb dX9_fewestTorn_72 rfl (lv_at hl 2 rfl) ?_
        refine lv_aload_n hx hb dX9_fewestTorn_73 rfl (lv_at hl 3 rfl) ?_
        refine lv_iconst (v := 1) hx hb dX9_fewestTorn_74 (by decide) ?_
        refine lv_iload_n hx hb dX9_fewestTorn_75 rfl (lv_at hl 4 rfl) ?_
        refine lv_isub hx hb dX9_fewestTorn_76 ?_
        refine lv_topi (fun x_9 ex_9 => ?_)
        have tx_9 : x_9.toInt = 1 - i2.toInt := t_sub (x := 1) (y := i2.toInt) ex_9 rfl rfl (by omega) (by omega)
        refine lv_iload hx hb dX9_fewestTorn_77 (lv_at hl 0 rfl) ?_
        refine lv_iload_n hx hb dX9_fewestTorn_79 rfl (lv_at hl 1 rfl) ?_
        refine lv_isub hx hb dX9_fewestTorn_80 ?_
        refine lv_topi (fun x_10 ex_10 => ?_)
        refine lv_iconst (v := 1) hx hb dX9_fewestTorn_81 (by decide) ?_
        refine lv_iadd hx hb dX9_fewestTorn_82 ?_
        refine lv_topi (fun x_11 ex_11 => ?_)
        refine mtI (wr := [(e5, .inl (T 0, 2, .inl p5)), (e6, .inl (T 0, 2, .inl p6))]) (cV (As := [.ref h1, .int x_9, .int x_11]) (rest := []) ⟨hx, hb, hml, hown, hts⟩ (c_X9_fewestOfWeight l D T b0 b1 b2 b3 b4 b5 b6 b7 b8 b9 bl e0 e1 e2 e3 e4 e5 e6 e7 h0 h1 sw tn0 tw wa x_9 x_11 s2 s3 s4 s6 t0 t1 t2 t3 t4 t5 t6 t7 t8 s5 f0 gt0 p0 p2 _ ⟨by omega, by omega⟩ ⟨by omega, by omega⟩ ⟨by omega, by omega⟩ ⟨by omega, by omega⟩ ⟨by omega, by omega⟩ ⟨by omega, by omega⟩ R_p0 R_p2) k_X9_fewestOfWeight v_X9_fewestOfWeight m1092 rfl rfl ⟨(Nat.le_of_ble_eq_true rfl), (Nat.le_of_ble_eq_true rfl)⟩ (preM hC (hP.sub (ws' := [(h0, .inr (9, [.ref tn0])), (tn0, .inl (T 0, 97, .inl gt0)), (h1, .inr (3, [.ref tw, .ref wa, .int s2, .int s3, .int s4, .long s5, .int s6, .ref sw, .ref bl])), (tw, .inr (5, [.int t0, .int t1, .int t2, .int t3, .int t4, .int t5, .int t6, .int t7, .int t8, .ref b0, .ref b1, .ref b2, .ref b3, .ref b4, .ref b5, .ref b6, .ref b7, .ref b8, .ref b9])), (b0, .inl (T 0, 5, .inl f0)), (wa, .inr (7, [.ref tw, .ref e0, .ref e1, .ref e2, .ref e3, .ref e4, .ref e5, .ref e6, .ref e7])), (e0, .inl (T 0, 16, .inl p0)), (e2, .inl (T 0, 192, .inl p2))]) [0, 1, 2, 3, 4, 5, 6, 7] rfl) (hD.sub (ws' := [(h0, .inr (9, [.ref tn0])), (tn0, .inl (T 0, 97, .inl gt0)), (h1, .inr (3, [.ref tw, .ref wa, .int s2, .int s3, .int s4, .long s5, .int s6, .ref sw, .ref bl])), (tw, .inr (5, [.int t0, .int t1, .int t2, .int t3, .int t4, .int t5, .int t6, .int t7, .int t8, .ref b0, .ref b1, .ref b2, .ref b3, .ref b4, .ref b5, .ref b6, .ref b7, .ref b8, .ref b9])), (b0, .inl (T 0, 5, .inl f0)), (wa, .inr (7, [.ref tw, .ref e0, .ref e1, .ref e2, .ref e3, .ref e4, .ref e5, .ref e6, .ref e7])), (e0, .inl (T 0, 16, .inl p0)), (e2, .inl (T 0, 192, .inl p2))]) [0, 1, 2, 3, 4, 5, 6, 7] (by decide) rfl)) (va_recv hK hP (ci := 9) (q0 := 0) rfl rfl) rfl hl.1 rfl (Nat.le_of_ble_eq_true rfl) dX9_fewestTorn_83 ⟨(Nat.le_of_ble_eq_true rfl), (Nat.le_of_ble_eq_true rfl)⟩) hS hA hP hD [0, 1, 2, 3, 4, 5, 6, 7] [8, 9] rfl rfl (by decide) (by decide) (fun r_12 u_13 H locs hw hP hD hS => ?_)
        have hP : va_P D vwCl [(h0, .inr (9, [.ref tn0])), (tn0, .inl (T 0, 97, .inl (u_13.2.1 0))), (h1, .inr (3, [.ref tw, .ref wa, .int s2, .int s3, .int s4, .long s5, .int s6, .ref sw, .ref bl])), (tw, .inr (5, [.int t0, .int t1, .int t2, .int t3, .int t4, .int t5, .int t6, .int t7, .int t8, .ref b0, .ref b1, .ref b2, .ref b3, .ref b4, .ref b5, .ref b6, .ref b7, .ref b8, .ref b9])), (b0, .inl (T 0, 5, .inl f0)), (wa, .inr (7, [.ref tw, .ref e0, .ref e1, .ref e2, .ref e3, .ref e4, .ref e5, .ref e6, .ref e7])), (e0, .inl (T 0, 16, .inl p0)), (e2, .inl (T 0, 192, .inl p2)), (e5, .inl (T 0, 2, .inl p5)), (e6, .inl (T 0, 2, .inl p6))] H := hP.sub [2, 3, 4, 5, 6, 7, 8, 9, 0, 1] rfl
        have hD : va_D A [(h0, .inr (9, [.ref tn0])), (tn0, .inl (T 0, 97, .inl (u_13.2.1 0))), (h1, .inr (3, [.ref tw, .ref wa, .int s2, .int s3, .int s4, .long s5, .int s6, .ref sw, .ref bl])), (tw, .inr (5, [.int t0, .int t1, .int t2, .int t3, .int t4, .int t5, .int t6, .int t7, .int t8, .ref b0, .ref b1, .ref b2, .ref b3, .ref b4, .ref b5, .ref b6, .ref b7, .ref b8, .ref b9])), (b0, .inl (T 0, 5, .inl f0)), (wa, .inr (7, [.ref tw, .ref e0, .ref e1, .ref e2, .ref e3, .ref e4, .ref e5, .ref e6, .ref e7])), (e0, .inl (T 0, 16, .inl p0)), (e2, .inl (T 0, 192, .inl p2)), (e5, .inl (T 0, 2, .inl p5)), (e6, .inl (T 0, 2, .inl p6))] := hD.sub [2, 3, 4, 5, 6, 7, 8, 9, 0, 1] (by decide) rfl
        have hP9 := hP.sub (ws' := [(h0, .inr (9, [.ref tn0])), (tn0, .inl (T 0, 97, .inl (u_13.2.1 0))), (h1, .inr (3, [.ref tw, .ref wa, .int s2, .int s3, .int s4, .long s5, .int s6, .ref sw, .ref bl])), (tw, .inr (5, [.int t0, .int t1, .int t2, .int t3, .int t4, .int t5, .int t6, .int t7, .int t8, .ref b0, .ref b1, .ref b2, .ref b3, .ref b4, .ref b5, .ref b6, .ref b7, .ref b8, .ref b9])), (b0, .inl (T 0, 5, .inl f0)), (wa, .inr (7, [.ref tw, .ref e0, .ref e1, .ref e2, .ref e3, .ref e4, .ref e5, .ref e6, .ref e7])), (e0, .inl (T 0, 16, .inl p0)), (e2, .inl (T 0, 192, .inl p2)), (e5, .inl (T 0, 2, .inl p5)), (e6, .inl (T 0, 2, .inl p6))]) [0, 1, 2, 3, 4, 5, 6, 7, 8, 9] rfl
        have hD9 := hD.sub (ws' := [(h0, .inr (9, [.ref tn0])), (tn0, .inl (T 0, 97, .inl (u_13.2.1 0))), (h1, .inr (3, [.ref tw, .ref wa, .int s2, .int s3, .int s4, .long s5, .int s6, .ref sw, .ref bl])), (tw, .inr (5, [.int t0, .int t1, .int t2, .int t3, .int t4, .int t5, .int t6, .int t7, .int t8, .ref b0, .ref b1, .ref b2, .ref b3, .ref b4, .ref b5, .ref b6, .ref b7, .ref b8, .ref b9])), (b0, .inl (T 0, 5, .inl f0)), (wa, .inr (7, [.ref tw, .ref e0, .ref e1, .ref e2, .ref e3, .ref e4, .ref e5, .ref e6, .ref e7])), (e0, .inl (T 0, 16, .inl p0)), (e2, .inl (T 0, 192, .inl p2)), (e5, .inl (T 0, 2, .inl p5)), (e6, .inl (T 0, 2, .inl p6))]) [0, 1, 2, 3, 4, 5, 6, 7, 8, 9] (by decide) rfl
        exact W.iret (v := r_12) hx hb hr (fun t ht hW => ⟨⟨r_12, (fun k => ([] : List (Nat)).getD k 0, fun k => ([u_13.2.1 0] : List (Nat → Int32)).getD k (fun _ => 0), fun k => ([] : List (Nat → Int64)).getD k (fun _ => 0), fun k => ([] : List (Int32)).getD k 0, fun k => ([] : List (Int64)).getD k 0), rfl, trivial, by rw [ht]; exact hP9, hD9⟩, hS.F ht⟩) hS.2.2 dX9_fewestTorn_86
      · refine lv_lookup (off := 40) (tgt := 87) hx hb dX9_fewestTorn_47 (by decide) (by rw [c_8]; decide) (by decide) ?_
        refine lv_aload_n hx hb dX9_fewestTorn_87 rfl (lv_at hl 2 rfl) ?_
        refine lv_aload_n hx hb dX9_fewestTorn_88 rfl (lv_at hl 3 rfl) ?_
        refine lv_iconst (v := 1) hx hb dX9_fewestTorn_89 (by decide) ?_
        refine lv_iload_n hx hb dX9_fewestTorn_90 rfl (lv_at hl 4 rfl) ?_
        refine lv_isub hx hb dX9_fewestTorn_91 ?_
        refine lv_topi (fun x_14 ex_14 => ?_)
        have tx_14 : x_14.toInt = 1 - i2.toInt := t_sub (x := 1) (y := i2.toInt) ex_14 rfl rfl (by omega) (by omega)
        refine lv_iload_n hx hb dX9_fewestTorn_92 rfl (lv_at hl 1 rfl) ?_
        refine lv_iconst (v := 1) hx hb dX9_fewestTorn_93 (by decide) ?_
        refine lv_isub hx hb dX9_fewestTorn_94 ?_
        refine lv_topi (fun x_15 ex_15 => ?_)
        refine puI (cV (As := [.ref h1, .int x_14, .int x_15]) (rest := []) ⟨hx, hb, hml, hown, hts⟩ (c_X9_stonesAbove l D T b0 b1 b2 b3 b4 b5 b6 b7 b8 b9 bl e0 e1 e2 e3 e4 e5 e6 e7 h0 h1 sw tw wa x_14 x_15 s2 s3 s4 s6 t0 t1 t2 t3 t4 t5 t6 t7 t8 s5 p0 ⟨by omega, by omega⟩ ⟨by omega, by omega⟩ ⟨by omega, by omega⟩ ⟨by omega, by omega⟩ ⟨by omega, by omega⟩ ⟨by omega, by omega⟩ R_p0) k_X9_stonesAbove v_X9_stonesAbove m1104 rfl rfl ⟨(Nat.le_of_ble_eq_true rfl), (Nat.le_of_ble_eq_true rfl)⟩ (preP hC (hP.sub (ws' := [(h1, .inr (3, [.ref tw, .ref wa, .int s2, .int s3, .int s4, .long s5, .int s6, .ref sw, .ref bl])), (tw, .inr (5, [.int t0, .int t1, .int t2, .int t3, .int t4, .int t5, .int t6, .int t7, .int t8, .ref b0, .ref b1, .ref b2, .ref b3, .ref b4, .ref b5, .ref b6, .ref b7, .ref b8, .ref b9])), (wa, .inr (7, [.ref tw, .ref e0, .ref e1, .ref e2, .ref e3, .ref e4, .ref e5, .ref e6, .ref e7])), (e0, .inl (T 0, 16, .inl p0))]) [2, 3, 5, 6] rfl)) (va_recv hK hP (ci := 9) (q0 := 0) rfl rfl) rfl hl.1 rfl (Nat.le_of_ble_eq_true rfl) dX9_fewestTorn_95 ⟨(Nat.le_of_ble_eq_true rfl), (Nat.le_of_ble_eq_true rfl)⟩) hS hP (fun r_16 H locs hw hP hS => ?_)
        have hP9 := hP.sub (ws' := [(h0, .inr (9, [.ref tn0])), (tn0, .inl (T 0, 97, .inl gt0)), (h1, .inr (3, [.ref tw, .ref wa, .int s2, .int s3, .int s4, .long s5, .int s6, .ref sw, .ref bl])), (tw, .inr (5, [.int t0, .int t1, .int t2, .int t3, .int t4, .int t5, .int t6, .int t7, .int t8, .ref b0, .ref b1, .ref b2, .ref b3, .ref b4, .ref b5, .ref b6, .ref b7, .ref b8, .ref b9])), (b0, .inl (T 0, 5, .inl f0)), (wa, .inr (7, [.ref tw, .ref e0, .ref e1, .ref e2, .ref e3, .ref e4, .ref e5, .ref e6, .ref e7])), (e0, .inl (T 0, 16, .inl p0)), (e2, .inl (T 0, 192, .inl p2)), (e5, .inl (T 0, 2, .inl p5)), (e6, .inl (T 0, 2, .inl p6))]) [0, 1, 2, 3, 4, 5, 6, 7, 8, 9] rfl
        have hD9 := hD.sub (ws' := [(h0, .inr (9, [.ref tn0])), (tn0, .inl (T 0, 97, .inl gt0)), (h1, .inr (3, [.ref tw, .ref wa, .int s2, .int s3, .int s4, .long s5, .int s6, .ref sw, .ref bl])), (tw, .inr (5, [.int t0, .int t1, .int t2, .int t3, .int t4, .int t5, .int t6, .int t7, .int t8, .ref b0, .ref b1, .ref b2, .ref b3, .ref b4, .ref b5, .ref b6, .ref b7, .ref b8, .ref b9])), (b0, .inl (T 0, 5, .inl f0)), (wa, .inr (7, [.ref tw, .ref e0, .ref e1, .ref e2, .ref e3, .ref e4, .ref e5, .ref e6, .ref e7])), (e0, .inl (T 0, 16, .inl p0)), (e2, .inl (T 0, 192, .inl p2)), (e5, .inl (T 0, 2, .inl p5)), (e6, .inl (T 0, 2, .inl p6))]) [0, 1, 2, 3, 4, 5, 6, 7, 8, 9] (by decide) rfl
        exact W.iret (v := r_16) hx hb hr (fun t ht hW => ⟨⟨r_16, (fun k => ([] : List (Nat)).getD k 0, fun k => ([gt0] : List (Nat → Int32)).getD k (fun _ => 0), fun k => ([] : List (Nat → Int64)).getD k (fun _ => 0), fun k => ([] : List (Int32)).getD k 0, fun k => ([] : List (Int64)).getD k 0), rfl, trivial, by rw [ht]; exact hP9, hD9⟩, hS.F ht⟩) hS.2.2 dX9_fewestTorn_98
      · refine lv_lookup (off := 52) (tgt := 99) hx hb dX9_fewestTorn_47 (by decide) (by rw [Op.lookupswitch.offset_cons, if_neg (by omega)]; rw [Op.lookupswitch.offset_cons, if_neg (by omega)]; rfl) (by decide) ?_
        refine lv_iload hx hb dX9_fewestTorn_99 (lv_at hl 0 rfl) ?_
        refine lv_iload_n hx hb dX9_fewestTorn_101 rfl (lv_at hl 1 rfl) ?_
        refine lv_isub hx hb dX9_fewestTorn_102 ?_
        refine lv_topi (fun x_18 ex_18 => ?_)
        refine lv_iconst (v := 1) hx hb dX9_fewestTorn_103 (by decide) ?_
        refine lv_iadd hx hb dX9_fewestTorn_104 ?_
        refine lv_topi (fun x_19 ex_19 => ?_)
        have hP9 := hP.sub (ws' := [(h0, .inr (9, [.ref tn0])), (tn0, .inl (T 0, 97, .inl gt0)), (h1, .inr (3, [.ref tw, .ref wa, .int s2, .int s3, .int s4, .long s5, .int s6, .ref sw, .ref bl])), (tw, .inr (5, [.int t0, .int t1, .int t2, .int t3, .int t4, .int t5, .int t6, .int t7, .int t8, .ref b0, .ref b1, .ref b2, .ref b3, .ref b4, .ref b5, .ref b6, .ref b7, .ref b8, .ref b9])), (b0, .inl (T 0, 5, .inl f0)), (wa, .inr (7, [.ref tw, .ref e0, .ref e1, .ref e2, .ref e3, .ref e4, .ref e5, .ref e6, .ref e7])), (e0, .inl (T 0, 16, .inl p0)), (e2, .inl (T 0, 192, .inl p2)), (e5, .inl (T 0, 2, .inl p5)), (e6, .inl (T 0, 2, .inl p6))]) [0, 1, 2, 3, 4, 5, 6, 7, 8, 9] rfl
        have hD9 := hD.sub (ws' := [(h0, .inr (9, [.ref tn0])), (tn0, .inl (T 0, 97, .inl gt0)), (h1, .inr (3, [.ref tw, .ref wa, .int s2, .int s3, .int s4, .long s5, .int s6, .ref sw, .ref bl])), (tw, .inr (5, [.int t0, .int t1, .int t2, .int t3, .int t4, .int t5, .int t6, .int t7, .int t8, .ref b0, .ref b1, .ref b2, .ref b3, .ref b4, .ref b5, .ref b6, .ref b7, .ref b8, .ref b9])), (b0, .inl (T 0, 5, .inl f0)), (wa, .inr (7, [.ref tw, .ref e0, .ref e1, .ref e2, .ref e3, .ref e4, .ref e5, .ref e6, .ref e7])), (e0, .inl (T 0, 16, .inl p0)), (e2, .inl (T 0, 192, .inl p2)), (e5, .inl (T 0, 2, .inl p5)), (e6, .inl (T 0, 2, .inl p6))]) [0, 1, 2, 3, 4, 5, 6, 7, 8, 9] (by decide) rfl
        exact W.iret (v := x_19) hx hb hr (fun t ht hW => ⟨⟨x_19, (fun k => ([] : List (Nat)).getD k 0, fun k => ([gt0] : List (Nat → Int32)).getD k (fun _ => 0), fun k => ([] : List (Nat → Int64)).getD k (fun _ => 0), fun k => ([] : List (Int32)).getD k 0, fun k => ([] : List (Int64)).getD k 0), rfl, trivial, by rw [ht]; exact hP9, hD9⟩, hS.F ht⟩) hS.2.2 dX9_fewestTorn_105
    · have c_7 : r_1.toInt ≤ 0 := by have h := mt (c_lt (x := 0) (y := r_1.toInt) rfl rfl).mpr c_7; omega
      refine lv_iconst (v := (-1)) hx hb dX9_fewestTorn_41 (by decide) ?_
      have hP9 := hP.sub (ws' := [(h0, .inr (9, [.ref tn0])), (tn0, .inl (T 0, 97, .inl gt0)), (h1, .inr (3, [.ref tw, .ref wa, .int s2, .int s3, .int s4, .long s5, .int s6, .ref sw, .ref bl])), (tw, .inr (5, [.int t0, .int t1, .int t2, .int t3, .int t4, .int t5, .int t6, .int t7, .int t8, .ref b0, .ref b1, .ref b2, .ref b3, .ref b4, .ref b5, .ref b6, .ref b7, .ref b8, .ref b9])), (b0, .inl (T 0, 5, .inl f0)), (wa, .inr (7, [.ref tw, .ref e0, .ref e1, .ref e2, .ref e3, .ref e4, .ref e5, .ref e6, .ref e7])), (e0, .inl (T 0, 16, .inl p0)), (e2, .inl (T 0, 192, .inl p2)), (e5, .inl (T 0, 2, .inl p5)), (e6, .inl (T 0, 2, .inl p6))]) [0, 1, 2, 3, 4, 5, 6, 7, 8, 9] rfl
      have hD9 := hD.sub (ws' := [(h0, .inr (9, [.ref tn0])), (tn0, .inl (T 0, 97, .inl gt0)), (h1, .inr (3, [.ref tw, .ref wa, .int s2, .int s3, .int s4, .long s5, .int s6, .ref sw, .ref bl])), (tw, .inr (5, [.int t0, .int t1, .int t2, .int t3, .int t4, .int t5, .int t6, .int t7, .int t8, .ref b0, .ref b1, .ref b2, .ref b3, .ref b4, .ref b5, .ref b6, .ref b7, .ref b8, .ref b9])), (b0, .inl (T 0, 5, .inl f0)), (wa, .inr (7, [.ref tw, .ref e0, .ref e1, .ref e2, .ref e3, .ref e4, .ref e5, .ref e6, .ref e7])), (e0, .inl (T 0, 16, .inl p0)), (e2, .inl (T 0, 192, .inl p2)), (e5, .inl (T 0, 2, .inl p5)), (e6, .inl (T 0, 2, .inl p6))]) [0, 1, 2, 3, 4, 5, 6, 7, 8, 9] (by decide) rfl
      exact W.iret (v := (-1)) hx hb hr (fun t ht hW => ⟨⟨(-1), (fun k => ([] : List (Nat)).getD k 0, fun k => ([gt0] : List (Nat → Int32)).getD k (fun _ => 0), fun k => ([] : List (Nat → Int64)).getD k (fun _ => 0), fun k => ([] : List (Int32)).getD k 0, fun k => ([] : List (Int64)).getD k 0), rfl, trivial, by rw [ht]; exact hP9, hD9⟩, hS.F ht⟩) hS.2.2 dX9_fewestTorn_42
  · have c_6 : r_4.toInt < r_1.toInt := by have h := mt (c_le (x := r_1.toInt) (y := r_4.toInt) rfl rfl).mpr c_6; omega
    refine lv_iconst (v := 0) hx hb dX9_fewestTorn_35 (by decide) ?_
    have hP9 := hP.sub (ws' := [(h0, .inr (9, [.ref tn0])), (tn0, .inl (T 0, 97, .inl gt0)), (h1, .inr (3, [.ref tw, .ref wa, .int s2, .int s3, .int s4, .long s5, .int s6, .ref sw, .ref bl])), (tw, .inr (5, [.int t0, .int t1, .int t2, .int t3, .int t4, .int t5, .int t6, .int t7, .int t8, .ref b0, .ref b1, .ref b2, .ref b3, .ref b4, .ref b5, .ref b6, .ref b7, .ref b8, .ref b9])), (b0, .inl (T 0, 5, .inl f0)), (wa, .inr (7, [.ref tw, .ref e0, .ref e1, .ref e2, .ref e3, .ref e4, .ref e5, .ref e6, .ref e7])), (e0, .inl (T 0, 16, .inl p0)), (e2, .inl (T 0, 192, .inl p2)), (e5, .inl (T 0, 2, .inl p5)), (e6, .inl (T 0, 2, .inl p6))]) [0, 1, 2, 3, 4, 5, 6, 7, 8, 9] rfl
    have hD9 := hD.sub (ws' := [(h0, .inr (9, [.ref tn0])), (tn0, .inl (T 0, 97, .inl gt0)), (h1, .inr (3, [.ref tw, .ref wa, .int s2, .int s3, .int s4, .long s5, .int s6, .ref sw, .ref bl])), (tw, .inr (5, [.int t0, .int t1, .int t2, .int t3, .int t4, .int t5, .int t6, .int t7, .int t8, .ref b0, .ref b1, .ref b2, .ref b3, .ref b4, .ref b5, .ref b6, .ref b7, .ref b8, .ref b9])), (b0, .inl (T 0, 5, .inl f0)), (wa, .inr (7, [.ref tw, .ref e0, .ref e1, .ref e2, .ref e3, .ref e4, .ref e5, .ref e6, .ref e7])), (e0, .inl (T 0, 16, .inl p0)), (e2, .inl (T 0, 192, .inl p2)), (e5, .inl (T 0, 2, .inl p5)), (e6, .inl (T 0, 2, .inl p6))]) [0, 1, 2, 3, 4, 5, 6, 7, 8, 9] (by decide) rfl
    exact W.iret (v := 0) hx hb hr (fun t ht hW => ⟨⟨0, (fun k => ([] : List (Nat)).getD k 0, fun k => ([gt0] : List (Nat → Int32)).getD k (fun _ => 0), fun k => ([] : List (Nat → Int64)).getD k (fun _ => 0), fun k => ([] : List (Int32)).getD k 0, fun k => ([] : List (Int64)).getD k 0), rfl, trivial, by rw [ht]; exact hP9, hD9⟩, hS.F ht⟩) hS.2.2 dX9_fewestTorn_36

set_option maxHeartbeats 4000000 in
set_option maxRecDepth 100000 in
theorem c_X0_lead (l : Launch) (D : va_G) (T : Nat → ClassId) (b0 b1 b2 b3 b4 b5 b6 b7 b8 b9 bl e0 e1 e2 e3 e4 e5 e6 e7 h1 sw tw wa : Nat) (i2 s2 s3 s4 s6 t0 t1 t2 t3 t4 t5 t6 t7 t8 : Int32) (s5 : Int64) (p0 p5 p6 : Nat → Int32) (h_t1 : 0 ≤ t1.toInt ∧ t1.toInt ≤ 8) (h_t2 : 0 ≤ t2.toInt ∧ t2.toInt ≤ 12) (h_t4 : 0 ≤ t4.toInt ∧ t4.toInt ≤ 5) (h_t5 : 0 ≤ t5.toInt ∧ t5.toInt ≤ 10) (h_s2 : 0 ≤ s2.toInt ∧ s2.toInt ≤ 100) (h_i2 : 0 ≤ i2.toInt ∧ i2.toInt ≤ 1) (R_p0 : rg 0 12 p0) : Met l yX0_lead (wM yX0_lead cX0_lead 2 (some .int)) ({ frames := 3, cells := 0, slots := 0, locals := 66 }) (va_Pc [.ref h1, .int i2] (pwP D T [(h1, .inr (3, [.ref tw, .ref wa, .int s2, .int s3, .int s4, .long s5, .int s6, .ref sw, .ref bl])), (tw, .inr (5, [.int t0, .int t1, .int t2, .int t3, .int t4, .int t5, .int t6, .int t7, .int t8, .ref b0, .ref b1, .ref b2, .ref b3, .ref b4, .ref b5, .ref b6, .ref b7, .ref b8, .ref b9])), (wa, .inr (7, [.ref tw, .ref e0, .ref e1, .ref e2, .ref e3, .ref e4, .ref e5, .ref e6, .ref e7])), (e0, .inl (T 0, 16, .inl p0)), (e5, .inl (T 0, 2, .inl p5)), (e6, .inl (T 0, 2, .inl p6))])) (va_Qi (fun (r : Int32) (u : Unit) => True) (fun _ _ => True) (fun _ => False)) 0 0 (fun _ => False) := by
  refine Met.ofW (cc := cX0_lead) (maxL := 2) (ret := (some .int)) (by decide) rfl ?_
  intro p e s m args below meth c s₁ B hml hv
  obtain ⟨rfl, hP, hC⟩ := hv
  have hx := B.exec
  have hb := B.bytes
  have hr := B.returns
  have hts : ∀ w ∈ gt, w.before _ s = true := fun w hw => atoms_spec (ws := (wM yX0_lead cX0_lead 2 (some .int))) B.pre w (List.mem_cons_of_mem _ hw)
  have hown : s.vm.findClass RX0 = some m.cls := findClass_of_methodNamed B.named
  have hlocks := B.notSynchronized
  have hK := hC.1
  have hS : va_S (fun _ => False) s.heap s.heap [] := va_S.rf
  have hl := lv_entry ([.ref h1, .int i2]) (n := 2) (Nat.le_of_ble_eq_true rfl)
  rw [lg_entry_eq]
  generalize (lg_sl ([.ref h1, .int i2]) ++ List.replicate (2 - (lg_sl ([.ref h1, .int i2])).length) Slot.unset).toArray = ls at hl ⊢
  have hl : lv_has ls 2 [(0, .ref h1), (1, .int i2)] := hl
  refine lv_aload_n hx hb dX0_lead_0 rfl (lv_at hl 0 rfl) ?_
  refine va_get (D := D) (ci := 3) (C := RX3) (T := TX3) (N := 9) hx hb hts iX3 hown hK hP 0 rfl rfl 1 (by decide) (hts _ m375) (fun _ h9 => h9) rfl dX0_lead_1 ?_
  refine lv_iload_n hx hb dX0_lead_4 rfl (lv_at hl 1 rfl) ?_
  refine lv_aload_n hx hb dX0_lead_5 rfl (lv_at hl 0 rfl) ?_
  refine va_get (D := D) (ci := 3) (C := RX3) (T := TX3) (N := 9) hx hb hts iX3 hown hK hP 0 rfl rfl 3 (by decide) (hts _ m385) (fun _ h9 => h9) rfl dX0_lead_6 ?_
  refine puI (cV (As := [.int i2, .int s3]) (rest := []) ⟨hx, hb, hml, hown, hts⟩ (c_X7_tally l D T b0 b1 b2 b3 b4 b5 b6 b7 b8 b9 e0 e1 e2 e3 e4 e5 e6 e7 wa tw i2 s3 t0 t1 t2 t3 t4 t5 t6 t7 t8 p0 p5 p6 ⟨by omega, by omega⟩ ⟨by omega, by omega⟩ ⟨by omega, by omega⟩ ⟨by omega, by omega⟩ ⟨by omega, by omega⟩ R_p0) k_X7_tally v_X7_tally m1059 rfl rfl ⟨(Nat.le_of_ble_eq_true rfl), (Nat.le_of_ble_eq_true rfl)⟩ (preP hC (hP.sub (ws' := [(wa, .inr (7, [.ref tw, .ref e0, .ref e1, .ref e2, .ref e3, .ref e4, .ref e5, .ref e6, .ref e7])), (e0, .inl (T 0, 16, .inl p0)), (e5, .inl (T 0, 2, .inl p5)), (e6, .inl (T 0, 2, .inl p6)), (tw, .inr (5, [.int t0, .int t1, .int t2, .int t3, .int t4, .int t5, .int t6, .int t7, .int t8, .ref b0, .ref b1, .ref b2, .ref b3, .ref b4, .ref b5, .ref b6, .ref b7, .ref b8, .ref b9]))]) [2, 3, 4, 5, 1] rfl)) (va_recv hK hP (ci := 7) (q0 := 2) rfl rfl) rfl hl.1 rfl (Nat.le_of_ble_eq_true rfl) dX0_lead_9 ⟨(Nat.le_of_ble_eq_true rfl), (Nat.le_of_ble_eq_true rfl)⟩) hS hP (fun r_1 H locs hw hP hS => ?_)
  refine lv_aload_n hx hb dX0_lead_12 rfl (lv_at hl 0 rfl) ?_
  refine va_get (D := D) (ci := 3) (C := RX3) (T := TX3) (N := 9) hx hb hts iX3 hown hK hP 0 rfl rfl 1 (by decide) (hts _ m375) (fun _ h9 => h9) rfl dX0_lead_13 ?_
  refine lv_iconst (v := 1) hx hb dX0_lead_16 (by decide) ?_
  refine lv_iload_n hx hb dX0_lead_17 rfl (lv_at hl 1 rfl) ?_
  refine lv_isub hx hb dX0_lead_18 ?_
  refine lv_topi (fun x_3 ex_3 => ?_)
  have tx_3 : x_3.toInt = 1 - i2.toInt := t_sub (x := 1) (y := i2.toInt) ex_3 rfl rfl (by omega) (by omega)
  refine lv_aload_n hx hb dX0_lead_19 rfl (lv_at hl 0 rfl) ?_
  refine va_get (D := D) (ci := 3) (C := RX3) (T := TX3) (N := 9) hx hb hts iX3 hown hK hP 0 rfl rfl 3 (by decide) (hts _ m385) (fun _ h9 => h9) rfl dX0_lead_20 ?_
  refine puI (cV (As := [.int x_3, .int s3]) (rest := [.int r_1]) ⟨hx, hb, hml, hown, hts⟩ (c_X7_tally l D T b0 b1 b2 b3 b4 b5 b6 b7 b8 b9 e0 e1 e2 e3 e4 e5 e6 e7 wa tw x_3 s3 t0 t1 t2 t3 t4 t5 t6 t7 t8 p0 p5 p6 ⟨by omega, by omega⟩ ⟨by omega, by omega⟩ ⟨by omega, by omega⟩ ⟨by omega, by omega⟩ ⟨by omega, by omega⟩ R_p0) k_X7_tally v_X7_tally m1059 rfl rfl ⟨(Nat.le_of_ble_eq_true rfl), (Nat.le_of_ble_eq_true rfl)⟩ (preP hC (hP.sub (ws' := [(wa, .inr (7, [.ref tw, .ref e0, .ref e1, .ref e2, .ref e3, .ref e4, .ref e5, .ref e6, .ref e7])), (e0, .inl (T 0, 16, .inl p0)), (e5, .inl (T 0, 2, .inl p5)), (e6, .inl (T 0, 2, .inl p6)), (tw, .inr (5, [.int t0, .int t1, .int t2, .int t3, .int t4, .int t5, .int t6, .int t7, .int t8, .ref b0, .ref b1, .ref b2, .ref b3, .ref b4, .ref b5, .ref b6, .ref b7, .ref b8, .ref b9]))]) [2, 3, 4, 5, 1] rfl)) (va_recv hK hP (ci := 7) (q0 := 2) rfl rfl) rfl hl.1 rfl (Nat.le_of_ble_eq_true rfl) dX0_lead_23 ⟨(Nat.le_of_ble_eq_true rfl), (Nat.le_of_ble_eq_true rfl)⟩) hS hP (fun r_4 H locs hw hP hS => ?_)
  refine lv_isub hx hb dX0_lead_26 ?_
  refine lv_topi (fun x_6 ex_6 => ?_)
  exact W.iret (v := x_6) hx hb hr (fun t ht hW => ⟨⟨x_6, (), rfl, trivial, trivial⟩, hS.F ht⟩) hS.2.2 dX0_lead_27

set_option maxHeartbeats 4000000 in
set_option maxRecDepth 100000 in
theorem c_X0_mostGain (l : Launch) (D : va_G) (T : Nat → ClassId) (b0 b1 b2 b3 b4 b5 b6 b7 b8 b9 bl e0 e1 e2 e3 e4 e5 e6 e7 h1 sw tw wa : Nat) (s2 s3 s4 s6 t0 t1 t2 t3 t4 t5 t6 t7 t8 : Int32) (s5 : Int64) (f0 p1 : Nat → Int32) (h_t1 : 0 ≤ t1.toInt ∧ t1.toInt ≤ 8) (h_t2 : 0 ≤ t2.toInt ∧ t2.toInt ≤ 12) (h_t4 : 0 ≤ t4.toInt ∧ t4.toInt ≤ 5) (h_t5 : 0 ≤ t5.toInt ∧ t5.toInt ≤ 10) (h_s2 : 0 ≤ s2.toInt ∧ s2.toInt ≤ 100) : Met l yX0_mostGain (wM yX0_mostGain cX0_mostGain 3 (some .int)) ({ frames := 1, cells := 0, slots := 0, locals := 13 }) (va_Pc [.ref h1] (pwP D T [(h1, .inr (3, [.ref tw, .ref wa, .int s2, .int s3, .int s4, .long s5, .int s6, .ref sw, .ref bl])), (tw, .inr (5, [.int t0, .int t1, .int t2, .int t3, .int t4, .int t5, .int t6, .int t7, .int t8, .ref b0, .ref b1, .ref b2, .ref b3, .ref b4, .ref b5, .ref b6, .ref b7, .ref b8, .ref b9])), (b0, .inl (T 0, 5, .inl f0)), (wa, .inr (7, [.ref tw, .ref e0, .ref e1, .ref e2, .ref e3, .ref e4, .ref e5, .ref e6, .ref e7])), (e1, .inl (T 0, 5, .inl p1))])) (va_Qi (fun (r : Int32) (u : Unit) => True) (fun _ _ => True) (fun _ => False)) 0 0 (fun _ => False) := by
  refine Met.ofW (cc := cX0_mostGain) (maxL := 3) (ret := (some .int)) (by decide) rfl ?_
  intro p e s m args below meth c s₁ B hml hv
  obtain ⟨rfl, hP, hC⟩ := hv
  have hx := B.exec
  have hb := B.bytes
  have hr := B.returns
  have hts : ∀ w ∈ gt, w.before _ s = true := fun w hw => atoms_spec (ws := (wM yX0_mostGain cX0_mostGain 3 (some .int))) B.pre w (List.mem_cons_of_mem _ hw)
  have hown : s.vm.findClass RX0 = some m.cls := findClass_of_methodNamed B.named
  have hlocks := B.notSynchronized
  have hK := hC.1
  have hS : va_S (fun _ => False) s.heap s.heap [] := va_S.rf
  have hl := lv_entry ([.ref h1]) (n := 3) (Nat.le_of_ble_eq_true rfl)
  rw [lg_entry_eq]
  generalize (lg_sl ([.ref h1]) ++ List.replicate (3 - (lg_sl ([.ref h1])).length) Slot.unset).toArray = ls at hl ⊢
  have hl : lv_has ls 3 [(0, .ref h1)] := hl
  refine lv_iconst (v := 1) hx hb dX0_mostGain_0 (by decide) ?_
  refine lv_istore_n (lv' := [(1, .int 1), (0, .ref h1)]) hx hb dX0_mostGain_1 rfl hl (by decide) rfl (fun ls hl => ?_)
  refine lv_aload_n hx hb dX0_mostGain_2 rfl (lv_at hl 1 rfl) ?_
  refine va_get (D := D) (ci := 3) (C := RX3) (T := TX3) (N := 9) hx hb hts iX3 hown hK hP 0 rfl rfl 3 (by decide) (hts _ m385) (fun _ h9 => h9) rfl dX0_mostGain_3 ?_
  refine lv_iconst (v := 1) hx hb dX0_mostGain_6 (by decide) ?_
  refine lv_icmp_ne (tgt := 55) hx hb dX0_mostGain_7 (by decide) (fun c_1 => ?_) (fun c_1 => ?_)
  · have c_1 : ¬ s3.toInt = 1 := fun h => c_1 ((c_eq (x := s3.toInt) (y := 1) rfl rfl).mpr h)
    refine lv_iload_n hx hb dX0_mostGain_55 rfl (lv_at hl 0 rfl) ?_
    exact W.iret (v := 1) hx hb hr (fun t ht hW => ⟨⟨1, (), rfl, trivial, trivial⟩, hS.F ht⟩) hS.2.2 dX0_mostGain_56
  · have c_1 : s3.toInt = 1 := (c_eq (x := s3.toInt) (y := 1) rfl rfl).mp c_1
    refine lv_iconst (v := 0) hx hb dX0_mostGain_10 (by decide) ?_
    refine lv_istore_n (lv' := [(2, .int 0), (1, .int 1), (0, .ref h1)]) hx hb dX0_mostGain_11 rfl hl (by decide) rfl (fun ls hl => ?_)
    refine lp_ind (fun (a : Heap × List Loc × Array Slot × (Int32) × (Int32)) => match a with | (H, locs, ls, i_2, i_3) => W p l e _ s m _ below meth c H locs 0 0 _ (F0 m 12 ls [])) (fun (a : Heap × List Loc × Array Slot × (Int32) × (Int32)) => match a with | (H, locs, ls, i_2, i_3) => 0 ≤ i_2.toInt ∧ i_2.toInt ≤ 5 ∧ va_P D vwCl [(h1, .inr (3, [.ref tw, .ref wa, .int s2, .int s3, .int s4, .long s5, .int s6, .ref sw, .ref bl])), (tw, .inr (5, [.int t0, .int t1, .int t2, .int t3, .int t4, .int t5, .int t6, .int t7, .int t8, .ref b0, .ref b1, .ref b2, .ref b3, .ref b4, .ref b5, .ref b6, .ref b7, .ref b8, .ref b9])), (b0, .inl (T 0, 5, .inl f0)), (wa, .inr (7, [.ref tw, .ref e0, .ref e1, .ref e2, .ref e3, .ref e4, .ref e5, .ref e6, .ref e7])), (e1, .inl (T 0, 5, .inl p1))] H ∧ va_S (fun _ => False) s.heap H locs ∧ lv_has ls 3 [(2, .int i_2), (1, .int i_3), (0, .ref h1)]) (fun (a : Heap × List Loc × Array Slot × (Int32) × (Int32)) => match a with | (H, locs, ls, i_2, i_3) => (5 - i_2.toInt).toNat) ?_ (_, _, ls, (0 : Int32), (1 : Int32)) ⟨(show 0 ≤ 0 by omega), (show 0 ≤ 5 by omega), hP, hS, lv_sub hl [0, 1, 2] rfl⟩
    rintro ⟨H, locs, ls, i_2, i_3⟩ ⟨c_4, c_5, hP, hS, hl⟩ ih_6
    refine lv_iload_n hx hb dX0_mostGain_12 rfl (lv_at hl 0 rfl) ?_
    refine lv_aload_n hx hb dX0_mostGain_13 rfl (lv_at hl 2 rfl) ?_
    refine va_get (D := D) (ci := 3) (C := RX3) (T := TX3) (N := 9) hx hb hts iX3 hown hK hP 0 rfl rfl 0 (by decide) (hts _ m370) (fun _ h9 => h9) rfl dX0_mostGain_14 ?_
    refine va_get (D := D) (ci := 5) (C := RX5) (T := TX5) (N := 19) hx hb hts iX5 hown hK hP 1 rfl rfl 4 (by decide) (hts _ m183) (fun _ h9 => h9) rfl dX0_mostGain_17 ?_
    refine lv_icmp_ge (tgt := 55) hx hb dX0_mostGain_20 (by decide) (fun c_7 => ?_) (fun c_7 => ?_)
    · have c_7 : t4.toInt ≤ i_2.toInt := (c_le (x := t4.toInt) (y := i_2.toInt) rfl rfl).mp c_7
      refine lv_iload_n hx hb dX0_mostGain_55 rfl (lv_at hl 1 rfl) ?_
      exact W.iret (v := i_3) hx hb hr (fun t ht hW => ⟨⟨i_3, (), rfl, trivial, trivial⟩, hS.F ht⟩) hS.2.2 dX0_mostGain_56
    · have c_7 : i_2.toInt < t4.toInt := by have h := mt (c_le (x := t4.toInt) (y := i_2.toInt) rfl rfl).mpr c_7; omega
      refine lv_aload_n hx hb dX0_mostGain_23 rfl (lv_at hl 2 rfl) ?_
      refine va_get (D := D) (ci := 3) (C := RX3) (T := TX3) (N := 9) hx hb hts iX3 hown hK hP 0 rfl rfl 1 (by decide) (hts _ m375) (fun _ h9 => h9) rfl dX0_mostGain_24 ?_
      refine va_get (D := D) (ci := 7) (C := RX7) (T := TX7) (N := 9) hx hb hts iX7 hown hK hP 3 rfl rfl 2 (by decide) (hts _ m332) (fun _ h9 => h9) rfl dX0_mostGain_27 ?_
      refine lv_iload_n hx hb dX0_mostGain_30 rfl (lv_at hl 0 rfl) ?_
      refine va_iald (D := D) hx hb hK hP 4 0 rfl rfl (v_in (x := i_2.toInt) rfl (by omega) (by omega)) dX0_mostGain_31 ?_
      refine lv_topi (fun x_8 ex_8 => ?_)
      refine lv_if_le (tgt := 49) hx hb dX0_mostGain_32 (by decide) (fun c_9 => ?_) (fun c_9 => ?_)
      · have c_9 : x_8.toInt ≤ 0 := (c_le (x := x_8.toInt) (y := 0) rfl rfl).mp c_9
        obtain ⟨x_10, ex_10⟩ : ∃ y : Int32, y = i_2 + 1 := ⟨_, rfl⟩
        have tx_10 : x_10.toInt = i_2.toInt + 1 := t_add (x := i_2.toInt) (y := 1) ex_10 rfl rfl (by omega) (by omega)
        refine lv_iinc (v := x_10) (lv' := [(2, .int x_10), (1, .int i_3), (0, .ref h1)]) hx hb dX0_mostGain_49 hl (k := 0) rfl (by rw [ex_10]; rfl) (by decide) rfl (fun ls hl => ?_)
        refine lv_goto (tgt := 12) hx hb dX0_mostGain_52 (by decide) ?_
        exact ih_6 (_, _, _, x_10, i_3) ⟨(show 0 ≤ x_10.toInt by omega), (show x_10.toInt ≤ 5 by omega), hP, hS, lv_sub hl [0, 1, 2] rfl⟩ (show (5 - x_10.toInt).toNat < (5 - i_2.toInt).toNat by omega)
      · have c_9 : 0 < x_8.toInt := by have h := mt (c_le (x := x_8.toInt) (y := 0) rfl rfl).mpr c_9; omega
        refine lv_iload_n hx hb dX0_mostGain_35 rfl (lv_at hl 1 rfl) ?_
        refine lv_aload_n hx hb dX0_mostGain_36 rfl (lv_at hl 2 rfl) ?_
        refine va_get (D := D) (ci := 3) (C := RX3) (T := TX3) (N := 9) hx hb hts iX3 hown hK hP 0 rfl rfl 0 (by decide) (hts _ m370) (fun _ h9 => h9) rfl dX0_mostGain_37 ?_
        refine va_get (D := D) (ci := 5) (C := RX5) (T := TX5) (N := 19) hx hb hts iX5 hown hK hP 1 rfl rfl 9 (by decide) (hts _ m204) (fun _ h9 => h9) rfl dX0_mostGain_40 ?_
        refine lv_iload_n hx hb dX0_mostGain_43 rfl (lv_at hl 0 rfl) ?_
        refine va_iald (D := D) hx hb hK hP 2 0 rfl rfl (v_in (x := i_2.toInt) rfl (by omega) (by omega)) dX0_mostGain_44 ?_
        refine lv_topi (fun x_11 ex_11 => ?_)
        refine va_mmax hx hb (by rw [hml]; exact hl.1.symm) hown (hts _ m1063) (hts _ m826) (hts _ m123) (hts _ m827) (Nat.le_of_ble_eq_true rfl) (Nat.le_of_ble_eq_true rfl) (Nat.le_of_ble_eq_true rfl) (Nat.le_of_ble_eq_true rfl) dX0_mostGain_45 ?_
        refine lv_topi (fun x_12 ex_12 => ?_)
        refine lv_istore_n (lv' := [(1, .int x_12), (2, .int i_2), (0, .ref h1)]) hx hb dX0_mostGain_48 rfl hl (by decide) rfl (fun ls hl => ?_)
        obtain ⟨x_13, ex_13⟩ : ∃ y : Int32, y = i_2 + 1 := ⟨_, rfl⟩
        have tx_13 : x_13.toInt = i_2.toInt + 1 := t_add (x := i_2.toInt) (y := 1) ex_13 rfl rfl (by omega) (by omega)
        refine lv_iinc (v := x_13) (lv' := [(2, .int x_13), (1, .int x_12), (0, .ref h1)]) hx hb dX0_mostGain_49 hl (k := 1) rfl (by rw [ex_13]; rfl) (by decide) rfl (fun ls hl => ?_)
        refine lv_goto (tgt := 12) hx hb dX0_mostGain_52 (by decide) ?_
        exact ih_6 (_, _, _, x_13, x_12) ⟨(show 0 ≤ x_13.toInt by omega), (show x_13.toInt ≤ 5 by omega), hP, hS, lv_sub hl [0, 1, 2] rfl⟩ (show (5 - x_13.toInt).toNat < (5 - i_2.toInt).toNat by omega)
