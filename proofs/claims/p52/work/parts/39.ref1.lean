set_option maxHeartbeats 4000000 in
set_option maxRecDepth 100000 in
theorem c_X11_in (l : Launch) (D : va_G) (T : Nat → ClassId) (v0 v2 v4 : Int64) : Met l yX11_in (wM yX11_in cX11_in 6 (some .boolean)) ({ frames := 0, cells := 0, slots := 0, locals := 0 }) (va_Pc [.long v0, .long v2, .long v4] (pwP D T [])) (va_Qi (fun (r : Int32) (u : Unit) => (r = 1 ∧ v2.toInt ≤ v0.toInt ∧ v0.toInt ≤ v4.toInt) ∨ (r = 0 ∧ (v0.toInt < v2.toInt ∨ v4.toInt < v0.toInt))) (fun _ _ => True) (fun _ => False)) 0 0 (fun _ => False) := by
  refine Met.ofW (cc := cX11_in) (maxL := 6) (ret := (some .boolean)) (by decide) rfl ?_
  intro p e s m args below meth c s₁ B hml hv
  obtain ⟨rfl, hP, hC⟩ := hv
  have hx := B.exec
  have hb := B.bytes
  have hr := B.returns
  have hts : ∀ w ∈ gt, w.before _ s = true := fun w hw => atoms_spec (ws := (wM yX11_in cX11_in 6 (some .boolean))) B.pre w (List.mem_cons_of_mem _ hw)
  have hown : s.vm.findClass RX11 = some m.cls := findClass_of_methodNamed B.named
  have hlocks := B.notSynchronized
  have hK := hC.1
  have hS : va_S (fun _ => False) s.heap s.heap [] := va_S.rf
  have hl := lv_entry ([.long v0, .long v2, .long v4]) (n := 6) (Nat.le_of_ble_eq_true rfl)
  rw [lg_entry_eq]
  generalize (lg_sl ([.long v0, .long v2, .long v4]) ++ List.replicate (6 - (lg_sl ([.long v0, .long v2, .long v4])).length) Slot.unset).toArray = ls at hl ⊢
  have hl : lv_has ls 6 [(0, .long v0), (2, .long v2), (4, .long v4)] := hl
  refine lv_lload_n hx hb dX11_in_0 rfl (lv_at hl 0 rfl) ?_
  refine lv_lload_n hx hb dX11_in_1 rfl (lv_at hl 1 rfl) ?_
  refine W.lcmp hx hb dX11_in_2 ?_
  refine lv_if_lt (tgt := 17) hx hb dX11_in_3 (by decide) (fun c_1 => ?_) (fun c_1 => ?_)
  · have c_1 : v0.toInt < v2.toInt := (kl_lt (a := v0) (b := v2) (x := v0.toInt) (y := v2.toInt) rfl rfl).mp c_1
    refine lv_iconst (v := 0) hx hb dX11_in_17 (by decide) ?_
    exact W.zret (v := 0) hx hb hr rfl (fun t ht hW => ⟨⟨0, (), rfl, (Or.inr (⟨rfl, (show (v0.toInt < v2.toInt ∨ v4.toInt < v0.toInt) by omega)⟩)), trivial⟩, hS.F ht⟩) hS.2.2 dX11_in_18
  · have c_1 : v2.toInt ≤ v0.toInt := by have h := mt (kl_lt (a := v0) (b := v2) (x := v0.toInt) (y := v2.toInt) rfl rfl).mpr c_1; omega
    refine lv_lload_n hx hb dX11_in_6 rfl (lv_at hl 0 rfl) ?_
    refine lv_lload hx hb dX11_in_7 (lv_at hl 2 rfl) ?_
    refine W.lcmp hx hb dX11_in_9 ?_
    refine lv_if_gt (tgt := 17) hx hb dX11_in_10 (by decide) (fun c_2 => ?_) (fun c_2 => ?_)
    · have c_2 : v4.toInt < v0.toInt := (kl_gt (a := v0) (b := v4) (x := v0.toInt) (y := v4.toInt) rfl rfl).mp c_2
      refine lv_iconst (v := 0) hx hb dX11_in_17 (by decide) ?_
      exact W.zret (v := 0) hx hb hr rfl (fun t ht hW => ⟨⟨0, (), rfl, (Or.inr (⟨rfl, (show (v0.toInt < v2.toInt ∨ v4.toInt < v0.toInt) by omega)⟩)), trivial⟩, hS.F ht⟩) hS.2.2 dX11_in_18
    · have c_2 : v0.toInt ≤ v4.toInt := by have h := mt (kl_gt (a := v0) (b := v4) (x := v0.toInt) (y := v4.toInt) rfl rfl).mpr c_2; omega
      refine lv_iconst (v := 1) hx hb dX11_in_13 (by decide) ?_
      refine lv_goto (tgt := 18) hx hb dX11_in_14 (by decide) ?_
      exact W.zret (v := 1) hx hb hr rfl (fun t ht hW => ⟨⟨1, (), rfl, (Or.inl (⟨rfl, (show v2.toInt ≤ v0.toInt by omega), (show v0.toInt ≤ v4.toInt by omega)⟩)), trivial⟩, hS.F ht⟩) hS.2.2 dX11_in_18

set_option maxHeartbeats 4000000 in
set_option maxRecDepth 100000 in
theorem c_X11_isSlot (l : Launch) (D : va_G) (T : Nat → ClassId) (i1 : Int32) : Met l yX11_isSlot (wM yX11_isSlot cX11_isSlot 1 (some .boolean)) ({ frames := 1, cells := 0, slots := 0, locals := 25 }) (va_Pc [.int i1] (pwP D T [])) (va_Qi (fun (r : Int32) (u : Unit) => (r = 1 ∧ 0 ≤ i1.toInt ∧ i1.toInt ≤ 3) ∨ (r = 0 ∧ (i1.toInt < 0 ∨ 3 < i1.toInt))) (fun _ _ => True) (fun _ => False)) 0 0 (fun _ => False) := by
  refine Met.ofW (cc := cX11_isSlot) (maxL := 1) (ret := (some .boolean)) (by decide) rfl ?_
  intro p e s m args below meth c s₁ B hml hv
  obtain ⟨rfl, hP, hC⟩ := hv
  have hx := B.exec
  have hb := B.bytes
  have hr := B.returns
  have hts : ∀ w ∈ gt, w.before _ s = true := fun w hw => atoms_spec (ws := (wM yX11_isSlot cX11_isSlot 1 (some .boolean))) B.pre w (List.mem_cons_of_mem _ hw)
  have hown : s.vm.findClass RX11 = some m.cls := findClass_of_methodNamed B.named
  have hlocks := B.notSynchronized
  have hK := hC.1
  have hS : va_S (fun _ => False) s.heap s.heap [] := va_S.rf
  have hl := lv_entry ([.int i1]) (n := 1) (Nat.le_of_ble_eq_true rfl)
  rw [lg_entry_eq]
  generalize (lg_sl ([.int i1]) ++ List.replicate (1 - (lg_sl ([.int i1])).length) Slot.unset).toArray = ls at hl ⊢
  have hl : lv_has ls 1 [(0, .int i1)] := hl
  refine lv_iload_n hx hb dX11_isSlot_0 rfl (lv_at hl 0 rfl) ?_
  refine lv_i2l hx hb dX11_isSlot_1 rfl ?_
  refine lv_lconst (v := 0) hx hb dX11_isSlot_2 (by decide) ?_
  refine lv_ldc2 (v := 3) hx hb hown (hts _ m1460) dX11_isSlot_3 ?_
  refine puI (cS (As := [.long i1.toInt64, .long 0, .long 3]) (rest := []) ⟨hx, hb, hml, hown, hts⟩ (c_X11_in l D T i1.toInt64 0 3) k_X11_in m1462 m1461 rfl rfl ⟨(Nat.le_of_ble_eq_true rfl), (Nat.le_of_ble_eq_true rfl)⟩ (preP hC (hP.sub (ws' := []) [] rfl)) rfl hl.1 rfl (Nat.le_of_ble_eq_true rfl) dX11_isSlot_6 ⟨(Nat.le_of_ble_eq_true rfl), (Nat.le_of_ble_eq_true rfl)⟩) hS hP (fun r_1 H locs hw hP hS => ?_)
  have w_3 : (r_1 = 1 ∧ (0 : Int64).toInt ≤ i1.toInt64.toInt ∧ i1.toInt64.toInt ≤ (3 : Int64).toInt) ∨ (r_1 = 0 ∧ (i1.toInt64.toInt < (0 : Int64).toInt ∨ (3 : Int64).toInt < i1.toInt64.toInt)) := hw
  rcases w_3 with ⟨rfl, c_4, c_5⟩ | ⟨rfl, c_6⟩
  · have c_4 : 0 ≤ i1.toInt := kle (by decide) (i_64 _) c_4
    have c_5 : i1.toInt ≤ 3 := kle (i_64 _) (by decide) c_5
    exact W.zret (v := 1) hx hb hr rfl (fun t ht hW => ⟨⟨1, (), rfl, (Or.inl (⟨rfl, (show 0 ≤ i1.toInt by omega), (show i1.toInt ≤ 3 by omega)⟩)), trivial⟩, hS.F ht⟩) hS.2.2 dX11_isSlot_9
  · have c_6 : i1.toInt < 0 ∨ 3 < i1.toInt := klo (i_64 _) (by decide) (by decide) c_6
    exact W.zret (v := 0) hx hb hr rfl (fun t ht hW => ⟨⟨0, (), rfl, (Or.inr (⟨rfl, (show (i1.toInt < 0 ∨ 3 < i1.toInt) by omega)⟩)), trivial⟩, hS.F ht⟩) hS.2.2 dX11_isSlot_9

set_option maxHeartbeats 4000000 in
set_option maxRecDepth 100000 in
theorem c_X11_isSeed (l : Launch) (D : va_G) (T : Nat → ClassId) (i1 : Int32) : Met l yX11_isSeed (wM yX11_isSeed cX11_isSeed 1 (some .boolean)) ({ frames := 1, cells := 0, slots := 0, locals := 25 }) (va_Pc [.int i1] (pwP D T [])) (va_Qi (fun (r : Int32) (u : Unit) => (r = 1) ∨ (r = 0)) (fun _ _ => True) (fun _ => False)) 0 0 (fun _ => False) := by
  refine Met.ofW (cc := cX11_isSeed) (maxL := 1) (ret := (some .boolean)) (by decide) rfl ?_
  intro p e s m args below meth c s₁ B hml hv
  obtain ⟨rfl, hP, hC⟩ := hv
  have hx := B.exec
  have hb := B.bytes
  have hr := B.returns
  have hts : ∀ w ∈ gt, w.before _ s = true := fun w hw => atoms_spec (ws := (wM yX11_isSeed cX11_isSeed 1 (some .boolean))) B.pre w (List.mem_cons_of_mem _ hw)
  have hown : s.vm.findClass RX11 = some m.cls := findClass_of_methodNamed B.named
  have hlocks := B.notSynchronized
  have hK := hC.1
  have hS : va_S (fun _ => False) s.heap s.heap [] := va_S.rf
  have hl := lv_entry ([.int i1]) (n := 1) (Nat.le_of_ble_eq_true rfl)
  rw [lg_entry_eq]
  generalize (lg_sl ([.int i1]) ++ List.replicate (1 - (lg_sl ([.int i1])).length) Slot.unset).toArray = ls at hl ⊢
  have hl : lv_has ls 1 [(0, .int i1)] := hl
  refine lv_iload_n hx hb dX11_isSeed_0 rfl (lv_at hl 0 rfl) ?_
  refine lv_i2l hx hb dX11_isSeed_1 rfl ?_
  refine lv_lconst (v := 0) hx hb dX11_isSeed_2 (by decide) ?_
  refine lv_ldc2 (v := 2000000000) hx hb hown (hts _ m1927) dX11_isSeed_3 ?_
  refine puI (cS (As := [.long i1.toInt64, .long 0, .long 2000000000]) (rest := []) ⟨hx, hb, hml, hown, hts⟩ (c_X11_in l D T i1.toInt64 0 2000000000) k_X11_in m1462 m1461 rfl rfl ⟨(Nat.le_of_ble_eq_true rfl), (Nat.le_of_ble_eq_true rfl)⟩ (preP hC (hP.sub (ws' := []) [] rfl)) rfl hl.1 rfl (Nat.le_of_ble_eq_true rfl) dX11_isSeed_6 ⟨(Nat.le_of_ble_eq_true rfl), (Nat.le_of_ble_eq_true rfl)⟩) hS hP (fun r_1 H locs hw hP hS => ?_)
  have w_3 : (r_1 = 1 ∧ (0 : Int64).toInt ≤ i1.toInt64.toInt ∧ i1.toInt64.toInt ≤ (2000000000 : Int64).toInt) ∨ (r_1 = 0 ∧ (i1.toInt64.toInt < (0 : Int64).toInt ∨ (2000000000 : Int64).toInt < i1.toInt64.toInt)) := hw
  rcases w_3 with ⟨rfl, c_4, c_5⟩ | ⟨rfl, c_6⟩
  · have c_4 : 0 ≤ i1.toInt := kle (by decide) (i_64 _) c_4
    have c_5 : i1.toInt ≤ 2000000000 := kle (i_64 _) (by decide) c_5
    exact W.zret (v := 1) hx hb hr rfl (fun t ht hW => ⟨⟨1, (), rfl, (Or.inl rfl), trivial⟩, hS.F ht⟩) hS.2.2 dX11_isSeed_9
  · have c_6 : i1.toInt < 0 ∨ 2000000000 < i1.toInt := klo (i_64 _) (by decide) (by decide) c_6
    exact W.zret (v := 0) hx hb hr rfl (fun t ht hW => ⟨⟨0, (), rfl, (Or.inr rfl), trivial⟩, hS.F ht⟩) hS.2.2 dX11_isSeed_9

set_option maxHeartbeats 4000000 in
set_option maxRecDepth 100000 in
theorem c_X11_isSide (l : Launch) (D : va_G) (T : Nat → ClassId) (i1 : Int32) : Met l yX11_isSide (wM yX11_isSide cX11_isSide 1 (some .boolean)) ({ frames := 0, cells := 0, slots := 0, locals := 0 }) (va_Pc [.int i1] (pwP D T [])) (va_Qi (fun (r : Int32) (u : Unit) => (r = 1 ∧ 0 ≤ i1.toInt ∧ i1.toInt ≤ 1) ∨ (r = 0)) (fun _ _ => True) (fun _ => False)) 0 0 (fun _ => False) := by
  refine Met.ofW (cc := cX11_isSide) (maxL := 1) (ret := (some .boolean)) (by decide) rfl ?_
  intro p e s m args below meth c s₁ B hml hv
  obtain ⟨rfl, hP, hC⟩ := hv
  have hx := B.exec
  have hb := B.bytes
  have hr := B.returns
  have hts : ∀ w ∈ gt, w.before _ s = true := fun w hw => atoms_spec (ws := (wM yX11_isSide cX11_isSide 1 (some .boolean))) B.pre w (List.mem_cons_of_mem _ hw)
  have hown : s.vm.findClass RX11 = some m.cls := findClass_of_methodNamed B.named
  have hlocks := B.notSynchronized
  have hK := hC.1
  have hS : va_S (fun _ => False) s.heap s.heap [] := va_S.rf
  have hl := lv_entry ([.int i1]) (n := 1) (Nat.le_of_ble_eq_true rfl)
  rw [lg_entry_eq]
  generalize (lg_sl ([.int i1]) ++ List.replicate (1 - (lg_sl ([.int i1])).length) Slot.unset).toArray = ls at hl ⊢
  have hl : lv_has ls 1 [(0, .int i1)] := hl
  refine lv_iload_n hx hb dX11_isSide_0 rfl (lv_at hl 0 rfl) ?_
  refine lv_if_eq (tgt := 9) hx hb dX11_isSide_1 (by decide) (fun c_1 => ?_) (fun c_1 => ?_)
  · have c_1 : i1.toInt = 0 := (c_eq (x := i1.toInt) (y := 0) rfl rfl).mp c_1
    refine lv_iconst (v := 1) hx hb dX11_isSide_9 (by decide) ?_
    refine lv_goto (tgt := 14) hx hb dX11_isSide_10 (by decide) ?_
    exact W.zret (v := 1) hx hb hr rfl (fun t ht hW => ⟨⟨1, (), rfl, (Or.inl (⟨rfl, (show 0 ≤ i1.toInt by omega), (show i1.toInt ≤ 1 by omega)⟩)), trivial⟩, hS.F ht⟩) hS.2.2 dX11_isSide_14
  · have c_1 : ¬ i1.toInt = 0 := fun h => c_1 ((c_eq (x := i1.toInt) (y := 0) rfl rfl).mpr h)
    refine lv_iload_n hx hb dX11_isSide_4 rfl (lv_at hl 0 rfl) ?_
    refine lv_iconst (v := 1) hx hb dX11_isSide_5 (by decide) ?_
    refine lv_icmp_ne (tgt := 13) hx hb dX11_isSide_6 (by decide) (fun c_2 => ?_) (fun c_2 => ?_)
    · have c_2 : ¬ i1.toInt = 1 := fun h => c_2 ((c_eq (x := i1.toInt) (y := 1) rfl rfl).mpr h)
      refine lv_iconst (v := 0) hx hb dX11_isSide_13 (by decide) ?_
      exact W.zret (v := 0) hx hb hr rfl (fun t ht hW => ⟨⟨0, (), rfl, (Or.inr rfl), trivial⟩, hS.F ht⟩) hS.2.2 dX11_isSide_14
    · have c_2 : i1.toInt = 1 := (c_eq (x := i1.toInt) (y := 1) rfl rfl).mp c_2
      refine lv_iconst (v := 1) hx hb dX11_isSide_9 (by decide) ?_
      refine lv_goto (tgt := 14) hx hb dX11_isSide_10 (by decide) ?_
      exact W.zret (v := 1) hx hb hr rfl (fun t ht hW => ⟨⟨1, (), rfl, (Or.inl (⟨rfl, (show 0 ≤ i1.toInt by omega), (show i1.toInt ≤ 1 by omega)⟩)), trivial⟩, hS.F ht⟩) hS.2.2 dX11_isSide_14

set_option maxHeartbeats 4000000 in
set_option maxRecDepth 100000 in
theorem c_X11_cut (l : Launch) (D : va_G) (T : Nat → ClassId) (i2 : Int32) (v0 : Int64) : Met l yX11_cut (wM yX11_cut cX11_cut 3 (some .long)) ({ frames := 0, cells := 0, slots := 0, locals := 0 }) (va_Pc [.long v0, .int i2] (pwP D T [])) (va_Ql (fun (r : Int64) (u : Unit) => True) (fun _ _ => True) (fun _ => False)) 0 0 (fun _ => False) := by
  refine Met.ofW (cc := cX11_cut) (maxL := 3) (ret := (some .long)) (by decide) rfl ?_
  intro p e s m args below meth c s₁ B hml hv
  obtain ⟨rfl, hP, hC⟩ := hv
  have hx := B.exec
  have hb := B.bytes
  have hr := B.returns
  have hts : ∀ w ∈ gt, w.before _ s = true := fun w hw => atoms_spec (ws := (wM yX11_cut cX11_cut 3 (some .long))) B.pre w (List.mem_cons_of_mem _ hw)
  have hown : s.vm.findClass RX11 = some m.cls := findClass_of_methodNamed B.named
  have hlocks := B.notSynchronized
  have hK := hC.1
  have hS : va_S (fun _ => False) s.heap s.heap [] := va_S.rf
  have hl := lv_entry ([.long v0, .int i2]) (n := 3) (Nat.le_of_ble_eq_true rfl)
  rw [lg_entry_eq]
  generalize (lg_sl ([.long v0, .int i2]) ++ List.replicate (3 - (lg_sl ([.long v0, .int i2])).length) Slot.unset).toArray = ls at hl ⊢
  have hl : lv_has ls 3 [(0, .long v0), (2, .int i2)] := hl
  refine lv_iload_n hx hb dX11_cut_0 rfl (lv_at hl 1 rfl) ?_
  refine lv_if_ne (tgt := 11) hx hb dX11_cut_1 (by decide) (fun c_1 => ?_) (fun c_1 => ?_)
  · have c_1 : ¬ i2.toInt = 0 := fun h => c_1 ((c_eq (x := i2.toInt) (y := 0) rfl rfl).mpr h)
    refine lv_iload_n hx hb dX11_cut_11 rfl (lv_at hl 1 rfl) ?_
    refine lv_iconst (v := 1) hx hb dX11_cut_12 (by decide) ?_
    refine lv_icmp_ne (tgt := 23) hx hb dX11_cut_13 (by decide) (fun c_2 => ?_) (fun c_2 => ?_)
    · have c_2 : ¬ i2.toInt = 1 := fun h => c_2 ((c_eq (x := i2.toInt) (y := 1) rfl rfl).mpr h)
      refine lv_iload_n hx hb dX11_cut_23 rfl (lv_at hl 1 rfl) ?_
      refine lv_iconst (v := 2) hx hb dX11_cut_24 (by decide) ?_
      refine lv_icmp_ne (tgt := 34) hx hb dX11_cut_25 (by decide) (fun c_3 => ?_) (fun c_3 => ?_)
      · have c_3 : ¬ i2.toInt = 2 := fun h => c_3 ((c_eq (x := i2.toInt) (y := 2) rfl rfl).mpr h)
        refine lv_lload_n hx hb dX11_cut_34 rfl (lv_at hl 0 rfl) ?_
        exact W.lret (v := v0) hx hb hr (fun t ht hW => ⟨⟨v0, (), rfl, trivial, trivial⟩, hS.F ht⟩) hS.2.2 dX11_cut_35
      · have c_3 : i2.toInt = 2 := (c_eq (x := i2.toInt) (y := 2) rfl rfl).mp c_3
        refine lv_lload_n hx hb dX11_cut_28 rfl (lv_at hl 0 rfl) ?_
        refine lv_l2i hx hb dX11_cut_29 rfl ?_
        refine lv_topi (fun x_4 ex_4 => ?_)
        refine lv_i2l hx hb dX11_cut_30 rfl ?_
        refine lv_goto (tgt := 35) hx hb dX11_cut_31 (by decide) ?_
        exact W.lret (v := x_4.toInt64) hx hb hr (fun t ht hW => ⟨⟨x_4.toInt64, (), rfl, trivial, trivial⟩, hS.F ht⟩) hS.2.2 dX11_cut_35
    · have c_2 : i2.toInt = 1 := (c_eq (x := i2.toInt) (y := 1) rfl rfl).mp c_2
      refine lv_lload_n hx hb dX11_cut_16 rfl (lv_at hl 0 rfl) ?_
      refine lv_l2i hx hb dX11_cut_17 rfl ?_
      refine lv_topi (fun x_5 ex_5 => ?_)
      refine lv_i2s hx hb dX11_cut_18 rfl ?_
      refine lv_topi (fun x_6 ex_6 => ?_)
      refine lv_i2l hx hb dX11_cut_19 rfl ?_
      refine lv_goto (tgt := 35) hx hb dX11_cut_20 (by decide) ?_
      exact W.lret (v := x_6.toInt64) hx hb hr (fun t ht hW => ⟨⟨x_6.toInt64, (), rfl, trivial, trivial⟩, hS.F ht⟩) hS.2.2 dX11_cut_35
  · have c_1 : i2.toInt = 0 := (c_eq (x := i2.toInt) (y := 0) rfl rfl).mp c_1
    refine lv_lload_n hx hb dX11_cut_4 rfl (lv_at hl 0 rfl) ?_
    refine lv_l2i hx hb dX11_cut_5 rfl ?_
    refine lv_topi (fun x_7 ex_7 => ?_)
    refine lv_i2b hx hb dX11_cut_6 rfl ?_
    refine lv_topi (fun x_8 ex_8 => ?_)
    refine lv_i2l hx hb dX11_cut_7 rfl ?_
    refine lv_goto (tgt := 35) hx hb dX11_cut_8 (by decide) ?_
    exact W.lret (v := x_8.toInt64) hx hb hr (fun t ht hW => ⟨⟨x_8.toInt64, (), rfl, trivial, trivial⟩, hS.F ht⟩) hS.2.2 dX11_cut_35

set_option maxHeartbeats 4000000 in
set_option maxRecDepth 100000 in
theorem c_X11_at (l : Launch) (D : va_G) (T : Nat → ClassId) (i1 i2 i3 : Int32) (h_i1 : 0 ≤ i1.toInt ∧ i1.toInt ≤ 4) (h_i2 : 0 ≤ i2.toInt ∧ i2.toInt ≤ 1) (h_i3 : 0 ≤ i3.toInt ∧ i3.toInt ≤ 7) : Met l yX11_at (wM yX11_at cX11_at 3 (some .int)) ({ frames := 0, cells := 0, slots := 0, locals := 0 }) (va_Pc [.int i1, .int i2, .int i3] (pwP D T [])) (va_Qi (fun (r : Int32) (u : Unit) => (r.toInt = 16 * i1.toInt + 8 * i2.toInt + i3.toInt)) (fun _ _ => True) (fun _ => False)) 0 0 (fun _ => False) := by
  refine Met.ofW (cc := cX11_at) (maxL := 3) (ret := (some .int)) (by decide) rfl ?_
  intro p e s m args below meth c s₁ B hml hv
  obtain ⟨rfl, hP, hC⟩ := hv
  have hx := B.exec
  have hb := B.bytes
  have hr := B.returns
  have hts : ∀ w ∈ gt, w.before _ s = true := fun w hw => atoms_spec (ws := (wM yX11_at cX11_at 3 (some .int))) B.pre w (List.mem_cons_of_mem _ hw)
  have hown : s.vm.findClass RX11 = some m.cls := findClass_of_methodNamed B.named
  have hlocks := B.notSynchronized
  have hK := hC.1
  have hS : va_S (fun _ => False) s.heap s.heap [] := va_S.rf
  have hl := lv_entry ([.int i1, .int i2, .int i3]) (n := 3) (Nat.le_of_ble_eq_true rfl)
  rw [lg_entry_eq]
  generalize (lg_sl ([.int i1, .int i2, .int i3]) ++ List.replicate (3 - (lg_sl ([.int i1, .int i2, .int i3])).length) Slot.unset).toArray = ls at hl ⊢
  have hl : lv_has ls 3 [(0, .int i1), (1, .int i2), (2, .int i3)] := hl
  refine lv_bipush (v := 16) hx hb dX11_at_0 (by decide) ?_
  refine lv_iload_n hx hb dX11_at_2 rfl (lv_at hl 0 rfl) ?_
  refine lv_imul hx hb dX11_at_3 ?_
  refine lv_topi (fun x_1 ex_1 => ?_)
  have tx_1 : x_1.toInt = 16 * i1.toInt := t_mul (x := 16) (y := i1.toInt) ex_1 rfl rfl (by omega) (by omega)
  refine lv_bipush (v := 8) hx hb dX11_at_4 (by decide) ?_
  refine lv_iload_n hx hb dX11_at_6 rfl (lv_at hl 1 rfl) ?_
  refine lv_imul hx hb dX11_at_7 ?_
  refine lv_topi (fun x_2 ex_2 => ?_)
  have tx_2 : x_2.toInt = 8 * i2.toInt := t_mul (x := 8) (y := i2.toInt) ex_2 rfl rfl (by omega) (by omega)
  refine lv_iadd hx hb dX11_at_8 ?_
  refine lv_topi (fun x_3 ex_3 => ?_)
  have tx_3 : x_3.toInt = x_1.toInt + x_2.toInt := t_add (x := x_1.toInt) (y := x_2.toInt) ex_3 rfl rfl (by omega) (by omega)
  refine lv_iload_n hx hb dX11_at_9 rfl (lv_at hl 2 rfl) ?_
  refine lv_iadd hx hb dX11_at_10 ?_
  refine lv_topi (fun x_4 ex_4 => ?_)
  have tx_4 : x_4.toInt = x_3.toInt + i3.toInt := t_add (x := x_3.toInt) (y := i3.toInt) ex_4 rfl rfl (by omega) (by omega)
  exact W.iret (v := x_4) hx hb hr (fun t ht hW => ⟨⟨x_4, (), rfl, (show x_4.toInt = 16 * i1.toInt + 8 * i2.toInt + i3.toInt by omega), trivial⟩, hS.F ht⟩) hS.2.2 dX11_at_11

set_option maxHeartbeats 4000000 in
set_option maxRecDepth 100000 in
theorem c_X11_at_ (l : Launch) (D : va_G) (T : Nat → ClassId) (i1 i2 i3 i4 : Int32) (h_i1 : 0 ≤ i1.toInt ∧ i1.toInt ≤ 4) (h_i2 : 0 ≤ i2.toInt ∧ i2.toInt ≤ 1) (h_i3 : 0 ≤ i3.toInt ∧ i3.toInt ≤ 7) (h_i4 : 0 ≤ i4.toInt ∧ i4.toInt ≤ 11) : Met l yX11_at_ (wM yX11_at_ cX11_at_ 4 (some .int)) ({ frames := 1, cells := 0, slots := 0, locals := 22 }) (va_Pc [.int i1, .int i2, .int i3, .int i4] (pwP D T [])) (va_Qi (fun (r : Int32) (u : Unit) => (r.toInt = 12 * (16 * i1.toInt + 8 * i2.toInt + i3.toInt) + i4.toInt)) (fun _ _ => True) (fun _ => False)) 0 0 (fun _ => False) := by
  refine Met.ofW (cc := cX11_at_) (maxL := 4) (ret := (some .int)) (by decide) rfl ?_
  intro p e s m args below meth c s₁ B hml hv
  obtain ⟨rfl, hP, hC⟩ := hv
  have hx := B.exec
  have hb := B.bytes
  have hr := B.returns
  have hts : ∀ w ∈ gt, w.before _ s = true := fun w hw => atoms_spec (ws := (wM yX11_at_ cX11_at_ 4 (some .int))) B.pre w (List.mem_cons_of_mem _ hw)
  have hown : s.vm.findClass RX11 = some m.cls := findClass_of_methodNamed B.named
  have hlocks := B.notSynchronized
  have hK := hC.1
  have hS : va_S (fun _ => False) s.heap s.heap [] := va_S.rf
  have hl := lv_entry ([.int i1, .int i2, .int i3, .int i4]) (n := 4) (Nat.le_of_ble_eq_true rfl)
  rw [lg_entry_eq]
  generalize (lg_sl ([.int i1, .int i2, .int i3, .int i4]) ++ List.replicate (4 - (lg_sl ([.int i1, .int i2, .int i3, .int i4])).length) Slot.unset).toArray = ls at hl ⊢
  have hl : lv_has ls 4 [(0, .int i1), (1, .int i2), (2, .int i3), (3, .int i4)] := hl
  refine lv_bipush (v := 12) hx hb dX11_at__0 (by decide) ?_
  refine lv_iload_n hx hb dX11_at__2 rfl (lv_at hl 0 rfl) ?_
  refine lv_iload_n hx hb dX11_at__3 rfl (lv_at hl 1 rfl) ?_
  refine lv_iload_n hx hb dX11_at__4 rfl (lv_at hl 2 rfl) ?_
  refine puI (cS (As := [.int i1, .int i2, .int i3]) (rest := [.int 12]) ⟨hx, hb, hml, hown, hts⟩ (c_X11_at l D T i1 i2 i3 ⟨by omega, by omega⟩ ⟨by omega, by omega⟩ ⟨by omega, by omega⟩) k_X11_at m1635 m1634 rfl rfl ⟨(Nat.le_of_ble_eq_true rfl), (Nat.le_of_ble_eq_true rfl)⟩ (preP hC (hP.sub (ws' := []) [] rfl)) rfl hl.1 rfl (Nat.le_of_ble_eq_true rfl) dX11_at__5 ⟨(Nat.le_of_ble_eq_true rfl), (Nat.le_of_ble_eq_true rfl)⟩) hS hP (fun r_1 H locs hw hP hS => ?_)
  have w_3 : (r_1.toInt = 16 * i1.toInt + 8 * i2.toInt + i3.toInt) := hw
  obtain c_4 := w_3
  refine lv_imul hx hb dX11_at__8 ?_
  refine lv_topi (fun x_5 ex_5 => ?_)
  have tx_5 : x_5.toInt = 12 * r_1.toInt := t_mul (x := 12) (y := r_1.toInt) ex_5 rfl rfl (by omega) (by omega)
  refine lv_iload_n hx hb dX11_at__9 rfl (lv_at hl 3 rfl) ?_
  refine lv_iadd hx hb dX11_at__10 ?_
  refine lv_topi (fun x_6 ex_6 => ?_)
  have tx_6 : x_6.toInt = x_5.toInt + i4.toInt := t_add (x := x_5.toInt) (y := i4.toInt) ex_6 rfl rfl (by omega) (by omega)
  exact W.iret (v := x_6) hx hb hr (fun t ht hW => ⟨⟨x_6, (), rfl, (show x_6.toInt = 12 * (16 * i1.toInt + 8 * i2.toInt + i3.toInt) + i4.toInt by omega), trivial⟩, hS.F ht⟩) hS.2.2 dX11_at__11

set_option maxHeartbeats 4000000 in
set_option maxRecDepth 100000 in
theorem c_X11_isTown (l : Launch) (D : va_G) (T : Nat → ClassId) (y1 y16 y17 y18 y19 y2 y20 y21 y22 y23 y24 y25 y26 y27 y28 y29 y3 y30 y31 y32 y36 y4 y40 y41 y42 y5 ym : Nat) (w0 w10 w12 w13 w14 w15 w33 w34 w35 w37 w38 w39 w43 w6 w7 w8 w9 : Int32) (v11 v44 : Int64) (c17 : Nat → Int32) (h_w6 : 0 ≤ w6.toInt ∧ w6.toInt ≤ 1600) (h_w43 : 0 ≤ w43.toInt ∧ w43.toInt ≤ 16) (P_0 : pg 3 0 0 8 c17) (P_1 : pg 3 1 0 12 c17) : Met l yX11_isTown (wM yX11_isTown cX11_isTown 1 (some .boolean)) ({ frames := 0, cells := 0, slots := 0, locals := 0 }) (va_Pc [.ref ym] (pwP D T [(ym, .inr (11, [.int w0, .ref y1, .ref y2, .ref y3, .ref y4, .ref y5, .int w6, .int w7, .int w8, .int w9, .int w10, .long v11, .int w12, .int w13, .int w14, .int w15, .ref y16, .ref y17, .ref y18, .ref y19, .ref y20, .ref y21, .ref y22, .ref y23, .ref y24, .ref y25, .ref y26, .ref y27, .ref y28, .ref y29, .ref y30, .ref y31, .ref y32, .int w33, .int w34, .int w35, .ref y36, .int w37, .int w38, .int w39, .ref y40, .ref y41, .ref y42, .int w43, .long v44])), (y17, .inl (T 0, 15, .inl c17))])) (va_Qi (fun (r : Int32) (u : Unit) => (r = 1 ∧ 0 < (c17 0).toInt) ∨ (r = 0 ∧ (c17 0).toInt ≤ 0)) (fun _ _ => True) (fun _ => False)) 0 0 (fun _ => False) := by
  refine Met.ofW (cc := cX11_isTown) (maxL := 1) (ret := (some .boolean)) (by decide) rfl ?_
  intro p e s m args below meth c s₁ B hml hv
  obtain ⟨rfl, hP, hC⟩ := hv
  have hx := B.exec
  have hb := B.bytes
  have hr := B.returns
  have hts : ∀ w ∈ gt, w.before _ s = true := fun w hw => atoms_spec (ws := (wM yX11_isTown cX11_isTown 1 (some .boolean))) B.pre w (List.mem_cons_of_mem _ hw)
  have hown : s.vm.findClass RX11 = some m.cls := findClass_of_methodNamed B.named
  have hlocks := B.notSynchronized
  have hK := hC.1
  have hS : va_S (fun _ => False) s.heap s.heap [] := va_S.rf
  have hl := lv_entry ([.ref ym]) (n := 1) (Nat.le_of_ble_eq_true rfl)
  rw [lg_entry_eq]
  generalize (lg_sl ([.ref ym]) ++ List.replicate (1 - (lg_sl ([.ref ym])).length) Slot.unset).toArray = ls at hl ⊢
  have hl : lv_has ls 1 [(0, .ref ym)] := hl
  have b_y17_0 : 0 ≤ (c17 0).toInt ∧ (c17 0).toInt ≤ 8 := P_0 0
  have b_y17_1 : 0 ≤ (c17 1).toInt ∧ (c17 1).toInt ≤ 12 := P_1 0
  refine lv_aload_n hx hb dX11_isTown_0 rfl (lv_at hl 0 rfl) ?_
  refine va_get (D := D) (ci := 11) (C := RX11) (T := TX11) (N := 45) hx hb hts iX11 hown hK hP 0 rfl rfl 17 (by decide) (hts _ m1335) (fun _ h9 => h9) rfl dX11_isTown_1 ?_
  refine lv_iconst (v := 0) hx hb dX11_isTown_4 (by decide) ?_
  refine va_iald (D := D) hx hb hK hP 1 0 rfl rfl (by unfold vp_in; decide) dX11_isTown_5 ?_
  refine lv_topi (fun x_1 ex_1 => ?_)
  have tx_1 : 0 ≤ x_1.toInt ∧ x_1.toInt ≤ 8 := pg_at P_0 (j := 0) ex_1 rfl
  have qx_1 : x_1.toInt = (c17 0).toInt := by rw [ex_1]; rfl
  refine lv_if_le (tgt := 13) hx hb dX11_isTown_6 (by decide) (fun c_2 => ?_) (fun c_2 => ?_)
  · have c_2 : x_1.toInt ≤ 0 := (c_le (x := x_1.toInt) (y := 0) rfl rfl).mp c_2
    refine lv_iconst (v := 0) hx hb dX11_isTown_13 (by decide) ?_
    exact W.zret (v := 0) hx hb hr rfl (fun t ht hW => ⟨⟨0, (), rfl, (Or.inr (⟨rfl, (show (c17 0).toInt ≤ 0 by omega)⟩)), trivial⟩, hS.F ht⟩) hS.2.2 dX11_isTown_14
  · have c_2 : 0 < x_1.toInt := by have h := mt (c_le (x := x_1.toInt) (y := 0) rfl rfl).mpr c_2; omega
    refine lv_iconst (v := 1) hx hb dX11_isTown_9 (by decide) ?_
    refine lv_goto (tgt := 14) hx hb dX11_isTown_10 (by decide) ?_
    exact W.zret (v := 1) hx hb hr rfl (fun t ht hW => ⟨⟨1, (), rfl, (Or.inl (⟨rfl, (show 0 < (c17 0).toInt by omega)⟩)), trivial⟩, hS.F ht⟩) hS.2.2 dX11_isTown_14

set_option maxHeartbeats 4000000 in
set_option maxRecDepth 100000 in
theorem c_X11_isColumn (l : Launch) (D : va_G) (T : Nat → ClassId) (y1 y16 y17 y18 y19 y2 y20 y21 y22 y23 y24 y25 y26 y27 y28 y29 y3 y30 y31 y32 y36 y4 y40 y41 y42 y5 ym : Nat) (i1 i2 w0 w10 w12 w13 w14 w15 w33 w34 w35 w37 w38 w39 w43 w6 w7 w8 w9 : Int32) (v11 v44 : Int64) (c17 : Nat → Int32) (h_w6 : 0 ≤ w6.toInt ∧ w6.toInt ≤ 1600) (h_w43 : 0 ≤ w43.toInt ∧ w43.toInt ≤ 16) (P_0 : pg 3 0 0 8 c17) (P_1 : pg 3 1 0 12 c17) : Met l yX11_isColumn (wM yX11_isColumn cX11_isColumn 3 (some .boolean)) ({ frames := 1, cells := 0, slots := 0, locals := 25 }) (va_Pc [.ref ym, .int i1, .int i2] (pwP D T [(ym, .inr (11, [.int w0, .ref y1, .ref y2, .ref y3, .ref y4, .ref y5, .int w6, .int w7, .int w8, .int w9, .int w10, .long v11, .int w12, .int w13, .int w14, .int w15, .ref y16, .ref y17, .ref y18, .ref y19, .ref y20, .ref y21, .ref y22, .ref y23, .ref y24, .ref y25, .ref y26, .ref y27, .ref y28, .ref y29, .ref y30, .ref y31, .ref y32, .int w33, .int w34, .int w35, .ref y36, .int w37, .int w38, .int w39, .ref y40, .ref y41, .ref y42, .int w43, .long v44])), (y17, .inl (T 0, 15, .inl c17))])) (va_Qi (fun (r : Int32) (u : Unit) => (r = 1 ∧ 0 ≤ i1.toInt ∧ i1.toInt ≤ 1 ∧ 0 ≤ i2.toInt ∧ i2.toInt < (c17 0).toInt) ∨ (r = 0)) (fun _ _ => True) (fun _ => False)) 0 0 (fun _ => False) := by
  refine Met.ofW (cc := cX11_isColumn) (maxL := 3) (ret := (some .boolean)) (by decide) rfl ?_
  intro p e s m args below meth c s₁ B hml hv
  obtain ⟨rfl, hP, hC⟩ := hv
  have hx := B.exec
  have hb := B.bytes
  have hr := B.returns
  have hts : ∀ w ∈ gt, w.before _ s = true := fun w hw => atoms_spec (ws := (wM yX11_isColumn cX11_isColumn 3 (some .boolean))) B.pre w (List.mem_cons_of_mem _ hw)
  have hown : s.vm.findClass RX11 = some m.cls := findClass_of_methodNamed B.named
  have hlocks := B.notSynchronized
  have hK := hC.1
  have hS : va_S (fun _ => False) s.heap s.heap [] := va_S.rf
  have hl := lv_entry ([.ref ym, .int i1, .int i2]) (n := 3) (Nat.le_of_ble_eq_true rfl)
  rw [lg_entry_eq]
  generalize (lg_sl ([.ref ym, .int i1, .int i2]) ++ List.replicate (3 - (lg_sl ([.ref ym, .int i1, .int i2])).length) Slot.unset).toArray = ls at hl ⊢
  have hl : lv_has ls 3 [(0, .ref ym), (1, .int i1), (2, .int i2)] := hl
  have b_y17_0 : 0 ≤ (c17 0).toInt ∧ (c17 0).toInt ≤ 8 := P_0 0
  have b_y17_1 : 0 ≤ (c17 1).toInt ∧ (c17 1).toInt ≤ 12 := P_1 0
  refine lv_iload_n hx hb dX11_isColumn_0 rfl (lv_at hl 1 rfl) ?_
  refine puI (cS (As := [.int i1]) (rest := []) ⟨hx, hb, hml, hown, hts⟩ (c_X11_isSide l D T i1) k_X11_isSide m1616 m1615 rfl rfl ⟨(Nat.le_of_ble_eq_true rfl), (Nat.le_of_ble_eq_true rfl)⟩ (preP hC (hP.sub (ws' := []) [] rfl)) rfl hl.1 rfl (Nat.le_of_ble_eq_true rfl) dX11_isColumn_1 ⟨(Nat.le_of_ble_eq_true rfl), (Nat.le_of_ble_eq_true rfl)⟩) hS hP (fun r_1 H locs hw hP hS => ?_)
  have w_3 : (r_1 = 1 ∧ 0 ≤ i1.toInt ∧ i1.toInt ≤ 1) ∨ (r_1 = 0) := hw
  rcases w_3 with ⟨rfl, c_4, c_5⟩ | rfl
  · refine lv_if_eq (tgt := 29) hx hb dX11_isColumn_4 (by decide) (fun c_6 => absurd c_6 (by decide)) (fun _ => ?_)
    refine lv_iload_n hx hb dX11_isColumn_7 rfl (lv_at hl 2 rfl) ?_
    refine lv_i2l hx hb dX11_isColumn_8 rfl ?_
    refine lv_lconst (v := 0) hx hb dX11_isColumn_9 (by decide) ?_
    refine lv_aload_n hx hb dX11_isColumn_10 rfl (lv_at hl 0 rfl) ?_
    refine va_get (D := D) (ci := 11) (C := RX11) (T := TX11) (N := 45) hx hb hts iX11 hown hK hP 0 rfl rfl 17 (by decide) (hts _ m1335) (fun _ h9 => h9) rfl dX11_isColumn_11 ?_
    refine lv_iconst (v := 0) hx hb dX11_isColumn_14 (by decide) ?_
    refine va_iald (D := D) hx hb hK hP 1 0 rfl rfl (by unfold vp_in; decide) dX11_isColumn_15 ?_
    refine lv_topi (fun x_7 ex_7 => ?_)
    have tx_7 : 0 ≤ x_7.toInt ∧ x_7.toInt ≤ 8 := pg_at P_0 (j := 0) ex_7 rfl
    have qx_7 : x_7.toInt = (c17 0).toInt := by rw [ex_7]; rfl
    refine lv_iconst (v := 1) hx hb dX11_isColumn_16 (by decide) ?_
    refine lv_isub hx hb dX11_isColumn_17 ?_
    refine lv_topi (fun x_8 ex_8 => ?_)
    have tx_8 : x_8.toInt = x_7.toInt - 1 := t_sub (x := x_7.toInt) (y := 1) ex_8 rfl rfl (by omega) (by omega)
    refine lv_i2l hx hb dX11_isColumn_18 rfl ?_
    refine puI (cS (As := [.long i2.toInt64, .long 0, .long x_8.toInt64]) (rest := []) ⟨hx, hb, hml, hown, hts⟩ (c_X11_in l D T i2.toInt64 0 x_8.toInt64) k_X11_in m1462 m1461 rfl rfl ⟨(Nat.le_of_ble_eq_true rfl), (Nat.le_of_ble_eq_true rfl)⟩ (preP hC (hP.sub (ws' := []) [] rfl)) rfl hl.1 rfl (Nat.le_of_ble_eq_true rfl) dX11_isColumn_19 ⟨(Nat.le_of_ble_eq_true rfl), (Nat.le_of_ble_eq_true rfl)⟩) hS hP (fun r_9 H locs hw hP hS => ?_)
    have w_11 : (r_9 = 1 ∧ (0 : Int64).toInt ≤ i2.toInt64.toInt ∧ i2.toInt64.toInt ≤ x_8.toInt64.toInt) ∨ (r_9 = 0 ∧ (i2.toInt64.toInt < (0 : Int64).toInt ∨ x_8.toInt64.toInt < i2.toInt64.toInt)) := hw
    rcases w_11 with ⟨rfl, c_12, c_13⟩ | ⟨rfl, c_14⟩
    · have c_12 : 0 ≤ i2.toInt := kle (by decide) (i_64 _) c_12
      have c_13 : i2.toInt ≤ x_8.toInt := kle (i_64 _) (i_64 _) c_13
      refine lv_if_eq (tgt := 29) hx hb dX11_isColumn_22 (by decide) (fun c_15 => absurd c_15 (by decide)) (fun _ => ?_)
      refine lv_iconst (v := 1) hx hb dX11_isColumn_25 (by decide) ?_
      refine lv_goto (tgt := 30) hx hb dX11_isColumn_26 (by decide) ?_
      exact W.zret (v := 1) hx hb hr rfl (fun t ht hW => ⟨⟨1, (), rfl, (Or.inl (⟨rfl, (show 0 ≤ i1.toInt by omega), (show i1.toInt ≤ 1 by omega), (show 0 ≤ i2.toInt by omega), (show i2.toInt < (c17 0).toInt by omega)⟩)), trivial⟩, hS.F ht⟩) hS.2.2 dX11_isColumn_30
    · have c_14 : i2.toInt < 0 ∨ x_8.toInt < i2.toInt := klo (i_64 _) (by decide) (i_64 _) c_14
      refine lv_if_eq (tgt := 29) hx hb dX11_isColumn_22 (by decide) (fun _ => ?_) (fun c_16 => absurd (by decide) c_16)
      refine lv_iconst (v := 0) hx hb dX11_isColumn_29 (by decide) ?_
      exact W.zret (v := 0) hx hb hr rfl (fun t ht hW => ⟨⟨0, (), rfl, (Or.inr rfl), trivial⟩, hS.F ht⟩) hS.2.2 dX11_isColumn_30
  · refine lv_if_eq (tgt := 29) hx hb dX11_isColumn_4 (by decide) (fun _ => ?_) (fun c_17 => absurd (by decide) c_17)
    refine lv_iconst (v := 0) hx hb dX11_isColumn_29 (by decide) ?_
    exact W.zret (v := 0) hx hb hr rfl (fun t ht hW => ⟨⟨0, (), rfl, (Or.inr rfl), trivial⟩, hS.F ht⟩) hS.2.2 dX11_isColumn_30

set_option maxHeartbeats 4000000 in
set_option maxRecDepth 100000 in
theorem c_X11_isSort (l : Launch) (D : va_G) (T : Nat → ClassId) (y1 y16 y17 y18 y19 y2 y20 y21 y22 y23 y24 y25 y26 y27 y28 y29 y3 y30 y31 y32 y36 y4 y40 y41 y42 y5 ym : Nat) (i1 w0 w10 w12 w13 w14 w15 w33 w34 w35 w37 w38 w39 w43 w6 w7 w8 w9 : Int32) (v11 v44 : Int64) (c18 : Nat → Int32) (h_w6 : 0 ≤ w6.toInt ∧ w6.toInt ≤ 1600) (h_w43 : 0 ≤ w43.toInt ∧ w43.toInt ≤ 16) (R_c18 : rg 0 5 c18) : Met l yX11_isSort (wM yX11_isSort cX11_isSort 2 (some .boolean)) ({ frames := 1, cells := 0, slots := 0, locals := 25 }) (va_Pc [.ref ym, .int i1] (pwP D T [(ym, .inr (11, [.int w0, .ref y1, .ref y2, .ref y3, .ref y4, .ref y5, .int w6, .int w7, .int w8, .int w9, .int w10, .long v11, .int w12, .int w13, .int w14, .int w15, .ref y16, .ref y17, .ref y18, .ref y19, .ref y20, .ref y21, .ref y22, .ref y23, .ref y24, .ref y25, .ref y26, .ref y27, .ref y28, .ref y29, .ref y30, .ref y31, .ref y32, .int w33, .int w34, .int w35, .ref y36, .int w37, .int w38, .int w39, .ref y40, .ref y41, .ref y42, .int w43, .long v44])), (y18, .inl (T 0, 5, .inl c18))])) (va_Qi (fun (r : Int32) (u : Unit) => (r = 1 ∧ 0 ≤ i1.toInt ∧ i1.toInt < (c18 0).toInt) ∨ (r = 0)) (fun _ _ => True) (fun _ => False)) 0 0 (fun _ => False) := by
  refine Met.ofW (cc := cX11_isSort) (maxL := 2) (ret := (some .boolean)) (by decide) rfl ?_
  intro p e s m args below meth c s₁ B hml hv
  obtain ⟨rfl, hP, hC⟩ := hv
  have hx := B.exec
  have hb := B.bytes
  have hr := B.returns
  have hts : ∀ w ∈ gt, w.before _ s = true := fun w hw => atoms_spec (ws := (wM yX11_isSort cX11_isSort 2 (some .boolean))) B.pre w (List.mem_cons_of_mem _ hw)
  have hown : s.vm.findClass RX11 = some m.cls := findClass_of_methodNamed B.named
  have hlocks := B.notSynchronized
  have hK := hC.1
  have hS : va_S (fun _ => False) s.heap s.heap [] := va_S.rf
  have hl := lv_entry ([.ref ym, .int i1]) (n := 2) (Nat.le_of_ble_eq_true rfl)
  rw [lg_entry_eq]
  generalize (lg_sl ([.ref ym, .int i1]) ++ List.replicate (2 - (lg_sl ([.ref ym, .int i1])).length) Slot.unset).toArray = ls at hl ⊢
  have hl : lv_has ls 2 [(0, .ref ym), (1, .int i1)] := hl
  have b_y18 : 0 ≤ (c18 0).toInt ∧ (c18 0).toInt ≤ 5 := R_c18 0
  have b_y18_4 : 0 ≤ (c18 4).toInt ∧ (c18 4).toInt ≤ 5 := R_c18 4
  refine lv_iload_n hx hb dX11_isSort_0 rfl (lv_at hl 1 rfl) ?_
  refine lv_i2l hx hb dX11_isSort_1 rfl ?_
  refine lv_lconst (v := 0) hx hb dX11_isSort_2 (by decide) ?_
  refine lv_aload_n hx hb dX11_isSort_3 rfl (lv_at hl 0 rfl) ?_
  refine va_get (D := D) (ci := 11) (C := RX11) (T := TX11) (N := 45) hx hb hts iX11 hown hK hP 0 rfl rfl 18 (by decide) (hts _ m1336) (fun _ h9 => h9) rfl dX11_isSort_4 ?_
  refine lv_iconst (v := 0) hx hb dX11_isSort_7 (by decide) ?_
  refine va_iald (D := D) hx hb hK hP 1 0 rfl rfl (by unfold vp_in; decide) dX11_isSort_8 ?_
  refine lv_topi (fun x_1 ex_1 => ?_)
  have tx_1 : 0 ≤ x_1.toInt ∧ x_1.toInt ≤ 5 := rg_at R_c18 ex_1
  have qx_1 : x_1.toInt = (c18 0).toInt := by rw [ex_1]; rfl
  refine lv_iconst (v := 1) hx hb dX11_isSort_9 (by decide) ?_
  refine lv_isub hx hb dX11_isSort_10 ?_
  refine lv_topi (fun x_2 ex_2 => ?_)
  have tx_2 : x_2.toInt = x_1.toInt - 1 := t_sub (x := x_1.toInt) (y := 1) ex_2 rfl rfl (by omega) (by omega)
  refine lv_i2l hx hb dX11_isSort_11 rfl ?_
  refine puI (cS (As := [.long i1.toInt64, .long 0, .long x_2.toInt64]) (rest := []) ⟨hx, hb, hml, hown, hts⟩ (c_X11_in l D T i1.toInt64 0 x_2.toInt64) k_X11_in m1462 m1461 rfl rfl ⟨(Nat.le_of_ble_eq_true rfl), (Nat.le_of_ble_eq_true rfl)⟩ (preP hC (hP.sub (ws' := []) [] rfl)) rfl hl.1 rfl (Nat.le_of_ble_eq_true rfl) dX11_isSort_12 ⟨(Nat.le_of_ble_eq_true rfl), (Nat.le_of_ble_eq_true rfl)⟩) hS hP (fun r_3 H locs hw hP hS => ?_)
  have w_5 : (r_3 = 1 ∧ (0 : Int64).toInt ≤ i1.toInt64.toInt ∧ i1.toInt64.toInt ≤ x_2.toInt64.toInt) ∨ (r_3 = 0 ∧ (i1.toInt64.toInt < (0 : Int64).toInt ∨ x_2.toInt64.toInt < i1.toInt64.toInt)) := hw
  rcases w_5 with ⟨rfl, c_6, c_7⟩ | ⟨rfl, c_8⟩
  · have c_6 : 0 ≤ i1.toInt := kle (by decide) (i_64 _) c_6
    have c_7 : i1.toInt ≤ x_2.toInt := kle (i_64 _) (i_64 _) c_7
    exact W.zret (v := 1) hx hb hr rfl (fun t ht hW => ⟨⟨1, (), rfl, (Or.inl (⟨rfl, (show 0 ≤ i1.toInt by omega), (show i1.toInt < (c18 0).toInt by omega)⟩)), trivial⟩, hS.F ht⟩) hS.2.2 dX11_isSort_15
  · have c_8 : i1.toInt < 0 ∨ x_2.toInt < i1.toInt := klo (i_64 _) (by decide) (i_64 _) c_8
    exact W.zret (v := 0) hx hb hr rfl (fun t ht hW => ⟨⟨0, (), rfl, (Or.inr rfl), trivial⟩, hS.F ht⟩) hS.2.2 dX11_isSort_15

set_option maxHeartbeats 4000000 in
set_option maxRecDepth 100000 in
theorem c_X11_isVoter (l : Launch) (D : va_G) (T : Nat → ClassId) (y1 y16 y17 y18 y19 y2 y20 y21 y22 y23 y24 y25 y26 y27 y28 y29 y3 y30 y31 y32 y36 y4 y40 y41 y42 y5 ym : Nat) (i1 w0 w10 w12 w13 w14 w15 w33 w34 w35 w37 w38 w39 w43 w6 w7 w8 w9 : Int32) (v11 v44 : Int64) (c20 : Nat → Int32) (h_w6 : 0 ≤ w6.toInt ∧ w6.toInt ≤ 1600) (h_w43 : 0 ≤ w43.toInt ∧ w43.toInt ≤ 16) (R_c20 : rg 0 10 c20) : Met l yX11_isVoter (wM yX11_isVoter cX11_isVoter 2 (some .boolean)) ({ frames := 1, cells := 0, slots := 0, locals := 25 }) (va_Pc [.ref ym, .int i1] (pwP D T [(ym, .inr (11, [.int w0, .ref y1, .ref y2, .ref y3, .ref y4, .ref y5, .int w6, .int w7, .int w8, .int w9, .int w10, .long v11, .int w12, .int w13, .int w14, .int w15, .ref y16, .ref y17, .ref y18, .ref y19, .ref y20, .ref y21, .ref y22, .ref y23, .ref y24, .ref y25, .ref y26, .ref y27, .ref y28, .ref y29, .ref y30, .ref y31, .ref y32, .int w33, .int w34, .int w35, .ref y36, .int w37, .int w38, .int w39, .ref y40, .ref y41, .ref y42, .int w43, .long v44])), (y20, .inl (T 0, 5, .inl c20))])) (va_Qi (fun (r : Int32) (u : Unit) => (r = 1 ∧ 0 ≤ i1.toInt ∧ i1.toInt < (c20 0).toInt) ∨ (r = 0)) (fun _ _ => True) (fun _ => False)) 0 0 (fun _ => False) := by
  refine Met.ofW (cc := cX11_isVoter) (maxL := 2) (ret := (some .boolean)) (by decide) rfl ?_
  intro p e s m args below meth c s₁ B hml hv
  obtain ⟨rfl, hP, hC⟩ := hv
  have hx := B.exec
  have hb := B.bytes
  have hr := B.returns
  have hts : ∀ w ∈ gt, w.before _ s = true := fun w hw => atoms_spec (ws := (wM yX11_isVoter cX11_isVoter 2 (some .boolean))) B.pre w (List.mem_cons_of_mem _ hw)
  have hown : s.vm.findClass RX11 = some m.cls := findClass_of_methodNamed B.named
  have hlocks := B.notSynchronized
  have hK := hC.1
  have hS : va_S (fun _ => False) s.heap s.heap [] := va_S.rf
  have hl := lv_entry ([.ref ym, .int i1]) (n := 2) (Nat.le_of_ble_eq_true rfl)
  rw [lg_entry_eq]
  generalize (lg_sl ([.ref ym, .int i1]) ++ List.replicate (2 - (lg_sl ([.ref ym, .int i1])).length) Slot.unset).toArray = ls at hl ⊢
  have hl : lv_has ls 2 [(0, .ref ym), (1, .int i1)] := hl
  have b_y20 : 0 ≤ (c20 0).toInt ∧ (c20 0).toInt ≤ 10 := R_c20 0
  have b_y20_4 : 0 ≤ (c20 4).toInt ∧ (c20 4).toInt ≤ 10 := R_c20 4
  refine lv_iload_n hx hb dX11_isVoter_0 rfl (lv_at hl 1 rfl) ?_
  refine lv_i2l hx hb dX11_isVoter_1 rfl ?_
  refine lv_lconst (v := 0) hx hb dX11_isVoter_2 (by decide) ?_
  refine lv_aload_n hx hb dX11_isVoter_3 rfl (lv_at hl 0 rfl) ?_
  refine va_get (D := D) (ci := 11) (C := RX11) (T := TX11) (N := 45) hx hb hts iX11 hown hK hP 0 rfl rfl 20 (by decide) (hts _ m1338) (fun _ h9 => h9) rfl dX11_isVoter_4 ?_
  refine lv_iconst (v := 0) hx hb dX11_isVoter_7 (by decide) ?_
  refine va_iald (D := D) hx hb hK hP 1 0 rfl rfl (by unfold vp_in; decide) dX11_isVoter_8 ?_
  refine lv_topi (fun x_1 ex_1 => ?_)
  have tx_1 : 0 ≤ x_1.toInt ∧ x_1.toInt ≤ 10 := rg_at R_c20 ex_1
  have qx_1 : x_1.toInt = (c20 0).toInt := by rw [ex_1]; rfl
  refine lv_iconst (v := 1) hx hb dX11_isVoter_9 (by decide) ?_
  refine lv_isub hx hb dX11_isVoter_10 ?_
  refine lv_topi (fun x_2 ex_2 => ?_)
  have tx_2 : x_2.toInt = x_1.toInt - 1 := t_sub (x := x_1.toInt) (y := 1) ex_2 rfl rfl (by omega) (by omega)
  refine lv_i2l hx hb dX11_isVoter_11 rfl ?_
  refine puI (cS (As := [.long i1.toInt64, .long 0, .long x_2.toInt64]) (rest := []) ⟨hx, hb, hml, hown, hts⟩ (c_X11_in l D T i1.toInt64 0 x_2.toInt64) k_X11_in m1462 m1461 rfl rfl ⟨(Nat.le_of_ble_eq_true rfl), (Nat.le_of_ble_eq_true rfl)⟩ (preP hC (hP.sub (ws' := []) [] rfl)) rfl hl.1 rfl (Nat.le_of_ble_eq_true rfl) dX11_isVoter_12 ⟨(Nat.le_of_ble_eq_true rfl), (Nat.le_of_ble_eq_true rfl)⟩) hS hP (fun r_3 H locs hw hP hS => ?_)
  have w_5 : (r_3 = 1 ∧ (0 : Int64).toInt ≤ i1.toInt64.toInt ∧ i1.toInt64.toInt ≤ x_2.toInt64.toInt) ∨ (r_3 = 0 ∧ (i1.toInt64.toInt < (0 : Int64).toInt ∨ x_2.toInt64.toInt < i1.toInt64.toInt)) := hw
  rcases w_5 with ⟨rfl, c_6, c_7⟩ | ⟨rfl, c_8⟩
  · have c_6 : 0 ≤ i1.toInt := kle (by decide) (i_64 _) c_6
    have c_7 : i1.toInt ≤ x_2.toInt := kle (i_64 _) (i_64 _) c_7
    exact W.zret (v := 1) hx hb hr rfl (fun t ht hW => ⟨⟨1, (), rfl, (Or.inl (⟨rfl, (show 0 ≤ i1.toInt by omega), (show i1.toInt < (c20 0).toInt by omega)⟩)), trivial⟩, hS.F ht⟩) hS.2.2 dX11_isVoter_15
  · have c_8 : i1.toInt < 0 ∨ x_2.toInt < i1.toInt := klo (i_64 _) (by decide) (i_64 _) c_8
    exact W.zret (v := 0) hx hb hr rfl (fun t ht hW => ⟨⟨0, (), rfl, (Or.inr rfl), trivial⟩, hS.F ht⟩) hS.2.2 dX11_isVoter_15

set_option maxHeartbeats 4000000 in
set_option maxRecDepth 100000 in
theorem c_X11_weightOf (l : Launch) (D : va_G) (T : Nat → ClassId) (y1 y16 y17 y18 y19 y2 y20 y21 y22 y23 y24 y25 y26 y27 y28 y29 y3 y30 y31 y32 y36 y4 y40 y41 y42 y5 ym : Nat) (i1 w0 w10 w12 w13 w14 w15 w33 w34 w35 w37 w38 w39 w43 w6 w7 w8 w9 : Int32) (v11 v44 : Int64) (c19 : Nat → Int32) (h_w6 : 0 ≤ w6.toInt ∧ w6.toInt ≤ 1600) (h_w43 : 0 ≤ w43.toInt ∧ w43.toInt ≤ 16) (h_i1 : 0 ≤ i1.toInt ∧ i1.toInt ≤ 4) : Met l yX11_weightOf (wM yX11_weightOf cX11_weightOf 2 (some .int)) ({ frames := 0, cells := 0, slots := 0, locals := 0 }) (va_Pc [.ref ym, .int i1] (pwP D T [(ym, .inr (11, [.int w0, .ref y1, .ref y2, .ref y3, .ref y4, .ref y5, .int w6, .int w7, .int w8, .int w9, .int w10, .long v11, .int w12, .int w13, .int w14, .int w15, .ref y16, .ref y17, .ref y18, .ref y19, .ref y20, .ref y21, .ref y22, .ref y23, .ref y24, .ref y25, .ref y26, .ref y27, .ref y28, .ref y29, .ref y30, .ref y31, .ref y32, .int w33, .int w34, .int w35, .ref y36, .int w37, .int w38, .int w39, .ref y40, .ref y41, .ref y42, .int w43, .long v44])), (y19, .inl (T 0, 75, .inl c19))])) (va_Qi (fun (r : Int32) (u : Unit) => True) (fun _ _ => True) (fun _ => False)) 0 0 (fun _ => False) := by
  refine Met.ofW (cc := cX11_weightOf) (maxL := 2) (ret := (some .int)) (by decide) rfl ?_
  intro p e s m args below meth c s₁ B hml hv
  obtain ⟨rfl, hP, hC⟩ := hv
  have hx := B.exec
  have hb := B.bytes
  have hr := B.returns
  have hts : ∀ w ∈ gt, w.before _ s = true := fun w hw => atoms_spec (ws := (wM yX11_weightOf cX11_weightOf 2 (some .int))) B.pre w (List.mem_cons_of_mem _ hw)
  have hown : s.vm.findClass RX11 = some m.cls := findClass_of_methodNamed B.named
  have hlocks := B.notSynchronized
  have hK := hC.1
  have hS : va_S (fun _ => False) s.heap s.heap [] := va_S.rf
  have hl := lv_entry ([.ref ym, .int i1]) (n := 2) (Nat.le_of_ble_eq_true rfl)
  rw [lg_entry_eq]
  generalize (lg_sl ([.ref ym, .int i1]) ++ List.replicate (2 - (lg_sl ([.ref ym, .int i1])).length) Slot.unset).toArray = ls at hl ⊢
  have hl : lv_has ls 2 [(0, .ref ym), (1, .int i1)] := hl
  refine lv_aload_n hx hb dX11_weightOf_0 rfl (lv_at hl 0 rfl) ?_
  refine va_get (D := D) (ci := 11) (C := RX11) (T := TX11) (N := 45) hx hb hts iX11 hown hK hP 0 rfl rfl 19 (by decide) (hts _ m1337) (fun _ h9 => h9) rfl dX11_weightOf_1 ?_
  refine lv_iconst (v := 3) hx hb dX11_weightOf_4 (by decide) ?_
  refine lv_iload_n hx hb dX11_weightOf_5 rfl (lv_at hl 1 rfl) ?_
  refine lv_imul hx hb dX11_weightOf_6 ?_
  refine lv_topi (fun x_1 ex_1 => ?_)
  have tx_1 : x_1.toInt = 3 * i1.toInt := t_mul (x := 3) (y := i1.toInt) ex_1 rfl rfl (by omega) (by omega)
  refine va_iald (D := D) hx hb hK hP 1 0 rfl rfl (v_in (x := x_1.toInt) rfl (by omega) (by omega)) dX11_weightOf_7 ?_
  refine lv_topi (fun x_2 ex_2 => ?_)
  exact W.iret (v := x_2) hx hb hr (fun t ht hW => ⟨⟨x_2, (), rfl, trivial, trivial⟩, hS.F ht⟩) hS.2.2 dX11_weightOf_8

set_option maxHeartbeats 4000000 in
set_option maxRecDepth 100000 in
theorem c_X11_row (l : Launch) (D : va_G) (T : Nat → ClassId) (y1 y16 y17 y18 y19 y2 y20 y21 y22 y23 y24 y25 y26 y27 y28 y29 y3 y30 y31 y32 y36 y4 y40 y41 y42 y5 ym : Nat) (i1 i2 i3 w0 w10 w12 w13 w14 w15 w33 w34 w35 w37 w38 w39 w43 w6 w7 w8 w9 : Int32) (v11 v44 : Int64) (c1 c2 : Nat → Int32) (c3 : Nat → Int64) (sz : Nat) (h_w6 : 0 ≤ w6.toInt ∧ w6.toInt ≤ 1600) (h_w43 : 0 ≤ w43.toInt ∧ w43.toInt ≤ 16) (R_c2 : rg 0 60 c2) : Met l yX11_row (wM yX11_row cX11_row 5 (some .int)) ({ frames := 2, cells := 0, slots := 0, locals := 45 }) (va_Pc [.ref ym, .int i1, .int i2, .int i3] (pwM D T [(ym, .inr (11, [.int w0, .ref y1, .ref y2, .ref y3, .ref y4, .ref y5, .int w6, .int w7, .int w8, .int w9, .int w10, .long v11, .int w12, .int w13, .int w14, .int w15, .ref y16, .ref y17, .ref y18, .ref y19, .ref y20, .ref y21, .ref y22, .ref y23, .ref y24, .ref y25, .ref y26, .ref y27, .ref y28, .ref y29, .ref y30, .ref y31, .ref y32, .int w33, .int w34, .int w35, .ref y36, .int w37, .int w38, .int w39, .ref y40, .ref y41, .ref y42, .int w43, .long v44])), (y1, .inl (T 0, 4, .inl c1)), (y2, .inl (T 0, 4, .inl c2)), (y3, .inl (T 2, 240, .inr (.inl c3)))] sz)) (va_Qi (fun (r : Int32) (u : U5) => ((r = (-2) ∧ (i1.toInt < 0 ∨ 3 < i1.toInt ∨ i2.toInt < 0 ∨ 3 < i2.toInt ∨ 60 < i3.toInt)) ∨ (r = (-3) ∧ 0 ≤ i1.toInt ∧ i1.toInt ≤ 3 ∧ 0 ≤ i2.toInt ∧ i2.toInt ≤ 3 ∧ i3.toInt < 0) ∨ (r = 0 ∧ 0 ≤ i1.toInt ∧ i1.toInt ≤ 3 ∧ 0 ≤ i2.toInt ∧ i2.toInt ≤ 3 ∧ 0 ≤ i3.toInt ∧ i3.toInt ≤ 60)) ∧ ((r.toInt = 0 ∧ (u.2.1 0) = upd c1 i1.toNatClampNeg i2) ∨ (¬ r.toInt = 0 ∧ (u.2.1 0) = c1)) ∧ rg 0 60 (u.2.1 1) ∧ ((r.toInt = 0 ∧ (u.2.1 1) = upd c2 i1.toNatClampNeg i3) ∨ (¬ r.toInt = 0 ∧ (u.2.1 1) = c2))) (fun u t => pwE D (va_A [(ym, .inr (11, [.int w0, .ref y1, .ref y2, .ref y3, .ref y4, .ref y5, .int w6, .int w7, .int w8, .int w9, .int w10, .long v11, .int w12, .int w13, .int w14, .int w15, .ref y16, .ref y17, .ref y18, .ref y19, .ref y20, .ref y21, .ref y22, .ref y23, .ref y24, .ref y25, .ref y26, .ref y27, .ref y28, .ref y29, .ref y30, .ref y31, .ref y32, .int w33, .int w34, .int w35, .ref y36, .int w37, .int w38, .int w39, .ref y40, .ref y41, .ref y42, .int w43, .long v44])), (y1, .inl (T 0, 4, .inl c1)), (y2, .inl (T 0, 4, .inl c2)), (y3, .inl (T 2, 240, .inr (.inl c3)))] sz) [(ym, .inr (11, [.int 0, .ref y1, .ref y2, .ref y3, .ref y4, .ref y5, .int w6, .int w7, .int w8, .int w9, .int w10, .long v11, .int w12, .int w13, .int w14, .int w15, .ref y16, .ref y17, .ref y18, .ref y19, .ref y20, .ref y21, .ref y22, .ref y23, .ref y24, .ref y25, .ref y26, .ref y27, .ref y28, .ref y29, .ref y30, .ref y31, .ref y32, .int w33, .int w34, .int w35, .ref y36, .int w37, .int w38, .int w39, .ref y40, .ref y41, .ref y42, .int w43, .long v44])), (y1, .inl (T 0, 4, .inl (u.2.1 0))), (y2, .inl (T 0, 4, .inl (u.2.1 1))), (y3, .inl (T 2, 240, .inr (.inl (u.2.2.1 0))))] t) (va_A [(ym, .inr (11, [.int w0, .ref y1, .ref y2, .ref y3, .ref y4, .ref y5, .int w6, .int w7, .int w8, .int w9, .int w10, .long v11, .int w12, .int w13, .int w14, .int w15, .ref y16, .ref y17, .ref y18, .ref y19, .ref y20, .ref y21, .ref y22, .ref y23, .ref y24, .ref y25, .ref y26, .ref y27, .ref y28, .ref y29, .ref y30, .ref y31, .ref y32, .int w33, .int w34, .int w35, .ref y36, .int w37, .int w38, .int w39, .ref y40, .ref y41, .ref y42, .int w43, .long v44])), (y1, .inl (T 0, 4, .inl c1)), (y2, .inl (T 0, 4, .inl c2)), (y3, .inl (T 2, 240, .inr (.inl c3)))] sz)) 0 0 (va_A [(ym, .inr (11, [.int w0, .ref y1, .ref y2, .ref y3, .ref y4, .ref y5, .int w6, .int w7, .int w8, .int w9, .int w10, .long v11, .int w12, .int w13, .int w14, .int w15, .ref y16, .ref y17, .ref y18, .ref y19, .ref y20, .ref y21, .ref y22, .ref y23, .ref y24, .ref y25, .ref y26, .ref y27, .ref y28, .ref y29, .ref y30, .ref y31, .ref y32, .int w33, .int w34, .int w35, .ref y36, .int w37, .int w38, .int w39, .ref y40, .ref y41, .ref y42, .int w43, .long v44])), (y1, .inl (T 0, 4, .inl c1)), (y2, .inl (T 0, 4, .inl c2)), (y3, .inl (T 2, 240, .inr (.inl c3)))] sz) := by
  refine Met.ofW (cc := cX11_row) (maxL := 5) (ret := (some .int)) (by decide) rfl ?_
  intro p e s m args below meth c s₁ B hml hv
  obtain ⟨rfl, hsz, hP, hC, hD0⟩ := hv
  have hx := B.exec
  have hb := B.bytes
  have hr := B.returns
  have hts : ∀ w ∈ gt, w.before _ s = true := fun w hw => atoms_spec (ws := (wM yX11_row cX11_row 5 (some .int))) B.pre w (List.mem_cons_of_mem _ hw)
  have hown : s.vm.findClass RX11 = some m.cls := findClass_of_methodNamed B.named
  have hlocks := B.notSynchronized
  have hK := hC.1
  subst hsz
  have hD := hD0.self (sz := s.heap.size)
  generalize hAe : va_A [(ym, .inr (11, [.int w0, .ref y1, .ref y2, .ref y3, .ref y4, .ref y5, .int w6, .int w7, .int w8, .int w9, .int w10, .long v11, .int w12, .int w13, .int w14, .int w15, .ref y16, .ref y17, .ref y18, .ref y19, .ref y20, .ref y21, .ref y22, .ref y23, .ref y24, .ref y25, .ref y26, .ref y27, .ref y28, .ref y29, .ref y30, .ref y31, .ref y32, .int w33, .int w34, .int w35, .ref y36, .int w37, .int w38, .int w39, .ref y40, .ref y41, .ref y42, .int w43, .long v44])), (y1, .inl (T 0, 4, .inl c1)), (y2, .inl (T 0, 4, .inl c2)), (y3, .inl (T 2, 240, .inr (.inl c3)))] s.heap.size = A at hD ⊢
  have hA : ∀ q : Nat, s.heap.size ≤ q → A q := fun q h => by rw [← hAe]; exact Or.inr h
  have hS : va_S A s.heap s.heap [] := va_S.rf
  have hl := lv_entry ([.ref ym, .int i1, .int i2, .int i3]) (n := 5) (Nat.le_of_ble_eq_true rfl)
  rw [lg_entry_eq]
  generalize (lg_sl ([.ref ym, .int i1, .int i2, .int i3]) ++ List.replicate (5 - (lg_sl ([.ref ym, .int i1, .int i2, .int i3])).length) Slot.unset).toArray = ls at hl ⊢
  have hl : lv_has ls 5 [(0, .ref ym), (1, .int i1), (2, .int i2), (3, .int i3)] := hl
  refine lv_aload_n hx hb dX11_row_0 rfl (lv_at hl 0 rfl) ?_
  refine lv_iconst (v := 0) hx hb dX11_row_1 (by decide) ?_
  refine va_put (D := D) (ci := 11) (v := .int 0) (ty := .int) (C := RX11) (T := TX11) (N := 45) hx hb hts iX11 tyX11 tyX11_ok nmX11 hown hK hP hD hS 0 rfl rfl 0 (by decide) (hts _ m1318) (fun _ h9 => h9) rfl (by decide +kernel) rfl rfl (Nat.le_of_ble_eq_true rfl) dX11_row_2 (fun H locs hP hD hS => ?_)
  have hP : va_P D vwCl [(ym, .inr (11, [.int 0, .ref y1, .ref y2, .ref y3, .ref y4, .ref y5, .int w6, .int w7, .int w8, .int w9, .int w10, .long v11, .int w12, .int w13, .int w14, .int w15, .ref y16, .ref y17, .ref y18, .ref y19, .ref y20, .ref y21, .ref y22, .ref y23, .ref y24, .ref y25, .ref y26, .ref y27, .ref y28, .ref y29, .ref y30, .ref y31, .ref y32, .int w33, .int w34, .int w35, .ref y36, .int w37, .int w38, .int w39, .ref y40, .ref y41, .ref y42, .int w43, .long v44])), (y1, .inl (T 0, 4, .inl c1)), (y2, .inl (T 0, 4, .inl c2)), (y3, .inl (T 2, 240, .inr (.inl c3)))] H := hP
  have hD : va_D A [(ym, .inr (11, [.int 0, .ref y1, .ref y2, .ref y3, .ref y4, .ref y5, .int w6, .int w7, .int w8, .int w9, .int w10, .long v11, .int w12, .int w13, .int w14, .int w15, .ref y16, .ref y17, .ref y18, .ref y19, .ref y20, .ref y21, .ref y22, .ref y23, .ref y24, .ref y25, .ref y26, .ref y27, .ref y28, .ref y29, .ref y30, .ref y31, .ref y32, .int w33, .int w34, .int w35, .ref y36, .int w37, .int w38, .int w39, .ref y40, .ref y41, .ref y42, .int w43, .long v44])), (y1, .inl (T 0, 4, .inl c1)), (y2, .inl (T 0, 4, .inl c2)), (y3, .inl (T 2, 240, .inr (.inl c3)))] := hD
  refine lv_iload_n hx hb dX11_row_5 rfl (lv_at hl 1 rfl) ?_
  refine puI (cS (As := [.int i1]) (rest := []) ⟨hx, hb, hml, hown, hts⟩ (c_X11_isSlot l D T i1) k_X11_isSlot m1458 m1457 rfl rfl ⟨(Nat.le_of_ble_eq_true rfl), (Nat.le_of_ble_eq_true rfl)⟩ (preP hC (hP.sub (ws' := []) [] rfl)) rfl hl.1 rfl (Nat.le_of_ble_eq_true rfl) dX11_row_6 ⟨(Nat.le_of_ble_eq_true rfl), (Nat.le_of_ble_eq_true rfl)⟩) hS hP (fun r_1 H locs hw hP hS => ?_)
  have w_3 : (r_1 = 1 ∧ 0 ≤ i1.toInt ∧ i1.toInt ≤ 3) ∨ (r_1 = 0 ∧ (i1.toInt < 0 ∨ 3 < i1.toInt)) := hw
  rcases w_3 with ⟨rfl, c_4, c_5⟩ | ⟨rfl, c_6⟩
  · refine lv_if_eq (tgt := 30) hx hb dX11_row_9 (by decide) (fun c_7 => absurd c_7 (by decide)) (fun _ => ?_)
    refine lv_iload_n hx hb dX11_row_12 rfl (lv_at hl 2 rfl) ?_
    refine lv_i2l hx hb dX11_row_13 rfl ?_
    refine lv_lconst (v := 0) hx hb dX11_row_14 (by decide) ?_
    refine lv_ldc2 (v := 3) hx hb hown (hts _ m1460) dX11_row_15 ?_
    refine puI (cS (As := [.long i2.toInt64, .long 0, .long 3]) (rest := []) ⟨hx, hb, hml, hown, hts⟩ (c_X11_in l D T i2.toInt64 0 3) k_X11_in m1462 m1461 rfl rfl ⟨(Nat.le_of_ble_eq_true rfl), (Nat.le_of_ble_eq_true rfl)⟩ (preP hC (hP.sub (ws' := []) [] rfl)) rfl hl.1 rfl (Nat.le_of_ble_eq_true rfl) dX11_row_18 ⟨(Nat.le_of_ble_eq_true rfl), (Nat.le_of_ble_eq_true rfl)⟩) hS hP (fun r_8 H locs hw hP hS => ?_)
    have w_10 : (r_8 = 1 ∧ (0 : Int64).toInt ≤ i2.toInt64.toInt ∧ i2.toInt64.toInt ≤ (3 : Int64).toInt) ∨ (r_8 = 0 ∧ (i2.toInt64.toInt < (0 : Int64).toInt ∨ (3 : Int64).toInt < i2.toInt64.toInt)) := hw
    rcases w_10 with ⟨rfl, c_11, c_12⟩ | ⟨rfl, c_13⟩
    · have c_11 : 0 ≤ i2.toInt := kle (by decide) (i_64 _) c_11
      have c_12 : i2.toInt ≤ 3 := kle (i_64 _) (by decide) c_12
      refine lv_if_eq (tgt := 30) hx hb dX11_row_21 (by decide) (fun c_14 => absurd c_14 (by decide)) (fun _ => ?_)
      refine lv_iload_n hx hb dX11_row_24 rfl (lv_at hl 3 rfl) ?_
      refine lv_bipush (v := 60) hx hb dX11_row_25 (by decide) ?_
      refine lv_icmp_le (tgt := 33) hx hb dX11_row_27 (by decide) (fun c_15 => ?_) (fun c_15 => ?_)
      · have c_15 : i3.toInt ≤ 60 := (c_le (x := i3.toInt) (y := 60) rfl rfl).mp c_15
        refine lv_iload_n hx hb dX11_row_33 rfl (lv_at hl 3 rfl) ?_
        refine lv_if_ge (tgt := 40) hx hb dX11_row_34 (by decide) (fun c_16 => ?_) (fun c_16 => ?_)
        · have c_16 : 0 ≤ i3.toInt := (c_le (x := 0) (y := i3.toInt) rfl rfl).mp c_16
          refine lv_aload_n hx hb dX11_row_40 rfl (lv_at hl 0 rfl) ?_
          refine va_get (D := D) (ci := 11) (C := RX11) (T := TX11) (N := 45) hx hb hts iX11 hown hK hP 0 rfl rfl 1 (by decide) (hts _ m1319) (fun _ h9 => h9) rfl dX11_row_41 ?_
          refine lv_iload_n hx hb dX11_row_44 rfl (lv_at hl 1 rfl) ?_
          refine lv_iload_n hx hb dX11_row_45 rfl (lv_at hl 2 rfl) ?_
          refine va_iast (D := D) hx hb hK hP hD hS 1 0 rfl rfl (v_in (x := i1.toInt) rfl (by omega) (by omega)) dX11_row_46 (fun H locs hP hD hS => ?_)
          obtain ⟨f_17, hf_17⟩ : ∃ g : Nat → Int32, g = upd c1 i1.toNatClampNeg i2 := ⟨_, rfl⟩
          have hP : va_P D vwCl [(ym, .inr (11, [.int 0, .ref y1, .ref y2, .ref y3, .ref y4, .ref y5, .int w6, .int w7, .int w8, .int w9, .int w10, .long v11, .int w12, .int w13, .int w14, .int w15, .ref y16, .ref y17, .ref y18, .ref y19, .ref y20, .ref y21, .ref y22, .ref y23, .ref y24, .ref y25, .ref y26, .ref y27, .ref y28, .ref y29, .ref y30, .ref y31, .ref y32, .int w33, .int w34, .int w35, .ref y36, .int w37, .int w38, .int w39, .ref y40, .ref y41, .ref y42, .int w43, .long v44])), (y1, .inl (T 0, 4, .inl (upd c1 i1.toNatClampNeg i2))), (y2, .inl (T 0, 4, .inl c2)), (y3, .inl (T 2, 240, .inr (.inl c3)))] H := hP
          have hD : va_D A [(ym, .inr (11, [.int 0, .ref y1, .ref y2, .ref y3, .ref y4, .ref y5, .int w6, .int w7, .int w8, .int w9, .int w10, .long v11, .int w12, .int w13, .int w14, .int w15, .ref y16, .ref y17, .ref y18, .ref y19, .ref y20, .ref y21, .ref y22, .ref y23, .ref y24, .ref y25, .ref y26, .ref y27, .ref y28, .ref y29, .ref y30, .ref y31, .ref y32, .int w33, .int w34, .int w35, .ref y36, .int w37, .int w38, .int w39, .ref y40, .ref y41, .ref y42, .int w43, .long v44])), (y1, .inl (T 0, 4, .inl (upd c1 i1.toNatClampNeg i2))), (y2, .inl (T 0, 4, .inl c2)), (y3, .inl (T 2, 240, .inr (.inl c3)))] := hD
          rw [← hf_17] at hP hD
          refine lv_aload_n hx hb dX11_row_47 rfl (lv_at hl 0 rfl) ?_
          refine va_get (D := D) (ci := 11) (C := RX11) (T := TX11) (N := 45) hx hb hts iX11 hown hK hP 0 rfl rfl 2 (by decide) (hts _ m1320) (fun _ h9 => h9) rfl dX11_row_48 ?_
          refine lv_iload_n hx hb dX11_row_51 rfl (lv_at hl 1 rfl) ?_
          refine lv_iload_n hx hb dX11_row_52 rfl (lv_at hl 3 rfl) ?_
          refine va_iast (D := D) hx hb hK hP hD hS 2 0 rfl rfl (v_in (x := i1.toInt) rfl (by omega) (by omega)) dX11_row_53 (fun H locs hP hD hS => ?_)
          obtain ⟨f_18, hf_18⟩ : ∃ g : Nat → Int32, g = upd c2 i1.toNatClampNeg i3 := ⟨_, rfl⟩
          have hP : va_P D vwCl [(ym, .inr (11, [.int 0, .ref y1, .ref y2, .ref y3, .ref y4, .ref y5, .int w6, .int w7, .int w8, .int w9, .int w10, .long v11, .int w12, .int w13, .int w14, .int w15, .ref y16, .ref y17, .ref y18, .ref y19, .ref y20, .ref y21, .ref y22, .ref y23, .ref y24, .ref y25, .ref y26, .ref y27, .ref y28, .ref y29, .ref y30, .ref y31, .ref y32, .int w33, .int w34, .int w35, .ref y36, .int w37, .int w38, .int w39, .ref y40, .ref y41, .ref y42, .int w43, .long v44])), (y1, .inl (T 0, 4, .inl f_17)), (y2, .inl (T 0, 4, .inl (upd c2 i1.toNatClampNeg i3))), (y3, .inl (T 2, 240, .inr (.inl c3)))] H := hP
          have hD : va_D A [(ym, .inr (11, [.int 0, .ref y1, .ref y2, .ref y3, .ref y4, .ref y5, .int w6, .int w7, .int w8, .int w9, .int w10, .long v11, .int w12, .int w13, .int w14, .int w15, .ref y16, .ref y17, .ref y18, .ref y19, .ref y20, .ref y21, .ref y22, .ref y23, .ref y24, .ref y25, .ref y26, .ref y27, .ref y28, .ref y29, .ref y30, .ref y31, .ref y32, .int w33, .int w34, .int w35, .ref y36, .int w37, .int w38, .int w39, .ref y40, .ref y41, .ref y42, .int w43, .long v44])), (y1, .inl (T 0, 4, .inl f_17)), (y2, .inl (T 0, 4, .inl (upd c2 i1.toNatClampNeg i3))), (y3, .inl (T 2, 240, .inr (.inl c3)))] := hD
          rw [← hf_18] at hP hD
          have Rf_18 : rg 0 60 f_18 := by rw [hf_18]; exact rg_upd R_c2 (by constructor <;> omega)
          refine lv_iconst (v := 0) hx hb dX11_row_54 (by decide) ?_
          refine lv_istore (lv' := [(4, .int 0), (0, .ref ym), (1, .int i1), (2, .int i2), (3, .int i3)]) hx hb dX11_row_55 hl (by decide) rfl (fun ls hl => ?_)
          refine lp_ind (fun (a : Heap × List Loc × Array Slot × (Int32) × (Nat → Int64)) => match a with | (H, locs, ls, i_19, f_20) => W p l e _ s m _ below meth c H locs 0 0 _ (F0 m 57 ls [])) (fun (a : Heap × List Loc × Array Slot × (Int32) × (Nat → Int64)) => match a with | (H, locs, ls, i_19, f_20) => 0 ≤ i_19.toInt ∧ i_19.toInt ≤ 60 ∧ va_P D vwCl [(ym, .inr (11, [.int 0, .ref y1, .ref y2, .ref y3, .ref y4, .ref y5, .int w6, .int w7, .int w8, .int w9, .int w10, .long v11, .int w12, .int w13, .int w14, .int w15, .ref y16, .ref y17, .ref y18, .ref y19, .ref y20, .ref y21, .ref y22, .ref y23, .ref y24, .ref y25, .ref y26, .ref y27, .ref y28, .ref y29, .ref y30, .ref y31, .ref y32, .int w33, .int w34, .int w35, .ref y36, .int w37, .int w38, .int w39, .ref y40, .ref y41, .ref y42, .int w43, .long v44])), (y1, .inl (T 0, 4, .inl f_17)), (y2, .inl (T 0, 4, .inl f_18)), (y3, .inl (T 2, 240, .inr (.inl f_20)))] H ∧ va_D A [(ym, .inr (11, [.int 0, .ref y1, .ref y2, .ref y3, .ref y4, .ref y5, .int w6, .int w7, .int w8, .int w9, .int w10, .long v11, .int w12, .int w13, .int w14, .int w15, .ref y16, .ref y17, .ref y18, .ref y19, .ref y20, .ref y21, .ref y22, .ref y23, .ref y24, .ref y25, .ref y26, .ref y27, .ref y28, .ref y29, .ref y30, .ref y31, .ref y32, .int w33, .int w34, .int w35, .ref y36, .int w37, .int w38, .int w39, .ref y40, .ref y41, .ref y42, .int w43, .long v44])), (y1, .inl (T 0, 4, .inl f_17)), (y2, .inl (T 0, 4, .inl f_18)), (y3, .inl (T 2, 240, .inr (.inl f_20)))] ∧ va_S A s.heap H locs ∧ lv_has ls 5 [(4, .int i_19), (0, .ref ym), (1, .int i1), (2, .int i2), (3, .int i3)]) (fun (a : Heap × List Loc × Array Slot × (Int32) × (Nat → Int64)) => match a with | (H, locs, ls, i_19, f_20) => (60 - i_19.toInt).toNat) ?_ (_, _, ls, (0 : Int32), c3) ⟨(show 0 ≤ (0 : Int) by omega), (show (0 : Int) ≤ 60 by omega), hP, hD, hS, lv_sub hl [0, 1, 2, 3, 4] rfl⟩
          rintro ⟨H, locs, ls, i_19, f_20⟩ ⟨c_21, c_22, hP, hD, hS, hl⟩ ih_23
          refine lv_iload hx hb dX11_row_57 (lv_at hl 0 rfl) ?_
          refine lv_iload_n hx hb dX11_row_59 rfl (lv_at hl 4 rfl) ?_
          refine lv_icmp_ge (tgt := 82) hx hb dX11_row_60 (by decide) (fun c_24 => ?_) (fun c_24 => ?_)
          · have c_24 : i3.toInt ≤ i_19.toInt := (c_le (x := i3.toInt) (y := i_19.toInt) rfl rfl).mp c_24
            refine lv_iconst (v := 0) hx hb dX11_row_82 (by decide) ?_
            have hP9 := hP.sub (ws' := [(ym, .inr (11, [.int 0, .ref y1, .ref y2, .ref y3, .ref y4, .ref y5, .int w6, .int w7, .int w8, .int w9, .int w10, .long v11, .int w12, .int w13, .int w14, .int w15, .ref y16, .ref y17, .ref y18, .ref y19, .ref y20, .ref y21, .ref y22, .ref y23, .ref y24, .ref y25, .ref y26, .ref y27, .ref y28, .ref y29, .ref y30, .ref y31, .ref y32, .int w33, .int w34, .int w35, .ref y36, .int w37, .int w38, .int w39, .ref y40, .ref y41, .ref y42, .int w43, .long v44])), (y1, .inl (T 0, 4, .inl f_17)), (y2, .inl (T 0, 4, .inl f_18)), (y3, .inl (T 2, 240, .inr (.inl f_20)))]) [0, 1, 2, 3] rfl
            have hD9 := hD.sub (ws' := [(ym, .inr (11, [.int 0, .ref y1, .ref y2, .ref y3, .ref y4, .ref y5, .int w6, .int w7, .int w8, .int w9, .int w10, .long v11, .int w12, .int w13, .int w14, .int w15, .ref y16, .ref y17, .ref y18, .ref y19, .ref y20, .ref y21, .ref y22, .ref y23, .ref y24, .ref y25, .ref y26, .ref y27, .ref y28, .ref y29, .ref y30, .ref y31, .ref y32, .int w33, .int w34, .int w35, .ref y36, .int w37, .int w38, .int w39, .ref y40, .ref y41, .ref y42, .int w43, .long v44])), (y1, .inl (T 0, 4, .inl f_17)), (y2, .inl (T 0, 4, .inl f_18)), (y3, .inl (T 2, 240, .inr (.inl f_20)))]) [0, 1, 2, 3] (by decide) rfl
            exact W.iret (v := 0) hx hb hr (fun t ht hW => ⟨⟨0, (fun k => ([] : List (Nat)).getD k 0, fun k => ([f_17, f_18] : List (Nat → Int32)).getD k (fun _ => 0), fun k => ([f_20] : List (Nat → Int64)).getD k (fun _ => 0), fun k => ([] : List (Int32)).getD k 0, fun k => ([] : List (Int64)).getD k 0), rfl, ⟨(Or.inr (Or.inr (⟨rfl, (show 0 ≤ i1.toInt by omega), (show i1.toInt ≤ 3 by omega), (show 0 ≤ i2.toInt by omega), (show i2.toInt ≤ 3 by omega), (show 0 ≤ i3.toInt by omega), (show i3.toInt ≤ 60 by omega)⟩))), (show ((0 : Int) = 0 ∧ f_17 = upd c1 i1.toNatClampNeg i2) ∨ (¬ (0 : Int) = 0 ∧ f_17 = c1) by first | exact Or.inl ⟨rfl, by assumption⟩ | exact Or.inr ⟨by decide, rfl⟩), (show rg 0 60 f_18 from Rf_18), (show ((0 : Int) = 0 ∧ f_18 = upd c2 i1.toNatClampNeg i3) ∨ (¬ (0 : Int) = 0 ∧ f_18 = c2) by first | exact Or.inl ⟨rfl, by assumption⟩ | exact Or.inr ⟨by decide, rfl⟩)⟩, by rw [ht]; exact hP9, hD9⟩, hS.F ht⟩) hS.2.2 dX11_row_83
          · have c_24 : i_19.toInt < i3.toInt := by have h := mt (c_le (x := i3.toInt) (y := i_19.toInt) rfl rfl).mpr c_24; omega
            refine lv_aload_n hx hb dX11_row_63 rfl (lv_at hl 1 rfl) ?_
            refine va_get (D := D) (ci := 11) (C := RX11) (T := TX11) (N := 45) hx hb hts iX11 hown hK hP 0 rfl rfl 3 (by decide) (hts _ m1321) (fun _ h9 => h9) rfl dX11_row_64 ?_
            refine lv_bipush (v := 60) hx hb dX11_row_67 (by decide) ?_
            refine lv_iload_n hx hb dX11_row_69 rfl (lv_at hl 2 rfl) ?_
            refine lv_imul hx hb dX11_row_70 ?_
            refine lv_topi (fun x_25 ex_25 => ?_)
            have tx_25 : x_25.toInt = 60 * i1.toInt := t_mul (x := 60) (y := i1.toInt) ex_25 rfl rfl (by omega) (by omega)
            refine lv_iload hx hb dX11_row_71 (lv_at hl 0 rfl) ?_
            refine lv_iadd hx hb dX11_row_73 ?_
            refine lv_topi (fun x_26 ex_26 => ?_)
            have tx_26 : x_26.toInt = x_25.toInt + i_19.toInt := t_add (x := x_25.toInt) (y := i_19.toInt) ex_26 rfl rfl (by omega) (by omega)
            refine lv_lconst (v := 0) hx hb dX11_row_74 (by decide) ?_
            refine va_last (D := D) hx hb hK hP hD hS 3 2 rfl rfl (v_in (x := x_26.toInt) rfl (by omega) (by omega)) dX11_row_75 (fun H locs hP hD hS => ?_)
            obtain ⟨f_27, hf_27⟩ : ∃ g : Nat → Int64, g = vp_updL f_20 x_26.toNatClampNeg (0 : Int64) := ⟨_, rfl⟩
            have hP : va_P D vwCl [(ym, .inr (11, [.int 0, .ref y1, .ref y2, .ref y3, .ref y4, .ref y5, .int w6, .int w7, .int w8, .int w9, .int w10, .long v11, .int w12, .int w13, .int w14, .int w15, .ref y16, .ref y17, .ref y18, .ref y19, .ref y20, .ref y21, .ref y22, .ref y23, .ref y24, .ref y25, .ref y26, .ref y27, .ref y28, .ref y29, .ref y30, .ref y31, .ref y32, .int w33, .int w34, .int w35, .ref y36, .int w37, .int w38, .int w39, .ref y40, .ref y41, .ref y42, .int w43, .long v44])), (y1, .inl (T 0, 4, .inl f_17)), (y2, .inl (T 0, 4, .inl f_18)), (y3, .inl (T 2, 240, .inr (.inl (vp_updL f_20 x_26.toNatClampNeg (0 : Int64)))))] H := hP
            have hD : va_D A [(ym, .inr (11, [.int 0, .ref y1, .ref y2, .ref y3, .ref y4, .ref y5, .int w6, .int w7, .int w8, .int w9, .int w10, .long v11, .int w12, .int w13, .int w14, .int w15, .ref y16, .ref y17, .ref y18, .ref y19, .ref y20, .ref y21, .ref y22, .ref y23, .ref y24, .ref y25, .ref y26, .ref y27, .ref y28, .ref y29, .ref y30, .ref y31, .ref y32, .int w33, .int w34, .int w35, .ref y36, .int w37, .int w38, .int w39, .ref y40, .ref y41, .ref y42, .int w43, .long v44])), (y1, .inl (T 0, 4, .inl f_17)), (y2, .inl (T 0, 4, .inl f_18)), (y3, .inl (T 2, 240, .inr (.inl (vp_updL f_20 x_26.toNatClampNeg (0 : Int64)))))] := hD
            rw [← hf_27] at hP hD
            obtain ⟨x_28, ex_28⟩ : ∃ y : Int32, y = i_19 + 1 := ⟨_, rfl⟩
            have tx_28 : x_28.toInt = i_19.toInt + 1 := t_add (x := i_19.toInt) (y := 1) ex_28 rfl rfl (by omega) (by omega)
            refine lv_iinc (v := x_28) (lv' := [(4, .int x_28), (0, .ref ym), (1, .int i1), (2, .int i2), (3, .int i3)]) hx hb dX11_row_76 hl (k := 0) rfl (by rw [ex_28]; rfl) (by decide) rfl (fun ls hl => ?_)
            refine lv_goto (tgt := 57) hx hb dX11_row_79 (by decide) ?_
            exact ih_23 (_, _, _, x_28, f_27) ⟨(show 0 ≤ x_28.toInt by omega), (show x_28.toInt ≤ 60 by omega), hP, hD, hS, lv_sub hl [0, 1, 2, 3, 4] rfl⟩ (show (60 - x_28.toInt).toNat < (60 - i_19.toInt).toNat by omega)
        · have c_16 : i3.toInt < 0 := by have h := mt (c_le (x := 0) (y := i3.toInt) rfl rfl).mpr c_16; omega
          refine lv_bipush (v := (-3)) hx hb dX11_row_37 (by decide) ?_
          have hP9 := hP.sub (ws' := [(ym, .inr (11, [.int 0, .ref y1, .ref y2, .ref y3, .ref y4, .ref y5, .int w6, .int w7, .int w8, .int w9, .int w10, .long v11, .int w12, .int w13, .int w14, .int w15, .ref y16, .ref y17, .ref y18, .ref y19, .ref y20, .ref y21, .ref y22, .ref y23, .ref y24, .ref y25, .ref y26, .ref y27, .ref y28, .ref y29, .ref y30, .ref y31, .ref y32, .int w33, .int w34, .int w35, .ref y36, .int w37, .int w38, .int w39, .ref y40, .ref y41, .ref y42, .int w43, .long v44])), (y1, .inl (T 0, 4, .inl c1)), (y2, .inl (T 0, 4, .inl c2)), (y3, .inl (T 2, 240, .inr (.inl c3)))]) [0, 1, 2, 3] rfl
          have hD9 := hD.sub (ws' := [(ym, .inr (11, [.int 0, .ref y1, .ref y2, .ref y3, .ref y4, .ref y5, .int w6, .int w7, .int w8, .int w9, .int w10, .long v11, .int w12, .int w13, .int w14, .int w15, .ref y16, .ref y17, .ref y18, .ref y19, .ref y20, .ref y21, .ref y22, .ref y23, .ref y24, .ref y25, .ref y26, .ref y27, .ref y28, .ref y29, .ref y30, .ref y31, .ref y32, .int w33, .int w34, .int w35, .ref y36, .int w37, .int w38, .int w39, .ref y40, .ref y41, .ref y42, .int w43, .long v44])), (y1, .inl (T 0, 4, .inl c1)), (y2, .inl (T 0, 4, .inl c2)), (y3, .inl (T 2, 240, .inr (.inl c3)))]) [0, 1, 2, 3] (by decide) rfl
          exact W.iret (v := (-3)) hx hb hr (fun t ht hW => ⟨⟨(-3), (fun k => ([] : List (Nat)).getD k 0, fun k => ([c1, c2] : List (Nat → Int32)).getD k (fun _ => 0), fun k => ([c3] : List (Nat → Int64)).getD k (fun _ => 0), fun k => ([] : List (Int32)).getD k 0, fun k => ([] : List (Int64)).getD k 0), rfl, ⟨(Or.inr (Or.inl (⟨rfl, (show 0 ≤ i1.toInt by omega), (show i1.toInt ≤ 3 by omega), (show 0 ≤ i2.toInt by omega), (show i2.toInt ≤ 3 by omega), (show i3.toInt < 0 by omega)⟩))), (show ((-3 : Int) = 0 ∧ c1 = upd c1 i1.toNatClampNeg i2) ∨ (¬ (-3 : Int) = 0 ∧ c1 = c1) by first | exact Or.inl ⟨rfl, by assumption⟩ | exact Or.inr ⟨by decide, rfl⟩), (show rg 0 60 c2 from R_c2), (show ((-3 : Int) = 0 ∧ c2 = upd c2 i1.toNatClampNeg i3) ∨ (¬ (-3 : Int) = 0 ∧ c2 = c2) by first | exact Or.inl ⟨rfl, by assumption⟩ | exact Or.inr ⟨by decide, rfl⟩)⟩, by rw [ht]; exact hP9, hD9⟩, hS.F ht⟩) hS.2.2 dX11_row_39
      · have c_15 : 60 < i3.toInt := by have h := mt (c_le (x := i3.toInt) (y := 60) rfl rfl).mpr c_15; omega
        refine lv_bipush (v := (-2)) hx hb dX11_row_30 (by decide) ?_
        have hP9 := hP.sub (ws' := [(ym, .inr (11, [.int 0, .ref y1, .ref y2, .ref y3, .ref y4, .ref y5, .int w6, .int w7, .int w8, .int w9, .int w10, .long v11, .int w12, .int w13, .int w14, .int w15, .ref y16, .ref y17, .ref y18, .ref y19, .ref y20, .ref y21, .ref y22, .ref y23, .ref y24, .ref y25, .ref y26, .ref y27, .ref y28, .ref y29, .ref y30, .ref y31, .ref y32, .int w33, .int w34, .int w35, .ref y36, .int w37, .int w38, .int w39, .ref y40, .ref y41, .ref y42, .int w43, .long v44])), (y1, .inl (T 0, 4, .inl c1)), (y2, .inl (T 0, 4, .inl c2)), (y3, .inl (T 2, 240, .inr (.inl c3)))]) [0, 1, 2, 3] rfl
        have hD9 := hD.sub (ws' := [(ym, .inr (11, [.int 0, .ref y1, .ref y2, .ref y3, .ref y4, .ref y5, .int w6, .int w7, .int w8, .int w9, .int w10, .long v11, .int w12, .int w13, .int w14, .int w15, .ref y16, .ref y17, .ref y18, .ref y19, .ref y20, .ref y21, .ref y22, .ref y23, .ref y24, .ref y25, .ref y26, .ref y27, .ref y28, .ref y29, .ref y30, .ref y31, .ref y32, .int w33, .int w34, .int w35, .ref y36, .int w37, .int w38, .int w39, .ref y40, .ref y41, .ref y42, .int w43, .long v44])), (y1, .inl (T 0, 4, .inl c1)), (y2, .inl (T 0, 4, .inl c2)), (y3, .inl (T 2, 240, .inr (.inl c3)))]) [0, 1, 2, 3] (by decide) rfl
        exact W.iret (v := (-2)) hx hb hr (fun t ht hW => ⟨⟨(-2), (fun k => ([] : List (Nat)).getD k 0, fun k => ([c1, c2] : List (Nat → Int32)).getD k (fun _ => 0), fun k => ([c3] : List (Nat → Int64)).getD k (fun _ => 0), fun k => ([] : List (Int32)).getD k 0, fun k => ([] : List (Int64)).getD k 0), rfl, ⟨(Or.inl (⟨rfl, (show (i1.toInt < 0 ∨ 3 < i1.toInt ∨ i2.toInt < 0 ∨ 3 < i2.toInt ∨ 60 < i3.toInt) by omega)⟩)), (show ((-2 : Int) = 0 ∧ c1 = upd c1 i1.toNatClampNeg i2) ∨ (¬ (-2 : Int) = 0 ∧ c1 = c1) by first | exact Or.inl ⟨rfl, by assumption⟩ | exact Or.inr ⟨by decide, rfl⟩), (show rg 0 60 c2 from R_c2), (show ((-2 : Int) = 0 ∧ c2 = upd c2 i1.toNatClampNeg i3) ∨ (¬ (-2 : Int) = 0 ∧ c2 = c2) by first | exact Or.inl ⟨rfl, by assumption⟩ | exact Or.inr ⟨by decide, rfl⟩)⟩, by rw [ht]; exact hP9, hD9⟩, hS.F ht⟩) hS.2.2 dX11_row_32
    · have c_13 : i2.toInt < 0 ∨ 3 < i2.toInt := klo (i_64 _) (by decide) (by decide) c_13
      refine lv_if_eq (tgt := 30) hx hb dX11_row_21 (by decide) (fun _ => ?_) (fun c_29 => absurd (by decide) c_29)
      refine lv_bipush (v := (-2)) hx hb dX11_row_30 (by decide) ?_
      have hP9 := hP.sub (ws' := [(ym, .inr (11, [.int 0, .ref y1, .ref y2, .ref y3, .ref y4, .ref y5, .int w6, .int w7, .int w8, .int w9, .int w10, .long v11, .int w12, .int w13, .int w14, .int w15, .ref y16, .ref y17, .ref y18, .ref y19, .ref y20, .ref y21, .ref y22, .ref y23, .ref y24, .ref y25, .ref y26, .ref y27, .ref y28, .ref y29, .ref y30, .ref y31, .ref y32, .int w33, .int w34, .int w35, .ref y36, .int w37, .int w38, .int w39, .ref y40, .ref y41, .ref y42, .int w43, .long v44])), (y1, .inl (T 0, 4, .inl c1)), (y2, .inl (T 0, 4, .inl c2)), (y3, .inl (T 2, 240, .inr (.inl c3)))]) [0, 1, 2, 3] rfl
      have hD9 := hD.sub (ws' := [(ym, .inr (11, [.int 0, .ref y1, .ref y2, .ref y3, .ref y4, .ref y5, .int w6, .int w7, .int w8, .int w9, .int w10, .long v11, .int w12, .int w13, .int w14, .int w15, .ref y16, .ref y17, .ref y18, .ref y19, .ref y20, .ref y21, .ref y22, .ref y23, .ref y24, .ref y25, .ref y26, .ref y27, .ref y28, .ref y29, .ref y30, .ref y31, .ref y32, .int w33, .int w34, .int w35, .ref y36, .int w37, .int w38, .int w39, .ref y40, .ref y41, .ref y42, .int w43, .long v44])), (y1, .inl (T 0, 4, .inl c1)), (y2, .inl (T 0, 4, .inl c2)), (y3, .inl (T 2, 240, .inr (.inl c3)))]) [0, 1, 2, 3] (by decide) rfl
      exact W.iret (v := (-2)) hx hb hr (fun t ht hW => ⟨⟨(-2), (fun k => ([] : List (Nat)).getD k 0, fun k => ([c1, c2] : List (Nat → Int32)).getD k (fun _ => 0), fun k => ([c3] : List (Nat → Int64)).getD k (fun _ => 0), fun k => ([] : List (Int32)).getD k 0, fun k => ([] : List (Int64)).getD k 0), rfl, ⟨(Or.inl (⟨rfl, (show (i1.toInt < 0 ∨ 3 < i1.toInt ∨ i2.toInt < 0 ∨ 3 < i2.toInt ∨ 60 < i3.toInt) by omega)⟩)), (show ((-2 : Int) = 0 ∧ c1 = upd c1 i1.toNatClampNeg i2) ∨ (¬ (-2 : Int) = 0 ∧ c1 = c1) by first | exact Or.inl ⟨rfl, by assumption⟩ | exact Or.inr ⟨by decide, rfl⟩), (show rg 0 60 c2 from R_c2), (show ((-2 : Int) = 0 ∧ c2 = upd c2 i1.toNatClampNeg i3) ∨ (¬ (-2 : Int) = 0 ∧ c2 = c2) by first | exact Or.inl ⟨rfl, by assumption⟩ | exact Or.inr ⟨by decide, rfl⟩)⟩, by rw [ht]; exact hP9, hD9⟩, hS.F ht⟩) hS.2.2 dX11_row_32
  · refine lv_if_eq (tgt := 30) hx hb dX11_row_9 (by decide) (fun _ => ?_) (fun c_30 => absurd (by decide) c_30)
    refine lv_bipush (v := (-2)) hx hb dX11_row_30 (by decide) ?_
    have hP9 := hP.sub (ws' := [(ym, .inr (11, [.int 0, .ref y1, .ref y2, .ref y3, .ref y4, .ref y5, .int w6, .int w7, .int w8, .int w9, .int w10, .long v11, .int w12, .int w13, .int w14, .int w15, .ref y16, .ref y17, .ref y18, .ref y19, .ref y20, .ref y21, .ref y22, .ref y23, .ref y24, .ref y25, .ref y26, .ref y27, .ref y28, .ref y29, .ref y30, .ref y31, .ref y32, .int w33, .int w34, .int w35, .ref y36, .int w37, .int w38, .int w39, .ref y40, .ref y41, .ref y42, .int w43, .long v44])), (y1, .inl (T 0, 4, .inl c1)), (y2, .inl (T 0, 4, .inl c2)), (y3, .inl (T 2, 240, .inr (.inl c3)))]) [0, 1, 2, 3] rfl
    have hD9 := hD.sub (ws' := [(ym, .inr (11, [.int 0, .ref y1, .ref y2, .ref y3, .ref y4, .ref y5, .int w6, .int w7, .int w8, .int w9, .int w10, .long v11, .int w12, .int w13, .int w14, .int w15, .ref y16, .ref y17, .ref y18, .ref y19, .ref y20, .ref y21, .ref y22, .ref y23, .ref y24, .ref y25, .ref y26, .ref y27, .ref y28, .ref y29, .ref y30, .ref y31, .ref y32, .int w33, .int w34, .int w35, .ref y36, .int w37, .int w38, .int w39, .ref y40, .ref y41, .ref y42, .int w43, .long v44])), (y1, .inl (T 0, 4, .inl c1)), (y2, .inl (T 0, 4, .inl c2)), (y3, .inl (T 2, 240, .inr (.inl c3)))]) [0, 1, 2, 3] (by decide) rfl
    exact W.iret (v := (-2)) hx hb hr (fun t ht hW => ⟨⟨(-2), (fun k => ([] : List (Nat)).getD k 0, fun k => ([c1, c2] : List (Nat → Int32)).getD k (fun _ => 0), fun k => ([c3] : List (Nat → Int64)).getD k (fun _ => 0), fun k => ([] : List (Int32)).getD k 0, fun k => ([] : List (Int64)).getD k 0), rfl, ⟨(Or.inl (⟨rfl, (show (i1.toInt < 0 ∨ 3 < i1.toInt ∨ i2.toInt < 0 ∨ 3 < i2.toInt ∨ 60 < i3.toInt) by omega)⟩)), (show ((-2 : Int) = 0 ∧ c1 = upd c1 i1.toNatClampNeg i2) ∨ (¬ (-2 : Int) = 0 ∧ c1 = c1) by first | exact Or.inl ⟨rfl, by assumption⟩ | exact Or.inr ⟨by decide, rfl⟩), (show rg 0 60 c2 from R_c2), (show ((-2 : Int) = 0 ∧ c2 = upd c2 i1.toNatClampNeg i3) ∨ (¬ (-2 : Int) = 0 ∧ c2 = c2) by first | exact Or.inl ⟨rfl, by assumption⟩ | exact Or.inr ⟨by decide, rfl⟩)⟩, by rw [ht]; exact hP9, hD9⟩, hS.F ht⟩) hS.2.2 dX11_row_32

set_option maxHeartbeats 4000000 in
set_option maxRecDepth 100000 in
theorem c_X11_write (l : Launch) (D : va_G) (T : Nat → ClassId) (y1 y16 y17 y18 y19 y2 y20 y21 y22 y23 y24 y25 y26 y27 y28 y29 y3 y30 y31 y32 y36 y4 y40 y41 y42 y5 ym : Nat) (i1 i2 w0 w10 w12 w13 w14 w15 w33 w34 w35 w37 w38 w39 w43 w6 w7 w8 w9 : Int32) (v11 v3 v44 : Int64) (c1 c2 : Nat → Int32) (c3 : Nat → Int64) (sz : Nat) (h_w6 : 0 ≤ w6.toInt ∧ w6.toInt ≤ 1600) (h_w43 : 0 ≤ w43.toInt ∧ w43.toInt ≤ 16) (R_c2 : rg 0 60 c2) : Met l yX11_write (wM yX11_write cX11_write 5 (some .int)) ({ frames := 2, cells := 0, slots := 0, locals := 45 }) (va_Pc [.ref ym, .int i1, .int i2, .long v3] (pwM D T [(ym, .inr (11, [.int w0, .ref y1, .ref y2, .ref y3, .ref y4, .ref y5, .int w6, .int w7, .int w8, .int w9, .int w10, .long v11, .int w12, .int w13, .int w14, .int w15, .ref y16, .ref y17, .ref y18, .ref y19, .ref y20, .ref y21, .ref y22, .ref y23, .ref y24, .ref y25, .ref y26, .ref y27, .ref y28, .ref y29, .ref y30, .ref y31, .ref y32, .int w33, .int w34, .int w35, .ref y36, .int w37, .int w38, .int w39, .ref y40, .ref y41, .ref y42, .int w43, .long v44])), (y1, .inl (T 0, 4, .inl c1)), (y2, .inl (T 0, 4, .inl c2)), (y3, .inl (T 2, 240, .inr (.inl c3)))] sz)) (va_Qi (fun (r : Int32) (u : U5) => (r = (-2) ∧ (i1.toInt < 0 ∨ 3 < i1.toInt)) ∨ (r = (-6) ∧ 0 ≤ i1.toInt ∧ i1.toInt ≤ 3 ∧ (c1 (i1.toInt).toNat).toInt = -1) ∨ (r = (-7) ∧ 0 ≤ i1.toInt ∧ i1.toInt ≤ 3 ∧ ¬ (c1 (i1.toInt).toNat).toInt = -1 ∧ (i2.toInt < 0 ∨ (c2 (i1.toInt).toNat).toInt ≤ i2.toInt)) ∨ (r = 0 ∧ 0 ≤ i1.toInt ∧ i1.toInt ≤ 3 ∧ ¬ (c1 (i1.toInt).toNat).toInt = -1 ∧ 0 ≤ i2.toInt ∧ i2.toInt < (c2 (i1.toInt).toNat).toInt)) (fun u t => pwE D (va_A [(ym, .inr (11, [.int w0, .ref y1, .ref y2, .ref y3, .ref y4, .ref y5, .int w6, .int w7, .int w8, .int w9, .int w10, .long v11, .int w12, .int w13, .int w14, .int w15, .ref y16, .ref y17, .ref y18, .ref y19, .ref y20, .ref y21, .ref y22, .ref y23, .ref y24, .ref y25, .ref y26, .ref y27, .ref y28, .ref y29, .ref y30, .ref y31, .ref y32, .int w33, .int w34, .int w35, .ref y36, .int w37, .int w38, .int w39, .ref y40, .ref y41, .ref y42, .int w43, .long v44])), (y1, .inl (T 0, 4, .inl c1)), (y2, .inl (T 0, 4, .inl c2)), (y3, .inl (T 2, 240, .inr (.inl c3)))] sz) [(ym, .inr (11, [.int 0, .ref y1, .ref y2, .ref y3, .ref y4, .ref y5, .int w6, .int w7, .int w8, .int w9, .int w10, .long v11, .int w12, .int w13, .int w14, .int w15, .ref y16, .ref y17, .ref y18, .ref y19, .ref y20, .ref y21, .ref y22, .ref y23, .ref y24, .ref y25, .ref y26, .ref y27, .ref y28, .ref y29, .ref y30, .ref y31, .ref y32, .int w33, .int w34, .int w35, .ref y36, .int w37, .int w38, .int w39, .ref y40, .ref y41, .ref y42, .int w43, .long v44])), (y1, .inl (T 0, 4, .inl c1)), (y2, .inl (T 0, 4, .inl c2)), (y3, .inl (T 2, 240, .inr (.inl (u.2.2.1 0))))] t) (va_A [(ym, .inr (11, [.int w0, .ref y1, .ref y2, .ref y3, .ref y4, .ref y5, .int w6, .int w7, .int w8, .int w9, .int w10, .long v11, .int w12, .int w13, .int w14, .int w15, .ref y16, .ref y17, .ref y18, .ref y19, .ref y20, .ref y21, .ref y22, .ref y23, .ref y24, .ref y25, .ref y26, .ref y27, .ref y28, .ref y29, .ref y30, .ref y31, .ref y32, .int w33, .int w34, .int w35, .ref y36, .int w37, .int w38, .int w39, .ref y40, .ref y41, .ref y42, .int w43, .long v44])), (y1, .inl (T 0, 4, .inl c1)), (y2, .inl (T 0, 4, .inl c2)), (y3, .inl (T 2, 240, .inr (.inl c3)))] sz)) 0 0 (va_A [(ym, .inr (11, [.int w0, .ref y1, .ref y2, .ref y3, .ref y4, .ref y5, .int w6, .int w7, .int w8, .int w9, .int w10, .long v11, .int w12, .int w13, .int w14, .int w15, .ref y16, .ref y17, .ref y18, .ref y19, .ref y20, .ref y21, .ref y22, .ref y23, .ref y24, .ref y25, .ref y26, .ref y27, .ref y28, .ref y29, .ref y30, .ref y31, .ref y32, .int w33, .int w34, .int w35, .ref y36, .int w37, .int w38, .int w39, .ref y40, .ref y41, .ref y42, .int w43, .long v44])), (y1, .inl (T 0, 4, .inl c1)), (y2, .inl (T 0, 4, .inl c2)), (y3, .inl (T 2, 240, .inr (.inl c3)))] sz) := by
  refine Met.ofW (cc := cX11_write) (maxL := 5) (ret := (some .int)) (by decide) rfl ?_
  intro p e s m args below meth c s₁ B hml hv
  obtain ⟨rfl, hsz, hP, hC, hD0⟩ := hv
  have hx := B.exec
  have hb := B.bytes
  have hr := B.returns
  have hts : ∀ w ∈ gt, w.before _ s = true := fun w hw => atoms_spec (ws := (wM yX11_write cX11_write 5 (some .int))) B.pre w (List.mem_cons_of_mem _ hw)
  have hown : s.vm.findClass RX11 = some m.cls := findClass_of_methodNamed B.named
  have hlocks := B.notSynchronized
  have hK := hC.1
  subst hsz
  have hD := hD0.self (sz := s.heap.size)
  generalize hAe : va_A [(ym, .inr (11, [.int w0, .ref y1, .ref y2, .ref y3, .ref y4, .ref y5, .int w6, .int w7, .int w8, .int w9, .int w10, .long v11, .int w12, .int w13, .int w14, .int w15, .ref y16, .ref y17, .ref y18, .ref y19, .ref y20, .ref y21, .ref y22, .ref y23, .ref y24, .ref y25, .ref y26, .ref y27, .ref y28, .ref y29, .ref y30, .ref y31, .ref y32, .int w33, .int w34, .int w35, .ref y36, .int w37, .int w38, .int w39, .ref y40, .ref y41, .ref y42, .int w43, .long v44])), (y1, .inl (T 0, 4, .inl c1)), (y2, .inl (T 0, 4, .inl c2)), (y3, .inl (T 2, 240, .inr (.inl c3)))] s.heap.size = A at hD ⊢
  have hA : ∀ q : Nat, s.heap.size ≤ q → A q := fun q h => by rw [← hAe]; exact Or.inr h
  have hS : va_S A s.heap s.heap [] := va_S.rf
  have hl := lv_entry ([.ref ym, .int i1, .int i2, .long v3]) (n := 5) (Nat.le_of_ble_eq_true rfl)
  rw [lg_entry_eq]
  generalize (lg_sl ([.ref ym, .int i1, .int i2, .long v3]) ++ List.replicate (5 - (lg_sl ([.ref ym, .int i1, .int i2, .long v3])).length) Slot.unset).toArray = ls at hl ⊢
  have hl : lv_has ls 5 [(0, .ref ym), (1, .int i1), (2, .int i2), (3, .long v3)] := hl
  refine lv_aload_n hx hb dX11_write_0 rfl (lv_at hl 0 rfl) ?_
  refine lv_iconst (v := 0) hx hb dX11_write_1 (by decide) ?_
  refine va_put (D := D) (ci := 11) (v := .int 0) (ty := .int) (C := RX11) (T := TX11) (N := 45) hx hb hts iX11 tyX11 tyX11_ok nmX11 hown hK hP hD hS 0 rfl rfl 0 (by decide) (hts _ m1318) (fun _ h9 => h9) rfl (by decide +kernel) rfl rfl (Nat.le_of_ble_eq_true rfl) dX11_write_2 (fun H locs hP hD hS => ?_)
  have hP : va_P D vwCl [(ym, .inr (11, [.int 0, .ref y1, .ref y2, .ref y3, .ref y4, .ref y5, .int w6, .int w7, .int w8, .int w9, .int w10, .long v11, .int w12, .int w13, .int w14, .int w15, .ref y16, .ref y17, .ref y18, .ref y19, .ref y20, .ref y21, .ref y22, .ref y23, .ref y24, .ref y25, .ref y26, .ref y27, .ref y28, .ref y29, .ref y30, .ref y31, .ref y32, .int w33, .int w34, .int w35, .ref y36, .int w37, .int w38, .int w39, .ref y40, .ref y41, .ref y42, .int w43, .long v44])), (y1, .inl (T 0, 4, .inl c1)), (y2, .inl (T 0, 4, .inl c2)), (y3, .inl (T 2, 240, .inr (.inl c3)))] H := hP
  have hD : va_D A [(ym, .inr (11, [.int 0, .ref y1, .ref y2, .ref y3, .ref y4, .ref y5, .int w6, .int w7, .int w8, .int w9, .int w10, .long v11, .int w12, .int w13, .int w14, .int w15, .ref y16, .ref y17, .ref y18, .ref y19, .ref y20, .ref y21, .ref y22, .ref y23, .ref y24, .ref y25, .ref y26, .ref y27, .ref y28, .ref y29, .ref y30, .ref y31, .ref y32, .int w33, .int w34, .int w35, .ref y36, .int w37, .int w38, .int w39, .ref y40, .ref y41, .ref y42, .int w43, .long v44])), (y1, .inl (T 0, 4, .inl c1)), (y2, .inl (T 0, 4, .inl c2)), (y3, .inl (T 2, 240, .inr (.inl c3)))] := hD
  refine lv_iload_n hx hb dX11_write_5 rfl (lv_at hl 1 rfl) ?_
  refine puI (cS (As := [.int i1]) (rest := []) ⟨hx, hb, hml, hown, hts⟩ (c_X11_isSlot l D T i1) k_X11_isSlot m1458 m1457 rfl rfl ⟨(Nat.le_of_ble_eq_true rfl), (Nat.le_of_ble_eq_true rfl)⟩ (preP hC (hP.sub (ws' := []) [] rfl)) rfl hl.1 rfl (Nat.le_of_ble_eq_true rfl) dX11_write_6 ⟨(Nat.le_of_ble_eq_true rfl), (Nat.le_of_ble_eq_true rfl)⟩) hS hP (fun r_1 H locs hw hP hS => ?_)
  have w_3 : (r_1 = 1 ∧ 0 ≤ i1.toInt ∧ i1.toInt ≤ 3) ∨ (r_1 = 0 ∧ (i1.toInt < 0 ∨ 3 < i1.toInt)) := hw
  rcases w_3 with ⟨rfl, c_4, c_5⟩ | ⟨rfl, c_6⟩
  · refine lv_if_ne (tgt := 15) hx hb dX11_write_9 (by decide) (fun _ => ?_) (fun c_7 => absurd c_7 (by decide))
    refine lv_aload_n hx hb dX11_write_15 rfl (lv_at hl 0 rfl) ?_
    refine va_get (D := D) (ci := 11) (C := RX11) (T := TX11) (N := 45) hx hb hts iX11 hown hK hP 0 rfl rfl 1 (by decide) (hts _ m1319) (fun _ h9 => h9) rfl dX11_write_16 ?_
    refine lv_iload_n hx hb dX11_write_19 rfl (lv_at hl 1 rfl) ?_
    refine va_iald (D := D) hx hb hK hP 1 0 rfl rfl (v_in (x := i1.toInt) rfl (by omega) (by omega)) dX11_write_20 ?_
    refine lv_topi (fun x_8 ex_8 => ?_)
    have qx_8 : x_8.toInt = (c1 (i1.toInt).toNat).toInt := by rw [ex_8, tn (show i1.toInt = i1.toInt by omega)]
    refine lv_iconst (v := (-1)) hx hb dX11_write_21 (by decide) ?_
    refine lv_icmp_ne (tgt := 28) hx hb dX11_write_22 (by decide) (fun c_9 => ?_) (fun c_9 => ?_)
    · have c_9 : ¬ x_8.toInt = (-1) := fun h => c_9 ((c_eq (x := x_8.toInt) (y := (-1)) rfl rfl).mpr h)
      refine lv_iload_n hx hb dX11_write_28 rfl (lv_at hl 2 rfl) ?_
      refine lv_i2l hx hb dX11_write_29 rfl ?_
      refine lv_lconst (v := 0) hx hb dX11_write_30 (by decide) ?_
      refine lv_aload_n hx hb dX11_write_31 rfl (lv_at hl 0 rfl) ?_
      refine va_get (D := D) (ci := 11) (C := RX11) (T := TX11) (N := 45) hx hb hts iX11 hown hK hP 0 rfl rfl 2 (by decide) (hts _ m1320) (fun _ h9 => h9) rfl dX11_write_32 ?_
      refine lv_iload_n hx hb dX11_write_35 rfl (lv_at hl 1 rfl) ?_
      refine va_iald (D := D) hx hb hK hP 2 0 rfl rfl (v_in (x := i1.toInt) rfl (by omega) (by omega)) dX11_write_36 ?_
      refine lv_topi (fun x_10 ex_10 => ?_)
      have tx_10 : 0 ≤ x_10.toInt ∧ x_10.toInt ≤ 60 := rg_at R_c2 ex_10
      have qx_10 : x_10.toInt = (c2 (i1.toInt).toNat).toInt := by rw [ex_10, tn (show i1.toInt = i1.toInt by omega)]
      refine lv_iconst (v := 1) hx hb dX11_write_37 (by decide) ?_
      refine lv_isub hx hb dX11_write_38 ?_
      refine lv_topi (fun x_11 ex_11 => ?_)
      have tx_11 : x_11.toInt = x_10.toInt - 1 := t_sub (x := x_10.toInt) (y := 1) ex_11 rfl rfl (by omega) (by omega)
      refine lv_i2l hx hb dX11_write_39 rfl ?_
      refine puI (cS (As := [.long i2.toInt64, .long 0, .long x_11.toInt64]) (rest := []) ⟨hx, hb, hml, hown, hts⟩ (c_X11_in l D T i2.toInt64 0 x_11.toInt64) k_X11_in m1462 m1461 rfl rfl ⟨(Nat.le_of_ble_eq_true rfl), (Nat.le_of_ble_eq_true rfl)⟩ (preP hC (hP.sub (ws' := []) [] rfl)) rfl hl.1 rfl (Nat.le_of_ble_eq_true rfl) dX11_write_40 ⟨(Nat.le_of_ble_eq_true rfl), (Nat.le_of_ble_eq_true rfl)⟩) hS hP (fun r_12 H locs hw hP hS => ?_)
      have w_14 : (r_12 = 1 ∧ (0 : Int64).toInt ≤ i2.toInt64.toInt ∧ i2.toInt64.toInt ≤ x_11.toInt64.toInt) ∨ (r_12 = 0 ∧ (i2.toInt64.toInt < (0 : Int64).toInt ∨ x_11.toInt64.toInt < i2.toInt64.toInt)) := hw
      rcases w_14 with ⟨rfl, c_15, c_16⟩ | ⟨rfl, c_17⟩
      · have c_15 : 0 ≤ i2.toInt := kle (by decide) (i_64 _) c_15
        have c_16 : i2.toInt ≤ x_11.toInt := kle (i_64 _) (i_64 _) c_16
        refine lv_if_ne (tgt := 49) hx hb dX11_write_43 (by decide) (fun _ => ?_) (fun c_18 => absurd c_18 (by decide))
        refine lv_aload_n hx hb dX11_write_49 rfl (lv_at hl 0 rfl) ?_
        refine va_get (D := D) (ci := 11) (C := RX11) (T := TX11) (N := 45) hx hb hts iX11 hown hK hP 0 rfl rfl 3 (by decide) (hts _ m1321) (fun _ h9 => h9) rfl dX11_write_50 ?_
        refine lv_bipush (v := 60) hx hb dX11_write_53 (by decide) ?_
        refine lv_iload_n hx hb dX11_write_55 rfl (lv_at hl 1 rfl) ?_
        refine lv_imul hx hb dX11_write_56 ?_
        refine lv_topi (fun x_19 ex_19 => ?_)
        have tx_19 : x_19.toInt = 60 * i1.toInt := t_mul (x := 60) (y := i1.toInt) ex_19 rfl rfl (by omega) (by omega)
        refine lv_iload_n hx hb dX11_write_57 rfl (lv_at hl 2 rfl) ?_
        refine lv_iadd hx hb dX11_write_58 ?_
        refine lv_topi (fun x_20 ex_20 => ?_)
        have tx_20 : x_20.toInt = x_19.toInt + i2.toInt := t_add (x := x_19.toInt) (y := i2.toInt) ex_20 rfl rfl (by omega) (by omega)
        refine lv_lload_n hx hb dX11_write_59 rfl (lv_at hl 3 rfl) ?_
        refine lv_aload_n hx hb dX11_write_60 rfl (lv_at hl 0 rfl) ?_
        refine va_get (D := D) (ci := 11) (C := RX11) (T := TX11) (N := 45) hx hb hts iX11 hown hK hP 0 rfl rfl 1 (by decide) (hts _ m1319) (fun _ h9 => h9) rfl dX11_write_61 ?_
        refine lv_iload_n hx hb dX11_write_64 rfl (lv_at hl 1 rfl) ?_
        refine va_iald (D := D) hx hb hK hP 1 0 rfl rfl (v_in (x := i1.toInt) rfl (by omega) (by omega)) dX11_write_65 ?_
        refine lv_topi (fun x_21 ex_21 => ?_)
        have qx_21 : x_21.toInt = (c1 (i1.toInt).toNat).toInt := by rw [ex_21, tn (show i1.toInt = i1.toInt by omega)]
        refine puL (cS (As := [.long v3, .int x_21]) (rest := [.int x_20, .ref y3]) ⟨hx, hb, hml, hown, hts⟩ (c_X11_cut l D T x_21 v3) k_X11_cut m1469 m1468 rfl rfl ⟨(Nat.le_of_ble_eq_true rfl), (Nat.le_of_ble_eq_true rfl)⟩ (preP hC (hP.sub (ws' := []) [] rfl)) rfl hl.1 rfl (Nat.le_of_ble_eq_true rfl) dX11_write_66 ⟨(Nat.le_of_ble_eq_true rfl), (Nat.le_of_ble_eq_true rfl)⟩) hS hP (fun r_22 H locs hw hP hS => ?_)
        refine va_last (D := D) hx hb hK hP hD hS 3 2 rfl rfl (v_in (x := x_20.toInt) rfl (by omega) (by omega)) dX11_write_69 (fun H locs hP hD hS => ?_)
        obtain ⟨f_24, hf_24⟩ : ∃ g : Nat → Int64, g = vp_updL c3 x_20.toNatClampNeg r_22 := ⟨_, rfl⟩
        have hP : va_P D vwCl [(ym, .inr (11, [.int 0, .ref y1, .ref y2, .ref y3, .ref y4, .ref y5, .int w6, .int w7, .int w8, .int w9, .int w10, .long v11, .int w12, .int w13, .int w14, .int w15, .ref y16, .ref y17, .ref y18, .ref y19, .ref y20, .ref y21, .ref y22, .ref y23, .ref y24, .ref y25, .ref y26, .ref y27, .ref y28, .ref y29, .ref y30, .ref y31, .ref y32, .int w33, .int w34, .int w35, .ref y36, .int w37, .int w38, .int w39, .ref y40, .ref y41, .ref y42, .int w43, .long v44])), (y1, .inl (T 0, 4, .inl c1)), (y2, .inl (T 0, 4, .inl c2)), (y3, .inl (T 2, 240, .inr (.inl (vp_updL c3 x_20.toNatClampNeg r_22))))] H := hP
        have hD : va_D A [(ym, .inr (11, [.int 0, .ref y1, .ref y2, .ref y3, .ref y4, .ref y5, .int w6, .int w7, .int w8, .int w9, .int w10, .long v11, .int w12, .int w13, .int w14, .int w15, .ref y16, .ref y17, .ref y18, .ref y19, .ref y20, .ref y21, .ref y22, .ref y23, .ref y24, .ref y25, .ref y26, .ref y27, .ref y28, .ref y29, .ref y30, .ref y31, .ref y32, .int w33, .int w34, .int w35, .ref y36, .int w37, .int w38, .int w39, .ref y40, .ref y41, .ref y42, .int w43, .long v44])), (y1, .inl (T 0, 4, .inl c1)), (y2, .inl (T 0, 4, .inl c2)), (y3, .inl (T 2, 240, .inr (.inl (vp_updL c3 x_20.toNatClampNeg r_22))))] := hD
        rw [← hf_24] at hP hD
        refine lv_iconst (v := 0) hx hb dX11_write_70 (by decide) ?_
        have hP9 := hP.sub (ws' := [(ym, .inr (11, [.int 0, .ref y1, .ref y2, .ref y3, .ref y4, .ref y5, .int w6, .int w7, .int w8, .int w9, .int w10, .long v11, .int w12, .int w13, .int w14, .int w15, .ref y16, .ref y17, .ref y18, .ref y19, .ref y20, .ref y21, .ref y22, .ref y23, .ref y24, .ref y25, .ref y26, .ref y27, .ref y28, .ref y29, .ref y30, .ref y31, .ref y32, .int w33, .int w34, .int w35, .ref y36, .int w37, .int w38, .int w39, .ref y40, .ref y41, .ref y42, .int w43, .long v44])), (y1, .inl (T 0, 4, .inl c1)), (y2, .inl (T 0, 4, .inl c2)), (y3, .inl (T 2, 240, .inr (.inl f_24)))]) [0, 1, 2, 3] rfl
        have hD9 := hD.sub (ws' := [(ym, .inr (11, [.int 0, .ref y1, .ref y2, .ref y3, .ref y4, .ref y5, .int w6, .int w7, .int w8, .int w9, .int w10, .long v11, .int w12, .int w13, .int w14, .int w15, .ref y16, .ref y17, .ref y18, .ref y19, .ref y20, .ref y21, .ref y22, .ref y23, .ref y24, .ref y25, .ref y26, .ref y27, .ref y28, .ref y29, .ref y30, .ref y31, .ref y32, .int w33, .int w34, .int w35, .ref y36, .int w37, .int w38, .int w39, .ref y40, .ref y41, .ref y42, .int w43, .long v44])), (y1, .inl (T 0, 4, .inl c1)), (y2, .inl (T 0, 4, .inl c2)), (y3, .inl (T 2, 240, .inr (.inl f_24)))]) [0, 1, 2, 3] (by decide) rfl
        exact W.iret (v := 0) hx hb hr (fun t ht hW => ⟨⟨0, (fun k => ([] : List (Nat)).getD k 0, fun k => ([] : List (Nat → Int32)).getD k (fun _ => 0), fun k => ([f_24] : List (Nat → Int64)).getD k (fun _ => 0), fun k => ([] : List (Int32)).getD k 0, fun k => ([] : List (Int64)).getD k 0), rfl, (Or.inr (Or.inr (Or.inr (⟨rfl, (show 0 ≤ i1.toInt by omega), (show i1.toInt ≤ 3 by omega), (show ¬ (c1 (i1.toInt).toNat).toInt = -1 by omega), (show 0 ≤ i2.toInt by omega), (show i2.toInt < (c2 (i1.toInt).toNat).toInt by omega)⟩)))), by rw [ht]; exact hP9, hD9⟩, hS.F ht⟩) hS.2.2 dX11_write_71
      · have c_17 : i2.toInt < 0 ∨ x_11.toInt < i2.toInt := klo (i_64 _) (by decide) (i_64 _) c_17
        refine lv_if_ne (tgt := 49) hx hb dX11_write_43 (by decide) (fun c_25 => absurd c_25 (by decide)) (fun _ => ?_)
        refine lv_bipush (v := (-7)) hx hb dX11_write_46 (by decide) ?_
        have hP9 := hP.sub (ws' := [(ym, .inr (11, [.int 0, .ref y1, .ref y2, .ref y3, .ref y4, .ref y5, .int w6, .int w7, .int w8, .int w9, .int w10, .long v11, .int w12, .int w13, .int w14, .int w15, .ref y16, .ref y17, .ref y18, .ref y19, .ref y20, .ref y21, .ref y22, .ref y23, .ref y24, .ref y25, .ref y26, .ref y27, .ref y28, .ref y29, .ref y30, .ref y31, .ref y32, .int w33, .int w34, .int w35, .ref y36, .int w37, .int w38, .int w39, .ref y40, .ref y41, .ref y42, .int w43, .long v44])), (y1, .inl (T 0, 4, .inl c1)), (y2, .inl (T 0, 4, .inl c2)), (y3, .inl (T 2, 240, .inr (.inl c3)))]) [0, 1, 2, 3] rfl
        have hD9 := hD.sub (ws' := [(ym, .inr (11, [.int 0, .ref y1, .ref y2, .ref y3, .ref y4, .ref y5, .int w6, .int w7, .int w8, .int w9, .int w10, .long v11, .int w12, .int w13, .int w14, .int w15, .ref y16, .ref y17, .ref y18, .ref y19, .ref y20, .ref y21, .ref y22, .ref y23, .ref y24, .ref y25, .ref y26, .ref y27, .ref y28, .ref y29, .ref y30, .ref y31, .ref y32, .int w33, .int w34, .int w35, .ref y36, .int w37, .int w38, .int w39, .ref y40, .ref y41, .ref y42, .int w43, .long v44])), (y1, .inl (T 0, 4, .inl c1)), (y2, .inl (T 0, 4, .inl c2)), (y3, .inl (T 2, 240, .inr (.inl c3)))]) [0, 1, 2, 3] (by decide) rfl
        exact W.iret (v := (-7)) hx hb hr (fun t ht hW => ⟨⟨(-7), (fun k => ([] : List (Nat)).getD k 0, fun k => ([] : List (Nat → Int32)).getD k (fun _ => 0), fun k => ([c3] : List (Nat → Int64)).getD k (fun _ => 0), fun k => ([] : List (Int32)).getD k 0, fun k => ([] : List (Int64)).getD k 0), rfl, (Or.inr (Or.inr (Or.inl (⟨rfl, (show 0 ≤ i1.toInt by omega), (show i1.toInt ≤ 3 by omega), (show ¬ (c1 (i1.toInt).toNat).toInt = -1 by omega), (show (i2.toInt < 0 ∨ (c2 (i1.toInt).toNat).toInt ≤ i2.toInt) by omega)⟩)))), by rw [ht]; exact hP9, hD9⟩, hS.F ht⟩) hS.2.2 dX11_write_48
    · have c_9 : x_8.toInt = (-1) := (c_eq (x := x_8.toInt) (y := (-1)) rfl rfl).mp c_9
      refine lv_bipush (v := (-6)) hx hb dX11_write_25 (by decide) ?_
      have hP9 := hP.sub (ws' := [(ym, .inr (11, [.int 0, .ref y1, .ref y2, .ref y3, .ref y4, .ref y5, .int w6, .int w7, .int w8, .int w9, .int w10, .long v11, .int w12, .int w13, .int w14, .int w15, .ref y16, .ref y17, .ref y18, .ref y19, .ref y20, .ref y21, .ref y22, .ref y23, .ref y24, .ref y25, .ref y26, .ref y27, .ref y28, .ref y29, .ref y30, .ref y31, .ref y32, .int w33, .int w34, .int w35, .ref y36, .int w37, .int w38, .int w39, .ref y40, .ref y41, .ref y42, .int w43, .long v44])), (y1, .inl (T 0, 4, .inl c1)), (y2, .inl (T 0, 4, .inl c2)), (y3, .inl (T 2, 240, .inr (.inl c3)))]) [0, 1, 2, 3] rfl
      have hD9 := hD.sub (ws' := [(ym, .inr (11, [.int 0, .ref y1, .ref y2, .ref y3, .ref y4, .ref y5, .int w6, .int w7, .int w8, .int w9, .int w10, .long v11, .int w12, .int w13, .int w14, .int w15, .ref y16, .ref y17, .ref y18, .ref y19, .ref y20, .ref y21, .ref y22, .ref y23, .ref y24, .ref y25, .ref y26, .ref y27, .ref y28, .ref y29, .ref y30, .ref y31, .ref y32, .int w33, .int w34, .int w35, .ref y36, .int w37, .int w38, .int w39, .ref y40, .ref y41, .ref y42, .int w43, .long v44])), (y1, .inl (T 0, 4, .inl c1)), (y2, .inl (T 0, 4, .inl c2)), (y3, .inl (T 2, 240, .inr (.inl c3)))]) [0, 1, 2, 3] (by decide) rfl
      exact W.iret (v := (-6)) hx hb hr (fun t ht hW => ⟨⟨(-6), (fun k => ([] : List (Nat)).getD k 0, fun k => ([] : List (Nat → Int32)).getD k (fun _ => 0), fun k => ([c3] : List (Nat → Int64)).getD k (fun _ => 0), fun k => ([] : List (Int32)).getD k 0, fun k => ([] : List (Int64)).getD k 0), rfl, (Or.inr (Or.inl (⟨rfl, (show 0 ≤ i1.toInt by omega), (show i1.toInt ≤ 3 by omega), (show (c1 (i1.toInt).toNat).toInt = -1 by omega)⟩))), by rw [ht]; exact hP9, hD9⟩, hS.F ht⟩) hS.2.2 dX11_write_27
  · refine lv_if_ne (tgt := 15) hx hb dX11_write_9 (by decide) (fun c_26 => absurd c_26 (by decide)) (fun _ => ?_)
    refine lv_bipush (v := (-2)) hx hb dX11_write_12 (by decide) ?_
    have hP9 := hP.sub (ws' := [(ym, .inr (11, [.int 0, .ref y1, .ref y2, .ref y3, .ref y4, .ref y5, .int w6, .int w7, .int w8, .int w9, .int w10, .long v11, .int w12, .int w13, .int w14, .int w15, .ref y16, .ref y17, .ref y18, .ref y19, .ref y20, .ref y21, .ref y22, .ref y23, .ref y24, .ref y25, .ref y26, .ref y27, .ref y28, .ref y29, .ref y30, .ref y31, .ref y32, .int w33, .int w34, .int w35, .ref y36, .int w37, .int w38, .int w39, .ref y40, .ref y41, .ref y42, .int w43, .long v44])), (y1, .inl (T 0, 4, .inl c1)), (y2, .inl (T 0, 4, .inl c2)), (y3, .inl (T 2, 240, .inr (.inl c3)))]) [0, 1, 2, 3] rfl
    have hD9 := hD.sub (ws' := [(ym, .inr (11, [.int 0, .ref y1, .ref y2, .ref y3, .ref y4, .ref y5, .int w6, .int w7, .int w8, .int w9, .int w10, .long v11, .int w12, .int w13, .int w14, .int w15, .ref y16, .ref y17, .ref y18, .ref y19, .ref y20, .ref y21, .ref y22, .ref y23, .ref y24, .ref y25, .ref y26, .ref y27, .ref y28, .ref y29, .ref y30, .ref y31, .ref y32, .int w33, .int w34, .int w35, .ref y36, .int w37, .int w38, .int w39, .ref y40, .ref y41, .ref y42, .int w43, .long v44])), (y1, .inl (T 0, 4, .inl c1)), (y2, .inl (T 0, 4, .inl c2)), (y3, .inl (T 2, 240, .inr (.inl c3)))]) [0, 1, 2, 3] (by decide) rfl
    exact W.iret (v := (-2)) hx hb hr (fun t ht hW => ⟨⟨(-2), (fun k => ([] : List (Nat)).getD k 0, fun k => ([] : List (Nat → Int32)).getD k (fun _ => 0), fun k => ([c3] : List (Nat → Int64)).getD k (fun _ => 0), fun k => ([] : List (Int32)).getD k 0, fun k => ([] : List (Int64)).getD k 0), rfl, (Or.inl (⟨rfl, (show (i1.toInt < 0 ∨ 3 < i1.toInt) by omega)⟩)), by rw [ht]; exact hP9, hD9⟩, hS.F ht⟩) hS.2.2 dX11_write_14

set_option maxHeartbeats 4000000 in
set_option maxRecDepth 100000 in
theorem c_X11_paste (l : Launch) (D : va_G) (T : Nat → ClassId) (y1 y16 y17 y18 y19 y2 y20 y21 y22 y23 y24 y25 y26 y27 y28 y29 y3 y30 y31 y32 y36 y4 y40 y41 y42 y5 ym : Nat) (i1 i2 i3 i4 i5 w0 w10 w12 w13 w14 w15 w33 w34 w35 w37 w38 w39 w43 w6 w7 w8 w9 : Int32) (v11 v44 : Int64) (c1 c2 : Nat → Int32) (c3 c4 : Nat → Int64) (sz : Nat) (h_w6 : 0 ≤ w6.toInt ∧ w6.toInt ≤ 1600) (h_w43 : 0 ≤ w43.toInt ∧ w43.toInt ≤ 16) (R_c2 : rg 0 60 c2) : Met l yX11_paste (wM yX11_paste cX11_paste 7 (some .int)) ({ frames := 2, cells := 0, slots := 0, locals := 45 }) (va_Pc [.ref ym, .int i1, .int i2, .int i3, .int i4, .int i5] (pwM D T [(ym, .inr (11, [.int w0, .ref y1, .ref y2, .ref y3, .ref y4, .ref y5, .int w6, .int w7, .int w8, .int w9, .int w10, .long v11, .int w12, .int w13, .int w14, .int w15, .ref y16, .ref y17, .ref y18, .ref y19, .ref y20, .ref y21, .ref y22, .ref y23, .ref y24, .ref y25, .ref y26, .ref y27, .ref y28, .ref y29, .ref y30, .ref y31, .ref y32, .int w33, .int w34, .int w35, .ref y36, .int w37, .int w38, .int w39, .ref y40, .ref y41, .ref y42, .int w43, .long v44])), (y1, .inl (T 0, 4, .inl c1)), (y2, .inl (T 0, 4, .inl c2)), (y3, .inl (T 2, 240, .inr (.inl c3))), (y4, .inl (T 2, 60, .inr (.inl c4)))] sz)) (va_Qi (fun (r : Int32) (u : U5) => (r = (-2) ∧ (i1.toInt < 0 ∨ 3 < i1.toInt ∨ i3.toInt < 0 ∨ 3 < i3.toInt)) ∨ (r = (-6) ∧ 0 ≤ i1.toInt ∧ i1.toInt ≤ 3 ∧ 0 ≤ i3.toInt ∧ i3.toInt ≤ 3 ∧ ((c1 (i1.toInt).toNat).toInt = -1 ∨ (c1 (i3.toInt).toNat).toInt = -1)) ∨ (r = (-8) ∧ 0 ≤ i1.toInt ∧ i1.toInt ≤ 3 ∧ 0 ≤ i3.toInt ∧ i3.toInt ≤ 3 ∧ ¬ (c1 (i1.toInt).toNat).toInt = -1 ∧ ¬ (c1 (i3.toInt).toNat).toInt = -1 ∧ ¬ (c1 (i1.toInt).toNat).toInt = (c1 (i3.toInt).toNat).toInt) ∨ (r = (-7) ∧ 0 ≤ i1.toInt ∧ i1.toInt ≤ 3 ∧ 0 ≤ i3.toInt ∧ i3.toInt ≤ 3 ∧ ¬ (c1 (i1.toInt).toNat).toInt = -1 ∧ ¬ (c1 (i3.toInt).toNat).toInt = -1 ∧ (c1 (i1.toInt).toNat).toInt = (c1 (i3.toInt).toNat).toInt ∧ (i2.toInt < 0 ∨ i4.toInt < 0 ∨ i5.toInt < 0 ∨ (c2 (i1.toInt).toNat).toInt < i2.toInt + i5.toInt ∨ (c2 (i3.toInt).toNat).toInt < i4.toInt + i5.toInt)) ∨ (r = 0 ∧ 0 ≤ i1.toInt ∧ i1.toInt ≤ 3 ∧ 0 ≤ i3.toInt ∧ i3.toInt ≤ 3 ∧ ¬ (c1 (i1.toInt).toNat).toInt = -1 ∧ ¬ (c1 (i3.toInt).toNat).toInt = -1 ∧ (c1 (i1.toInt).toNat).toInt = (c1 (i3.toInt).toNat).toInt ∧ 0 ≤ i2.toInt ∧ 0 ≤ i4.toInt ∧ 0 ≤ i5.toInt ∧ i2.toInt + i5.toInt ≤ (c2 (i1.toInt).toNat).toInt ∧ i4.toInt + i5.toInt ≤ (c2 (i3.toInt).toNat).toInt)) (fun u t => pwE D (va_A [(ym, .inr (11, [.int w0, .ref y1, .ref y2, .ref y3, .ref y4, .ref y5, .int w6, .int w7, .int w8, .int w9, .int w10, .long v11, .int w12, .int w13, .int w14, .int w15, .ref y16, .ref y17, .ref y18, .ref y19, .ref y20, .ref y21, .ref y22, .ref y23, .ref y24, .ref y25, .ref y26, .ref y27, .ref y28, .ref y29, .ref y30, .ref y31, .ref y32, .int w33, .int w34, .int w35, .ref y36, .int w37, .int w38, .int w39, .ref y40, .ref y41, .ref y42, .int w43, .long v44])), (y1, .inl (T 0, 4, .inl c1)), (y2, .inl (T 0, 4, .inl c2)), (y3, .inl (T 2, 240, .inr (.inl c3))), (y4, .inl (T 2, 60, .inr (.inl c4)))] sz) [(ym, .inr (11, [.int 0, .ref y1, .ref y2, .ref y3, .ref y4, .ref y5, .int w6, .int w7, .int w8, .int w9, .int w10, .long v11, .int w12, .int w13, .int w14, .int w15, .ref y16, .ref y17, .ref y18, .ref y19, .ref y20, .ref y21, .ref y22, .ref y23, .ref y24, .ref y25, .ref y26, .ref y27, .ref y28, .ref y29, .ref y30, .ref y31, .ref y32, .int w33, .int w34, .int w35, .ref y36, .int w37, .int w38, .int w39, .ref y40, .ref y41, .ref y42, .int w43, .long v44])), (y1, .inl (T 0, 4, .inl c1)), (y2, .inl (T 0, 4, .inl c2)), (y3, .inl (T 2, 240, .inr (.inl (u.2.2.1 0)))), (y4, .inl (T 2, 60, .inr (.inl (u.2.2.1 1))))] t) (va_A [(ym, .inr (11, [.int w0, .ref y1, .ref y2, .ref y3, .ref y4, .ref y5, .int w6, .int w7, .int w8, .int w9, .int w10, .long v11, .int w12, .int w13, .int w14, .int w15, .ref y16, .ref y17, .ref y18, .ref y19, .ref y20, .ref y21, .ref y22, .ref y23, .ref y24, .ref y25, .ref y26, .ref y27, .ref y28, .ref y29, .ref y30, .ref y31, .ref y32, .int w33, .int w34, .int w35, .ref y36, .int w37, .int w38, .int w39, .ref y40, .ref y41, .ref y42, .int w43, .long v44])), (y1, .inl (T 0, 4, .inl c1)), (y2, .inl (T 0, 4, .inl c2)), (y3, .inl (T 2, 240, .inr (.inl c3))), (y4, .inl (T 2, 60, .inr (.inl c4)))] sz)) 0 0 (va_A [(ym, .inr (11, [.int w0, .ref y1, .ref y2, .ref y3, .ref y4, .ref y5, .int w6, .int w7, .int w8, .int w9, .int w10, .long v11, .int w12, .int w13, .int w14, .int w15, .ref y16, .ref y17, .ref y18, .ref y19, .ref y20, .ref y21, .ref y22, .ref y23, .ref y24, .ref y25, .ref y26, .ref y27, .ref y28, .ref y29, .ref y30, .ref y31, .ref y32, .int w33, .int w34, .int w35, .ref y36, .int w37, .int w38, .int w39, .ref y40, .ref y41, .ref y42, .int w43, .long v44])), (y1, .inl (T 0, 4, .inl c1)), (y2, .inl (T 0, 4, .inl c2)), (y3, .inl (T 2, 240, .inr (.inl c3))), (y4, .inl (T 2, 60, .inr (.inl c4)))] sz) := by
  refine Met.ofW (cc := cX11_paste) (maxL := 7) (ret := (some .int)) (by decide) rfl ?_
  intro p e s m args below meth c s₁ B hml hv
  obtain ⟨rfl, hsz, hP, hC, hD0⟩ := hv
  have hx := B.exec
  have hb := B.bytes
  have hr := B.returns
  have hts : ∀ w ∈ gt, w.before _ s = true := fun w hw => atoms_spec (ws := (wM yX11_paste cX11_paste 7 (some .int))) B.pre w (List.mem_cons_of_mem _ hw)
  have hown : s.vm.findClass RX11 = some m.cls := findClass_of_methodNamed B.named
  have hlocks := B.notSynchronized
  have hK := hC.1
  subst hsz
  have hD := hD0.self (sz := s.heap.size)
  generalize hAe : va_A [(ym, .inr (11, [.int w0, .ref y1, .ref y2, .ref y3, .ref y4, .ref y5, .int w6, .int w7, .int w8, .int w9, .int w10, .long v11, .int w12, .int w13, .int w14, .int w15, .ref y16, .ref y17, .ref y18, .ref y19, .ref y20, .ref y21, .ref y22, .ref y23, .ref y24, .ref y25, .ref y26, .ref y27, .ref y28, .ref y29, .ref y30, .ref y31, .ref y32, .int w33, .int w34, .int w35, .ref y36, .int w37, .int w38, .int w39, .ref y40, .ref y41, .ref y42, .int w43, .long v44])), (y1, .inl (T 0, 4, .inl c1)), (y2, .inl (T 0, 4, .inl c2)), (y3, .inl (T 2, 240, .inr (.inl c3))), (y4, .inl (T 2, 60, .inr (.inl c4)))] s.heap.size = A at hD ⊢
  have hA : ∀ q : Nat, s.heap.size ≤ q → A q := fun q h => by rw [← hAe]; exact Or.inr h
  have hS : va_S A s.heap s.heap [] := va_S.rf
  have hl := lv_entry ([.ref ym, .int i1, .int i2, .int i3, .int i4, .int i5]) (n := 7) (Nat.le_of_ble_eq_true rfl)
  rw [lg_entry_eq]
  generalize (lg_sl ([.ref ym, .int i1, .int i2, .int i3, .int i4, .int i5]) ++ List.replicate (7 - (lg_sl ([.ref ym, .int i1, .int i2, .int i3, .int i4, .int i5])).length) Slot.unset).toArray = ls at hl ⊢
  have hl : lv_has ls 7 [(0, .ref ym), (1, .int i1), (2, .int i2), (3, .int i3), (4, .int i4), (5, .int i5)] := hl
  refine lv_aload_n hx hb dX11_paste_0 rfl (lv_at hl 0 rfl) ?_
  refine lv_iconst (v := 0) hx hb dX11_paste_1 (by decide) ?_
  refine va_put (D := D) (ci := 11) (v := .int 0) (ty := .int) (C := RX11) (T := TX11) (N := 45) hx hb hts iX11 tyX11 tyX11_ok nmX11 hown hK hP hD hS 0 rfl rfl 0 (by decide) (hts _ m1318) (fun _ h9 => h9) rfl (by decide +kernel) rfl rfl (Nat.le_of_ble_eq_true rfl) dX11_paste_2 (fun H locs hP hD hS => ?_)
  have hP : va_P D vwCl [(ym, .inr (11, [.int 0, .ref y1, .ref y2, .ref y3, .ref y4, .ref y5, .int w6, .int w7, .int w8, .int w9, .int w10, .long v11, .int w12, .int w13, .int w14, .int w15, .ref y16, .ref y17, .ref y18, .ref y19, .ref y20, .ref y21, .ref y22, .ref y23, .ref y24, .ref y25, .ref y26, .ref y27, .ref y28, .ref y29, .ref y30, .ref y31, .ref y32, .int w33, .int w34, .int w35, .ref y36, .int w37, .int w38, .int w39, .ref y40, .ref y41, .ref y42, .int w43, .long v44])), (y1, .inl (T 0, 4, .inl c1)), (y2, .inl (T 0, 4, .inl c2)), (y3, .inl (T 2, 240, .inr (.inl c3))), (y4, .inl (T 2, 60, .inr (.inl c4)))] H := hP
  have hD : va_D A [(ym, .inr (11, [.int 0, .ref y1, .ref y2, .ref y3, .ref y4, .ref y5, .int w6, .int w7, .int w8, .int w9, .int w10, .long v11, .int w12, .int w13, .int w14, .int w15, .ref y16, .ref y17, .ref y18, .ref y19, .ref y20, .ref y21, .ref y22, .ref y23, .ref y24, .ref y25, .ref y26, .ref y27, .ref y28, .ref y29, .ref y30, .ref y31, .ref y32, .int w33, .int w34, .int w35, .ref y36, .int w37, .int w38, .int w39, .ref y40, .ref y41, .ref y42, .int w43, .long v44])), (y1, .inl (T 0, 4, .inl c1)), (y2, .inl (T 0, 4, .inl c2)), (y3, .inl (T 2, 240, .inr (.inl c3))), (y4, .inl (T 2, 60, .inr (.inl c4)))] := hD
  refine lv_iload_n hx hb dX11_paste_5 rfl (lv_at hl 1 rfl) ?_
  refine puI (cS (As := [.int i1]) (rest := []) ⟨hx, hb, hml, hown, hts⟩ (c_X11_isSlot l D T i1) k_X11_isSlot m1458 m1457 rfl rfl ⟨(Nat.le_of_ble_eq_true rfl), (Nat.le_of_ble_eq_true rfl)⟩ (preP hC (hP.sub (ws' := []) [] rfl)) rfl hl.1 rfl (Nat.le_of_ble_eq_true rfl) dX11_paste_6 ⟨(Nat.le_of_ble_eq_true rfl), (Nat.le_of_ble_eq_true rfl)⟩) hS hP (fun r_1 H locs hw hP hS => ?_)
  have w_3 : (r_1 = 1 ∧ 0 ≤ i1.toInt ∧ i1.toInt ≤ 3) ∨ (r_1 = 0 ∧ (i1.toInt < 0 ∨ 3 < i1.toInt)) := hw
  rcases w_3 with ⟨rfl, c_4, c_5⟩ | ⟨rfl, c_6⟩
  · refine lv_if_eq (tgt := 19) hx hb dX11_paste_9 (by decide) (fun c_7 => absurd c_7 (by decide)) (fun _ => ?_)
    refine lv_iload_n hx hb dX11_paste_12 rfl (lv_at hl 3 rfl) ?_
    refine puI (cS (As := [.int i3]) (rest := []) ⟨hx, hb, hml, hown, hts⟩ (c_X11_isSlot l D T i3) k_X11_isSlot m1458 m1457 rfl rfl ⟨(Nat.le_of_ble_eq_true rfl), (Nat.le_of_ble_eq_true rfl)⟩ (preP hC (hP.sub (ws' := []) [] rfl)) rfl hl.1 rfl (Nat.le_of_ble_eq_true rfl) dX11_paste_13 ⟨(Nat.le_of_ble_eq_true rfl), (Nat.le_of_ble_eq_true rfl)⟩) hS hP (fun r_8 H locs hw hP hS => ?_)
    have w_10 : (r_8 = 1 ∧ 0 ≤ i3.toInt ∧ i3.toInt ≤ 3) ∨ (r_8 = 0 ∧ (i3.toInt < 0 ∨ 3 < i3.toInt)) := hw
    rcases w_10 with ⟨rfl, c_11, c_12⟩ | ⟨rfl, c_13⟩
    · refine lv_if_ne (tgt := 22) hx hb dX11_paste_16 (by decide) (fun _ => ?_) (fun c_14 => absurd c_14 (by decide))
      refine lv_aload_n hx hb dX11_paste_22 rfl (lv_at hl 0 rfl) ?_
      refine va_get (D := D) (ci := 11) (C := RX11) (T := TX11) (N := 45) hx hb hts iX11 hown hK hP 0 rfl rfl 1 (by decide) (hts _ m1319) (fun _ h9 => h9) rfl dX11_paste_23 ?_
      refine lv_iload_n hx hb dX11_paste_26 rfl (lv_at hl 1 rfl) ?_
      refine va_iald (D := D) hx hb hK hP 1 0 rfl rfl (v_in (x := i1.toInt) rfl (by omega) (by omega)) dX11_paste_27 ?_
      refine lv_topi (fun x_15 ex_15 => ?_)
      have qx_15 : x_15.toInt = (c1 (i1.toInt).toNat).toInt := by rw [ex_15, tn (show i1.toInt = i1.toInt by omega)]
      refine lv_iconst (v := (-1)) hx hb dX11_paste_28 (by decide) ?_
      refine lv_icmp_eq (tgt := 42) hx hb dX11_paste_29 (by decide) (fun c_16 => ?_) (fun c_16 => ?_)
      · have c_16 : x_15.toInt = (-1) := (c_eq (x := x_15.toInt) (y := (-1)) rfl rfl).mp c_16
        refine lv_bipush (v := (-6)) hx hb dX11_paste_42 (by decide) ?_
        have hP9 := hP.sub (ws' := [(ym, .inr (11, [.int 0, .ref y1, .ref y2, .ref y3, .ref y4, .ref y5, .int w6, .int w7, .int w8, .int w9, .int w10, .long v11, .int w12, .int w13, .int w14, .int w15, .ref y16, .ref y17, .ref y18, .ref y19, .ref y20, .ref y21, .ref y22, .ref y23, .ref y24, .ref y25, .ref y26, .ref y27, .ref y28, .ref y29, .ref y30, .ref y31, .ref y32, .int w33, .int w34, .int w35, .ref y36, .int w37, .int w38, .int w39, .ref y40, .ref y41, .ref y42, .int w43, .long v44])), (y1, .inl (T 0, 4, .inl c1)), (y2, .inl (T 0, 4, .inl c2)), (y3, .inl (T 2, 240, .inr (.inl c3))), (y4, .inl (T 2, 60, .inr (.inl c4)))]) [0, 1, 2, 3, 4] rfl
        have hD9 := hD.sub (ws' := [(ym, .inr (11, [.int 0, .ref y1, .ref y2, .ref y3, .ref y4, .ref y5, .int w6, .int w7, .int w8, .int w9, .int w10, .long v11, .int w12, .int w13, .int w14, .int w15, .ref y16, .ref y17, .ref y18, .ref y19, .ref y20, .ref y21, .ref y22, .ref y23, .ref y24, .ref y25, .ref y26, .ref y27, .ref y28, .ref y29, .ref y30, .ref y31, .ref y32, .int w33, .int w34, .int w35, .ref y36, .int w37, .int w38, .int w39, .ref y40, .ref y41, .ref y42, .int w43, .long v44])), (y1, .inl (T 0, 4, .inl c1)), (y2, .inl (T 0, 4, .inl c2)), (y3, .inl (T 2, 240, .inr (.inl c3))), (y4, .inl (T 2, 60, .inr (.inl c4)))]) [0, 1, 2, 3, 4] (by decide) rfl
        exact W.iret (v := (-6)) hx hb hr (fun t ht hW => ⟨⟨(-6), (fun k => ([] : List (Nat)).getD k 0, fun k => ([] : List (Nat → Int32)).getD k (fun _ => 0), fun k => ([c3, c4] : List (Nat → Int64)).getD k (fun _ => 0), fun k => ([] : List (Int32)).getD k 0, fun k => ([] : List (Int64)).getD k 0), rfl, (Or.inr (Or.inl (⟨rfl, (show 0 ≤ i1.toInt by omega), (show i1.toInt ≤ 3 by omega), (show 0 ≤ i3.toInt by omega), (show i3.toInt ≤ 3 by omega), (show ((c1 (i1.toInt).toNat).toInt = -1 ∨ (c1 (i3.toInt).toNat).toInt = -1) by omega)⟩))), by rw [ht]; exact hP9, hD9⟩, hS.F ht⟩) hS.2.2 dX11_paste_44
      · have c_16 : ¬ x_15.toInt = (-1) := fun h => c_16 ((c_eq (x := x_15.toInt) (y := (-1)) rfl rfl).mpr h)
        refine lv_aload_n hx hb dX11_paste_32 rfl (lv_at hl 0 rfl) ?_
        refine va_get (D := D) (ci := 11) (C := RX11) (T := TX11) (N := 45) hx hb hts iX11 hown hK hP 0 rfl rfl 1 (by decide) (hts _ m1319) (fun _ h9 => h9) rfl dX11_paste_33 ?_
        refine lv_iload_n hx hb dX11_paste_36 rfl (lv_at hl 3 rfl) ?_
        refine va_iald (D := D) hx hb hK hP 1 0 rfl rfl (v_in (x := i3.toInt) rfl (by omega) (by omega)) dX11_paste_37 ?_
        refine lv_topi (fun x_17 ex_17 => ?_)
        have qx_17 : x_17.toInt = (c1 (i3.toInt).toNat).toInt := by rw [ex_17, tn (show i3.toInt = i3.toInt by omega)]
        refine lv_iconst (v := (-1)) hx hb dX11_paste_38 (by decide) ?_
        refine lv_icmp_ne (tgt := 45) hx hb dX11_paste_39 (by decide) (fun c_18 => ?_) (fun c_18 => ?_)
        · have c_18 : ¬ x_17.toInt = (-1) := fun h => c_18 ((c_eq (x := x_17.toInt) (y := (-1)) rfl rfl).mpr h)
          refine lv_aload_n hx hb dX11_paste_45 rfl (lv_at hl 0 rfl) ?_
          refine va_get (D := D) (ci := 11) (C := RX11) (T := TX11) (N := 45) hx hb hts iX11 hown hK hP 0 rfl rfl 1 (by decide) (hts _ m1319) (fun _ h9 => h9) rfl dX11_paste_46 ?_
          refine lv_iload_n hx hb dX11_paste_49 rfl (lv_at hl 1 rfl) ?_
          refine va_iald (D := D) hx hb hK hP 1 0 rfl rfl (v_in (x := i1.toInt) rfl (by omega) (by omega)) dX11_paste_50 ?_
          refine lv_topi (fun x_19 ex_19 => ?_)
          have qx_19 : x_19.toInt = (c1 (i1.toInt).toNat).toInt := by rw [ex_19, tn (show i1.toInt = i1.toInt by omega)]
          refine lv_aload_n hx hb dX11_paste_51 rfl (lv_at hl 0 rfl) ?_
          refine va_get (D := D) (ci := 11) (C := RX11) (T := TX11) (N := 45) hx hb hts iX11 hown hK hP 0 rfl rfl 1 (by decide) (hts _ m1319) (fun _ h9 => h9) rfl dX11_paste_52 ?_
          refine lv_iload_n hx hb dX11_paste_55 rfl (lv_at hl 3 rfl) ?_
          refine va_iald (D := D) hx hb hK hP 1 0 rfl rfl (v_in (x := i3.toInt) rfl (by omega) (by omega)) dX11_paste_56 ?_
          refine lv_topi (fun x_20 ex_20 => ?_)
          have qx_20 : x_20.toInt = (c1 (i3.toInt).toNat).toInt := by rw [ex_20, tn (show i3.toInt = i3.toInt by omega)]
          refine lv_icmp_eq (tgt := 63) hx hb dX11_paste_57 (by decide) (fun c_21 => ?_) (fun c_21 => ?_)
          · have c_21 : x_19.toInt = x_20.toInt := (c_eq (x := x_19.toInt) (y := x_20.toInt) rfl rfl).mp c_21
            refine lv_iload_n hx hb dX11_paste_63 rfl (lv_at hl 2 rfl) ?_
            refine lv_if_lt (tgt := 112) hx hb dX11_paste_64 (by decide) (fun c_22 => ?_) (fun c_22 => ?_)
            · have c_22 : i2.toInt < 0 := (c_lt (x := i2.toInt) (y := 0) rfl rfl).mp c_22
              refine lv_bipush (v := (-7)) hx hb dX11_paste_112 (by decide) ?_
              have hP9 := hP.sub (ws' := [(ym, .inr (11, [.int 0, .ref y1, .ref y2, .ref y3, .ref y4, .ref y5, .int w6, .int w7, .int w8, .int w9, .int w10, .long v11, .int w12, .int w13, .int w14, .int w15, .ref y16, .ref y17, .ref y18, .ref y19, .ref y20, .ref y21, .ref y22, .ref y23, .ref y24, .ref y25, .ref y26, .ref y27, .ref y28, .ref y29, .ref y30, .ref y31, .ref y32, .int w33, .int w34, .int w35, .ref y36, .int w37, .int w38, .int w39, .ref y40, .ref y41, .ref y42, .int w43, .long v44])), (y1, .inl (T 0, 4, .inl c1)), (y2, .inl (T 0, 4, .inl c2)), (y3, .inl (T 2, 240, .inr (.inl c3))), (y4, .inl (T 2, 60, .inr (.inl c4)))]) [0, 1, 2, 3, 4] rfl
              have hD9 := hD.sub (ws' := [(ym, .inr (11, [.int 0, .ref y1, .ref y2, .ref y3, .ref y4, .ref y5, .int w6, .int w7, .int w8, .int w9, .int w10, .long v11, .int w12, .int w13, .int w14, .int w15, .ref y16, .ref y17, .ref y18, .ref y19, .ref y20, .ref y21, .ref y22, .ref y23, .ref y24, .ref y25, .ref y26, .ref y27, .ref y28, .ref y29, .ref y30, .ref y31, .ref y32, .int w33, .int w34, .int w35, .ref y36, .int w37, .int w38, .int w39, .ref y40, .ref y41, .ref y42, .int w43, .long v44])), (y1, .inl (T 0, 4, .inl c1)), (y2, .inl (T 0, 4, .inl c2)), (y3, .inl (T 2, 240, .inr (.inl c3))), (y4, .inl (T 2, 60, .inr (.inl c4)))]) [0, 1, 2, 3, 4] (by decide) rfl
              exact W.iret (v := (-7)) hx hb hr (fun t ht hW => ⟨⟨(-7), (fun k => ([] : List (Nat)).getD k 0, fun k => ([] : List (Nat → Int32)).getD k (fun _ => 0), fun k => ([c3, c4] : List (Nat → Int64)).getD k (fun _ => 0), fun k => ([] : List (Int32)).getD k 0, fun k => ([] : List (Int64)).getD k 0), rfl, (Or.inr (Or.inr (Or.inr (Or.inl (⟨rfl, (show 0 ≤ i1.toInt by omega), (show i1.toInt ≤ 3 by omega), (show 0 ≤ i3.toInt by omega), (show i3.toInt ≤ 3 by omega), (show ¬ (c1 (i1.toInt).toNat).toInt = -1 by omega), (show ¬ (c1 (i3.toInt).toNat).toInt = -1 by omega), (show (c1 (i1.toInt).toNat).toInt = (c1 (i3.toInt).toNat).toInt by omega), (show (i2.toInt < 0 ∨ i4.toInt < 0 ∨ i5.toInt < 0 ∨ (c2 (i1.toInt).toNat).toInt < i2.toInt + i5.toInt ∨ (c2 (i3.toInt).toNat).toInt < i4.toInt + i5.toInt) by omega)⟩))))), by rw [ht]; exact hP9, hD9⟩, hS.F ht⟩) hS.2.2 dX11_paste_114
            · have c_22 : 0 ≤ i2.toInt := by have h := mt (c_lt (x := i2.toInt) (y := 0) rfl rfl).mpr c_22; omega
              refine lv_iload hx hb dX11_paste_67 (lv_at hl 4 rfl) ?_
              refine lv_if_lt (tgt := 112) hx hb dX11_paste_69 (by decide) (fun c_23 => ?_) (fun c_23 => ?_)
              · have c_23 : i4.toInt < 0 := (c_lt (x := i4.toInt) (y := 0) rfl rfl).mp c_23
                refine lv_bipush (v := (-7)) hx hb dX11_paste_112 (by decide) ?_
                have hP9 := hP.sub (ws' := [(ym, .inr (11, [.int 0, .ref y1, .ref y2, .ref y3, .ref y4, .ref y5, .int w6, .int w7, .int w8, .int w9, .int w10, .long v11, .int w12, .int w13, .int w14, .int w15, .ref y16, .ref y17, .ref y18, .ref y19, .ref y20, .ref y21, .ref y22, .ref y23, .ref y24, .ref y25, .ref y26, .ref y27, .ref y28, .ref y29, .ref y30, .ref y31, .ref y32, .int w33, .int w34, .int w35, .ref y36, .int w37, .int w38, .int w39, .ref y40, .ref y41, .ref y42, .int w43, .long v44])), (y1, .inl (T 0, 4, .inl c1)), (y2, .inl (T 0, 4, .inl c2)), (y3, .inl (T 2, 240, .inr (.inl c3))), (y4, .inl (T 2, 60, .inr (.inl c4)))]) [0, 1, 2, 3, 4] rfl
                have hD9 := hD.sub (ws' := [(ym, .inr (11, [.int 0, .ref y1, .ref y2, .ref y3, .ref y4, .ref y5, .int w6, .int w7, .int w8, .int w9, .int w10, .long v11, .int w12, .int w13, .int w14, .int w15, .ref y16, .ref y17, .ref y18, .ref y19, .ref y20, .ref y21, .ref y22, .ref y23, .ref y24, .ref y25, .ref y26, .ref y27, .ref y28, .ref y29, .ref y30, .ref y31, .ref y32, .int w33, .int w34, .int w35, .ref y36, .int w37, .int w38, .int w39, .ref y40, .ref y41, .ref y42, .int w43, .long v44])), (y1, .inl (T 0, 4, .inl c1)), (y2, .inl (T 0, 4, .inl c2)), (y3, .inl (T 2, 240, .inr (.inl c3))), (y4, .inl (T 2, 60, .inr (.inl c4)))]) [0, 1, 2, 3, 4] (by decide) rfl
                exact W.iret (v := (-7)) hx hb hr (fun t ht hW => ⟨⟨(-7), (fun k => ([] : List (Nat)).getD k 0, fun k => ([] : List (Nat → Int32)).getD k (fun _ => 0), fun k => ([c3, c4] : List (Nat → Int64)).getD k (fun _ => 0), fun k => ([] : List (Int32)).getD k 0, fun k => ([] : List (Int64)).getD k 0), rfl, (Or.inr (Or.inr (Or.inr (Or.inl (⟨rfl, (show 0 ≤ i1.toInt by omega), (show i1.toInt ≤ 3 by omega), (show 0 ≤ i3.toInt by omega), (show i3.toInt ≤ 3 by omega), (show ¬ (c1 (i1.toInt).toNat).toInt = -1 by omega), (show ¬ (c1 (i3.toInt).toNat).toInt = -1 by omega), (show (c1 (i1.toInt).toNat).toInt = (c1 (i3.toInt).toNat).toInt by omega), (show (i2.toInt < 0 ∨ i4.toInt < 0 ∨ i5.toInt < 0 ∨ (c2 (i1.toInt).toNat).toInt < i2.toInt + i5.toInt ∨ (c2 (i3.toInt).toNat).toInt < i4.toInt + i5.toInt) by omega)⟩))))), by rw [ht]; exact hP9, hD9⟩, hS.F ht⟩) hS.2.2 dX11_paste_114
              · have c_23 : 0 ≤ i4.toInt := by have h := mt (c_lt (x := i4.toInt) (y := 0) rfl rfl).mpr c_23; omega
                refine lv_iload hx hb dX11_paste_72 (lv_at hl 5 rfl) ?_
                refine lv_if_lt (tgt := 112) hx hb dX11_paste_74 (by decide) (fun c_24 => ?_) (fun c_24 => ?_)
                · have c_24 : i5.toInt < 0 := (c_lt (x := i5.toInt) (y := 0) rfl rfl).mp c_24
                  refine lv_bipush (v := (-7)) hx hb dX11_paste_112 (by decide) ?_
                  have hP9 := hP.sub (ws' := [(ym, .inr (11, [.int 0, .ref y1, .ref y2, .ref y3, .ref y4, .ref y5, .int w6, .int w7, .int w8, .int w9, .int w10, .long v11, .int w12, .int w13, .int w14, .int w15, .ref y16, .ref y17, .ref y18, .ref y19, .ref y20, .ref y21, .ref y22, .ref y23, .ref y24, .ref y25, .ref y26, .ref y27, .ref y28, .ref y29, .ref y30, .ref y31, .ref y32, .int w33, .int w34, .int w35, .ref y36, .int w37, .int w38, .int w39, .ref y40, .ref y41, .ref y42, .int w43, .long v44])), (y1, .inl (T 0, 4, .inl c1)), (y2, .inl (T 0, 4, .inl c2)), (y3, .inl (T 2, 240, .inr (.inl c3))), (y4, .inl (T 2, 60, .inr (.inl c4)))]) [0, 1, 2, 3, 4] rfl
                  have hD9 := hD.sub (ws' := [(ym, .inr (11, [.int 0, .ref y1, .ref y2, .ref y3, .ref y4, .ref y5, .int w6, .int w7, .int w8, .int w9, .int w10, .long v11, .int w12, .int w13, .int w14, .int w15, .ref y16, .ref y17, .ref y18, .ref y19, .ref y20, .ref y21, .ref y22, .ref y23, .ref y24, .ref y25, .ref y26, .ref y27, .ref y28, .ref y29, .ref y30, .ref y31, .ref y32, .int w33, .int w34, .int w35, .ref y36, .int w37, .int w38, .int w39, .ref y40, .ref y41, .ref y42, .int w43, .long v44])), (y1, .inl (T 0, 4, .inl c1)), (y2, .inl (T 0, 4, .inl c2)), (y3, .inl (T 2, 240, .inr (.inl c3))), (y4, .inl (T 2, 60, .inr (.inl c4)))]) [0, 1, 2, 3, 4] (by decide) rfl
                  exact W.iret (v := (-7)) hx hb hr (fun t ht hW => ⟨⟨(-7), (fun k => ([] : List (Nat)).getD k 0, fun k => ([] : List (Nat → Int32)).getD k (fun _ => 0), fun k => ([c3, c4] : List (Nat → Int64)).getD k (fun _ => 0), fun k => ([] : List (Int32)).getD k 0, fun k => ([] : List (Int64)).getD k 0), rfl, (Or.inr (Or.inr (Or.inr (Or.inl (⟨rfl, (show 0 ≤ i1.toInt by omega), (show i1.toInt ≤ 3 by omega), (show 0 ≤ i3.toInt by omega), (show i3.toInt ≤ 3 by omega), (show ¬ (c1 (i1.toInt).toNat).toInt = -1 by omega), (show ¬ (c1 (i3.toInt).toNat).toInt = -1 by omega), (show (c1 (i1.toInt).toNat).toInt = (c1 (i3.toInt).toNat).toInt by omega), (show (i2.toInt < 0 ∨ i4.toInt < 0 ∨ i5.toInt < 0 ∨ (c2 (i1.toInt).toNat).toInt < i2.toInt + i5.toInt ∨ (c2 (i3.toInt).toNat).toInt < i4.toInt + i5.toInt) by omega)⟩))))), by rw [ht]; exact hP9, hD9⟩, hS.F ht⟩) hS.2.2 dX11_paste_114
                · have c_24 : 0 ≤ i5.toInt := by have h := mt (c_lt (x := i5.toInt) (y := 0) rfl rfl).mpr c_24; omega
                  refine lv_iload_n hx hb dX11_paste_77 rfl (lv_at hl 2 rfl) ?_
                  refine lv_i2l hx hb dX11_paste_78 rfl ?_
                  refine lv_iload hx hb dX11_paste_79 (lv_at hl 5 rfl) ?_
                  refine lv_i2l hx hb dX11_paste_81 rfl ?_
                  refine lv_ladd hx hb dX11_paste_82 ?_
                  refine lv_topl (fun x_25 ex_25 => ?_)
                  have tx_25 := kl_addI ex_25
                  refine lv_aload_n hx hb dX11_paste_83 rfl (lv_at hl 0 rfl) ?_
                  refine va_get (D := D) (ci := 11) (C := RX11) (T := TX11) (N := 45) hx hb hts iX11 hown hK hP 0 rfl rfl 2 (by decide) (hts _ m1320) (fun _ h9 => h9) rfl dX11_paste_84 ?_
                  refine lv_iload_n hx hb dX11_paste_87 rfl (lv_at hl 1 rfl) ?_
                  refine va_iald (D := D) hx hb hK hP 2 0 rfl rfl (v_in (x := i1.toInt) rfl (by omega) (by omega)) dX11_paste_88 ?_
                  refine lv_topi (fun x_26 ex_26 => ?_)
                  have tx_26 : 0 ≤ x_26.toInt ∧ x_26.toInt ≤ 60 := rg_at R_c2 ex_26
                  have qx_26 : x_26.toInt = (c2 (i1.toInt).toNat).toInt := by rw [ex_26, tn (show i1.toInt = i1.toInt by omega)]
                  refine lv_i2l hx hb dX11_paste_89 rfl ?_
                  refine W.lcmp hx hb dX11_paste_90 ?_
                  refine lv_if_gt (tgt := 112) hx hb dX11_paste_91 (by decide) (fun c_27 => ?_) (fun c_27 => ?_)
                  · have c_27 : x_26.toInt < x_25.toInt := (kl_gt (a := x_25) (b := x_26.toInt64) (x := x_25.toInt) (y := x_26.toInt) rfl (i_64 _)).mp c_27
                    refine lv_bipush (v := (-7)) hx hb dX11_paste_112 (by decide) ?_
                    have hP9 := hP.sub (ws' := [(ym, .inr (11, [.int 0, .ref y1, .ref y2, .ref y3, .ref y4, .ref y5, .int w6, .int w7, .int w8, .int w9, .int w10, .long v11, .int w12, .int w13, .int w14, .int w15, .ref y16, .ref y17, .ref y18, .ref y19, .ref y20, .ref y21, .ref y22, .ref y23, .ref y24, .ref y25, .ref y26, .ref y27, .ref y28, .ref y29, .ref y30, .ref y31, .ref y32, .int w33, .int w34, .int w35, .ref y36, .int w37, .int w38, .int w39, .ref y40, .ref y41, .ref y42, .int w43, .long v44])), (y1, .inl (T 0, 4, .inl c1)), (y2, .inl (T 0, 4, .inl c2)), (y3, .inl (T 2, 240, .inr (.inl c3))), (y4, .inl (T 2, 60, .inr (.inl c4)))]) [0, 1, 2, 3, 4] rfl
                    have hD9 := hD.sub (ws' := [(ym, .inr (11, [.int 0, .ref y1, .ref y2, .ref y3, .ref y4, .ref y5, .int w6, .int w7, .int w8, .int w9, .int w10, .long v11, .int w12, .int w13, .int w14, .int w15, .ref y16, .ref y17, .ref y18, .ref y19, .ref y20, .ref y21, .ref y22, .ref y23, .ref y24, .ref y25, .ref y26, .ref y27, .ref y28, .ref y29, .ref y30, .ref y31, .ref y32, .int w33, .int w34, .int w35, .ref y36, .int w37, .int w38, .int w39, .ref y40, .ref y41, .ref y42, .int w43, .long v44])), (y1, .inl (T 0, 4, .inl c1)), (y2, .inl (T 0, 4, .inl c2)), (y3, .inl (T 2, 240, .inr (.inl c3))), (y4, .inl (T 2, 60, .inr (.inl c4)))]) [0, 1, 2, 3, 4] (by decide) rfl
                    exact W.iret (v := (-7)) hx hb hr (fun t ht hW => ⟨⟨(-7), (fun k => ([] : List (Nat)).getD k 0, fun k => ([] : List (Nat → Int32)).getD k (fun _ => 0), fun k => ([c3, c4] : List (Nat → Int64)).getD k (fun _ => 0), fun k => ([] : List (Int32)).getD k 0, fun k => ([] : List (Int64)).getD k 0), rfl, (Or.inr (Or.inr (Or.inr (Or.inl (⟨rfl, (show 0 ≤ i1.toInt by omega), (show i1.toInt ≤ 3 by omega), (show 0 ≤ i3.toInt by omega), (show i3.toInt ≤ 3 by omega), (show ¬ (c1 (i1.toInt).toNat).toInt = -1 by omega), (show ¬ (c1 (i3.toInt).toNat).toInt = -1 by omega), (show (c1 (i1.toInt).toNat).toInt = (c1 (i3.toInt).toNat).toInt by omega), (show (i2.toInt < 0 ∨ i4.toInt < 0 ∨ i5.toInt < 0 ∨ (c2 (i1.toInt).toNat).toInt < i2.toInt + i5.toInt ∨ (c2 (i3.toInt).toNat).toInt < i4.toInt + i5.toInt) by omega)⟩))))), by rw [ht]; exact hP9, hD9⟩, hS.F ht⟩) hS.2.2 dX11_paste_114
                  · have c_27 : x_25.toInt ≤ x_26.toInt := by have h := mt (kl_gt (a := x_25) (b := x_26.toInt64) (x := x_25.toInt) (y := x_26.toInt) rfl (i_64 _)).mpr c_27; omega
                    refine lv_iload hx hb dX11_paste_94 (lv_at hl 4 rfl) ?_
                    refine lv_i2l hx hb dX11_paste_96 rfl ?_
                    refine lv_iload hx hb dX11_paste_97 (lv_at hl 5 rfl) ?_
                    refine lv_i2l hx hb dX11_paste_99 rfl ?_
                    refine lv_ladd hx hb dX11_paste_100 ?_
                    refine lv_topl (fun x_28 ex_28 => ?_)
                    have tx_28 := kl_addI ex_28
                    refine lv_aload_n hx hb dX11_paste_101 rfl (lv_at hl 0 rfl) ?_
                    refine va_get (D := D) (ci := 11) (C := RX11) (T := TX11) (N := 45) hx hb hts iX11 hown hK hP 0 rfl rfl 2 (by decide) (hts _ m1320) (fun _ h9 => h9) rfl dX11_paste_102 ?_
                    refine lv_iload_n hx hb dX11_paste_105 rfl (lv_at hl 3 rfl) ?_
                    refine va_iald (D := D) hx hb hK hP 2 0 rfl rfl (v_in (x := i3.toInt) rfl (by omega) (by omega)) dX11_paste_106 ?_
                    refine lv_topi (fun x_29 ex_29 => ?_)
                    have tx_29 : 0 ≤ x_29.toInt ∧ x_29.toInt ≤ 60 := rg_at R_c2 ex_29
                    have qx_29 : x_29.toInt = (c2 (i3.toInt).toNat).toInt := by rw [ex_29, tn (show i3.toInt = i3.toInt by omega)]
                    refine lv_i2l hx hb dX11_paste_107 rfl ?_
                    refine W.lcmp hx hb dX11_paste_108 ?_
                    refine lv_if_le (tgt := 115) hx hb dX11_paste_109 (by decide) (fun c_30 => ?_) (fun c_30 => ?_)
                    · have c_30 : x_28.toInt ≤ x_29.toInt := (kl_le (a := x_28) (b := x_29.toInt64) (x := x_28.toInt) (y := x_29.toInt) rfl (i_64 _)).mp c_30
                      refine lv_iconst (v := 0) hx hb dX11_paste_115 (by decide) ?_
                      refine lv_istore (lv' := [(6, .int 0), (0, .ref ym), (1, .int i1), (2, .int i2), (3, .int i3), (4, .int i4), (5, .int i5)]) hx hb dX11_paste_116 hl (by decide) rfl (fun ls hl => ?_)
                      refine lp_ind (fun (a : Heap × List Loc × Array Slot × (Int32) × (Nat → Int64)) => match a with | (H, locs, ls, i_31, f_32) => W p l e _ s m _ below meth c H locs 0 0 _ (F0 m 118 ls [])) (fun (a : Heap × List Loc × Array Slot × (Int32) × (Nat → Int64)) => match a with | (H, locs, ls, i_31, f_32) => 0 ≤ i_31.toInt ∧ i_31.toInt ≤ 60 ∧ va_P D vwCl [(ym, .inr (11, [.int 0, .ref y1, .ref y2, .ref y3, .ref y4, .ref y5, .int w6, .int w7, .int w8, .int w9, .int w10, .long v11, .int w12, .int w13, .int w14, .int w15, .ref y16, .ref y17, .ref y18, .ref y19, .ref y20, .ref y21, .ref y22, .ref y23, .ref y24, .ref y25, .ref y26, .ref y27, .ref y28, .ref y29, .ref y30, .ref y31, .ref y32, .int w33, .int w34, .int w35, .ref y36, .int w37, .int w38, .int w39, .ref y40, .ref y41, .ref y42, .int w43, .long v44])), (y1, .inl (T 0, 4, .inl c1)), (y2, .inl (T 0, 4, .inl c2)), (y3, .inl (T 2, 240, .inr (.inl c3))), (y4, .inl (T 2, 60, .inr (.inl f_32)))] H ∧ va_D A [(ym, .inr (11, [.int 0, .ref y1, .ref y2, .ref y3, .ref y4, .ref y5, .int w6, .int w7, .int w8, .int w9, .int w10, .long v11, .int w12, .int w13, .int w14, .int w15, .ref y16, .ref y17, .ref y18, .ref y19, .ref y20, .ref y21, .ref y22, .ref y23, .ref y24, .ref y25, .ref y26, .ref y27, .ref y28, .ref y29, .ref y30, .ref y31, .ref y32, .int w33, .int w34, .int w35, .ref y36, .int w37, .int w38, .int w39, .ref y40, .ref y41, .ref y42, .int w43, .long v44])), (y1, .inl (T 0, 4, .inl c1)), (y2, .inl (T 0, 4, .inl c2)), (y3, .inl (T 2, 240, .inr (.inl c3))), (y4, .inl (T 2, 60, .inr (.inl f_32)))] ∧ va_S A s.heap H locs ∧ lv_has ls 7 [(6, .int i_31), (0, .ref ym), (1, .int i1), (2, .int i2), (3, .int i3), (4, .int i4), (5, .int i5)]) (fun (a : Heap × List Loc × Array Slot × (Int32) × (Nat → Int64)) => match a with | (H, locs, ls, i_31, f_32) => (60 - i_31.toInt).toNat) ?_ (_, _, ls, (0 : Int32), c4) ⟨(show 0 ≤ (0 : Int) by omega), (show (0 : Int) ≤ 60 by omega), hP, hD, hS, lv_sub hl [0, 1, 2, 3, 4, 5, 6] rfl⟩
                      rintro ⟨H, locs, ls, i_31, f_32⟩ ⟨c_33, c_34, hP, hD, hS, hl⟩ ih_35
                      refine lv_iload hx hb dX11_paste_118 (lv_at hl 0 rfl) ?_
                      refine lv_iload hx hb dX11_paste_120 (lv_at hl 6 rfl) ?_
                      refine lv_icmp_ge (tgt := 152) hx hb dX11_paste_122 (by decide) (fun c_36 => ?_) (fun c_36 => ?_)
                      · have c_36 : i5.toInt ≤ i_31.toInt := (c_le (x := i5.toInt) (y := i_31.toInt) rfl rfl).mp c_36
                        refine lv_iconst (v := 0) hx hb dX11_paste_152 (by decide) ?_
                        refine lv_istore (lv' := [(6, .int 0), (0, .ref ym), (1, .int i1), (2, .int i2), (3, .int i3), (4, .int i4), (5, .int i5)]) hx hb dX11_paste_153 hl (by decide) rfl (fun ls hl => ?_)
                        refine lp_ind (fun (a : Heap × List Loc × Array Slot × (Int32) × (Nat → Int64)) => match a with | (H, locs, ls, i_37, f_38) => W p l e _ s m _ below meth c H locs 0 0 _ (F0 m 155 ls [])) (fun (a : Heap × List Loc × Array Slot × (Int32) × (Nat → Int64)) => match a with | (H, locs, ls, i_37, f_38) => 0 ≤ i_37.toInt ∧ i_37.toInt ≤ 60 ∧ va_P D vwCl [(ym, .inr (11, [.int 0, .ref y1, .ref y2, .ref y3, .ref y4, .ref y5, .int w6, .int w7, .int w8, .int w9, .int w10, .long v11, .int w12, .int w13, .int w14, .int w15, .ref y16, .ref y17, .ref y18, .ref y19, .ref y20, .ref y21, .ref y22, .ref y23, .ref y24, .ref y25, .ref y26, .ref y27, .ref y28, .ref y29, .ref y30, .ref y31, .ref y32, .int w33, .int w34, .int w35, .ref y36, .int w37, .int w38, .int w39, .ref y40, .ref y41, .ref y42, .int w43, .long v44])), (y1, .inl (T 0, 4, .inl c1)), (y2, .inl (T 0, 4, .inl c2)), (y3, .inl (T 2, 240, .inr (.inl f_38))), (y4, .inl (T 2, 60, .inr (.inl f_32)))] H ∧ va_D A [(ym, .inr (11, [.int 0, .ref y1, .ref y2, .ref y3, .ref y4, .ref y5, .int w6, .int w7, .int w8, .int w9, .int w10, .long v11, .int w12, .int w13, .int w14, .int w15, .ref y16, .ref y17, .ref y18, .ref y19, .ref y20, .ref y21, .ref y22, .ref y23, .ref y24, .ref y25, .ref y26, .ref y27, .ref y28, .ref y29, .ref y30, .ref y31, .ref y32, .int w33, .int w34, .int w35, .ref y36, .int w37, .int w38, .int w39, .ref y40, .ref y41, .ref y42, .int w43, .long v44])), (y1, .inl (T 0, 4, .inl c1)), (y2, .inl (T 0, 4, .inl c2)), (y3, .inl (T 2, 240, .inr (.inl f_38))), (y4, .inl (T 2, 60, .inr (.inl f_32)))] ∧ va_S A s.heap H locs ∧ lv_has ls 7 [(6, .int i_37), (0, .ref ym), (1, .int i1), (2, .int i2), (3, .int i3), (4, .int i4), (5, .int i5)]) (fun (a : Heap × List Loc × Array Slot × (Int32) × (Nat → Int64)) => match a with | (H, locs, ls, i_37, f_38) => (60 - i_37.toInt).toNat) ?_ (_, _, ls, (0 : Int32), c3) ⟨(show 0 ≤ (0 : Int) by omega), (show (0 : Int) ≤ 60 by omega), hP, hD, hS, lv_sub hl [0, 1, 2, 3, 4, 5, 6] rfl⟩
                        rintro ⟨H, locs, ls, i_37, f_38⟩ ⟨c_39, c_40, hP, hD, hS, hl⟩ ih_41
                        refine lv_iload hx hb dX11_paste_155 (lv_at hl 0 rfl) ?_
                        refine lv_iload hx hb dX11_paste_157 (lv_at hl 6 rfl) ?_
                        refine lv_icmp_ge (tgt := 190) hx hb dX11_paste_159 (by decide) (fun c_42 => ?_) (fun c_42 => ?_)
                        · have c_42 : i5.toInt ≤ i_37.toInt := (c_le (x := i5.toInt) (y := i_37.toInt) rfl rfl).mp c_42
                          refine lv_iconst (v := 0) hx hb dX11_paste_190 (by decide) ?_
                          have hP9 := hP.sub (ws' := [(ym, .inr (11, [.int 0, .ref y1, .ref y2, .ref y3, .ref y4, .ref y5, .int w6, .int w7, .int w8, .int w9, .int w10, .long v11, .int w12, .int w13, .int w14, .int w15, .ref y16, .ref y17, .ref y18, .ref y19, .ref y20, .ref y21, .ref y22, .ref y23, .ref y24, .ref y25, .ref y26, .ref y27, .ref y28, .ref y29, .ref y30, .ref y31, .ref y32, .int w33, .int w34, .int w35, .ref y36, .int w37, .int w38, .int w39, .ref y40, .ref y41, .ref y42, .int w43, .long v44])), (y1, .inl (T 0, 4, .inl c1)), (y2, .inl (T 0, 4, .inl c2)), (y3, .inl (T 2, 240, .inr (.inl f_38))), (y4, .inl (T 2, 60, .inr (.inl f_32)))]) [0, 1, 2, 3, 4] rfl
                          have hD9 := hD.sub (ws' := [(ym, .inr (11, [.int 0, .ref y1, .ref y2, .ref y3, .ref y4, .ref y5, .int w6, .int w7, .int w8, .int w9, .int w10, .long v11, .int w12, .int w13, .int w14, .int w15, .ref y16, .ref y17, .ref y18, .ref y19, .ref y20, .ref y21, .ref y22, .ref y23, .ref y24, .ref y25, .ref y26, .ref y27, .ref y28, .ref y29, .ref y30, .ref y31, .ref y32, .int w33, .int w34, .int w35, .ref y36, .int w37, .int w38, .int w39, .ref y40, .ref y41, .ref y42, .int w43, .long v44])), (y1, .inl (T 0, 4, .inl c1)), (y2, .inl (T 0, 4, .inl c2)), (y3, .inl (T 2, 240, .inr (.inl f_38))), (y4, .inl (T 2, 60, .inr (.inl f_32)))]) [0, 1, 2, 3, 4] (by decide) rfl
                          exact W.iret (v := 0) hx hb hr (fun t ht hW => ⟨⟨0, (fun k => ([] : List (Nat)).getD k 0, fun k => ([] : List (Nat → Int32)).getD k (fun _ => 0), fun k => ([f_38, f_32] : List (Nat → Int64)).getD k (fun _ => 0), fun k => ([] : List (Int32)).getD k 0, fun k => ([] : List (Int64)).getD k 0), rfl, (Or.inr (Or.inr (Or.inr (Or.inr (⟨rfl, (show 0 ≤ i1.toInt by omega), (show i1.toInt ≤ 3 by omega), (show 0 ≤ i3.toInt by omega), (show i3.toInt ≤ 3 by omega), (show ¬ (c1 (i1.toInt).toNat).toInt = -1 by omega), (show ¬ (c1 (i3.toInt).toNat).toInt = -1 by omega), (show (c1 (i1.toInt).toNat).toInt = (c1 (i3.toInt).toNat).toInt by omega), (show 0 ≤ i2.toInt by omega), (show 0 ≤ i4.toInt by omega), (show 0 ≤ i5.toInt by omega), (show i2.toInt + i5.toInt ≤ (c2 (i1.toInt).toNat).toInt by omega), (show i4.toInt + i5.toInt ≤ (c2 (i3.toInt).toNat).toInt by omega)⟩))))), by rw [ht]; exact hP9, hD9⟩, hS.F ht⟩) hS.2.2 dX11_paste_191
                        · have c_42 : i_37.toInt < i5.toInt := by have h := mt (c_le (x := i5.toInt) (y := i_37.toInt) rfl rfl).mpr c_42; omega
                          refine lv_aload_n hx hb dX11_paste_162 rfl (lv_at hl 1 rfl) ?_
                          refine va_get (D := D) (ci := 11) (C := RX11) (T := TX11) (N := 45) hx hb hts iX11 hown hK hP 0 rfl rfl 3 (by decide) (hts _ m1321) (fun _ h9 => h9) rfl dX11_paste_163 ?_
                          refine lv_bipush (v := 60) hx hb dX11_paste_166 (by decide) ?_
                          refine lv_iload_n hx hb dX11_paste_168 rfl (lv_at hl 4 rfl) ?_
                          refine lv_imul hx hb dX11_paste_169 ?_
                          refine lv_topi (fun x_43 ex_43 => ?_)
                          have tx_43 : x_43.toInt = 60 * i3.toInt := t_mul (x := 60) (y := i3.toInt) ex_43 rfl rfl (by omega) (by omega)
                          refine lv_iload hx hb dX11_paste_170 (lv_at hl 5 rfl) ?_
                          refine lv_iadd hx hb dX11_paste_172 ?_
                          refine lv_topi (fun x_44 ex_44 => ?_)
                          have tx_44 : x_44.toInt = x_43.toInt + i4.toInt := t_add (x := x_43.toInt) (y := i4.toInt) ex_44 rfl rfl (by omega) (by omega)
                          refine lv_iload hx hb dX11_paste_173 (lv_at hl 0 rfl) ?_
                          refine lv_iadd hx hb dX11_paste_175 ?_
                          refine lv_topi (fun x_45 ex_45 => ?_)
                          have tx_45 : x_45.toInt = x_44.toInt + i_37.toInt := t_add (x := x_44.toInt) (y := i_37.toInt) ex_45 rfl rfl (by omega) (by omega)
                          refine lv_aload_n hx hb dX11_paste_176 rfl (lv_at hl 1 rfl) ?_
                          refine va_get (D := D) (ci := 11) (C := RX11) (T := TX11) (N := 45) hx hb hts iX11 hown hK hP 0 rfl rfl 4 (by decide) (hts _ m1322) (fun _ h9 => h9) rfl dX11_paste_177 ?_
                          refine lv_iload hx hb dX11_paste_180 (lv_at hl 0 rfl) ?_
                          refine va_lald (D := D) hx hb hK hP 4 2 rfl rfl (v_in (x := i_37.toInt) rfl (by omega) (by omega)) dX11_paste_182 ?_
                          refine lv_topl (fun x_46 ex_46 => ?_)
                          refine va_last (D := D) hx hb hK hP hD hS 3 2 rfl rfl (v_in (x := x_45.toInt) rfl (by omega) (by omega)) dX11_paste_183 (fun H locs hP hD hS => ?_)
                          obtain ⟨f_47, hf_47⟩ : ∃ g : Nat → Int64, g = vp_updL f_38 x_45.toNatClampNeg x_46 := ⟨_, rfl⟩
                          have hP : va_P D vwCl [(ym, .inr (11, [.int 0, .ref y1, .ref y2, .ref y3, .ref y4, .ref y5, .int w6, .int w7, .int w8, .int w9, .int w10, .long v11, .int w12, .int w13, .int w14, .int w15, .ref y16, .ref y17, .ref y18, .ref y19, .ref y20, .ref y21, .ref y22, .ref y23, .ref y24, .ref y25, .ref y26, .ref y27, .ref y28, .ref y29, .ref y30, .ref y31, .ref y32, .int w33, .int w34, .int w35, .ref y36, .int w37, .int w38, .int w39, .ref y40, .ref y41, .ref y42, .int w43, .long v44])), (y1, .inl (T 0, 4, .inl c1)), (y2, .inl (T 0, 4, .inl c2)), (y3, .inl (T 2, 240, .inr (.inl (vp_updL f_38 x_45.toNatClampNeg x_46)))), (y4, .inl (T 2, 60, .inr (.inl f_32)))] H := hP
                          have hD : va_D A [(ym, .inr (11, [.int 0, .ref y1, .ref y2, .ref y3, .ref y4, .ref y5, .int w6, .int w7, .int w8, .int w9, .int w10, .long v11, .int w12, .int w13, .int w14, .int w15, .ref y16, .ref y17, .ref y18, .ref y19, .ref y20, .ref y21, .ref y22, .ref y23, .ref y24, .ref y25, .ref y26, .ref y27, .ref y28, .ref y29, .ref y30, .ref y31, .ref y32, .int w33, .int w34, .int w35, .ref y36, .int w37, .int w38, .int w39, .ref y40, .ref y41, .ref y42, .int w43, .long v44])), (y1, .inl (T 0, 4, .inl c1)), (y2, .inl (T 0, 4, .inl c2)), (y3, .inl (T 2, 240, .inr (.inl (vp_updL f_38 x_45.toNatClampNeg x_46)))), (y4, .inl (T 2, 60, .inr (.inl f_32)))] := hD
                          rw [← hf_47] at hP hD
                          obtain ⟨x_48, ex_48⟩ : ∃ y : Int32, y = i_37 + 1 := ⟨_, rfl⟩
                          have tx_48 : x_48.toInt = i_37.toInt + 1 := t_add (x := i_37.toInt) (y := 1) ex_48 rfl rfl (by omega) (by omega)
                          refine lv_iinc (v := x_48) (lv' := [(6, .int x_48), (0, .ref ym), (1, .int i1), (2, .int i2), (3, .int i3), (4, .int i4), (5, .int i5)]) hx hb dX11_paste_184 hl (k := 0) rfl (by rw [ex_48]; rfl) (by decide) rfl (fun ls hl => ?_)
                          refine lv_goto (tgt := 155) hx hb dX11_paste_187 (by decide) ?_
                          exact ih_41 (_, _, _, x_48, f_47) ⟨(show 0 ≤ x_48.toInt by omega), (show x_48.toInt ≤ 60 by omega), hP, hD, hS, lv_sub hl [0, 1, 2, 3, 4, 5, 6] rfl⟩ (show (60 - x_48.toInt).toNat < (60 - i_37.toInt).toNat by omega)
                      · have c_36 : i_31.toInt < i5.toInt := by have h := mt (c_le (x := i5.toInt) (y := i_31.toInt) rfl rfl).mpr c_36; omega
                        refine lv_aload_n hx hb dX11_paste_125 rfl (lv_at hl 1 rfl) ?_
                        refine va_get (D := D) (ci := 11) (C := RX11) (T := TX11) (N := 45) hx hb hts iX11 hown hK hP 0 rfl rfl 4 (by decide) (hts _ m1322) (fun _ h9 => h9) rfl dX11_paste_126 ?_
                        refine lv_iload hx hb dX11_paste_129 (lv_at hl 0 rfl) ?_
                        refine lv_aload_n hx hb dX11_paste_131 rfl (lv_at hl 1 rfl) ?_
                        refine va_get (D := D) (ci := 11) (C := RX11) (T := TX11) (N := 45) hx hb hts iX11 hown hK hP 0 rfl rfl 3 (by decide) (hts _ m1321) (fun _ h9 => h9) rfl dX11_paste_132 ?_
                        refine lv_bipush (v := 60) hx hb dX11_paste_135 (by decide) ?_
                        refine lv_iload_n hx hb dX11_paste_137 rfl (lv_at hl 2 rfl) ?_
                        refine lv_imul hx hb dX11_paste_138 ?_
                        refine lv_topi (fun x_49 ex_49 => ?_)
                        have tx_49 : x_49.toInt = 60 * i1.toInt := t_mul (x := 60) (y := i1.toInt) ex_49 rfl rfl (by omega) (by omega)
                        refine lv_iload_n hx hb dX11_paste_139 rfl (lv_at hl 3 rfl) ?_
                        refine lv_iadd hx hb dX11_paste_140 ?_
                        refine lv_topi (fun x_50 ex_50 => ?_)
                        have tx_50 : x_50.toInt = x_49.toInt + i2.toInt := t_add (x := x_49.toInt) (y := i2.toInt) ex_50 rfl rfl (by omega) (by omega)
                        refine lv_iload hx hb dX11_paste_141 (lv_at hl 0 rfl) ?_
                        refine lv_iadd hx hb dX11_paste_143 ?_
                        refine lv_topi (fun x_51 ex_51 => ?_)
                        have tx_51 : x_51.toInt = x_50.toInt + i_31.toInt := t_add (x := x_50.toInt) (y := i_31.toInt) ex_51 rfl rfl (by omega) (by omega)
                        refine va_lald (D := D) hx hb hK hP 3 2 rfl rfl (v_in (x := x_51.toInt) rfl (by omega) (by omega)) dX11_paste_144 ?_
                        refine lv_topl (fun x_52 ex_52 => ?_)
                        refine va_last (D := D) hx hb hK hP hD hS 4 2 rfl rfl (v_in (x := i_31.toInt) rfl (by omega) (by omega)) dX11_paste_145 (fun H locs hP hD hS => ?_)
                        obtain ⟨f_53, hf_53⟩ : ∃ g : Nat → Int64, g = vp_updL f_32 i_31.toNatClampNeg x_52 := ⟨_, rfl⟩
                        have hP : va_P D vwCl [(ym, .inr (11, [.int 0, .ref y1, .ref y2, .ref y3, .ref y4, .ref y5, .int w6, .int w7, .int w8, .int w9, .int w10, .long v11, .int w12, .int w13, .int w14, .int w15, .ref y16, .ref y17, .ref y18, .ref y19, .ref y20, .ref y21, .ref y22, .ref y23, .ref y24, .ref y25, .ref y26, .ref y27, .ref y28, .ref y29, .ref y30, .ref y31, .ref y32, .int w33, .int w34, .int w35, .ref y36, .int w37, .int w38, .int w39, .ref y40, .ref y41, .ref y42, .int w43, .long v44])), (y1, .inl (T 0, 4, .inl c1)), (y2, .inl (T 0, 4, .inl c2)), (y3, .inl (T 2, 240, .inr (.inl c3))), (y4, .inl (T 2, 60, .inr (.inl (vp_updL f_32 i_31.toNatClampNeg x_52))))] H := hP
                        have hD : va_D A [(ym, .inr (11, [.int 0, .ref y1, .ref y2, .ref y3, .ref y4, .ref y5, .int w6, .int w7, .int w8, .int w9, .int w10, .long v11, .int w12, .int w13, .int w14, .int w15, .ref y16, .ref y17, .ref y18, .ref y19, .ref y20, .ref y21, .ref y22, .ref y23, .ref y24, .ref y25, .ref y26, .ref y27, .ref y28, .ref y29, .ref y30, .ref y31, .ref y32, .int w33, .int w34, .int w35, .ref y36, .int w37, .int w38, .int w39, .ref y40, .ref y41, .ref y42, .int w43, .long v44])), (y1, .inl (T 0, 4, .inl c1)), (y2, .inl (T 0, 4, .inl c2)), (y3, .inl (T 2, 240, .inr (.inl c3))), (y4, .inl (T 2, 60, .inr (.inl (vp_updL f_32 i_31.toNatClampNeg x_52))))] := hD
                        rw [← hf_53] at hP hD
                        obtain ⟨x_54, ex_54⟩ : ∃ y : Int32, y = i_31 + 1 := ⟨_, rfl⟩
                        have tx_54 : x_54.toInt = i_31.toInt + 1 := t_add (x := i_31.toInt) (y := 1) ex_54 rfl rfl (by omega) (by omega)
                        refine lv_iinc (v := x_54) (lv' := [(6, .int x_54), (0, .ref ym), (1, .int i1), (2, .int i2), (3, .int i3), (4, .int i4), (5, .int i5)]) hx hb dX11_paste_146 hl (k := 0) rfl (by rw [ex_54]; rfl) (by decide) rfl (fun ls hl => ?_)
                        refine lv_goto (tgt := 118) hx hb dX11_paste_149 (by decide) ?_
                        exact ih_35 (_, _, _, x_54, f_53) ⟨(show 0 ≤ x_54.toInt by omega), (show x_54.toInt ≤ 60 by omega), hP, hD, hS, lv_sub hl [0, 1, 2, 3, 4, 5, 6] rfl⟩ (show (60 - x_54.toInt).toNat < (60 - i_31.toInt).toNat by omega)
                    · have c_30 : x_29.toInt < x_28.toInt := by have h := mt (kl_le (a := x_28) (b := x_29.toInt64) (x := x_28.toInt) (y := x_29.toInt) rfl (i_64 _)).mpr c_30; omega
                      refine lv_bipush (v := (-7)) hx hb dX11_paste_112 (by decide) ?_
                      have hP9 := hP.sub (ws' := [(ym, .inr (11, [.int 0, .ref y1, .ref y2, .ref y3, .ref y4, .ref y5, .int w6, .int w7, .int w8, .int w9, .int w10, .long v11, .int w12, .int w13, .int w14, .int w15, .ref y16, .ref y17, .ref y18, .ref y19, .ref y20, .ref y21, .ref y22, .ref y23, .ref y24, .ref y25, .ref y26, .ref y27, .ref y28, .ref y29, .ref y30, .ref y31, .ref y32, .int w33, .int w34, .int w35, .ref y36, .int w37, .int w38, .int w39, .ref y40, .ref y41, .ref y42, .int w43, .long v44])), (y1, .inl (T 0, 4, .inl c1)), (y2, .inl (T 0, 4, .inl c2)), (y3, .inl (T 2, 240, .inr (.inl c3))), (y4, .inl (T 2, 60, .inr (.inl c4)))]) [0, 1, 2, 3, 4] rfl
                      have hD9 := hD.sub (ws' := [(ym, .inr (11, [.int 0, .ref y1, .ref y2, .ref y3, .ref y4, .ref y5, .int w6, .int w7, .int w8, .int w9, .int w10, .long v11, .int w12, .int w13, .int w14, .int w15, .ref y16, .ref y17, .ref y18, .ref y19, .ref y20, .ref y21, .ref y22, .ref y23, .ref y24, .ref y25, .ref y26, .ref y27, .ref y28, .ref y29, .ref y30, .ref y31, .ref y32, .int w33, .int w34, .int w35, .ref y36, .int w37, .int w38, .int w39, .ref y40, .ref y41, .ref y42, .int w43, .long v44])), (y1, .inl (T 0, 4, .inl c1)), (y2, .inl (T 0, 4, .inl c2)), (y3, .inl (T 2, 240, .inr (.inl c3))), (y4, .inl (T 2, 60, .inr (.inl c4)))]) [0, 1, 2, 3, 4] (by decide) rfl
                      exact W.iret (v := (-7)) hx hb hr (fun t ht hW => ⟨⟨(-7), (fun k => ([] : List (Nat)).getD k 0, fun k => ([] : List (Nat → Int32)).getD k (fun _ => 0), fun k => ([c3, c4] : List (Nat → Int64)).getD k (fun _ => 0), fun k => ([] : List (Int32)).getD k 0, fun k => ([] : List (Int64)).getD k 0), rfl, (Or.inr (Or.inr (Or.inr (Or.inl (⟨rfl, (show 0 ≤ i1.toInt by omega), (show i1.toInt ≤ 3 by omega), (show 0 ≤ i3.toInt by omega), (show i3.toInt ≤ 3 by omega), (show ¬ (c1 (i1.toInt).toNat).toInt = -1 by omega), (show ¬ (c1 (i3.toInt).toNat).toInt = -1 by omega), (show (c1 (i1.toInt).toNat).toInt = (c1 (i3.toInt).toNat).toInt by omega), (show (i2.toInt < 0 ∨ i4.toInt < 0 ∨ i5.toInt < 0 ∨ (c2 (i1.toInt).toNat).toInt < i2.toInt + i5.toInt ∨ (c2 (i3.toInt).toNat).toInt < i4.toInt + i5.toInt) by omega)⟩))))), by rw [ht]; exact hP9, hD9⟩, hS.F ht⟩) hS.2.2 dX11_paste_114
          · have c_21 : ¬ x_19.toInt = x_20.toInt := fun h => c_21 ((c_eq (x := x_19.toInt) (y := x_20.toInt) rfl rfl).mpr h)
            refine lv_bipush (v := (-8)) hx hb dX11_paste_60 (by decide) ?_
            have hP9 := hP.sub (ws' := [(ym, .inr (11, [.int 0, .ref y1, .ref y2, .ref y3, .ref y4, .ref y5, .int w6, .int w7, .int w8, .int w9, .int w10, .long v11, .int w12, .int w13, .int w14, .int w15, .ref y16, .ref y17, .ref y18, .ref y19, .ref y20, .ref y21, .ref y22, .ref y23, .ref y24, .ref y25, .ref y26, .ref y27, .ref y28, .ref y29, .ref y30, .ref y31, .ref y32, .int w33, .int w34, .int w35, .ref y36, .int w37, .int w38, .int w39, .ref y40, .ref y41, .ref y42, .int w43, .long v44])), (y1, .inl (T 0, 4, .inl c1)), (y2, .inl (T 0, 4, .inl c2)), (y3, .inl (T 2, 240, .inr (.inl c3))), (y4, .inl (T 2, 60, .inr (.inl c4)))]) [0, 1, 2, 3, 4] rfl
            have hD9 := hD.sub (ws' := [(ym, .inr (11, [.int 0, .ref y1, .ref y2, .ref y3, .ref y4, .ref y5, .int w6, .int w7, .int w8, .int w9, .int w10, .long v11, .int w12, .int w13, .int w14, .int w15, .ref y16, .ref y17, .ref y18, .ref y19, .ref y20, .ref y21, .ref y22, .ref y23, .ref y24, .ref y25, .ref y26, .ref y27, .ref y28, .ref y29, .ref y30, .ref y31, .ref y32, .int w33, .int w34, .int w35, .ref y36, .int w37, .int w38, .int w39, .ref y40, .ref y41, .ref y42, .int w43, .long v44])), (y1, .inl (T 0, 4, .inl c1)), (y2, .inl (T 0, 4, .inl c2)), (y3, .inl (T 2, 240, .inr (.inl c3))), (y4, .inl (T 2, 60, .inr (.inl c4)))]) [0, 1, 2, 3, 4] (by decide) rfl
            exact W.iret (v := (-8)) hx hb hr (fun t ht hW => ⟨⟨(-8), (fun k => ([] : List (Nat)).getD k 0, fun k => ([] : List (Nat → Int32)).getD k (fun _ => 0), fun k => ([c3, c4] : List (Nat → Int64)).getD k (fun _ => 0), fun k => ([] : List (Int32)).getD k 0, fun k => ([] : List (Int64)).getD k 0), rfl, (Or.inr (Or.inr (Or.inl (⟨rfl, (show 0 ≤ i1.toInt by omega), (show i1.toInt ≤ 3 by omega), (show 0 ≤ i3.toInt by omega), (show i3.toInt ≤ 3 by omega), (show ¬ (c1 (i1.toInt).toNat).toInt = -1 by omega), (show ¬ (c1 (i3.toInt).toNat).toInt = -1 by omega), (show ¬ (c1 (i1.toInt).toNat).toInt = (c1 (i3.toInt).toNat).toInt by omega)⟩)))), by rw [ht]; exact hP9, hD9⟩, hS.F ht⟩) hS.2.2 dX11_paste_62
        · have c_18 : x_17.toInt = (-1) := (c_eq (x := x_17.toInt) (y := (-1)) rfl rfl).mp c_18
          refine lv_bipush (v := (-6)) hx hb dX11_paste_42 (by decide) ?_
          have hP9 := hP.sub (ws' := [(ym, .inr (11, [.int 0, .ref y1, .ref y2, .ref y3, .ref y4, .ref y5, .int w6, .int w7, .int w8, .int w9, .int w10, .long v11, .int w12, .int w13, .int w14, .int w15, .ref y16, .ref y17, .ref y18, .ref y19, .ref y20, .ref y21, .ref y22, .ref y23, .ref y24, .ref y25, .ref y26, .ref y27, .ref y28, .ref y29, .ref y30, .ref y31, .ref y32, .int w33, .int w34, .int w35, .ref y36, .int w37, .int w38, .int w39, .ref y40, .ref y41, .ref y42, .int w43, .long v44])), (y1, .inl (T 0, 4, .inl c1)), (y2, .inl (T 0, 4, .inl c2)), (y3, .inl (T 2, 240, .inr (.inl c3))), (y4, .inl (T 2, 60, .inr (.inl c4)))]) [0, 1, 2, 3, 4] rfl
          have hD9 := hD.sub (ws' := [(ym, .inr (11, [.int 0, .ref y1, .ref y2, .ref y3, .ref y4, .ref y5, .int w6, .int w7, .int w8, .int w9, .int w10, .long v11, .int w12, .int w13, .int w14, .int w15, .ref y16, .ref y17, .ref y18, .ref y19, .ref y20, .ref y21, .ref y22, .ref y23, .ref y24, .ref y25, .ref y26, .ref y27, .ref y28, .ref y29, .ref y30, .ref y31, .ref y32, .int w33, .int w34, .int w35, .ref y36, .int w37, .int w38, .int w39, .ref y40, .ref y41, .ref y42, .int w43, .long v44])), (y1, .inl (T 0, 4, .inl c1)), (y2, .inl (T 0, 4, .inl c2)), (y3, .inl (T 2, 240, .inr (.inl c3))), (y4, .inl (T 2, 60, .inr (.inl c4)))]) [0, 1, 2, 3, 4] (by decide) rfl
          exact W.iret (v := (-6)) hx hb hr (fun t ht hW => ⟨⟨(-6), (fun k => ([] : List (Nat)).getD k 0, fun k => ([] : List (Nat → Int32)).getD k (fun _ => 0), fun k => ([c3, c4] : List (Nat → Int64)).getD k (fun _ => 0), fun k => ([] : List (Int32)).getD k 0, fun k => ([] : List (Int64)).getD k 0), rfl, (Or.inr (Or.inl (⟨rfl, (show 0 ≤ i1.toInt by omega), (show i1.toInt ≤ 3 by omega), (show 0 ≤ i3.toInt by omega), (show i3.toInt ≤ 3 by omega), (show ((c1 (i1.toInt).toNat).toInt = -1 ∨ (c1 (i3.toInt).toNat).toInt = -1) by omega)⟩))), by rw [ht]; exact hP9, hD9⟩, hS.F ht⟩) hS.2.2 dX11_paste_44
    · refine lv_if_ne (tgt := 22) hx hb dX11_paste_16 (by decide) (fun c_55 => absurd c_55 (by decide)) (fun _ => ?_)
      refine lv_bipush (v := (-2)) hx hb dX11_paste_19 (by decide) ?_
      have hP9 := hP.sub (ws' := [(ym, .inr (11, [.int 0, .ref y1, .ref y2, .ref y3, .ref y4, .ref y5, .int w6, .int w7, .int w8, .int w9, .int w10, .long v11, .int w12, .int w13, .int w14, .int w15, .ref y16, .ref y17, .ref y18, .ref y19, .ref y20, .ref y21, .ref y22, .ref y23, .ref y24, .ref y25, .ref y26, .ref y27, .ref y28, .ref y29, .ref y30, .ref y31, .ref y32, .int w33, .int w34, .int w35, .ref y36, .int w37, .int w38, .int w39, .ref y40, .ref y41, .ref y42, .int w43, .long v44])), (y1, .inl (T 0, 4, .inl c1)), (y2, .inl (T 0, 4, .inl c2)), (y3, .inl (T 2, 240, .inr (.inl c3))), (y4, .inl (T 2, 60, .inr (.inl c4)))]) [0, 1, 2, 3, 4] rfl
      have hD9 := hD.sub (ws' := [(ym, .inr (11, [.int 0, .ref y1, .ref y2, .ref y3, .ref y4, .ref y5, .int w6, .int w7, .int w8, .int w9, .int w10, .long v11, .int w12, .int w13, .int w14, .int w15, .ref y16, .ref y17, .ref y18, .ref y19, .ref y20, .ref y21, .ref y22, .ref y23, .ref y24, .ref y25, .ref y26, .ref y27, .ref y28, .ref y29, .ref y30, .ref y31, .ref y32, .int w33, .int w34, .int w35, .ref y36, .int w37, .int w38, .int w39, .ref y40, .ref y41, .ref y42, .int w43, .long v44])), (y1, .inl (T 0, 4, .inl c1)), (y2, .inl (T 0, 4, .inl c2)), (y3, .inl (T 2, 240, .inr (.inl c3))), (y4, .inl (T 2, 60, .inr (.inl c4)))]) [0, 1, 2, 3, 4] (by decide) rfl
      exact W.iret (v := (-2)) hx hb hr (fun t ht hW => ⟨⟨(-2), (fun k => ([] : List (Nat)).getD k 0, fun k => ([] : List (Nat → Int32)).getD k (fun _ => 0), fun k => ([c3, c4] : List (Nat → Int64)).getD k (fun _ => 0), fun k => ([] : List (Int32)).getD k 0, fun k => ([] : List (Int64)).getD k 0), rfl, (Or.inl (⟨rfl, (show (i1.toInt < 0 ∨ 3 < i1.toInt ∨ i3.toInt < 0 ∨ 3 < i3.toInt) by omega)⟩)), by rw [ht]; exact hP9, hD9⟩, hS.F ht⟩) hS.2.2 dX11_paste_21
  · refine lv_if_eq (tgt := 19) hx hb dX11_paste_9 (by decide) (fun _ => ?_) (fun c_56 => absurd (by decide) c_56)
    refine lv_bipush (v := (-2)) hx hb dX11_paste_19 (by decide) ?_
    have hP9 := hP.sub (ws' := [(ym, .inr (11, [.int 0, .ref y1, .ref y2, .ref y3, .ref y4, .ref y5, .int w6, .int w7, .int w8, .int w9, .int w10, .long v11, .int w12, .int w13, .int w14, .int w15, .ref y16, .ref y17, .ref y18, .ref y19, .ref y20, .ref y21, .ref y22, .ref y23, .ref y24, .ref y25, .ref y26, .ref y27, .ref y28, .ref y29, .ref y30, .ref y31, .ref y32, .int w33, .int w34, .int w35, .ref y36, .int w37, .int w38, .int w39, .ref y40, .ref y41, .ref y42, .int w43, .long v44])), (y1, .inl (T 0, 4, .inl c1)), (y2, .inl (T 0, 4, .inl c2)), (y3, .inl (T 2, 240, .inr (.inl c3))), (y4, .inl (T 2, 60, .inr (.inl c4)))]) [0, 1, 2, 3, 4] rfl
    have hD9 := hD.sub (ws' := [(ym, .inr (11, [.int 0, .ref y1, .ref y2, .ref y3, .ref y4, .ref y5, .int w6, .int w7, .int w8, .int w9, .int w10, .long v11, .int w12, .int w13, .int w14, .int w15, .ref y16, .ref y17, .ref y18, .ref y19, .ref y20, .ref y21, .ref y22, .ref y23, .ref y24, .ref y25, .ref y26, .ref y27, .ref y28, .ref y29, .ref y30, .ref y31, .ref y32, .int w33, .int w34, .int w35, .ref y36, .int w37, .int w38, .int w39, .ref y40, .ref y41, .ref y42, .int w43, .long v44])), (y1, .inl (T 0, 4, .inl c1)), (y2, .inl (T 0, 4, .inl c2)), (y3, .inl (T 2, 240, .inr (.inl c3))), (y4, .inl (T 2, 60, .inr (.inl c4)))]) [0, 1, 2, 3, 4] (by decide) rfl
    exact W.iret (v := (-2)) hx hb hr (fun t ht hW => ⟨⟨(-2), (fun k => ([] : List (Nat)).getD k 0, fun k => ([] : List (Nat → Int32)).getD k (fun _ => 0), fun k => ([c3, c4] : List (Nat → Int64)).getD k (fun _ => 0), fun k => ([] : List (Int32)).getD k 0, fun k => ([] : List (Int64)).getD k 0), rfl, (Or.inl (⟨rfl, (show (i1.toInt < 0 ∨ 3 < i1.toInt ∨ i3.toInt < 0 ∨ 3 < i3.toInt) by omega)⟩)), by rw [ht]; exact hP9, hD9⟩, hS.F ht⟩) hS.2.2 dX11_paste_21

set_option maxHeartbeats 4000000 in
set_option maxRecDepth 100000 in
theorem c_X11_four (l : Launch) (D : va_G) (T : Nat → ClassId) (y1 y16 y17 y18 y19 y2 y20 y21 y22 y23 y24 y25 y26 y27 y28 y29 y3 y30 y31 y32 y36 y4 y40 y41 y42 y5 ym : Nat) (i1 w0 w10 w12 w13 w14 w15 w33 w34 w35 w37 w38 w39 w43 w6 w7 w8 w9 : Int32) (v11 v44 : Int64) (c5 : Nat → Int32) (sz : Nat) (h_w6 : 0 ≤ w6.toInt ∧ w6.toInt ≤ 1596) : Met l yX11_four (wM yX11_four cX11_four 3 none) ({ frames := 0, cells := 0, slots := 0, locals := 0 }) (va_Pc [.ref ym, .int i1] (pwM D T [(ym, .inr (11, [.int w0, .ref y1, .ref y2, .ref y3, .ref y4, .ref y5, .int w6, .int w7, .int w8, .int w9, .int w10, .long v11, .int w12, .int w13, .int w14, .int w15, .ref y16, .ref y17, .ref y18, .ref y19, .ref y20, .ref y21, .ref y22, .ref y23, .ref y24, .ref y25, .ref y26, .ref y27, .ref y28, .ref y29, .ref y30, .ref y31, .ref y32, .int w33, .int w34, .int w35, .ref y36, .int w37, .int w38, .int w39, .ref y40, .ref y41, .ref y42, .int w43, .long v44])), (y5, .inl (T 1, 1600, .inl c5))] sz)) (va_Qv (fun (u : U5) => (0 ≤ (u.2.2.2.1 0).toInt ∧ (u.2.2.2.1 0).toInt ≤ 1600) ∧ ((u.2.2.2.1 0).toInt = w6.toInt + 4)) (fun u t => pwE D (va_A [(ym, .inr (11, [.int w0, .ref y1, .ref y2, .ref y3, .ref y4, .ref y5, .int w6, .int w7, .int w8, .int w9, .int w10, .long v11, .int w12, .int w13, .int w14, .int w15, .ref y16, .ref y17, .ref y18, .ref y19, .ref y20, .ref y21, .ref y22, .ref y23, .ref y24, .ref y25, .ref y26, .ref y27, .ref y28, .ref y29, .ref y30, .ref y31, .ref y32, .int w33, .int w34, .int w35, .ref y36, .int w37, .int w38, .int w39, .ref y40, .ref y41, .ref y42, .int w43, .long v44])), (y5, .inl (T 1, 1600, .inl c5))] sz) [(ym, .inr (11, [.int w0, .ref y1, .ref y2, .ref y3, .ref y4, .ref y5, .int (u.2.2.2.1 0), .int w7, .int w8, .int w9, .int w10, .long v11, .int w12, .int w13, .int w14, .int w15, .ref y16, .ref y17, .ref y18, .ref y19, .ref y20, .ref y21, .ref y22, .ref y23, .ref y24, .ref y25, .ref y26, .ref y27, .ref y28, .ref y29, .ref y30, .ref y31, .ref y32, .int w33, .int w34, .int w35, .ref y36, .int w37, .int w38, .int w39, .ref y40, .ref y41, .ref y42, .int w43, .long v44])), (y5, .inl (T 1, 1600, .inl (u.2.1 0)))] t) (va_A [(ym, .inr (11, [.int w0, .ref y1, .ref y2, .ref y3, .ref y4, .ref y5, .int w6, .int w7, .int w8, .int w9, .int w10, .long v11, .int w12, .int w13, .int w14, .int w15, .ref y16, .ref y17, .ref y18, .ref y19, .ref y20, .ref y21, .ref y22, .ref y23, .ref y24, .ref y25, .ref y26, .ref y27, .ref y28, .ref y29, .ref y30, .ref y31, .ref y32, .int w33, .int w34, .int w35, .ref y36, .int w37, .int w38, .int w39, .ref y40, .ref y41, .ref y42, .int w43, .long v44])), (y5, .inl (T 1, 1600, .inl c5))] sz)) 0 0 (va_A [(ym, .inr (11, [.int w0, .ref y1, .ref y2, .ref y3, .ref y4, .ref y5, .int w6, .int w7, .int w8, .int w9, .int w10, .long v11, .int w12, .int w13, .int w14, .int w15, .ref y16, .ref y17, .ref y18, .ref y19, .ref y20, .ref y21, .ref y22, .ref y23, .ref y24, .ref y25, .ref y26, .ref y27, .ref y28, .ref y29, .ref y30, .ref y31, .ref y32, .int w33, .int w34, .int w35, .ref y36, .int w37, .int w38, .int w39, .ref y40, .ref y41, .ref y42, .int w43, .long v44])), (y5, .inl (T 1, 1600, .inl c5))] sz) := by
  refine Met.ofW (cc := cX11_four) (maxL := 3) (ret := none) (by decide) rfl ?_
  intro p e s m args below meth c s₁ B hml hv
  obtain ⟨rfl, hsz, hP, hC, hD0⟩ := hv
  have hx := B.exec
  have hb := B.bytes
  have hr := B.returns
  have hts : ∀ w ∈ gt, w.before _ s = true := fun w hw => atoms_spec (ws := (wM yX11_four cX11_four 3 none)) B.pre w (List.mem_cons_of_mem _ hw)
  have hown : s.vm.findClass RX11 = some m.cls := findClass_of_methodNamed B.named
  have hlocks := B.notSynchronized
  have hK := hC.1
  subst hsz
  have hD := hD0.self (sz := s.heap.size)
  generalize hAe : va_A [(ym, .inr (11, [.int w0, .ref y1, .ref y2, .ref y3, .ref y4, .ref y5, .int w6, .int w7, .int w8, .int w9, .int w10, .long v11, .int w12, .int w13, .int w14, .int w15, .ref y16, .ref y17, .ref y18, .ref y19, .ref y20, .ref y21, .ref y22, .ref y23, .ref y24, .ref y25, .ref y26, .ref y27, .ref y28, .ref y29, .ref y30, .ref y31, .ref y32, .int w33, .int w34, .int w35, .ref y36, .int w37, .int w38, .int w39, .ref y40, .ref y41, .ref y42, .int w43, .long v44])), (y5, .inl (T 1, 1600, .inl c5))] s.heap.size = A at hD ⊢
  have hA : ∀ q : Nat, s.heap.size ≤ q → A q := fun q h => by rw [← hAe]; exact Or.inr h
  have hS : va_S A s.heap s.heap [] := va_S.rf
  have hl := lv_entry ([.ref ym, .int i1]) (n := 3) (Nat.le_of_ble_eq_true rfl)
  rw [lg_entry_eq]
  generalize (lg_sl ([.ref ym, .int i1]) ++ List.replicate (3 - (lg_sl ([.ref ym, .int i1])).length) Slot.unset).toArray = ls at hl ⊢
  have hl : lv_has ls 3 [(0, .ref ym), (1, .int i1)] := hl
  refine lv_bipush (v := 24) hx hb dX11_four_0 (by decide) ?_
  refine lv_istore_n (lv' := [(2, .int 24), (0, .ref ym), (1, .int i1)]) hx hb dX11_four_2 rfl hl (by decide) rfl (fun ls hl => ?_)
  refine lp_ind (fun (a : Heap × List Loc × Array Slot × (Int32) × (Int32) × (Nat → Int32)) => match a with | (H, locs, ls, i_1, w_2, f_3) => W p l e _ s m _ below meth c H locs 0 0 _ (F0 m 3 ls [])) (fun (a : Heap × List Loc × Array Slot × (Int32) × (Int32) × (Nat → Int32)) => match a with | (H, locs, ls, i_1, w_2, f_3) => (-8) ≤ i_1.toInt ∧ i_1.toInt ≤ 24 ∧ 0 ≤ w_2.toInt ∧ w_2.toInt ≤ 1600 ∧ 8 * (w_2.toInt - w6.toInt) + i_1.toInt = 24 ∧ va_P D vwCl [(ym, .inr (11, [.int w0, .ref y1, .ref y2, .ref y3, .ref y4, .ref y5, .int w_2, .int w7, .int w8, .int w9, .int w10, .long v11, .int w12, .int w13, .int w14, .int w15, .ref y16, .ref y17, .ref y18, .ref y19, .ref y20, .ref y21, .ref y22, .ref y23, .ref y24, .ref y25, .ref y26, .ref y27, .ref y28, .ref y29, .ref y30, .ref y31, .ref y32, .int w33, .int w34, .int w35, .ref y36, .int w37, .int w38, .int w39, .ref y40, .ref y41, .ref y42, .int w43, .long v44])), (y5, .inl (T 1, 1600, .inl f_3))] H ∧ va_D A [(ym, .inr (11, [.int w0, .ref y1, .ref y2, .ref y3, .ref y4, .ref y5, .int w_2, .int w7, .int w8, .int w9, .int w10, .long v11, .int w12, .int w13, .int w14, .int w15, .ref y16, .ref y17, .ref y18, .ref y19, .ref y20, .ref y21, .ref y22, .ref y23, .ref y24, .ref y25, .ref y26, .ref y27, .ref y28, .ref y29, .ref y30, .ref y31, .ref y32, .int w33, .int w34, .int w35, .ref y36, .int w37, .int w38, .int w39, .ref y40, .ref y41, .ref y42, .int w43, .long v44])), (y5, .inl (T 1, 1600, .inl f_3))] ∧ va_S A s.heap H locs ∧ lv_has ls 3 [(2, .int i_1), (0, .ref ym), (1, .int i1)]) (fun (a : Heap × List Loc × Array Slot × (Int32) × (Int32) × (Nat → Int32)) => match a with | (H, locs, ls, i_1, w_2, f_3) => (i_1.toInt - (-8)).toNat) ?_ (_, _, ls, (24 : Int32), w6, c5) ⟨(show (-8) ≤ (24 : Int) by omega), (show (24 : Int) ≤ 24 by omega), (show 0 ≤ w6.toInt by omega), (show w6.toInt ≤ 1600 by omega), (show 8 * (w6.toInt - w6.toInt) + (24 : Int) = 24 by omega), hP, hD, hS, lv_sub hl [0, 1, 2] rfl⟩
  rintro ⟨H, locs, ls, i_1, w_2, f_3⟩ ⟨c_4, c_5, c_6, c_7, c_8, hP, hD, hS, hl⟩ ih_9
  refine lv_iload_n hx hb dX11_four_3 rfl (lv_at hl 0 rfl) ?_
  refine lv_if_lt (tgt := 36) hx hb dX11_four_4 (by decide) (fun c_10 => ?_) (fun c_10 => ?_)
  · have c_10 : i_1.toInt < 0 := (c_lt (x := i_1.toInt) (y := 0) rfl rfl).mp c_10
    have hP9 := hP.sub (ws' := [(ym, .inr (11, [.int w0, .ref y1, .ref y2, .ref y3, .ref y4, .ref y5, .int w_2, .int w7, .int w8, .int w9, .int w10, .long v11, .int w12, .int w13, .int w14, .int w15, .ref y16, .ref y17, .ref y18, .ref y19, .ref y20, .ref y21, .ref y22, .ref y23, .ref y24, .ref y25, .ref y26, .ref y27, .ref y28, .ref y29, .ref y30, .ref y31, .ref y32, .int w33, .int w34, .int w35, .ref y36, .int w37, .int w38, .int w39, .ref y40, .ref y41, .ref y42, .int w43, .long v44])), (y5, .inl (T 1, 1600, .inl f_3))]) [0, 1] rfl
    have hD9 := hD.sub (ws' := [(ym, .inr (11, [.int w0, .ref y1, .ref y2, .ref y3, .ref y4, .ref y5, .int w_2, .int w7, .int w8, .int w9, .int w10, .long v11, .int w12, .int w13, .int w14, .int w15, .ref y16, .ref y17, .ref y18, .ref y19, .ref y20, .ref y21, .ref y22, .ref y23, .ref y24, .ref y25, .ref y26, .ref y27, .ref y28, .ref y29, .ref y30, .ref y31, .ref y32, .int w33, .int w34, .int w35, .ref y36, .int w37, .int w38, .int w39, .ref y40, .ref y41, .ref y42, .int w43, .long v44])), (y5, .inl (T 1, 1600, .inl f_3))]) [0, 1] (by decide) rfl
    exact W.vret hx hb hr (fun t ht hW => ⟨⟨(fun k => ([] : List (Nat)).getD k 0, fun k => ([f_3] : List (Nat → Int32)).getD k (fun _ => 0), fun k => ([] : List (Nat → Int64)).getD k (fun _ => 0), fun k => ([w_2] : List (Int32)).getD k 0, fun k => ([] : List (Int64)).getD k 0), rfl, ⟨(show 0 ≤ w_2.toInt ∧ w_2.toInt ≤ 1600 by omega), (show w_2.toInt = w6.toInt + 4 by omega)⟩, by rw [ht]; exact hP9, hD9⟩, hS.F ht⟩) hS.2.2 dX11_four_36
  · have c_10 : 0 ≤ i_1.toInt := by have h := mt (c_lt (x := i_1.toInt) (y := 0) rfl rfl).mpr c_10; omega
    refine lv_aload_n hx hb dX11_four_7 rfl (lv_at hl 1 rfl) ?_
    refine va_get (D := D) (ci := 11) (C := RX11) (T := TX11) (N := 45) hx hb hts iX11 hown hK hP 0 rfl rfl 5 (by decide) (hts _ m1323) (fun _ h9 => h9) rfl dX11_four_8 ?_
    refine lv_aload_n hx hb dX11_four_11 rfl (lv_at hl 1 rfl) ?_
    refine va_get (D := D) (ci := 11) (C := RX11) (T := TX11) (N := 45) hx hb hts iX11 hown hK hP 0 rfl rfl 6 (by decide) (hts _ m1324) (fun _ h9 => h9) rfl dX11_four_12 ?_
    refine lv_iload_n hx hb dX11_four_15 rfl (lv_at hl 2 rfl) ?_
    refine lv_iload_n hx hb dX11_four_16 rfl (lv_at hl 0 rfl) ?_
    refine lv_ishr hx hb dX11_four_17 ?_
    refine lv_topi (fun x_11 ex_11 => ?_)
    refine lv_i2b hx hb dX11_four_18 rfl ?_
    refine lv_topi (fun x_12 ex_12 => ?_)
    refine va_bast (D := D) hx hb hK hP hD hS 1 1 rfl rfl (v_in (x := w_2.toInt) rfl (by omega) (by omega)) dX11_four_19 (fun H locs hP hD hS => ?_)
    obtain ⟨f_13, hf_13⟩ : ∃ g : Nat → Int32, g = upd f_3 w_2.toNatClampNeg (vp_nar .byte x_12) := ⟨_, rfl⟩
    have hP : va_P D vwCl [(ym, .inr (11, [.int w0, .ref y1, .ref y2, .ref y3, .ref y4, .ref y5, .int w_2, .int w7, .int w8, .int w9, .int w10, .long v11, .int w12, .int w13, .int w14, .int w15, .ref y16, .ref y17, .ref y18, .ref y19, .ref y20, .ref y21, .ref y22, .ref y23, .ref y24, .ref y25, .ref y26, .ref y27, .ref y28, .ref y29, .ref y30, .ref y31, .ref y32, .int w33, .int w34, .int w35, .ref y36, .int w37, .int w38, .int w39, .ref y40, .ref y41, .ref y42, .int w43, .long v44])), (y5, .inl (T 1, 1600, .inl (upd f_3 w_2.toNatClampNeg (vp_nar .byte x_12))))] H := hP
    have hD : va_D A [(ym, .inr (11, [.int w0, .ref y1, .ref y2, .ref y3, .ref y4, .ref y5, .int w_2, .int w7, .int w8, .int w9, .int w10, .long v11, .int w12, .int w13, .int w14, .int w15, .ref y16, .ref y17, .ref y18, .ref y19, .ref y20, .ref y21, .ref y22, .ref y23, .ref y24, .ref y25, .ref y26, .ref y27, .ref y28, .ref y29, .ref y30, .ref y31, .ref y32, .int w33, .int w34, .int w35, .ref y36, .int w37, .int w38, .int w39, .ref y40, .ref y41, .ref y42, .int w43, .long v44])), (y5, .inl (T 1, 1600, .inl (upd f_3 w_2.toNatClampNeg (vp_nar .byte x_12))))] := hD
    rw [← hf_13] at hP hD
    refine lv_aload_n hx hb dX11_four_20 rfl (lv_at hl 1 rfl) ?_
    refine lv_dup hx hb dX11_four_21 rfl ?_
    refine va_get (D := D) (ci := 11) (C := RX11) (T := TX11) (N := 45) hx hb hts iX11 hown hK hP 0 rfl rfl 6 (by decide) (hts _ m1324) (fun _ h9 => h9) rfl dX11_four_22 ?_
    refine lv_iconst (v := 1) hx hb dX11_four_25 (by decide) ?_
    refine lv_iadd hx hb dX11_four_26 ?_
    refine lv_topi (fun x_14 ex_14 => ?_)
    have tx_14 : x_14.toInt = w_2.toInt + 1 := t_add (x := w_2.toInt) (y := 1) ex_14 rfl rfl (by omega) (by omega)
    refine va_put (D := D) (ci := 11) (v := .int x_14) (ty := .int) (C := RX11) (T := TX11) (N := 45) hx hb hts iX11 tyX11 tyX11_ok nmX11 hown hK hP hD hS 0 rfl rfl 6 (by decide) (hts _ m1324) (fun _ h9 => h9) rfl (by decide +kernel) rfl rfl (Nat.le_of_ble_eq_true rfl) dX11_four_27 (fun H locs hP hD hS => ?_)
    have hP : va_P D vwCl [(ym, .inr (11, [.int w0, .ref y1, .ref y2, .ref y3, .ref y4, .ref y5, .int x_14, .int w7, .int w8, .int w9, .int w10, .long v11, .int w12, .int w13, .int w14, .int w15, .ref y16, .ref y17, .ref y18, .ref y19, .ref y20, .ref y21, .ref y22, .ref y23, .ref y24, .ref y25, .ref y26, .ref y27, .ref y28, .ref y29, .ref y30, .ref y31, .ref y32, .int w33, .int w34, .int w35, .ref y36, .int w37, .int w38, .int w39, .ref y40, .ref y41, .ref y42, .int w43, .long v44])), (y5, .inl (T 1, 1600, .inl f_13))] H := hP
    have hD : va_D A [(ym, .inr (11, [.int w0, .ref y1, .ref y2, .ref y3, .ref y4, .ref y5, .int x_14, .int w7, .int w8, .int w9, .int w10, .long v11, .int w12, .int w13, .int w14, .int w15, .ref y16, .ref y17, .ref y18, .ref y19, .ref y20, .ref y21, .ref y22, .ref y23, .ref y24, .ref y25, .ref y26, .ref y27, .ref y28, .ref y29, .ref y30, .ref y31, .ref y32, .int w33, .int w34, .int w35, .ref y36, .int w37, .int w38, .int w39, .ref y40, .ref y41, .ref y42, .int w43, .long v44])), (y5, .inl (T 1, 1600, .inl f_13))] := hD
    obtain ⟨x_15, ex_15⟩ : ∃ y : Int32, y = i_1 + (-8) := ⟨_, rfl⟩
    have tx_15 : x_15.toInt = i_1.toInt + (-8) := t_add (x := i_1.toInt) (y := (-8)) ex_15 rfl rfl (by omega) (by omega)
    refine lv_iinc (v := x_15) (lv' := [(2, .int x_15), (0, .ref ym), (1, .int i1)]) hx hb dX11_four_30 hl (k := 0) rfl (by rw [ex_15]; rfl) (by decide) rfl (fun ls hl => ?_)
    refine lv_goto (tgt := 3) hx hb dX11_four_33 (by decide) ?_
    exact ih_9 (_, _, _, x_15, x_14, f_13) ⟨(show (-8) ≤ x_15.toInt by omega), (show x_15.toInt ≤ 24 by omega), (show 0 ≤ x_14.toInt by omega), (show x_14.toInt ≤ 1600 by omega), (show 8 * (x_14.toInt - w6.toInt) + x_15.toInt = 24 by omega), hP, hD, hS, lv_sub hl [0, 1, 2] rfl⟩ (show (x_15.toInt - (-8)).toNat < (i_1.toInt - (-8)).toNat by omega)

set_option maxHeartbeats 4000000 in
set_option maxRecDepth 100000 in
theorem c_X11_feed (l : Launch) (D : va_G) (T : Nat → ClassId) (y1 y16 y17 y18 y19 y2 y20 y21 y22 y23 y24 y25 y26 y27 y28 y29 y3 y30 y31 y32 y36 y4 y40 y41 y42 y5 ym : Nat) (i1 i2 i3 i4 i5 w0 w10 w12 w13 w14 w15 w33 w34 w35 w37 w38 w39 w43 w6 w7 w8 w9 : Int32) (v11 v44 : Int64) (c5 : Nat → Int32) (sz : Nat) (h_w6 : 0 ≤ w6.toInt ∧ w6.toInt ≤ 1600) (h_w43 : 0 ≤ w43.toInt ∧ w43.toInt ≤ 16) : Met l yX11_feed (wM yX11_feed cX11_feed 6 (some .int)) ({ frames := 1, cells := 0, slots := 0, locals := 22 }) (va_Pc [.ref ym, .int i1, .int i2, .int i3, .int i4, .int i5] (pwM D T [(ym, .inr (11, [.int w0, .ref y1, .ref y2, .ref y3, .ref y4, .ref y5, .int w6, .int w7, .int w8, .int w9, .int w10, .long v11, .int w12, .int w13, .int w14, .int w15, .ref y16, .ref y17, .ref y18, .ref y19, .ref y20, .ref y21, .ref y22, .ref y23, .ref y24, .ref y25, .ref y26, .ref y27, .ref y28, .ref y29, .ref y30, .ref y31, .ref y32, .int w33, .int w34, .int w35, .ref y36, .int w37, .int w38, .int w39, .ref y40, .ref y41, .ref y42, .int w43, .long v44])), (y5, .inl (T 1, 1600, .inl c5))] sz)) (va_Qi (fun (r : Int32) (u : U5) => (0 ≤ (u.2.2.2.1 0).toInt ∧ (u.2.2.2.1 0).toInt ≤ 1600)) (fun u t => pwE D (va_A [(ym, .inr (11, [.int w0, .ref y1, .ref y2, .ref y3, .ref y4, .ref y5, .int w6, .int w7, .int w8, .int w9, .int w10, .long v11, .int w12, .int w13, .int w14, .int w15, .ref y16, .ref y17, .ref y18, .ref y19, .ref y20, .ref y21, .ref y22, .ref y23, .ref y24, .ref y25, .ref y26, .ref y27, .ref y28, .ref y29, .ref y30, .ref y31, .ref y32, .int w33, .int w34, .int w35, .ref y36, .int w37, .int w38, .int w39, .ref y40, .ref y41, .ref y42, .int w43, .long v44])), (y5, .inl (T 1, 1600, .inl c5))] sz) [(ym, .inr (11, [.int 0, .ref y1, .ref y2, .ref y3, .ref y4, .ref y5, .int (u.2.2.2.1 0), .int w7, .int w8, .int w9, .int w10, .long v11, .int w12, .int w13, .int w14, .int w15, .ref y16, .ref y17, .ref y18, .ref y19, .ref y20, .ref y21, .ref y22, .ref y23, .ref y24, .ref y25, .ref y26, .ref y27, .ref y28, .ref y29, .ref y30, .ref y31, .ref y32, .int w33, .int w34, .int w35, .ref y36, .int w37, .int w38, .int w39, .ref y40, .ref y41, .ref y42, .int w43, .long v44])), (y5, .inl (T 1, 1600, .inl (u.2.1 0)))] t) (va_A [(ym, .inr (11, [.int w0, .ref y1, .ref y2, .ref y3, .ref y4, .ref y5, .int w6, .int w7, .int w8, .int w9, .int w10, .long v11, .int w12, .int w13, .int w14, .int w15, .ref y16, .ref y17, .ref y18, .ref y19, .ref y20, .ref y21, .ref y22, .ref y23, .ref y24, .ref y25, .ref y26, .ref y27, .ref y28, .ref y29, .ref y30, .ref y31, .ref y32, .int w33, .int w34, .int w35, .ref y36, .int w37, .int w38, .int w39, .ref y40, .ref y41, .ref y42, .int w43, .long v44])), (y5, .inl (T 1, 1600, .inl c5))] sz)) 0 0 (va_A [(ym, .inr (11, [.int w0, .ref y1, .ref y2, .ref y3, .ref y4, .ref y5, .int w6, .int w7, .int w8, .int w9, .int w10, .long v11, .int w12, .int w13, .int w14, .int w15, .ref y16, .ref y17, .ref y18, .ref y19, .ref y20, .ref y21, .ref y22, .ref y23, .ref y24, .ref y25, .ref y26, .ref y27, .ref y28, .ref y29, .ref y30, .ref y31, .ref y32, .int w33, .int w34, .int w35, .ref y36, .int w37, .int w38, .int w39, .ref y40, .ref y41, .ref y42, .int w43, .long v44])), (y5, .inl (T 1, 1600, .inl c5))] sz) := by
  refine Met.ofW (cc := cX11_feed) (maxL := 6) (ret := (some .int)) (by decide) rfl ?_
  intro p e s m args below meth c s₁ B hml hv
  obtain ⟨rfl, hsz, hP, hC, hD0⟩ := hv
  have hx := B.exec
  have hb := B.bytes
  have hr := B.returns
  have hts : ∀ w ∈ gt, w.before _ s = true := fun w hw => atoms_spec (ws := (wM yX11_feed cX11_feed 6 (some .int))) B.pre w (List.mem_cons_of_mem _ hw)
  have hown : s.vm.findClass RX11 = some m.cls := findClass_of_methodNamed B.named
  have hlocks := B.notSynchronized
  have hK := hC.1
  subst hsz
  have hD := hD0.self (sz := s.heap.size)
  generalize hAe : va_A [(ym, .inr (11, [.int w0, .ref y1, .ref y2, .ref y3, .ref y4, .ref y5, .int w6, .int w7, .int w8, .int w9, .int w10, .long v11, .int w12, .int w13, .int w14, .int w15, .ref y16, .ref y17, .ref y18, .ref y19, .ref y20, .ref y21, .ref y22, .ref y23, .ref y24, .ref y25, .ref y26, .ref y27, .ref y28, .ref y29, .ref y30, .ref y31, .ref y32, .int w33, .int w34, .int w35, .ref y36, .int w37, .int w38, .int w39, .ref y40, .ref y41, .ref y42, .int w43, .long v44])), (y5, .inl (T 1, 1600, .inl c5))] s.heap.size = A at hD ⊢
  have hA : ∀ q : Nat, s.heap.size ≤ q → A q := fun q h => by rw [← hAe]; exact Or.inr h
  have hS : va_S A s.heap s.heap [] := va_S.rf
  have hl := lv_entry ([.ref ym, .int i1, .int i2, .int i3, .int i4, .int i5]) (n := 6) (Nat.le_of_ble_eq_true rfl)
  rw [lg_entry_eq]
  generalize (lg_sl ([.ref ym, .int i1, .int i2, .int i3, .int i4, .int i5]) ++ List.replicate (6 - (lg_sl ([.ref ym, .int i1, .int i2, .int i3, .int i4, .int i5])).length) Slot.unset).toArray = ls at hl ⊢
  have hl : lv_has ls 6 [(0, .ref ym), (1, .int i1), (2, .int i2), (3, .int i3), (4, .int i4), (5, .int i5)] := hl
  refine lv_aload_n hx hb dX11_feed_0 rfl (lv_at hl 0 rfl) ?_
  refine lv_iconst (v := 0) hx hb dX11_feed_1 (by decide) ?_
  refine va_put (D := D) (ci := 11) (v := .int 0) (ty := .int) (C := RX11) (T := TX11) (N := 45) hx hb hts iX11 tyX11 tyX11_ok nmX11 hown hK hP hD hS 0 rfl rfl 0 (by decide) (hts _ m1318) (fun _ h9 => h9) rfl (by decide +kernel) rfl rfl (Nat.le_of_ble_eq_true rfl) dX11_feed_2 (fun H locs hP hD hS => ?_)
  have hP : va_P D vwCl [(ym, .inr (11, [.int 0, .ref y1, .ref y2, .ref y3, .ref y4, .ref y5, .int w6, .int w7, .int w8, .int w9, .int w10, .long v11, .int w12, .int w13, .int w14, .int w15, .ref y16, .ref y17, .ref y18, .ref y19, .ref y20, .ref y21, .ref y22, .ref y23, .ref y24, .ref y25, .ref y26, .ref y27, .ref y28, .ref y29, .ref y30, .ref y31, .ref y32, .int w33, .int w34, .int w35, .ref y36, .int w37, .int w38, .int w39, .ref y40, .ref y41, .ref y42, .int w43, .long v44])), (y5, .inl (T 1, 1600, .inl c5))] H := hP
  have hD : va_D A [(ym, .inr (11, [.int 0, .ref y1, .ref y2, .ref y3, .ref y4, .ref y5, .int w6, .int w7, .int w8, .int w9, .int w10, .long v11, .int w12, .int w13, .int w14, .int w15, .ref y16, .ref y17, .ref y18, .ref y19, .ref y20, .ref y21, .ref y22, .ref y23, .ref y24, .ref y25, .ref y26, .ref y27, .ref y28, .ref y29, .ref y30, .ref y31, .ref y32, .int w33, .int w34, .int w35, .ref y36, .int w37, .int w38, .int w39, .ref y40, .ref y41, .ref y42, .int w43, .long v44])), (y5, .inl (T 1, 1600, .inl c5))] := hD
  refine lv_aload_n hx hb dX11_feed_5 rfl (lv_at hl 0 rfl) ?_
  refine va_get (D := D) (ci := 11) (C := RX11) (T := TX11) (N := 45) hx hb hts iX11 hown hK hP 0 rfl rfl 6 (by decide) (hts _ m1324) (fun _ h9 => h9) rfl dX11_feed_6 ?_
  refine lv_bipush (v := 20) hx hb dX11_feed_9 (by decide) ?_
  refine lv_iadd hx hb dX11_feed_11 ?_
  refine lv_topi (fun x_1 ex_1 => ?_)
  have tx_1 : x_1.toInt = w6.toInt + 20 := t_add (x := w6.toInt) (y := 20) ex_1 rfl rfl (by omega) (by omega)
  refine lv_sipush (v := 1600) hx hb dX11_feed_12 (by decide) ?_
  refine lv_icmp_le (tgt := 20) hx hb dX11_feed_15 (by decide) (fun c_2 => ?_) (fun c_2 => ?_)
  · have c_2 : x_1.toInt ≤ 1600 := (c_le (x := x_1.toInt) (y := 1600) rfl rfl).mp c_2
    refine lv_aload_n hx hb dX11_feed_20 rfl (lv_at hl 0 rfl) ?_
    refine lv_iload_n hx hb dX11_feed_21 rfl (lv_at hl 1 rfl) ?_
    refine mtV (wr := []) (cV (As := [.int i1]) (rest := []) ⟨hx, hb, hml, hown, hts⟩ (c_X11_four l D T y1 y16 y17 y18 y19 y2 y20 y21 y22 y23 y24 y25 y26 y27 y28 y29 y3 y30 y31 y32 y36 y4 y40 y41 y42 y5 ym i1 0 w10 w12 w13 w14 w15 w33 w34 w35 w37 w38 w39 w43 w6 w7 w8 w9 v11 v44 c5 _ ⟨by omega, by omega⟩) k_X11_four v_X11_four m1479 rfl rfl ⟨(Nat.le_of_ble_eq_true rfl), (Nat.le_of_ble_eq_true rfl)⟩ (preM hC (hP.sub (ws' := [(ym, .inr (11, [.int 0, .ref y1, .ref y2, .ref y3, .ref y4, .ref y5, .int w6, .int w7, .int w8, .int w9, .int w10, .long v11, .int w12, .int w13, .int w14, .int w15, .ref y16, .ref y17, .ref y18, .ref y19, .ref y20, .ref y21, .ref y22, .ref y23, .ref y24, .ref y25, .ref y26, .ref y27, .ref y28, .ref y29, .ref y30, .ref y31, .ref y32, .int w33, .int w34, .int w35, .ref y36, .int w37, .int w38, .int w39, .ref y40, .ref y41, .ref y42, .int w43, .long v44])), (y5, .inl (T 1, 1600, .inl c5))]) [0, 1] rfl) (hD.sub (ws' := [(ym, .inr (11, [.int 0, .ref y1, .ref y2, .ref y3, .ref y4, .ref y5, .int w6, .int w7, .int w8, .int w9, .int w10, .long v11, .int w12, .int w13, .int w14, .int w15, .ref y16, .ref y17, .ref y18, .ref y19, .ref y20, .ref y21, .ref y22, .ref y23, .ref y24, .ref y25, .ref y26, .ref y27, .ref y28, .ref y29, .ref y30, .ref y31, .ref y32, .int w33, .int w34, .int w35, .ref y36, .int w37, .int w38, .int w39, .ref y40, .ref y41, .ref y42, .int w43, .long v44])), (y5, .inl (T 1, 1600, .inl c5))]) [0, 1] (by decide) rfl)) (va_recv hK hP (ci := 11) (q0 := 0) rfl rfl) rfl hl.1 rfl (Nat.le_of_ble_eq_true rfl) dX11_feed_22 ⟨(Nat.le_of_ble_eq_true rfl), (Nat.le_of_ble_eq_true rfl)⟩) hS hA hP hD [0, 1] [] rfl rfl (by decide) (by decide) (fun u_4 H locs hw hP hD hS => ?_)
    have hP : va_P D vwCl [(ym, .inr (11, [.int 0, .ref y1, .ref y2, .ref y3, .ref y4, .ref y5, .int (u_4.2.2.2.1 0), .int w7, .int w8, .int w9, .int w10, .long v11, .int w12, .int w13, .int w14, .int w15, .ref y16, .ref y17, .ref y18, .ref y19, .ref y20, .ref y21, .ref y22, .ref y23, .ref y24, .ref y25, .ref y26, .ref y27, .ref y28, .ref y29, .ref y30, .ref y31, .ref y32, .int w33, .int w34, .int w35, .ref y36, .int w37, .int w38, .int w39, .ref y40, .ref y41, .ref y42, .int w43, .long v44])), (y5, .inl (T 1, 1600, .inl (u_4.2.1 0)))] H := hP.sub [0, 1] rfl
    have hD : va_D A [(ym, .inr (11, [.int 0, .ref y1, .ref y2, .ref y3, .ref y4, .ref y5, .int (u_4.2.2.2.1 0), .int w7, .int w8, .int w9, .int w10, .long v11, .int w12, .int w13, .int w14, .int w15, .ref y16, .ref y17, .ref y18, .ref y19, .ref y20, .ref y21, .ref y22, .ref y23, .ref y24, .ref y25, .ref y26, .ref y27, .ref y28, .ref y29, .ref y30, .ref y31, .ref y32, .int w33, .int w34, .int w35, .ref y36, .int w37, .int w38, .int w39, .ref y40, .ref y41, .ref y42, .int w43, .long v44])), (y5, .inl (T 1, 1600, .inl (u_4.2.1 0)))] := hD.sub [0, 1] (by decide) rfl
    obtain ⟨w_5, w_6⟩ : (0 ≤ (u_4.2.2.2.1 0).toInt ∧ (u_4.2.2.2.1 0).toInt ≤ 1600) ∧ ((u_4.2.2.2.1 0).toInt = w6.toInt + 4) := hw
    refine lv_aload_n hx hb dX11_feed_25 rfl (lv_at hl 0 rfl) ?_
    refine lv_iload_n hx hb dX11_feed_26 rfl (lv_at hl 2 rfl) ?_
    refine mtV (wr := []) (cV (As := [.int i2]) (rest := []) ⟨hx, hb, hml, hown, hts⟩ (c_X11_four l D T y1 y16 y17 y18 y19 y2 y20 y21 y22 y23 y24 y25 y26 y27 y28 y29 y3 y30 y31 y32 y36 y4 y40 y41 y42 y5 ym i2 0 w10 w12 w13 w14 w15 w33 w34 w35 w37 w38 w39 w43 (u_4.2.2.2.1 0) w7 w8 w9 v11 v44 (u_4.2.1 0) _ ⟨by omega, by omega⟩) k_X11_four v_X11_four m1479 rfl rfl ⟨(Nat.le_of_ble_eq_true rfl), (Nat.le_of_ble_eq_true rfl)⟩ (preM hC (hP.sub (ws' := [(ym, .inr (11, [.int 0, .ref y1, .ref y2, .ref y3, .ref y4, .ref y5, .int (u_4.2.2.2.1 0), .int w7, .int w8, .int w9, .int w10, .long v11, .int w12, .int w13, .int w14, .int w15, .ref y16, .ref y17, .ref y18, .ref y19, .ref y20, .ref y21, .ref y22, .ref y23, .ref y24, .ref y25, .ref y26, .ref y27, .ref y28, .ref y29, .ref y30, .ref y31, .ref y32, .int w33, .int w34, .int w35, .ref y36, .int w37, .int w38, .int w39, .ref y40, .ref y41, .ref y42, .int w43, .long v44])), (y5, .inl (T 1, 1600, .inl (u_4.2.1 0)))]) [0, 1] rfl) (hD.sub (ws' := [(ym, .inr (11, [.int 0, .ref y1, .ref y2, .ref y3, .ref y4, .ref y5, .int (u_4.2.2.2.1 0), .int w7, .int w8, .int w9, .int w10, .long v11, .int w12, .int w13, .int w14, .int w15, .ref y16, .ref y17, .ref y18, .ref y19, .ref y20, .ref y21, .ref y22, .ref y23, .ref y24, .ref y25, .ref y26, .ref y27, .ref y28, .ref y29, .ref y30, .ref y31, .ref y32, .int w33, .int w34, .int w35, .ref y36, .int w37, .int w38, .int w39, .ref y40, .ref y41, .ref y42, .int w43, .long v44])), (y5, .inl (T 1, 1600, .inl (u_4.2.1 0)))]) [0, 1] (by decide) rfl)) (va_recv hK hP (ci := 11) (q0 := 0) rfl rfl) rfl hl.1 rfl (Nat.le_of_ble_eq_true rfl) dX11_feed_27 ⟨(Nat.le_of_ble_eq_true rfl), (Nat.le_of_ble_eq_true rfl)⟩) hS hA hP hD [0, 1] [] rfl rfl (by decide) (by decide) (fun u_8 H locs hw hP hD hS => ?_)
    have hP : va_P D vwCl [(ym, .inr (11, [.int 0, .ref y1, .ref y2, .ref y3, .ref y4, .ref y5, .int (u_8.2.2.2.1 0), .int w7, .int w8, .int w9, .int w10, .long v11, .int w12, .int w13, .int w14, .int w15, .ref y16, .ref y17, .ref y18, .ref y19, .ref y20, .ref y21, .ref y22, .ref y23, .ref y24, .ref y25, .ref y26, .ref y27, .ref y28, .ref y29, .ref y30, .ref y31, .ref y32, .int w33, .int w34, .int w35, .ref y36, .int w37, .int w38, .int w39, .ref y40, .ref y41, .ref y42, .int w43, .long v44])), (y5, .inl (T 1, 1600, .inl (u_8.2.1 0)))] H := hP.sub [0, 1] rfl
    have hD : va_D A [(ym, .inr (11, [.int 0, .ref y1, .ref y2, .ref y3, .ref y4, .ref y5, .int (u_8.2.2.2.1 0), .int w7, .int w8, .int w9, .int w10, .long v11, .int w12, .int w13, .int w14, .int w15, .ref y16, .ref y17, .ref y18, .ref y19, .ref y20, .ref y21, .ref y22, .ref y23, .ref y24, .ref y25, .ref y26, .ref y27, .ref y28, .ref y29, .ref y30, .ref y31, .ref y32, .int w33, .int w34, .int w35, .ref y36, .int w37, .int w38, .int w39, .ref y40, .ref y41, .ref y42, .int w43, .long v44])), (y5, .inl (T 1, 1600, .inl (u_8.2.1 0)))] := hD.sub [0, 1] (by decide) rfl
    obtain ⟨w_9, w_10⟩ : (0 ≤ (u_8.2.2.2.1 0).toInt ∧ (u_8.2.2.2.1 0).toInt ≤ 1600) ∧ ((u_8.2.2.2.1 0).toInt = (u_4.2.2.2.1 0).toInt + 4) := hw
    refine lv_aload_n hx hb dX11_feed_30 rfl (lv_at hl 0 rfl) ?_
    refine lv_iload_n hx hb dX11_feed_31 rfl (lv_at hl 3 rfl) ?_
    refine mtV (wr := []) (cV (As := [.int i3]) (rest := []) ⟨hx, hb, hml, hown, hts⟩ (c_X11_four l D T y1 y16 y17 y18 y19 y2 y20 y21 y22 y23 y24 y25 y26 y27 y28 y29 y3 y30 y31 y32 y36 y4 y40 y41 y42 y5 ym i3 0 w10 w12 w13 w14 w15 w33 w34 w35 w37 w38 w39 w43 (u_8.2.2.2.1 0) w7 w8 w9 v11 v44 (u_8.2.1 0) _ ⟨by omega, by omega⟩) k_X11_four v_X11_four m1479 rfl rfl ⟨(Nat.le_of_ble_eq_true rfl), (Nat.le_of_ble_eq_true rfl)⟩ (preM hC (hP.sub (ws' := [(ym, .inr (11, [.int 0, .ref y1, .ref y2, .ref y3, .ref y4, .ref y5, .int (u_8.2.2.2.1 0), .int w7, .int w8, .int w9, .int w10, .long v11, .int w12, .int w13, .int w14, .int w15, .ref y16, .ref y17, .ref y18, .ref y19, .ref y20, .ref y21, .ref y22, .ref y23, .ref y24, .ref y25, .ref y26, .ref y27, .ref y28, .ref y29, .ref y30, .ref y31, .ref y32, .int w33, .int w34, .int w35, .ref y36, .int w37, .int w38, .int w39, .ref y40, .ref y41, .ref y42, .int w43, .long v44])), (y5, .inl (T 1, 1600, .inl (u_8.2.1 0)))]) [0, 1] rfl) (hD.sub (ws' := [(ym, .inr (11, [.int 0, .ref y1, .ref y2, .ref y3, .ref y4, .ref y5, .int (u_8.2.2.2.1 0), .int w7, .int w8, .int w9, .int w10, .long v11, .int w12, .int w13, .int w14, .int w15, .ref y16, .ref y17, .ref y18, .ref y19, .ref y20, .ref y21, .ref y22, .ref y23, .ref y24, .ref y25, .ref y26, .ref y27, .ref y28, .ref y29, .ref y30, .ref y31, .ref y32, .int w33, .int w34, .int w35, .ref y36, .int w37, .int w38, .int w39, .ref y40, .ref y41, .ref y42, .int w43, .long v44])), (y5, .inl (T 1, 1600, .inl (u_8.2.1 0)))]) [0, 1] (by decide) rfl)) (va_recv hK hP (ci := 11) (q0 := 0) rfl rfl) rfl hl.1 rfl (Nat.le_of_ble_eq_true rfl) dX11_feed_32 ⟨(Nat.le_of_ble_eq_true rfl), (Nat.le_of_ble_eq_true rfl)⟩) hS hA hP hD [0, 1] [] rfl rfl (by decide) (by decide) (fun u_12 H locs hw hP hD hS => ?_)
    have hP : va_P D vwCl [(ym, .inr (11, [.int 0, .ref y1, .ref y2, .ref y3, .ref y4, .ref y5, .int (u_12.2.2.2.1 0), .int w7, .int w8, .int w9, .int w10, .long v11, .int w12, .int w13, .int w14, .int w15, .ref y16, .ref y17, .ref y18, .ref y19, .ref y20, .ref y21, .ref y22, .ref y23, .ref y24, .ref y25, .ref y26, .ref y27, .ref y28, .ref y29, .ref y30, .ref y31, .ref y32, .int w33, .int w34, .int w35, .ref y36, .int w37, .int w38, .int w39, .ref y40, .ref y41, .ref y42, .int w43, .long v44])), (y5, .inl (T 1, 1600, .inl (u_12.2.1 0)))] H := hP.sub [0, 1] rfl
    have hD : va_D A [(ym, .inr (11, [.int 0, .ref y1, .ref y2, .ref y3, .ref y4, .ref y5, .int (u_12.2.2.2.1 0), .int w7, .int w8, .int w9, .int w10, .long v11, .int w12, .int w13, .int w14, .int w15, .ref y16, .ref y17, .ref y18, .ref y19, .ref y20, .ref y21, .ref y22, .ref y23, .ref y24, .ref y25, .ref y26, .ref y27, .ref y28, .ref y29, .ref y30, .ref y31, .ref y32, .int w33, .int w34, .int w35, .ref y36, .int w37, .int w38, .int w39, .ref y40, .ref y41, .ref y42, .int w43, .long v44])), (y5, .inl (T 1, 1600, .inl (u_12.2.1 0)))] := hD.sub [0, 1] (by decide) rfl
    obtain ⟨w_13, w_14⟩ : (0 ≤ (u_12.2.2.2.1 0).toInt ∧ (u_12.2.2.2.1 0).toInt ≤ 1600) ∧ ((u_12.2.2.2.1 0).toInt = (u_8.2.2.2.1 0).toInt + 4) := hw
    refine lv_aload_n hx hb dX11_feed_35 rfl (lv_at hl 0 rfl) ?_
    refine lv_iload hx hb dX11_feed_36 (lv_at hl 4 rfl) ?_
    refine mtV (wr := []) (cV (As := [.int i4]) (rest := []) ⟨hx, hb, hml, hown, hts⟩ (c_X11_four l D T y1 y16 y17 y18 y19 y2 y20 y21 y22 y23 y24 y25 y26 y27 y28 y29 y3 y30 y31 y32 y36 y4 y40 y41 y42 y5 ym i4 0 w10 w12 w13 w14 w15 w33 w34 w35 w37 w38 w39 w43 (u_12.2.2.2.1 0) w7 w8 w9 v11 v44 (u_12.2.1 0) _ ⟨by omega, by omega⟩) k_X11_four v_X11_four m1479 rfl rfl ⟨(Nat.le_of_ble_eq_true rfl), (Nat.le_of_ble_eq_true rfl)⟩ (preM hC (hP.sub (ws' := [(ym, .inr (11, [.int 0, .ref y1, .ref y2, .ref y3, .ref y4, .ref y5, .int (u_12.2.2.2.1 0), .int w7, .int w8, .int w9, .int w10, .long v11, .int w12, .int w13, .int w14, .int w15, .ref y16, .ref y17, .ref y18, .ref y19, .ref y20, .ref y21, .ref y22, .ref y23, .ref y24, .ref y25, .ref y26, .ref y27, .ref y28, .ref y29, .ref y30, .ref y31, .ref y32, .int w33, .int w34, .int w35, .ref y36, .int w37, .int w38, .int w39, .ref y40, .ref y41, .ref y42, .int w43, .long v44])), (y5, .inl (T 1, 1600, .inl (u_12.2.1 0)))]) [0, 1] rfl) (hD.sub (ws' := [(ym, .inr (11, [.int 0, .ref y1, .ref y2, .ref y3, .ref y4, .ref y5, .int (u_12.2.2.2.1 0), .int w7, .int w8, .int w9, .int w10, .long v11, .int w12, .int w13, .int w14, .int w15, .ref y16, .ref y17, .ref y18, .ref y19, .ref y20, .ref y21, .ref y22, .ref y23, .ref y24, .ref y25, .ref y26, .ref y27, .ref y28, .ref y29, .ref y30, .ref y31, .ref y32, .int w33, .int w34, .int w35, .ref y36, .int w37, .int w38, .int w39, .ref y40, .ref y41, .ref y42, .int w43, .long v44])), (y5, .inl (T 1, 1600, .inl (u_12.2.1 0)))]) [0, 1] (by decide) rfl)) (va_recv hK hP (ci := 11) (q0 := 0) rfl rfl) rfl hl.1 rfl (Nat.le_of_ble_eq_true rfl) dX11_feed_38 ⟨(Nat.le_of_ble_eq_true rfl), (Nat.le_of_ble_eq_true rfl)⟩) hS hA hP hD [0, 1] [] rfl rfl (by decide) (by decide) (fun u_16 H locs hw hP hD hS => ?_)
    have hP : va_P D vwCl [(ym, .inr (11, [.int 0, .ref y1, .ref y2, .ref y3, .ref y4, .ref y5, .int (u_16.2.2.2.1 0), .int w7, .int w8, .int w9, .int w10, .long v11, .int w12, .int w13, .int w14, .int w15, .ref y16, .ref y17, .ref y18, .ref y19, .ref y20, .ref y21, .ref y22, .ref y23, .ref y24, .ref y25, .ref y26, .ref y27, .ref y28, .ref y29, .ref y30, .ref y31, .ref y32, .int w33, .int w34, .int w35, .ref y36, .int w37, .int w38, .int w39, .ref y40, .ref y41, .ref y42, .int w43, .long v44])), (y5, .inl (T 1, 1600, .inl (u_16.2.1 0)))] H := hP.sub [0, 1] rfl
    have hD : va_D A [(ym, .inr (11, [.int 0, .ref y1, .ref y2, .ref y3, .ref y4, .ref y5, .int (u_16.2.2.2.1 0), .int w7, .int w8, .int w9, .int w10, .long v11, .int w12, .int w13, .int w14, .int w15, .ref y16, .ref y17, .ref y18, .ref y19, .ref y20, .ref y21, .ref y22, .ref y23, .ref y24, .ref y25, .ref y26, .ref y27, .ref y28, .ref y29, .ref y30, .ref y31, .ref y32, .int w33, .int w34, .int w35, .ref y36, .int w37, .int w38, .int w39, .ref y40, .ref y41, .ref y42, .int w43, .long v44])), (y5, .inl (T 1, 1600, .inl (u_16.2.1 0)))] := hD.sub [0, 1] (by decide) rfl
    obtain ⟨w_17, w_18⟩ : (0 ≤ (u_16.2.2.2.1 0).toInt ∧ (u_16.2.2.2.1 0).toInt ≤ 1600) ∧ ((u_16.2.2.2.1 0).toInt = (u_12.2.2.2.1 0).toInt + 4) := hw
    refine lv_aload_n hx hb dX11_feed_41 rfl (lv_at hl 0 rfl) ?_
    refine lv_iload hx hb dX11_feed_42 (lv_at hl 5 rfl) ?_
    refine mtV (wr := []) (cV (As := [.int i5]) (rest := []) ⟨hx, hb, hml, hown, hts⟩ (c_X11_four l D T y1 y16 y17 y18 y19 y2 y20 y21 y22 y23 y24 y25 y26 y27 y28 y29 y3 y30 y31 y32 y36 y4 y40 y41 y42 y5 ym i5 0 w10 w12 w13 w14 w15 w33 w34 w35 w37 w38 w39 w43 (u_16.2.2.2.1 0) w7 w8 w9 v11 v44 (u_16.2.1 0) _ ⟨by omega, by omega⟩) k_X11_four v_X11_four m1479 rfl rfl ⟨(Nat.le_of_ble_eq_true rfl), (Nat.le_of_ble_eq_true rfl)⟩ (preM hC (hP.sub (ws' := [(ym, .inr (11, [.int 0, .ref y1, .ref y2, .ref y3, .ref y4, .ref y5, .int (u_16.2.2.2.1 0), .int w7, .int w8, .int w9, .int w10, .long v11, .int w12, .int w13, .int w14, .int w15, .ref y16, .ref y17, .ref y18, .ref y19, .ref y20, .ref y21, .ref y22, .ref y23, .ref y24, .ref y25, .ref y26, .ref y27, .ref y28, .ref y29, .ref y30, .ref y31, .ref y32, .int w33, .int w34, .int w35, .ref y36, .int w37, .int w38, .int w39, .ref y40, .ref y41, .ref y42, .int w43, .long v44])), (y5, .inl (T 1, 1600, .inl (u_16.2.1 0)))]) [0, 1] rfl) (hD.sub (ws' := [(ym, .inr (11, [.int 0, .ref y1, .ref y2, .ref y3, .ref y4, .ref y5, .int (u_16.2.2.2.1 0), .int w7, .int w8, .int w9, .int w10, .long v11, .int w12, .int w13, .int w14, .int w15, .ref y16, .ref y17, .ref y18, .ref y19, .ref y20, .ref y21, .ref y22, .ref y23, .ref y24, .ref y25, .ref y26, .ref y27, .ref y28, .ref y29, .ref y30, .ref y31, .ref y32, .int w33, .int w34, .int w35, .ref y36, .int w37, .int w38, .int w39, .ref y40, .ref y41, .ref y42, .int w43, .long v44])), (y5, .inl (T 1, 1600, .inl (u_16.2.1 0)))]) [0, 1] (by decide) rfl)) (va_recv hK hP (ci := 11) (q0 := 0) rfl rfl) rfl hl.1 rfl (Nat.le_of_ble_eq_true rfl) dX11_feed_44 ⟨(Nat.le_of_ble_eq_true rfl), (Nat.le_of_ble_eq_true rfl)⟩) hS hA hP hD [0, 1] [] rfl rfl (by decide) (by decide) (fun u_20 H locs hw hP hD hS => ?_)
    have hP : va_P D vwCl [(ym, .inr (11, [.int 0, .ref y1, .ref y2, .ref y3, .ref y4, .ref y5, .int (u_20.2.2.2.1 0), .int w7, .int w8, .int w9, .int w10, .long v11, .int w12, .int w13, .int w14, .int w15, .ref y16, .ref y17, .ref y18, .ref y19, .ref y20, .ref y21, .ref y22, .ref y23, .ref y24, .ref y25, .ref y26, .ref y27, .ref y28, .ref y29, .ref y30, .ref y31, .ref y32, .int w33, .int w34, .int w35, .ref y36, .int w37, .int w38, .int w39, .ref y40, .ref y41, .ref y42, .int w43, .long v44])), (y5, .inl (T 1, 1600, .inl (u_20.2.1 0)))] H := hP.sub [0, 1] rfl
    have hD : va_D A [(ym, .inr (11, [.int 0, .ref y1, .ref y2, .ref y3, .ref y4, .ref y5, .int (u_20.2.2.2.1 0), .int w7, .int w8, .int w9, .int w10, .long v11, .int w12, .int w13, .int w14, .int w15, .ref y16, .ref y17, .ref y18, .ref y19, .ref y20, .ref y21, .ref y22, .ref y23, .ref y24, .ref y25, .ref y26, .ref y27, .ref y28, .ref y29, .ref y30, .ref y31, .ref y32, .int w33, .int w34, .int w35, .ref y36, .int w37, .int w38, .int w39, .ref y40, .ref y41, .ref y42, .int w43, .long v44])), (y5, .inl (T 1, 1600, .inl (u_20.2.1 0)))] := hD.sub [0, 1] (by decide) rfl
    obtain ⟨w_21, w_22⟩ : (0 ≤ (u_20.2.2.2.1 0).toInt ∧ (u_20.2.2.2.1 0).toInt ≤ 1600) ∧ ((u_20.2.2.2.1 0).toInt = (u_16.2.2.2.1 0).toInt + 4) := hw
    refine lv_aload_n hx hb dX11_feed_47 rfl (lv_at hl 0 rfl) ?_
    refine va_get (D := D) (ci := 11) (C := RX11) (T := TX11) (N := 45) hx hb hts iX11 hown hK hP 0 rfl rfl 6 (by decide) (hts _ m1324) (fun _ h9 => h9) rfl dX11_feed_48 ?_
    have hP9 := hP.sub (ws' := [(ym, .inr (11, [.int 0, .ref y1, .ref y2, .ref y3, .ref y4, .ref y5, .int (u_20.2.2.2.1 0), .int w7, .int w8, .int w9, .int w10, .long v11, .int w12, .int w13, .int w14, .int w15, .ref y16, .ref y17, .ref y18, .ref y19, .ref y20, .ref y21, .ref y22, .ref y23, .ref y24, .ref y25, .ref y26, .ref y27, .ref y28, .ref y29, .ref y30, .ref y31, .ref y32, .int w33, .int w34, .int w35, .ref y36, .int w37, .int w38, .int w39, .ref y40, .ref y41, .ref y42, .int w43, .long v44])), (y5, .inl (T 1, 1600, .inl (u_20.2.1 0)))]) [0, 1] rfl
    have hD9 := hD.sub (ws' := [(ym, .inr (11, [.int 0, .ref y1, .ref y2, .ref y3, .ref y4, .ref y5, .int (u_20.2.2.2.1 0), .int w7, .int w8, .int w9, .int w10, .long v11, .int w12, .int w13, .int w14, .int w15, .ref y16, .ref y17, .ref y18, .ref y19, .ref y20, .ref y21, .ref y22, .ref y23, .ref y24, .ref y25, .ref y26, .ref y27, .ref y28, .ref y29, .ref y30, .ref y31, .ref y32, .int w33, .int w34, .int w35, .ref y36, .int w37, .int w38, .int w39, .ref y40, .ref y41, .ref y42, .int w43, .long v44])), (y5, .inl (T 1, 1600, .inl (u_20.2.1 0)))]) [0, 1] (by decide) rfl
    exact W.iret (v := (u_20.2.2.2.1 0)) hx hb hr (fun t ht hW => ⟨⟨(u_20.2.2.2.1 0), (fun k => ([] : List (Nat)).getD k 0, fun k => ([u_20.2.1 0] : List (Nat → Int32)).getD k (fun _ => 0), fun k => ([] : List (Nat → Int64)).getD k (fun _ => 0), fun k => ([u_20.2.2.2.1 0] : List (Int32)).getD k 0, fun k => ([] : List (Int64)).getD k 0), rfl, (show 0 ≤ (u_20.2.2.2.1 0).toInt ∧ (u_20.2.2.2.1 0).toInt ≤ 1600 by omega), by rw [ht]; exact hP9, hD9⟩, hS.F ht⟩) hS.2.2 dX11_feed_51
  · have c_2 : 1600 < x_1.toInt := by have h := mt (c_le (x := x_1.toInt) (y := 1600) rfl rfl).mpr c_2; omega
    refine lv_iconst (v := (-1)) hx hb dX11_feed_18 (by decide) ?_
    have hP9 := hP.sub (ws' := [(ym, .inr (11, [.int 0, .ref y1, .ref y2, .ref y3, .ref y4, .ref y5, .int w6, .int w7, .int w8, .int w9, .int w10, .long v11, .int w12, .int w13, .int w14, .int w15, .ref y16, .ref y17, .ref y18, .ref y19, .ref y20, .ref y21, .ref y22, .ref y23, .ref y24, .ref y25, .ref y26, .ref y27, .ref y28, .ref y29, .ref y30, .ref y31, .ref y32, .int w33, .int w34, .int w35, .ref y36, .int w37, .int w38, .int w39, .ref y40, .ref y41, .ref y42, .int w43, .long v44])), (y5, .inl (T 1, 1600, .inl c5))]) [0, 1] rfl
    have hD9 := hD.sub (ws' := [(ym, .inr (11, [.int 0, .ref y1, .ref y2, .ref y3, .ref y4, .ref y5, .int w6, .int w7, .int w8, .int w9, .int w10, .long v11, .int w12, .int w13, .int w14, .int w15, .ref y16, .ref y17, .ref y18, .ref y19, .ref y20, .ref y21, .ref y22, .ref y23, .ref y24, .ref y25, .ref y26, .ref y27, .ref y28, .ref y29, .ref y30, .ref y31, .ref y32, .int w33, .int w34, .int w35, .ref y36, .int w37, .int w38, .int w39, .ref y40, .ref y41, .ref y42, .int w43, .long v44])), (y5, .inl (T 1, 1600, .inl c5))]) [0, 1] (by decide) rfl
    exact W.iret (v := (-1)) hx hb hr (fun t ht hW => ⟨⟨(-1), (fun k => ([] : List (Nat)).getD k 0, fun k => ([c5] : List (Nat → Int32)).getD k (fun _ => 0), fun k => ([] : List (Nat → Int64)).getD k (fun _ => 0), fun k => ([w6] : List (Int32)).getD k 0, fun k => ([] : List (Int64)).getD k 0), rfl, (show 0 ≤ w6.toInt ∧ w6.toInt ≤ 1600 by omega), by rw [ht]; exact hP9, hD9⟩, hS.F ht⟩) hS.2.2 dX11_feed_19

set_option maxHeartbeats 4000000 in
set_option maxRecDepth 100000 in
theorem c_X11_end (l : Launch) (D : va_G) (T : Nat → ClassId) (y1 y16 y17 y18 y19 y2 y20 y21 y22 y23 y24 y25 y26 y27 y28 y29 y3 y30 y31 y32 y36 y4 y40 y41 y42 y5 ym : Nat) (i1 w0 w10 w12 w13 w14 w15 w33 w34 w35 w37 w38 w39 w43 w6 w7 w8 w9 : Int32) (v11 v44 : Int64) (sz : Nat) (h_w6 : 0 ≤ w6.toInt ∧ w6.toInt ≤ 1600) (h_w43 : 0 ≤ w43.toInt ∧ w43.toInt ≤ 16) : Met l yX11_end (wM yX11_end cX11_end 2 (some .int)) ({ frames := 1, cells := 0, slots := 0, locals := 25 }) (va_Pc [.ref ym, .int i1] (pwM D T [(ym, .inr (11, [.int w0, .ref y1, .ref y2, .ref y3, .ref y4, .ref y5, .int w6, .int w7, .int w8, .int w9, .int w10, .long v11, .int w12, .int w13, .int w14, .int w15, .ref y16, .ref y17, .ref y18, .ref y19, .ref y20, .ref y21, .ref y22, .ref y23, .ref y24, .ref y25, .ref y26, .ref y27, .ref y28, .ref y29, .ref y30, .ref y31, .ref y32, .int w33, .int w34, .int w35, .ref y36, .int w37, .int w38, .int w39, .ref y40, .ref y41, .ref y42, .int w43, .long v44]))] sz)) (va_Qi (fun (r : Int32) (u : U5) => (0 ≤ (u.2.2.2.1 0).toInt ∧ (u.2.2.2.1 0).toInt ≤ 1600)) (fun u t => pwE D (va_A [(ym, .inr (11, [.int w0, .ref y1, .ref y2, .ref y3, .ref y4, .ref y5, .int w6, .int w7, .int w8, .int w9, .int w10, .long v11, .int w12, .int w13, .int w14, .int w15, .ref y16, .ref y17, .ref y18, .ref y19, .ref y20, .ref y21, .ref y22, .ref y23, .ref y24, .ref y25, .ref y26, .ref y27, .ref y28, .ref y29, .ref y30, .ref y31, .ref y32, .int w33, .int w34, .int w35, .ref y36, .int w37, .int w38, .int w39, .ref y40, .ref y41, .ref y42, .int w43, .long v44]))] sz) [(ym, .inr (11, [.int 0, .ref y1, .ref y2, .ref y3, .ref y4, .ref y5, .int (u.2.2.2.1 0), .int w7, .int w8, .int w9, .int w10, .long v11, .int w12, .int w13, .int w14, .int w15, .ref y16, .ref y17, .ref y18, .ref y19, .ref y20, .ref y21, .ref y22, .ref y23, .ref y24, .ref y25, .ref y26, .ref y27, .ref y28, .ref y29, .ref y30, .ref y31, .ref y32, .int w33, .int w34, .int w35, .ref y36, .int w37, .int w38, .int w39, .ref y40, .ref y41, .ref y42, .int w43, .long v44]))] t) (va_A [(ym, .inr (11, [.int w0, .ref y1, .ref y2, .ref y3, .ref y4, .ref y5, .int w6, .int w7, .int w8, .int w9, .int w10, .long v11, .int w12, .int w13, .int w14, .int w15, .ref y16, .ref y17, .ref y18, .ref y19, .ref y20, .ref y21, .ref y22, .ref y23, .ref y24, .ref y25, .ref y26, .ref y27, .ref y28, .ref y29, .ref y30, .ref y31, .ref y32, .int w33, .int w34, .int w35, .ref y36, .int w37, .int w38, .int w39, .ref y40, .ref y41, .ref y42, .int w43, .long v44]))] sz)) 0 0 (va_A [(ym, .inr (11, [.int w0, .ref y1, .ref y2, .ref y3, .ref y4, .ref y5, .int w6, .int w7, .int w8, .int w9, .int w10, .long v11, .int w12, .int w13, .int w14, .int w15, .ref y16, .ref y17, .ref y18, .ref y19, .ref y20, .ref y21, .ref y22, .ref y23, .ref y24, .ref y25, .ref y26, .ref y27, .ref y28, .ref y29, .ref y30, .ref y31, .ref y32, .int w33, .int w34, .int w35, .ref y36, .int w37, .int w38, .int w39, .ref y40, .ref y41, .ref y42, .int w43, .long v44]))] sz) := by
  refine Met.ofW (cc := cX11_end) (maxL := 2) (ret := (some .int)) (by decide) rfl ?_
  intro p e s m args below meth c s₁ B hml hv
  obtain ⟨rfl, hsz, hP, hC, hD0⟩ := hv
  have hx := B.exec
  have hb := B.bytes
  have hr := B.returns
  have hts : ∀ w ∈ gt, w.before _ s = true := fun w hw => atoms_spec (ws := (wM yX11_end cX11_end 2 (some .int))) B.pre w (List.mem_cons_of_mem _ hw)
  have hown : s.vm.findClass RX11 = some m.cls := findClass_of_methodNamed B.named
  have hlocks := B.notSynchronized
  have hK := hC.1
  subst hsz
  have hD := hD0.self (sz := s.heap.size)
  generalize hAe : va_A [(ym, .inr (11, [.int w0, .ref y1, .ref y2, .ref y3, .ref y4, .ref y5, .int w6, .int w7, .int w8, .int w9, .int w10, .long v11, .int w12, .int w13, .int w14, .int w15, .ref y16, .ref y17, .ref y18, .ref y19, .ref y20, .ref y21, .ref y22, .ref y23, .ref y24, .ref y25, .ref y26, .ref y27, .ref y28, .ref y29, .ref y30, .ref y31, .ref y32, .int w33, .int w34, .int w35, .ref y36, .int w37, .int w38, .int w39, .ref y40, .ref y41, .ref y42, .int w43, .long v44]))] s.heap.size = A at hD ⊢
  have hA : ∀ q : Nat, s.heap.size ≤ q → A q := fun q h => by rw [← hAe]; exact Or.inr h
  have hS : va_S A s.heap s.heap [] := va_S.rf
  have hl := lv_entry ([.ref ym, .int i1]) (n := 2) (Nat.le_of_ble_eq_true rfl)
  rw [lg_entry_eq]
  generalize (lg_sl ([.ref ym, .int i1]) ++ List.replicate (2 - (lg_sl ([.ref ym, .int i1])).length) Slot.unset).toArray = ls at hl ⊢
  have hl : lv_has ls 2 [(0, .ref ym), (1, .int i1)] := hl
  refine lv_aload_n hx hb dX11_end_0 rfl (lv_at hl 0 rfl) ?_
  refine lv_iconst (v := 0) hx hb dX11_end_1 (by decide) ?_
  refine va_put (D := D) (ci := 11) (v := .int 0) (ty := .int) (C := RX11) (T := TX11) (N := 45) hx hb hts iX11 tyX11 tyX11_ok nmX11 hown hK hP hD hS 0 rfl rfl 0 (by decide) (hts _ m1318) (fun _ h9 => h9) rfl (by decide +kernel) rfl rfl (Nat.le_of_ble_eq_true rfl) dX11_end_2 (fun H locs hP hD hS => ?_)
  have hP : va_P D vwCl [(ym, .inr (11, [.int 0, .ref y1, .ref y2, .ref y3, .ref y4, .ref y5, .int w6, .int w7, .int w8, .int w9, .int w10, .long v11, .int w12, .int w13, .int w14, .int w15, .ref y16, .ref y17, .ref y18, .ref y19, .ref y20, .ref y21, .ref y22, .ref y23, .ref y24, .ref y25, .ref y26, .ref y27, .ref y28, .ref y29, .ref y30, .ref y31, .ref y32, .int w33, .int w34, .int w35, .ref y36, .int w37, .int w38, .int w39, .ref y40, .ref y41, .ref y42, .int w43, .long v44]))] H := hP
  have hD : va_D A [(ym, .inr (11, [.int 0, .ref y1, .ref y2, .ref y3, .ref y4, .ref y5, .int w6, .int w7, .int w8, .int w9, .int w10, .long v11, .int w12, .int w13, .int w14, .int w15, .ref y16, .ref y17, .ref y18, .ref y19, .ref y20, .ref y21, .ref y22, .ref y23, .ref y24, .ref y25, .ref y26, .ref y27, .ref y28, .ref y29, .ref y30, .ref y31, .ref y32, .int w33, .int w34, .int w35, .ref y36, .int w37, .int w38, .int w39, .ref y40, .ref y41, .ref y42, .int w43, .long v44]))] := hD
  refine lv_iload_n hx hb dX11_end_5 rfl (lv_at hl 1 rfl) ?_
  refine lv_i2l hx hb dX11_end_6 rfl ?_
  refine lv_lconst (v := 0) hx hb dX11_end_7 (by decide) ?_
  refine lv_aload_n hx hb dX11_end_8 rfl (lv_at hl 0 rfl) ?_
  refine va_get (D := D) (ci := 11) (C := RX11) (T := TX11) (N := 45) hx hb hts iX11 hown hK hP 0 rfl rfl 6 (by decide) (hts _ m1324) (fun _ h9 => h9) rfl dX11_end_9 ?_
  refine lv_i2l hx hb dX11_end_12 rfl ?_
  refine puI (cS (As := [.long i1.toInt64, .long 0, .long w6.toInt64]) (rest := []) ⟨hx, hb, hml, hown, hts⟩ (c_X11_in l D T i1.toInt64 0 w6.toInt64) k_X11_in m1462 m1461 rfl rfl ⟨(Nat.le_of_ble_eq_true rfl), (Nat.le_of_ble_eq_true rfl)⟩ (preP hC (hP.sub (ws' := []) [] rfl)) rfl hl.1 rfl (Nat.le_of_ble_eq_true rfl) dX11_end_13 ⟨(Nat.le_of_ble_eq_true rfl), (Nat.le_of_ble_eq_true rfl)⟩) hS hP (fun r_1 H locs hw hP hS => ?_)
  have w_3 : (r_1 = 1 ∧ (0 : Int64).toInt ≤ i1.toInt64.toInt ∧ i1.toInt64.toInt ≤ w6.toInt64.toInt) ∨ (r_1 = 0 ∧ (i1.toInt64.toInt < (0 : Int64).toInt ∨ w6.toInt64.toInt < i1.toInt64.toInt)) := hw
  rcases w_3 with ⟨rfl, c_4, c_5⟩ | ⟨rfl, c_6⟩
  · have c_4 : 0 ≤ i1.toInt := kle (by decide) (i_64 _) c_4
    have c_5 : i1.toInt ≤ w6.toInt := kle (i_64 _) (i_64 _) c_5
    refine lv_if_ne (tgt := 21) hx hb dX11_end_16 (by decide) (fun _ => ?_) (fun c_7 => absurd c_7 (by decide))
    refine lv_aload_n hx hb dX11_end_21 rfl (lv_at hl 0 rfl) ?_
    refine lv_iload_n hx hb dX11_end_22 rfl (lv_at hl 1 rfl) ?_
    refine va_put (D := D) (ci := 11) (v := .int i1) (ty := .int) (C := RX11) (T := TX11) (N := 45) hx hb hts iX11 tyX11 tyX11_ok nmX11 hown hK hP hD hS 0 rfl rfl 6 (by decide) (hts _ m1324) (fun _ h9 => h9) rfl (by decide +kernel) rfl rfl (Nat.le_of_ble_eq_true rfl) dX11_end_23 (fun H locs hP hD hS => ?_)
    have hP : va_P D vwCl [(ym, .inr (11, [.int 0, .ref y1, .ref y2, .ref y3, .ref y4, .ref y5, .int i1, .int w7, .int w8, .int w9, .int w10, .long v11, .int w12, .int w13, .int w14, .int w15, .ref y16, .ref y17, .ref y18, .ref y19, .ref y20, .ref y21, .ref y22, .ref y23, .ref y24, .ref y25, .ref y26, .ref y27, .ref y28, .ref y29, .ref y30, .ref y31, .ref y32, .int w33, .int w34, .int w35, .ref y36, .int w37, .int w38, .int w39, .ref y40, .ref y41, .ref y42, .int w43, .long v44]))] H := hP
    have hD : va_D A [(ym, .inr (11, [.int 0, .ref y1, .ref y2, .ref y3, .ref y4, .ref y5, .int i1, .int w7, .int w8, .int w9, .int w10, .long v11, .int w12, .int w13, .int w14, .int w15, .ref y16, .ref y17, .ref y18, .ref y19, .ref y20, .ref y21, .ref y22, .ref y23, .ref y24, .ref y25, .ref y26, .ref y27, .ref y28, .ref y29, .ref y30, .ref y31, .ref y32, .int w33, .int w34, .int w35, .ref y36, .int w37, .int w38, .int w39, .ref y40, .ref y41, .ref y42, .int w43, .long v44]))] := hD
    refine lv_iload_n hx hb dX11_end_26 rfl (lv_at hl 1 rfl) ?_
    have hP9 := hP.sub (ws' := [(ym, .inr (11, [.int 0, .ref y1, .ref y2, .ref y3, .ref y4, .ref y5, .int i1, .int w7, .int w8, .int w9, .int w10, .long v11, .int w12, .int w13, .int w14, .int w15, .ref y16, .ref y17, .ref y18, .ref y19, .ref y20, .ref y21, .ref y22, .ref y23, .ref y24, .ref y25, .ref y26, .ref y27, .ref y28, .ref y29, .ref y30, .ref y31, .ref y32, .int w33, .int w34, .int w35, .ref y36, .int w37, .int w38, .int w39, .ref y40, .ref y41, .ref y42, .int w43, .long v44]))]) [0] rfl
    have hD9 := hD.sub (ws' := [(ym, .inr (11, [.int 0, .ref y1, .ref y2, .ref y3, .ref y4, .ref y5, .int i1, .int w7, .int w8, .int w9, .int w10, .long v11, .int w12, .int w13, .int w14, .int w15, .ref y16, .ref y17, .ref y18, .ref y19, .ref y20, .ref y21, .ref y22, .ref y23, .ref y24, .ref y25, .ref y26, .ref y27, .ref y28, .ref y29, .ref y30, .ref y31, .ref y32, .int w33, .int w34, .int w35, .ref y36, .int w37, .int w38, .int w39, .ref y40, .ref y41, .ref y42, .int w43, .long v44]))]) [0] (by decide) rfl
    exact W.iret (v := i1) hx hb hr (fun t ht hW => ⟨⟨i1, (fun k => ([] : List (Nat)).getD k 0, fun k => ([] : List (Nat → Int32)).getD k (fun _ => 0), fun k => ([] : List (Nat → Int64)).getD k (fun _ => 0), fun k => ([i1] : List (Int32)).getD k 0, fun k => ([] : List (Int64)).getD k 0), rfl, (show 0 ≤ i1.toInt ∧ i1.toInt ≤ 1600 by omega), by rw [ht]; exact hP9, hD9⟩, hS.F ht⟩) hS.2.2 dX11_end_27
  · have c_6 : i1.toInt < 0 ∨ w6.toInt < i1.toInt := klo (i_64 _) (by decide) (i_64 _) c_6
    refine lv_if_ne (tgt := 21) hx hb dX11_end_16 (by decide) (fun c_8 => absurd c_8 (by decide)) (fun _ => ?_)
    refine lv_iconst (v := (-1)) hx hb dX11_end_19 (by decide) ?_
    have hP9 := hP.sub (ws' := [(ym, .inr (11, [.int 0, .ref y1, .ref y2, .ref y3, .ref y4, .ref y5, .int w6, .int w7, .int w8, .int w9, .int w10, .long v11, .int w12, .int w13, .int w14, .int w15, .ref y16, .ref y17, .ref y18, .ref y19, .ref y20, .ref y21, .ref y22, .ref y23, .ref y24, .ref y25, .ref y26, .ref y27, .ref y28, .ref y29, .ref y30, .ref y31, .ref y32, .int w33, .int w34, .int w35, .ref y36, .int w37, .int w38, .int w39, .ref y40, .ref y41, .ref y42, .int w43, .long v44]))]) [0] rfl
    have hD9 := hD.sub (ws' := [(ym, .inr (11, [.int 0, .ref y1, .ref y2, .ref y3, .ref y4, .ref y5, .int w6, .int w7, .int w8, .int w9, .int w10, .long v11, .int w12, .int w13, .int w14, .int w15, .ref y16, .ref y17, .ref y18, .ref y19, .ref y20, .ref y21, .ref y22, .ref y23, .ref y24, .ref y25, .ref y26, .ref y27, .ref y28, .ref y29, .ref y30, .ref y31, .ref y32, .int w33, .int w34, .int w35, .ref y36, .int w37, .int w38, .int w39, .ref y40, .ref y41, .ref y42, .int w43, .long v44]))]) [0] (by decide) rfl
    exact W.iret (v := (-1)) hx hb hr (fun t ht hW => ⟨⟨(-1), (fun k => ([] : List (Nat)).getD k 0, fun k => ([] : List (Nat → Int32)).getD k (fun _ => 0), fun k => ([] : List (Nat → Int64)).getD k (fun _ => 0), fun k => ([w6] : List (Int32)).getD k 0, fun k => ([] : List (Int64)).getD k 0), rfl, (show 0 ≤ w6.toInt ∧ w6.toInt ≤ 1600 by omega), by rw [ht]; exact hP9, hD9⟩, hS.F ht⟩) hS.2.2 dX11_end_20

set_option maxHeartbeats 4000000 in
set_option maxRecDepth 100000 in
theorem c_X11_fault (l : Launch) (D : va_G) (T : Nat → ClassId) (y1 y16 y17 y18 y19 y2 y20 y21 y22 y23 y24 y25 y26 y27 y28 y29 y3 y30 y31 y32 y36 y4 y40 y41 y42 y5 ym : Nat) (i1 w0 w10 w12 w13 w14 w15 w33 w34 w35 w37 w38 w39 w43 w6 w7 w8 w9 : Int32) (v11 v44 : Int64) (sz : Nat) (h_w6 : 0 ≤ w6.toInt ∧ w6.toInt ≤ 1600) (h_w43 : 0 ≤ w43.toInt ∧ w43.toInt ≤ 16) : Met l yX11_fault (wM yX11_fault cX11_fault 2 (some .int)) ({ frames := 0, cells := 0, slots := 0, locals := 0 }) (va_Pc [.ref ym, .int i1] (pwM D T [(ym, .inr (11, [.int w0, .ref y1, .ref y2, .ref y3, .ref y4, .ref y5, .int w6, .int w7, .int w8, .int w9, .int w10, .long v11, .int w12, .int w13, .int w14, .int w15, .ref y16, .ref y17, .ref y18, .ref y19, .ref y20, .ref y21, .ref y22, .ref y23, .ref y24, .ref y25, .ref y26, .ref y27, .ref y28, .ref y29, .ref y30, .ref y31, .ref y32, .int w33, .int w34, .int w35, .ref y36, .int w37, .int w38, .int w39, .ref y40, .ref y41, .ref y42, .int w43, .long v44]))] sz)) (va_Qi (fun (r : Int32) (u : U5) => True) (fun u t => pwE D (va_A [(ym, .inr (11, [.int w0, .ref y1, .ref y2, .ref y3, .ref y4, .ref y5, .int w6, .int w7, .int w8, .int w9, .int w10, .long v11, .int w12, .int w13, .int w14, .int w15, .ref y16, .ref y17, .ref y18, .ref y19, .ref y20, .ref y21, .ref y22, .ref y23, .ref y24, .ref y25, .ref y26, .ref y27, .ref y28, .ref y29, .ref y30, .ref y31, .ref y32, .int w33, .int w34, .int w35, .ref y36, .int w37, .int w38, .int w39, .ref y40, .ref y41, .ref y42, .int w43, .long v44]))] sz) [(ym, .inr (11, [.int 0, .ref y1, .ref y2, .ref y3, .ref y4, .ref y5, .int w6, .int w7, .int w8, .int w9, .int w10, .long v11, .int w12, .int w13, .int w14, .int w15, .ref y16, .ref y17, .ref y18, .ref y19, .ref y20, .ref y21, .ref y22, .ref y23, .ref y24, .ref y25, .ref y26, .ref y27, .ref y28, .ref y29, .ref y30, .ref y31, .ref y32, .int w33, .int w34, .int w35, .ref y36, .int w37, .int w38, .int w39, .ref y40, .ref y41, .ref y42, .int w43, .long v44]))] t) (va_A [(ym, .inr (11, [.int w0, .ref y1, .ref y2, .ref y3, .ref y4, .ref y5, .int w6, .int w7, .int w8, .int w9, .int w10, .long v11, .int w12, .int w13, .int w14, .int w15, .ref y16, .ref y17, .ref y18, .ref y19, .ref y20, .ref y21, .ref y22, .ref y23, .ref y24, .ref y25, .ref y26, .ref y27, .ref y28, .ref y29, .ref y30, .ref y31, .ref y32, .int w33, .int w34, .int w35, .ref y36, .int w37, .int w38, .int w39, .ref y40, .ref y41, .ref y42, .int w43, .long v44]))] sz)) 0 0 (va_A [(ym, .inr (11, [.int w0, .ref y1, .ref y2, .ref y3, .ref y4, .ref y5, .int w6, .int w7, .int w8, .int w9, .int w10, .long v11, .int w12, .int w13, .int w14, .int w15, .ref y16, .ref y17, .ref y18, .ref y19, .ref y20, .ref y21, .ref y22, .ref y23, .ref y24, .ref y25, .ref y26, .ref y27, .ref y28, .ref y29, .ref y30, .ref y31, .ref y32, .int w33, .int w34, .int w35, .ref y36, .int w37, .int w38, .int w39, .ref y40, .ref y41, .ref y42, .int w43, .long v44]))] sz) := by
  refine Met.ofW (cc := cX11_fault) (maxL := 2) (ret := (some .int)) (by decide) rfl ?_
  intro p e s m args below meth c s₁ B hml hv
  obtain ⟨rfl, hsz, hP, hC, hD0⟩ := hv
  have hx := B.exec
  have hb := B.bytes
  have hr := B.returns
  have hts : ∀ w ∈ gt, w.before _ s = true := fun w hw => atoms_spec (ws := (wM yX11_fault cX11_fault 2 (some .int))) B.pre w (List.mem_cons_of_mem _ hw)
  have hown : s.vm.findClass RX11 = some m.cls := findClass_of_methodNamed B.named
  have hlocks := B.notSynchronized
  have hK := hC.1
  subst hsz
  have hD := hD0.self (sz := s.heap.size)
  generalize hAe : va_A [(ym, .inr (11, [.int w0, .ref y1, .ref y2, .ref y3, .ref y4, .ref y5, .int w6, .int w7, .int w8, .int w9, .int w10, .long v11, .int w12, .int w13, .int w14, .int w15, .ref y16, .ref y17, .ref y18, .ref y19, .ref y20, .ref y21, .ref y22, .ref y23, .ref y24, .ref y25, .ref y26, .ref y27, .ref y28, .ref y29, .ref y30, .ref y31, .ref y32, .int w33, .int w34, .int w35, .ref y36, .int w37, .int w38, .int w39, .ref y40, .ref y41, .ref y42, .int w43, .long v44]))] s.heap.size = A at hD ⊢
  have hA : ∀ q : Nat, s.heap.size ≤ q → A q := fun q h => by rw [← hAe]; exact Or.inr h
  have hS : va_S A s.heap s.heap [] := va_S.rf
  have hl := lv_entry ([.ref ym, .int i1]) (n := 2) (Nat.le_of_ble_eq_true rfl)
  rw [lg_entry_eq]
  generalize (lg_sl ([.ref ym, .int i1]) ++ List.replicate (2 - (lg_sl ([.ref ym, .int i1])).length) Slot.unset).toArray = ls at hl ⊢
  have hl : lv_has ls 2 [(0, .ref ym), (1, .int i1)] := hl
  refine lv_aload_n hx hb dX11_fault_0 rfl (lv_at hl 0 rfl) ?_
  refine lv_iconst (v := 0) hx hb dX11_fault_1 (by decide) ?_
  refine va_put (D := D) (ci := 11) (v := .int 0) (ty := .int) (C := RX11) (T := TX11) (N := 45) hx hb hts iX11 tyX11 tyX11_ok nmX11 hown hK hP hD hS 0 rfl rfl 0 (by decide) (hts _ m1318) (fun _ h9 => h9) rfl (by decide +kernel) rfl rfl (Nat.le_of_ble_eq_true rfl) dX11_fault_2 (fun H locs hP hD hS => ?_)
  have hP : va_P D vwCl [(ym, .inr (11, [.int 0, .ref y1, .ref y2, .ref y3, .ref y4, .ref y5, .int w6, .int w7, .int w8, .int w9, .int w10, .long v11, .int w12, .int w13, .int w14, .int w15, .ref y16, .ref y17, .ref y18, .ref y19, .ref y20, .ref y21, .ref y22, .ref y23, .ref y24, .ref y25, .ref y26, .ref y27, .ref y28, .ref y29, .ref y30, .ref y31, .ref y32, .int w33, .int w34, .int w35, .ref y36, .int w37, .int w38, .int w39, .ref y40, .ref y41, .ref y42, .int w43, .long v44]))] H := hP
  have hD : va_D A [(ym, .inr (11, [.int 0, .ref y1, .ref y2, .ref y3, .ref y4, .ref y5, .int w6, .int w7, .int w8, .int w9, .int w10, .long v11, .int w12, .int w13, .int w14, .int w15, .ref y16, .ref y17, .ref y18, .ref y19, .ref y20, .ref y21, .ref y22, .ref y23, .ref y24, .ref y25, .ref y26, .ref y27, .ref y28, .ref y29, .ref y30, .ref y31, .ref y32, .int w33, .int w34, .int w35, .ref y36, .int w37, .int w38, .int w39, .ref y40, .ref y41, .ref y42, .int w43, .long v44]))] := hD
  refine lv_iload_n hx hb dX11_fault_5 rfl (lv_at hl 1 rfl) ?_
  refine lv_if_ne (tgt := 16) hx hb dX11_fault_6 (by decide) (fun c_1 => ?_) (fun c_1 => ?_)
  · have c_1 : ¬ i1.toInt = 0 := fun h => c_1 ((c_eq (x := i1.toInt) (y := 0) rfl rfl).mpr h)
    refine lv_iload_n hx hb dX11_fault_16 rfl (lv_at hl 1 rfl) ?_
    refine lv_iconst (v := 1) hx hb dX11_fault_17 (by decide) ?_
    refine lv_icmp_ne (tgt := 28) hx hb dX11_fault_18 (by decide) (fun c_2 => ?_) (fun c_2 => ?_)
    · have c_2 : ¬ i1.toInt = 1 := fun h => c_2 ((c_eq (x := i1.toInt) (y := 1) rfl rfl).mpr h)
      refine lv_iconst (v := (-1)) hx hb dX11_fault_28 (by decide) ?_
      have hP9 := hP.sub (ws' := [(ym, .inr (11, [.int 0, .ref y1, .ref y2, .ref y3, .ref y4, .ref y5, .int w6, .int w7, .int w8, .int w9, .int w10, .long v11, .int w12, .int w13, .int w14, .int w15, .ref y16, .ref y17, .ref y18, .ref y19, .ref y20, .ref y21, .ref y22, .ref y23, .ref y24, .ref y25, .ref y26, .ref y27, .ref y28, .ref y29, .ref y30, .ref y31, .ref y32, .int w33, .int w34, .int w35, .ref y36, .int w37, .int w38, .int w39, .ref y40, .ref y41, .ref y42, .int w43, .long v44]))]) [0] rfl
      have hD9 := hD.sub (ws' := [(ym, .inr (11, [.int 0, .ref y1, .ref y2, .ref y3, .ref y4, .ref y5, .int w6, .int w7, .int w8, .int w9, .int w10, .long v11, .int w12, .int w13, .int w14, .int w15, .ref y16, .ref y17, .ref y18, .ref y19, .ref y20, .ref y21, .ref y22, .ref y23, .ref y24, .ref y25, .ref y26, .ref y27, .ref y28, .ref y29, .ref y30, .ref y31, .ref y32, .int w33, .int w34, .int w35, .ref y36, .int w37, .int w38, .int w39, .ref y40, .ref y41, .ref y42, .int w43, .long v44]))]) [0] (by decide) rfl
      exact W.iret (v := (-1)) hx hb hr (fun t ht hW => ⟨⟨(-1), (fun k => ([] : List (Nat)).getD k 0, fun k => ([] : List (Nat → Int32)).getD k (fun _ => 0), fun k => ([] : List (Nat → Int64)).getD k (fun _ => 0), fun k => ([] : List (Int32)).getD k 0, fun k => ([] : List (Int64)).getD k 0), rfl, trivial, by rw [ht]; exact hP9, hD9⟩, hS.F ht⟩) hS.2.2 dX11_fault_29
    · have c_2 : i1.toInt = 1 := (c_eq (x := i1.toInt) (y := 1) rfl rfl).mp c_2
      refine lv_aload_n hx hb dX11_fault_21 rfl (lv_at hl 0 rfl) ?_
      refine va_get (D := D) (ci := 11) (C := RX11) (T := TX11) (N := 45) hx hb hts iX11 hown hK hP 0 rfl rfl 15 (by decide) (hts _ m1333) (fun _ h9 => h9) rfl dX11_fault_22 ?_
      refine lv_goto (tgt := 29) hx hb dX11_fault_25 (by decide) ?_
      have hP9 := hP.sub (ws' := [(ym, .inr (11, [.int 0, .ref y1, .ref y2, .ref y3, .ref y4, .ref y5, .int w6, .int w7, .int w8, .int w9, .int w10, .long v11, .int w12, .int w13, .int w14, .int w15, .ref y16, .ref y17, .ref y18, .ref y19, .ref y20, .ref y21, .ref y22, .ref y23, .ref y24, .ref y25, .ref y26, .ref y27, .ref y28, .ref y29, .ref y30, .ref y31, .ref y32, .int w33, .int w34, .int w35, .ref y36, .int w37, .int w38, .int w39, .ref y40, .ref y41, .ref y42, .int w43, .long v44]))]) [0] rfl
      have hD9 := hD.sub (ws' := [(ym, .inr (11, [.int 0, .ref y1, .ref y2, .ref y3, .ref y4, .ref y5, .int w6, .int w7, .int w8, .int w9, .int w10, .long v11, .int w12, .int w13, .int w14, .int w15, .ref y16, .ref y17, .ref y18, .ref y19, .ref y20, .ref y21, .ref y22, .ref y23, .ref y24, .ref y25, .ref y26, .ref y27, .ref y28, .ref y29, .ref y30, .ref y31, .ref y32, .int w33, .int w34, .int w35, .ref y36, .int w37, .int w38, .int w39, .ref y40, .ref y41, .ref y42, .int w43, .long v44]))]) [0] (by decide) rfl
      exact W.iret (v := w15) hx hb hr (fun t ht hW => ⟨⟨w15, (fun k => ([] : List (Nat)).getD k 0, fun k => ([] : List (Nat → Int32)).getD k (fun _ => 0), fun k => ([] : List (Nat → Int64)).getD k (fun _ => 0), fun k => ([] : List (Int32)).getD k 0, fun k => ([] : List (Int64)).getD k 0), rfl, trivial, by rw [ht]; exact hP9, hD9⟩, hS.F ht⟩) hS.2.2 dX11_fault_29
  · have c_1 : i1.toInt = 0 := (c_eq (x := i1.toInt) (y := 0) rfl rfl).mp c_1
    refine lv_aload_n hx hb dX11_fault_9 rfl (lv_at hl 0 rfl) ?_
    refine va_get (D := D) (ci := 11) (C := RX11) (T := TX11) (N := 45) hx hb hts iX11 hown hK hP 0 rfl rfl 14 (by decide) (hts _ m1332) (fun _ h9 => h9) rfl dX11_fault_10 ?_
    refine lv_goto (tgt := 29) hx hb dX11_fault_13 (by decide) ?_
    have hP9 := hP.sub (ws' := [(ym, .inr (11, [.int 0, .ref y1, .ref y2, .ref y3, .ref y4, .ref y5, .int w6, .int w7, .int w8, .int w9, .int w10, .long v11, .int w12, .int w13, .int w14, .int w15, .ref y16, .ref y17, .ref y18, .ref y19, .ref y20, .ref y21, .ref y22, .ref y23, .ref y24, .ref y25, .ref y26, .ref y27, .ref y28, .ref y29, .ref y30, .ref y31, .ref y32, .int w33, .int w34, .int w35, .ref y36, .int w37, .int w38, .int w39, .ref y40, .ref y41, .ref y42, .int w43, .long v44]))]) [0] rfl
    have hD9 := hD.sub (ws' := [(ym, .inr (11, [.int 0, .ref y1, .ref y2, .ref y3, .ref y4, .ref y5, .int w6, .int w7, .int w8, .int w9, .int w10, .long v11, .int w12, .int w13, .int w14, .int w15, .ref y16, .ref y17, .ref y18, .ref y19, .ref y20, .ref y21, .ref y22, .ref y23, .ref y24, .ref y25, .ref y26, .ref y27, .ref y28, .ref y29, .ref y30, .ref y31, .ref y32, .int w33, .int w34, .int w35, .ref y36, .int w37, .int w38, .int w39, .ref y40, .ref y41, .ref y42, .int w43, .long v44]))]) [0] (by decide) rfl
    exact W.iret (v := w14) hx hb hr (fun t ht hW => ⟨⟨w14, (fun k => ([] : List (Nat)).getD k 0, fun k => ([] : List (Nat → Int32)).getD k (fun _ => 0), fun k => ([] : List (Nat → Int64)).getD k (fun _ => 0), fun k => ([] : List (Int32)).getD k 0, fun k => ([] : List (Int64)).getD k 0), rfl, trivial, by rw [ht]; exact hP9, hD9⟩, hS.F ht⟩) hS.2.2 dX11_fault_29
