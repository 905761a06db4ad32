set_option maxHeartbeats 4000000 in
set_option maxRecDepth 100000 in
theorem c_X1_isBlank (l : Launch) (D : va_G) (T : Nat → ClassId) (i1 : Int32) : Met l yX1_isBlank (wM yX1_isBlank cX1_isBlank 1 (some .boolean)) ({ frames := 0, cells := 0, slots := 0, locals := 0 }) (va_Pc [.int i1] (pwP D T [])) (va_Qi (fun (r : Int32) (u : Unit) => (r = 1) ∨ (r = 0)) (fun _ _ => True) (fun _ => False)) 0 0 (fun _ => False) := by
  refine Met.ofW (cc := cX1_isBlank) (maxL := 1) (ret := (some .boolean)) (by decide) rfl ?_
  intro p e s m args below meth c s₁ B hml hv
  obtain ⟨rfl, hP, hC⟩ := hv
  have hx := B.exec
  have hb := B.bytes
  have hr := B.returns
  have hts : ∀ w ∈ gt, w.before _ s = true := fun w hw => atoms_spec (ws := (wM yX1_isBlank cX1_isBlank 1 (some .boolean))) B.pre w (List.mem_cons_of_mem _ hw)
  have hown : s.vm.findClass RX1 = some m.cls := findClass_of_methodNamed B.named
  have hlocks := B.notSynchronized
  have hK := hC.1
  have hS : va_S (fun _ => False) s.heap s.heap [] := va_S.rf
  have hl := lv_entry ([.int i1]) (n := 1) (Nat.le_of_ble_eq_true rfl)
  rw [lg_entry_eq]
  generalize (lg_sl ([.int i1]) ++ List.replicate (1 - (lg_sl ([.int i1])).length) Slot.unset).toArray = ls at hl ⊢
  have hl : lv_has ls 1 [(0, .int i1)] := hl
  refine lv_iload_n hx hb dX1_isBlank_0 rfl (lv_at hl 0 rfl) ?_
  refine lv_bipush (v := 32) hx hb dX1_isBlank_1 (by decide) ?_
  refine lv_icmp_eq (tgt := 12) hx hb dX1_isBlank_3 (by decide) (fun c_1 => ?_) (fun c_1 => ?_)
  · have c_1 : i1.toInt = 32 := (c_eq (x := i1.toInt) (y := 32) rfl rfl).mp c_1
    refine lv_iconst (v := 1) hx hb dX1_isBlank_12 (by decide) ?_
    refine lv_goto (tgt := 17) hx hb dX1_isBlank_13 (by decide) ?_
    exact W.zret (v := 1) hx hb hr rfl (fun t ht hW => ⟨⟨1, (), rfl, (Or.inl rfl), trivial⟩, hS.F ht⟩) hS.2.2 dX1_isBlank_17
  · have c_1 : ¬ i1.toInt = 32 := fun h => c_1 ((c_eq (x := i1.toInt) (y := 32) rfl rfl).mpr h)
    refine lv_iload_n hx hb dX1_isBlank_6 rfl (lv_at hl 0 rfl) ?_
    refine lv_bipush (v := 10) hx hb dX1_isBlank_7 (by decide) ?_
    refine lv_icmp_ne (tgt := 16) hx hb dX1_isBlank_9 (by decide) (fun c_2 => ?_) (fun c_2 => ?_)
    · have c_2 : ¬ i1.toInt = 10 := fun h => c_2 ((c_eq (x := i1.toInt) (y := 10) rfl rfl).mpr h)
      refine lv_iconst (v := 0) hx hb dX1_isBlank_16 (by decide) ?_
      exact W.zret (v := 0) hx hb hr rfl (fun t ht hW => ⟨⟨0, (), rfl, (Or.inr rfl), trivial⟩, hS.F ht⟩) hS.2.2 dX1_isBlank_17
    · have c_2 : i1.toInt = 10 := (c_eq (x := i1.toInt) (y := 10) rfl rfl).mp c_2
      refine lv_iconst (v := 1) hx hb dX1_isBlank_12 (by decide) ?_
      refine lv_goto (tgt := 17) hx hb dX1_isBlank_13 (by decide) ?_
      exact W.zret (v := 1) hx hb hr rfl (fun t ht hW => ⟨⟨1, (), rfl, (Or.inl rfl), trivial⟩, hS.F ht⟩) hS.2.2 dX1_isBlank_17

set_option maxHeartbeats 4000000 in
set_option maxRecDepth 100000 in
theorem c_X1_isLetter (l : Launch) (D : va_G) (T : Nat → ClassId) (i1 : Int32) : Met l yX1_isLetter (wM yX1_isLetter cX1_isLetter 1 (some .boolean)) ({ frames := 0, cells := 0, slots := 0, locals := 0 }) (va_Pc [.int i1] (pwP D T [])) (va_Qi (fun (r : Int32) (u : Unit) => (r = 1) ∨ (r = 0)) (fun _ _ => True) (fun _ => False)) 0 0 (fun _ => False) := by
  refine Met.ofW (cc := cX1_isLetter) (maxL := 1) (ret := (some .boolean)) (by decide) rfl ?_
  intro p e s m args below meth c s₁ B hml hv
  obtain ⟨rfl, hP, hC⟩ := hv
  have hx := B.exec
  have hb := B.bytes
  have hr := B.returns
  have hts : ∀ w ∈ gt, w.before _ s = true := fun w hw => atoms_spec (ws := (wM yX1_isLetter cX1_isLetter 1 (some .boolean))) B.pre w (List.mem_cons_of_mem _ hw)
  have hown : s.vm.findClass RX1 = some m.cls := findClass_of_methodNamed B.named
  have hlocks := B.notSynchronized
  have hK := hC.1
  have hS : va_S (fun _ => False) s.heap s.heap [] := va_S.rf
  have hl := lv_entry ([.int i1]) (n := 1) (Nat.le_of_ble_eq_true rfl)
  rw [lg_entry_eq]
  generalize (lg_sl ([.int i1]) ++ List.replicate (1 - (lg_sl ([.int i1])).length) Slot.unset).toArray = ls at hl ⊢
  have hl : lv_has ls 1 [(0, .int i1)] := hl
  refine lv_iload_n hx hb dX1_isLetter_0 rfl (lv_at hl 0 rfl) ?_
  refine lv_bipush (v := 97) hx hb dX1_isLetter_1 (by decide) ?_
  refine lv_icmp_lt (tgt := 16) hx hb dX1_isLetter_3 (by decide) (fun c_1 => ?_) (fun c_1 => ?_)
  · have c_1 : i1.toInt < 97 := (c_lt (x := i1.toInt) (y := 97) rfl rfl).mp c_1
    refine lv_iconst (v := 0) hx hb dX1_isLetter_16 (by decide) ?_
    exact W.zret (v := 0) hx hb hr rfl (fun t ht hW => ⟨⟨0, (), rfl, (Or.inr rfl), trivial⟩, hS.F ht⟩) hS.2.2 dX1_isLetter_17
  · have c_1 : 97 ≤ i1.toInt := by have h := mt (c_lt (x := i1.toInt) (y := 97) rfl rfl).mpr c_1; omega
    refine lv_iload_n hx hb dX1_isLetter_6 rfl (lv_at hl 0 rfl) ?_
    refine lv_bipush (v := 122) hx hb dX1_isLetter_7 (by decide) ?_
    refine lv_icmp_gt (tgt := 16) hx hb dX1_isLetter_9 (by decide) (fun c_2 => ?_) (fun c_2 => ?_)
    · have c_2 : 122 < i1.toInt := (c_lt (x := 122) (y := i1.toInt) rfl rfl).mp c_2
      refine lv_iconst (v := 0) hx hb dX1_isLetter_16 (by decide) ?_
      exact W.zret (v := 0) hx hb hr rfl (fun t ht hW => ⟨⟨0, (), rfl, (Or.inr rfl), trivial⟩, hS.F ht⟩) hS.2.2 dX1_isLetter_17
    · have c_2 : i1.toInt ≤ 122 := by have h := mt (c_lt (x := 122) (y := i1.toInt) rfl rfl).mpr c_2; omega
      refine lv_iconst (v := 1) hx hb dX1_isLetter_12 (by decide) ?_
      refine lv_goto (tgt := 17) hx hb dX1_isLetter_13 (by decide) ?_
      exact W.zret (v := 1) hx hb hr rfl (fun t ht hW => ⟨⟨1, (), rfl, (Or.inl rfl), trivial⟩, hS.F ht⟩) hS.2.2 dX1_isLetter_17

set_option maxHeartbeats 4000000 in
set_option maxRecDepth 100000 in
theorem c_X1_isDigit (l : Launch) (D : va_G) (T : Nat → ClassId) (i1 : Int32) : Met l yX1_isDigit (wM yX1_isDigit cX1_isDigit 1 (some .boolean)) ({ frames := 0, cells := 0, slots := 0, locals := 0 }) (va_Pc [.int i1] (pwP D T [])) (va_Qi (fun (r : Int32) (u : Unit) => (r = 1) ∨ (r = 0)) (fun _ _ => True) (fun _ => False)) 0 0 (fun _ => False) := by
  refine Met.ofW (cc := cX1_isDigit) (maxL := 1) (ret := (some .boolean)) (by decide) rfl ?_
  intro p e s m args below meth c s₁ B hml hv
  obtain ⟨rfl, hP, hC⟩ := hv
  have hx := B.exec
  have hb := B.bytes
  have hr := B.returns
  have hts : ∀ w ∈ gt, w.before _ s = true := fun w hw => atoms_spec (ws := (wM yX1_isDigit cX1_isDigit 1 (some .boolean))) B.pre w (List.mem_cons_of_mem _ hw)
  have hown : s.vm.findClass RX1 = some m.cls := findClass_of_methodNamed B.named
  have hlocks := B.notSynchronized
  have hK := hC.1
  have hS : va_S (fun _ => False) s.heap s.heap [] := va_S.rf
  have hl := lv_entry ([.int i1]) (n := 1) (Nat.le_of_ble_eq_true rfl)
  rw [lg_entry_eq]
  generalize (lg_sl ([.int i1]) ++ List.replicate (1 - (lg_sl ([.int i1])).length) Slot.unset).toArray = ls at hl ⊢
  have hl : lv_has ls 1 [(0, .int i1)] := hl
  refine lv_iload_n hx hb dX1_isDigit_0 rfl (lv_at hl 0 rfl) ?_
  refine lv_bipush (v := 48) hx hb dX1_isDigit_1 (by decide) ?_
  refine lv_icmp_lt (tgt := 16) hx hb dX1_isDigit_3 (by decide) (fun c_1 => ?_) (fun c_1 => ?_)
  · have c_1 : i1.toInt < 48 := (c_lt (x := i1.toInt) (y := 48) rfl rfl).mp c_1
    refine lv_iconst (v := 0) hx hb dX1_isDigit_16 (by decide) ?_
    exact W.zret (v := 0) hx hb hr rfl (fun t ht hW => ⟨⟨0, (), rfl, (Or.inr rfl), trivial⟩, hS.F ht⟩) hS.2.2 dX1_isDigit_17
  · have c_1 : 48 ≤ i1.toInt := by have h := mt (c_lt (x := i1.toInt) (y := 48) rfl rfl).mpr c_1; omega
    refine lv_iload_n hx hb dX1_isDigit_6 rfl (lv_at hl 0 rfl) ?_
    refine lv_bipush (v := 57) hx hb dX1_isDigit_7 (by decide) ?_
    refine lv_icmp_gt (tgt := 16) hx hb dX1_isDigit_9 (by decide) (fun c_2 => ?_) (fun c_2 => ?_)
    · have c_2 : 57 < i1.toInt := (c_lt (x := 57) (y := i1.toInt) rfl rfl).mp c_2
      refine lv_iconst (v := 0) hx hb dX1_isDigit_16 (by decide) ?_
      exact W.zret (v := 0) hx hb hr rfl (fun t ht hW => ⟨⟨0, (), rfl, (Or.inr rfl), trivial⟩, hS.F ht⟩) hS.2.2 dX1_isDigit_17
    · have c_2 : i1.toInt ≤ 57 := by have h := mt (c_lt (x := 57) (y := i1.toInt) rfl rfl).mpr c_2; omega
      refine lv_iconst (v := 1) hx hb dX1_isDigit_12 (by decide) ?_
      refine lv_goto (tgt := 17) hx hb dX1_isDigit_13 (by decide) ?_
      exact W.zret (v := 1) hx hb hr rfl (fun t ht hW => ⟨⟨1, (), rfl, (Or.inl rfl), trivial⟩, hS.F ht⟩) hS.2.2 dX1_isDigit_17

set_option maxHeartbeats 4000000 in
set_option maxRecDepth 100000 in
theorem c_J3_checkIndexN (l : Launch) (D : va_G) (T : Nat → ClassId) (i1 i2 : Int32) (hi : 0 ≤ i1.toInt) (hi2 : i1.toInt < i2.toInt) : Met l yJ3_checkIndex_8e157 (wM yJ3_checkIndex_8e157 cJ3_checkIndex_8e157 3 (some .int)) ({ frames := 0, cells := 0, slots := 0, locals := 0 }) (va_Pc [.int i1, .int i2, .null] (pwP D T [])) (va_Qi (fun (r : Int32) (u : Unit) => True) (fun _ _ => True) (fun _ => False)) 0 0 (fun _ => False) := by
  refine Met.ofW (cc := cJ3_checkIndex_8e157) (maxL := 3) (ret := (some .int)) (by decide) rfl ?_
  intro p e s m args below meth c s₁ B hml hv
  obtain ⟨rfl, hP, hC⟩ := hv
  have hx := B.exec
  have hb := B.bytes
  have hr := B.returns
  have hts : ∀ w ∈ gt, w.before _ s = true := fun w hw => atoms_spec (ws := (wM yJ3_checkIndex_8e157 cJ3_checkIndex_8e157 3 (some .int))) B.pre w (List.mem_cons_of_mem _ hw)
  have hown : s.vm.findClass RJ3 = some m.cls := findClass_of_methodNamed B.named
  have hlocks := B.notSynchronized
  have hK := hC.1
  have hS : va_S (fun _ => False) s.heap s.heap [] := va_S.rf
  have hl := lv_entry ([.int i1, .int i2, .null]) (n := 3) (Nat.le_of_ble_eq_true rfl)
  rw [lg_entry_eq]
  generalize (lg_sl ([.int i1, .int i2, .null]) ++ List.replicate (3 - (lg_sl ([.int i1, .int i2, .null])).length) Slot.unset).toArray = ls at hl ⊢
  have hl : lv_has ls 3 [(0, .int i1), (1, .int i2), (2, .null)] := hl
  refine lv_iload_n hx hb dJ3_checkIndex_8e157_0 rfl (lv_at hl 0 rfl) ?_
  refine lv_if_lt (tgt := 9) hx hb dJ3_checkIndex_8e157_1 (by decide) (fun c_1 => absurd ((c_lt (x := i1.toInt) (y := 0) rfl rfl).mp c_1) (by omega)) (fun _ => ?_)
  refine lv_iload_n hx hb dJ3_checkIndex_8e157_4 rfl (lv_at hl 0 rfl) ?_
  refine lv_iload_n hx hb dJ3_checkIndex_8e157_5 rfl (lv_at hl 1 rfl) ?_
  refine lv_icmp_lt (tgt := 16) hx hb dJ3_checkIndex_8e157_6 (by decide) (fun _ => ?_) (fun c_2 => absurd ((c_lt (x := i1.toInt) (y := i2.toInt) rfl rfl).mpr (by omega)) c_2)
  refine lv_iload_n hx hb dJ3_checkIndex_8e157_16 rfl (lv_at hl 0 rfl) ?_
  exact W.iret (v := i1) hx hb hr (fun t ht hW => ⟨⟨i1, (), rfl, trivial, trivial⟩, hS.F ht⟩) hS.2.2 dJ3_checkIndex_8e157_17

set_option maxHeartbeats 4000000 in
set_option maxRecDepth 100000 in
theorem c_J3_checkIndexR (l : Launch) (D : va_G) (T : Nat → ClassId) (a9 : Nat) (i1 i2 : Int32) (hi : 0 ≤ i1.toInt) (hi2 : i1.toInt < i2.toInt) : Met l yJ3_checkIndex_8e157 (wM yJ3_checkIndex_8e157 cJ3_checkIndex_8e157 3 (some .int)) ({ frames := 0, cells := 0, slots := 0, locals := 0 }) (va_Pc [.int i1, .int i2, .ref a9] (pwP D T [])) (va_Qi (fun (r : Int32) (u : Unit) => True) (fun _ _ => True) (fun _ => False)) 0 0 (fun _ => False) := by
  refine Met.ofW (cc := cJ3_checkIndex_8e157) (maxL := 3) (ret := (some .int)) (by decide) rfl ?_
  intro p e s m args below meth c s₁ B hml hv
  obtain ⟨rfl, hP, hC⟩ := hv
  have hx := B.exec
  have hb := B.bytes
  have hr := B.returns
  have hts : ∀ w ∈ gt, w.before _ s = true := fun w hw => atoms_spec (ws := (wM yJ3_checkIndex_8e157 cJ3_checkIndex_8e157 3 (some .int))) B.pre w (List.mem_cons_of_mem _ hw)
  have hown : s.vm.findClass RJ3 = some m.cls := findClass_of_methodNamed B.named
  have hlocks := B.notSynchronized
  have hK := hC.1
  have hS : va_S (fun _ => False) s.heap s.heap [] := va_S.rf
  have hl := lv_entry ([.int i1, .int i2, .ref a9]) (n := 3) (Nat.le_of_ble_eq_true rfl)
  rw [lg_entry_eq]
  generalize (lg_sl ([.int i1, .int i2, .ref a9]) ++ List.replicate (3 - (lg_sl ([.int i1, .int i2, .ref a9])).length) Slot.unset).toArray = ls at hl ⊢
  have hl : lv_has ls 3 [(0, .int i1), (1, .int i2), (2, .ref a9)] := hl
  refine lv_iload_n hx hb dJ3_checkIndex_8e157_0 rfl (lv_at hl 0 rfl) ?_
  refine lv_if_lt (tgt := 9) hx hb dJ3_checkIndex_8e157_1 (by decide) (fun c_1 => absurd ((c_lt (x := i1.toInt) (y := 0) rfl rfl).mp c_1) (by omega)) (fun _ => ?_)
  refine lv_iload_n hx hb dJ3_checkIndex_8e157_4 rfl (lv_at hl 0 rfl) ?_
  refine lv_iload_n hx hb dJ3_checkIndex_8e157_5 rfl (lv_at hl 1 rfl) ?_
  refine lv_icmp_lt (tgt := 16) hx hb dJ3_checkIndex_8e157_6 (by decide) (fun _ => ?_) (fun c_2 => absurd ((c_lt (x := i1.toInt) (y := i2.toInt) rfl rfl).mpr (by omega)) c_2)
  refine lv_iload_n hx hb dJ3_checkIndex_8e157_16 rfl (lv_at hl 0 rfl) ?_
  exact W.iret (v := i1) hx hb hr (fun t ht hW => ⟨⟨i1, (), rfl, trivial, trivial⟩, hS.F ht⟩) hS.2.2 dJ3_checkIndex_8e157_17

set_option maxHeartbeats 4000000 in
set_option maxRecDepth 100000 in
theorem c_J0_coder_7d493 (l : Launch) (D : va_G) (T : Nat → ClassId) (K : SKT) (j : Nat) (hj : j < 28) : Met l yJ0_coder_7d493 (wM yJ0_coder_7d493 cJ0_coder_7d493 1 (some .byte)) ({ frames := 0, cells := 0, slots := 0, locals := 0 }) (va_Pc [.ref (K.1 j)] (pwPs D T [] K)) (va_Qi (fun (r : Int32) (u : Unit) => (r = 0)) (fun _ _ => True) (fun _ => False)) 0 0 (fun _ => False) := by
  refine Met.ofW (cc := cJ0_coder_7d493) (maxL := 1) (ret := (some .byte)) (by decide) rfl ?_
  intro p e s m args below meth c s₁ B hml hv
  obtain ⟨rfl, ⟨hP, hC⟩, hX⟩ := hv
  have hx := B.exec
  have hb := B.bytes
  have hr := B.returns
  have hts : ∀ w ∈ gt, w.before _ s = true := fun w hw => atoms_spec (ws := (wM yJ0_coder_7d493 cJ0_coder_7d493 1 (some .byte))) B.pre w (List.mem_cons_of_mem _ hw)
  have hown : s.vm.findClass RJ0 = some m.cls := findClass_of_methodNamed B.named
  have hlocks := B.notSynchronized
  have hK := hC.1
  have hS : va_S (fun _ => False) s.heap s.heap [] := va_S.rf
  have hl := lv_entry ([.ref (K.1 j)]) (n := 1) (Nat.le_of_ble_eq_true rfl)
  rw [lg_entry_eq]
  generalize (lg_sl ([.ref (K.1 j)]) ++ List.replicate (1 - (lg_sl ([.ref (K.1 j)])).length) Slot.unset).toArray = ls at hl ⊢
  have hl : lv_has ls 1 [(0, .ref (K.1 j))] := hl
  refine va_gets hx hb hX.2.2.1 hS hown (hts _ m621) (fun _ h9 => h9) dJ0_coder_7d493_0 ?_
  refine lv_if_eq (tgt := 13) hx hb dJ0_coder_7d493_3 (by decide) (fun c_1 => absurd c_1 (by decide)) (fun _ => ?_)
  refine lv_aload_n hx hb dJ0_coder_7d493_6 rfl (lv_at hl 0 rfl) ?_
  refine vk_getf (o := "java/lang/String") (n := "coder") (d := "B") hx hb (hX.2.1.1 j hj).2.1 hS hown (hts _ m2001) (fun _ h9 => h9) dJ0_coder_7d493_7 ?_
  refine lv_goto (tgt := 14) hx hb dJ0_coder_7d493_10 (by decide) ?_
  exact W.zret (v := 0) hx hb hr rfl (fun t ht hW => ⟨⟨0, (), rfl, rfl, trivial⟩, hS.F ht⟩) hS.2.2 dJ0_coder_7d493_14

set_option maxHeartbeats 4000000 in
set_option maxRecDepth 100000 in
theorem c_J0_isLatin1_aae02 (l : Launch) (D : va_G) (T : Nat → ClassId) (K : SKT) (j : Nat) (hj : j < 28) : Met l yJ0_isLatin1_aae02 (wM yJ0_isLatin1_aae02 cJ0_isLatin1_aae02 1 (some .boolean)) ({ frames := 0, cells := 0, slots := 0, locals := 0 }) (va_Pc [.ref (K.1 j)] (pwPs D T [] K)) (va_Qi (fun (r : Int32) (u : Unit) => (r = 1)) (fun _ _ => True) (fun _ => False)) 0 0 (fun _ => False) := by
  refine Met.ofW (cc := cJ0_isLatin1_aae02) (maxL := 1) (ret := (some .boolean)) (by decide) rfl ?_
  intro p e s m args below meth c s₁ B hml hv
  obtain ⟨rfl, ⟨hP, hC⟩, hX⟩ := hv
  have hx := B.exec
  have hb := B.bytes
  have hr := B.returns
  have hts : ∀ w ∈ gt, w.before _ s = true := fun w hw => atoms_spec (ws := (wM yJ0_isLatin1_aae02 cJ0_isLatin1_aae02 1 (some .boolean))) B.pre w (List.mem_cons_of_mem _ hw)
  have hown : s.vm.findClass RJ0 = some m.cls := findClass_of_methodNamed B.named
  have hlocks := B.notSynchronized
  have hK := hC.1
  have hS : va_S (fun _ => False) s.heap s.heap [] := va_S.rf
  have hl := lv_entry ([.ref (K.1 j)]) (n := 1) (Nat.le_of_ble_eq_true rfl)
  rw [lg_entry_eq]
  generalize (lg_sl ([.ref (K.1 j)]) ++ List.replicate (1 - (lg_sl ([.ref (K.1 j)])).length) Slot.unset).toArray = ls at hl ⊢
  have hl : lv_has ls 1 [(0, .ref (K.1 j))] := hl
  refine va_gets hx hb hX.2.2.1 hS hown (hts _ m621) (fun _ h9 => h9) dJ0_isLatin1_aae02_0 ?_
  refine lv_if_eq (tgt := 17) hx hb dJ0_isLatin1_aae02_3 (by decide) (fun c_1 => absurd c_1 (by decide)) (fun _ => ?_)
  refine lv_aload_n hx hb dJ0_isLatin1_aae02_6 rfl (lv_at hl 0 rfl) ?_
  refine vk_getf (o := "java/lang/String") (n := "coder") (d := "B") hx hb (hX.2.1.1 j hj).2.1 hS hown (hts _ m2001) (fun _ h9 => h9) dJ0_isLatin1_aae02_7 ?_
  refine lv_if_ne (tgt := 17) hx hb dJ0_isLatin1_aae02_10 (by decide) (fun c_2 => absurd c_2 (by decide)) (fun _ => ?_)
  refine lv_iconst (v := 1) hx hb dJ0_isLatin1_aae02_13 (by decide) ?_
  refine lv_goto (tgt := 18) hx hb dJ0_isLatin1_aae02_14 (by decide) ?_
  exact W.zret (v := 1) hx hb hr rfl (fun t ht hW => ⟨⟨1, (), rfl, rfl, trivial⟩, hS.F ht⟩) hS.2.2 dJ0_isLatin1_aae02_18

set_option maxHeartbeats 4000000 in
set_option maxRecDepth 100000 in
theorem c_J0_length_8abf5 (l : Launch) (D : va_G) (T : Nat → ClassId) (K : SKT) (j : Nat) (hj : j < 28) : Met l yJ0_length_8abf5 (wM yJ0_length_8abf5 cJ0_length_8abf5 1 (some .int)) ({ frames := 1, cells := 0, slots := 0, locals := 20 }) (va_Pc [.ref (K.1 j)] (pwPs D T [] K)) (va_Qi (fun (r : Int32) (u : Unit) => (r.toInt = ((sLen.getD j 0 : Nat) : Int) ∧ 0 ≤ r.toInt ∧ r.toInt ≤ 7)) (fun _ _ => True) (fun _ => False)) 0 0 (fun _ => False) := by
  refine Met.ofW (cc := cJ0_length_8abf5) (maxL := 1) (ret := (some .int)) (by decide) rfl ?_
  intro p e s m args below meth c s₁ B hml hv
  obtain ⟨rfl, ⟨hP, hC⟩, hX⟩ := hv
  have hx := B.exec
  have hb := B.bytes
  have hr := B.returns
  have hts : ∀ w ∈ gt, w.before _ s = true := fun w hw => atoms_spec (ws := (wM yJ0_length_8abf5 cJ0_length_8abf5 1 (some .int))) B.pre w (List.mem_cons_of_mem _ hw)
  have hown : s.vm.findClass RJ0 = some m.cls := findClass_of_methodNamed B.named
  have hlocks := B.notSynchronized
  have hK := hC.1
  have hS : va_S (fun _ => False) s.heap s.heap [] := va_S.rf
  have hl := lv_entry ([.ref (K.1 j)]) (n := 1) (Nat.le_of_ble_eq_true rfl)
  rw [lg_entry_eq]
  generalize (lg_sl ([.ref (K.1 j)]) ++ List.replicate (1 - (lg_sl ([.ref (K.1 j)])).length) Slot.unset).toArray = ls at hl ⊢
  have hl : lv_has ls 1 [(0, .ref (K.1 j))] := hl
  refine lv_aload_n hx hb dJ0_length_8abf5_0 rfl (lv_at hl 0 rfl) ?_
  refine vk_getf (o := "java/lang/String") (n := "value") (d := "[B") hx hb (hX.2.1.1 j hj).2.2.1 hS hown (hts _ m2000) (fun _ h9 => h9) dJ0_length_8abf5_1 ?_
  refine va_tlen hx hb (hX.2.1.1 j hj).2.2.2 hS (v := nI (sLen.getD j 0)) rfl dJ0_length_8abf5_4 ?_
  refine lv_topi (fun x_1 ex_1 => ?_)
  have lx_1 := sLen_le j
  have tx_1 : x_1.toInt = ((sLen.getD j 0 : Nat) : Int) := by rw [ex_1]; exact nI_toInt (by omega)
  refine lv_aload_n hx hb dJ0_length_8abf5_5 rfl (lv_at hl 0 rfl) ?_
  refine puI (cV (As := []) (rest := [.int x_1]) ⟨hx, hb, hml, hown, hts⟩ (c_J0_coder_7d493 l D T K j (by omega)) k_J0_coder_7d493 v_J0_coder_7d493 m617 rfl rfl ⟨(Nat.le_of_ble_eq_true rfl), (Nat.le_of_ble_eq_true rfl)⟩ (prePs hC (hP.sub (ws' := []) [] rfl) hX hS) (vk_recv hX.2.1 hj hS) rfl hl.1 rfl (Nat.le_of_ble_eq_true rfl) dJ0_length_8abf5_6 ⟨(Nat.le_of_ble_eq_true rfl), (Nat.le_of_ble_eq_true rfl)⟩) hS hP (fun r_2 H locs hw hP hS => ?_)
  have w_4 : (r_2 = 0) := hw
  obtain rfl := w_4
  refine lv_ishr hx hb dJ0_length_8abf5_9 ?_
  refine lv_topi (fun x_5 ex_5 => ?_)
  have tx_5 : x_5.toInt = x_1.toInt := by rw [ex_5, ex_1, sc_shr0 (by omega)]
  exact W.iret (v := x_5) hx hb hr (fun t ht hW => ⟨⟨x_5, (), rfl, (⟨(show x_5.toInt = ((sLen.getD j 0 : Nat) : Int) by omega), (show 0 ≤ x_5.toInt by omega), (show x_5.toInt ≤ 7 by omega)⟩), trivial⟩, hS.F ht⟩) hS.2.2 dJ0_length_8abf5_10

set_option maxHeartbeats 4000000 in
set_option maxRecDepth 100000 in
theorem c_J0_checkIndex_df160 (l : Launch) (D : va_G) (T : Nat → ClassId) (K : SKT) (i1 i2 : Int32) (hi : 0 ≤ i1.toInt) (hi2 : i1.toInt < i2.toInt) : Met l yJ0_checkIndex_df160 (wM yJ0_checkIndex_df160 cJ0_checkIndex_df160 2 none) ({ frames := 1, cells := 0, slots := 0, locals := 22 }) (va_Pc [.int i1, .int i2] (pwPs D T [] K)) (va_Qv (fun (u : Unit) => True) (fun _ _ => True) (fun _ => False)) 0 0 (fun _ => False) := by
  refine Met.ofW (cc := cJ0_checkIndex_df160) (maxL := 2) (ret := none) (by decide) rfl ?_
  intro p e s m args below meth c s₁ B hml hv
  obtain ⟨rfl, ⟨hP, hC⟩, hX⟩ := hv
  have hx := B.exec
  have hb := B.bytes
  have hr := B.returns
  have hts : ∀ w ∈ gt, w.before _ s = true := fun w hw => atoms_spec (ws := (wM yJ0_checkIndex_df160 cJ0_checkIndex_df160 2 none)) B.pre w (List.mem_cons_of_mem _ hw)
  have hown : s.vm.findClass RJ0 = some m.cls := findClass_of_methodNamed B.named
  have hlocks := B.notSynchronized
  have hK := hC.1
  have hS : va_S (fun _ => False) s.heap s.heap [] := va_S.rf
  have hl := lv_entry ([.int i1, .int i2]) (n := 2) (Nat.le_of_ble_eq_true rfl)
  rw [lg_entry_eq]
  generalize (lg_sl ([.int i1, .int i2]) ++ List.replicate (2 - (lg_sl ([.int i1, .int i2])).length) Slot.unset).toArray = ls at hl ⊢
  have hl : lv_has ls 2 [(0, .int i1), (1, .int i2)] := hl
  refine lv_iload_n hx hb dJ0_checkIndex_df160_0 rfl (lv_at hl 0 rfl) ?_
  refine lv_iload_n hx hb dJ0_checkIndex_df160_1 rfl (lv_at hl 1 rfl) ?_
  rcases hX.2.2.2 with hZ9 | ⟨t9, hZ9⟩
  · refine va_gets hx hb hZ9 hS hown (hts _ m637) (fun _ h9 => h9) dJ0_checkIndex_df160_2 ?_
    refine puI (cS (As := [.int i1, .int i2, .null]) (rest := []) ⟨hx, hb, hml, hown, hts⟩ (c_J3_checkIndexN l D T i1 i2 (by omega) (by omega)) k_J3_checkIndex_8e157 m640 m639 rfl rfl ⟨(Nat.le_of_ble_eq_true rfl), (Nat.le_of_ble_eq_true rfl)⟩ (preP hC (hP.sub (ws' := []) [] rfl)) rfl hl.1 rfl (Nat.le_of_ble_eq_true rfl) dJ0_checkIndex_df160_5 ⟨(Nat.le_of_ble_eq_true rfl), (Nat.le_of_ble_eq_true rfl)⟩) hS hP (fun r_1 H locs hw hP hS => ?_)
    refine lv_pop hx hb dJ0_checkIndex_df160_8 rfl ?_
    exact W.vret hx hb hr (fun t ht hW => ⟨⟨(), rfl, trivial, trivial⟩, hS.F ht⟩) hS.2.2 dJ0_checkIndex_df160_9
  · refine va_gets hx hb hZ9 hS hown (hts _ m637) (fun _ h9 => h9) dJ0_checkIndex_df160_2 ?_
    refine puI (cS (As := [.int i1, .int i2, .ref t9]) (rest := []) ⟨hx, hb, hml, hown, hts⟩ (c_J3_checkIndexR l D T t9 i1 i2 (by omega) (by omega)) k_J3_checkIndex_8e157 m640 m639 rfl rfl ⟨(Nat.le_of_ble_eq_true rfl), (Nat.le_of_ble_eq_true rfl)⟩ (preP hC (hP.sub (ws' := []) [] rfl)) rfl hl.1 rfl (Nat.le_of_ble_eq_true rfl) dJ0_checkIndex_df160_5 ⟨(Nat.le_of_ble_eq_true rfl), (Nat.le_of_ble_eq_true rfl)⟩) hS hP (fun r_3 H locs hw hP hS => ?_)
    refine lv_pop hx hb dJ0_checkIndex_df160_8 rfl ?_
    exact W.vret hx hb hr (fun t ht hW => ⟨⟨(), rfl, trivial, trivial⟩, hS.F ht⟩) hS.2.2 dJ0_checkIndex_df160_9

set_option maxHeartbeats 4000000 in
set_option maxRecDepth 100000 in
theorem c_J1_charAt_3b067 (l : Launch) (D : va_G) (T : Nat → ClassId) (K : SKT) (j : Nat) (i1 : Int32) (hj : j < 28) (hi : 0 ≤ i1.toInt) (hi2 : i1.toInt < ((sLen.getD j 0 : Nat) : Int)) : Met l yJ1_charAt_3b067 (wM yJ1_charAt_3b067 cJ1_charAt_3b067 2 (some .char)) ({ frames := 2, cells := 0, slots := 0, locals := 43 }) (va_Pc [.ref (K.2 j), .int i1] (pwPs D T [] K)) (va_Qi (fun (r : Int32) (u : Unit) => (narrow .char (.int r) = .int r)) (fun _ _ => True) (fun _ => False)) 0 0 (fun _ => False) := by
  refine Met.ofW (cc := cJ1_charAt_3b067) (maxL := 2) (ret := (some .char)) (by decide) rfl ?_
  intro p e s m args below meth c s₁ B hml hv
  obtain ⟨rfl, ⟨hP, hC⟩, hX⟩ := hv
  have hx := B.exec
  have hb := B.bytes
  have hr := B.returns
  have hts : ∀ w ∈ gt, w.before _ s = true := fun w hw => atoms_spec (ws := (wM yJ1_charAt_3b067 cJ1_charAt_3b067 2 (some .char))) B.pre w (List.mem_cons_of_mem _ hw)
  have hown : s.vm.findClass RJ1 = some m.cls := findClass_of_methodNamed B.named
  have hlocks := B.notSynchronized
  have hK := hC.1
  have hS : va_S (fun _ => False) s.heap s.heap [] := va_S.rf
  have hl := lv_entry ([.ref (K.2 j), .int i1]) (n := 2) (Nat.le_of_ble_eq_true rfl)
  rw [lg_entry_eq]
  generalize (lg_sl ([.ref (K.2 j), .int i1]) ++ List.replicate (2 - (lg_sl ([.ref (K.2 j), .int i1])).length) Slot.unset).toArray = ls at hl ⊢
  have hl : lv_has ls 2 [(0, .ref (K.2 j)), (1, .int i1)] := hl
  refine lv_iload_n hx hb dJ1_charAt_3b067_0 rfl (lv_at hl 1 rfl) ?_
  refine lv_aload_n hx hb dJ1_charAt_3b067_1 rfl (lv_at hl 0 rfl) ?_
  refine va_tlen hx hb (hX.2.1.1 j hj).2.2.2 hS (v := nI (sLen.getD j 0)) rfl dJ1_charAt_3b067_2 ?_
  refine lv_topi (fun x_1 ex_1 => ?_)
  have lx_1 := sLen_le j
  have tx_1 : x_1.toInt = ((sLen.getD j 0 : Nat) : Int) := by rw [ex_1]; exact nI_toInt (by omega)
  refine puV (cS (As := [.int i1, .int x_1]) (rest := []) ⟨hx, hb, hml, hown, hts⟩ (c_J0_checkIndex_df160 l D T K i1 x_1 (by omega) (by omega)) k_J0_checkIndex_df160 m635 m634 rfl rfl ⟨(Nat.le_of_ble_eq_true rfl), (Nat.le_of_ble_eq_true rfl)⟩ (prePs hC (hP.sub (ws' := []) [] rfl) hX hS) rfl hl.1 rfl (Nat.le_of_ble_eq_true rfl) dJ1_charAt_3b067_3 ⟨(Nat.le_of_ble_eq_true rfl), (Nat.le_of_ble_eq_true rfl)⟩) hS hP (fun H locs hw hP hS => ?_)
  refine lv_aload_n hx hb dJ1_charAt_3b067_6 rfl (lv_at hl 0 rfl) ?_
  refine lv_iload_n hx hb dJ1_charAt_3b067_7 rfl (lv_at hl 1 rfl) ?_
  refine va_tb hx hb (hX.2.1.1 j hj).2.2.2 hS (v_in (x := i1.toInt) rfl (by omega) (by omega)) rfl dJ1_charAt_3b067_8 ?_
  refine lv_topi (fun x_4 ex_4 => ?_)
  refine lv_sipush (v := 255) hx hb dJ1_charAt_3b067_9 (by decide) ?_
  refine lv_iand hx hb dJ1_charAt_3b067_12 ?_
  refine lv_topi (fun x_5 ex_5 => ?_)
  have tx_5 : 0 ≤ x_5.toInt ∧ x_5.toInt ≤ 255 := t_and2 ex_5 (by decide)
  refine lv_i2c hx hb dJ1_charAt_3b067_13 rfl ?_
  refine lv_topi (fun x_6 ex_6 => ?_)
  exact W.zret (v := x_6) hx hb hr (show narrow .char (.int x_6) = .int x_6 by first | assumption | (simp only [ex_5, ex_6]; rw [sc_c2]; exact sc_nar _)) (fun t ht hW => ⟨⟨x_6, (), rfl, (show narrow .char (.int x_6) = .int x_6 by first | assumption | (simp only [ex_5, ex_6]; rw [sc_c2]; exact sc_nar _)), trivial⟩, hS.F ht⟩) hS.2.2 dJ1_charAt_3b067_14

set_option maxHeartbeats 4000000 in
set_option maxRecDepth 100000 in
theorem c_J0_charAt_5068e (l : Launch) (D : va_G) (T : Nat → ClassId) (K : SKT) (j : Nat) (i1 : Int32) (hj : j < 28) (hi : 0 ≤ i1.toInt) (hi2 : i1.toInt < ((sLen.getD j 0 : Nat) : Int)) : Met l yJ0_charAt_5068e (wM yJ0_charAt_5068e cJ0_charAt_5068e 2 (some .char)) ({ frames := 3, cells := 0, slots := 0, locals := 64 }) (va_Pc [.ref (K.1 j), .int i1] (pwPs D T [] K)) (va_Qi (fun (r : Int32) (u : Unit) => (narrow .char (.int r) = .int r)) (fun _ _ => True) (fun _ => False)) 0 0 (fun _ => False) := by
  refine Met.ofW (cc := cJ0_charAt_5068e) (maxL := 2) (ret := (some .char)) (by decide) rfl ?_
  intro p e s m args below meth c s₁ B hml hv
  obtain ⟨rfl, ⟨hP, hC⟩, hX⟩ := hv
  have hx := B.exec
  have hb := B.bytes
  have hr := B.returns
  have hts : ∀ w ∈ gt, w.before _ s = true := fun w hw => atoms_spec (ws := (wM yJ0_charAt_5068e cJ0_charAt_5068e 2 (some .char))) B.pre w (List.mem_cons_of_mem _ hw)
  have hown : s.vm.findClass RJ0 = some m.cls := findClass_of_methodNamed B.named
  have hlocks := B.notSynchronized
  have hK := hC.1
  have hS : va_S (fun _ => False) s.heap s.heap [] := va_S.rf
  have hl := lv_entry ([.ref (K.1 j), .int i1]) (n := 2) (Nat.le_of_ble_eq_true rfl)
  rw [lg_entry_eq]
  generalize (lg_sl ([.ref (K.1 j), .int i1]) ++ List.replicate (2 - (lg_sl ([.ref (K.1 j), .int i1])).length) Slot.unset).toArray = ls at hl ⊢
  have hl : lv_has ls 2 [(0, .ref (K.1 j)), (1, .int i1)] := hl
  refine lv_aload_n hx hb dJ0_charAt_5068e_0 rfl (lv_at hl 0 rfl) ?_
  refine puI (cV (As := []) (rest := []) ⟨hx, hb, hml, hown, hts⟩ (c_J0_isLatin1_aae02 l D T K j (by omega)) k_J0_isLatin1_aae02 v_J0_isLatin1_aae02 m627 rfl rfl ⟨(Nat.le_of_ble_eq_true rfl), (Nat.le_of_ble_eq_true rfl)⟩ (prePs hC (hP.sub (ws' := []) [] rfl) hX hS) (vk_recv hX.2.1 hj hS) rfl hl.1 rfl (Nat.le_of_ble_eq_true rfl) dJ0_charAt_5068e_1 ⟨(Nat.le_of_ble_eq_true rfl), (Nat.le_of_ble_eq_true rfl)⟩) hS hP (fun r_1 H locs hw hP hS => ?_)
  have w_3 : (r_1 = 1) := hw
  obtain rfl := w_3
  refine lv_if_eq (tgt := 16) hx hb dJ0_charAt_5068e_4 (by decide) (fun c_4 => absurd c_4 (by decide)) (fun _ => ?_)
  refine lv_aload_n hx hb dJ0_charAt_5068e_7 rfl (lv_at hl 0 rfl) ?_
  refine vk_getf (o := "java/lang/String") (n := "value") (d := "[B") hx hb (hX.2.1.1 j hj).2.2.1 hS hown (hts _ m2000) (fun _ h9 => h9) dJ0_charAt_5068e_8 ?_
  refine lv_iload_n hx hb dJ0_charAt_5068e_11 rfl (lv_at hl 1 rfl) ?_
  refine puI (cS (As := [.ref (K.2 j), .int i1]) (rest := []) ⟨hx, hb, hml, hown, hts⟩ (c_J1_charAt_3b067 l D T K j i1 (by omega) (by omega) (by omega)) k_J1_charAt_3b067 m632 m631 rfl rfl ⟨(Nat.le_of_ble_eq_true rfl), (Nat.le_of_ble_eq_true rfl)⟩ (prePs hC (hP.sub (ws' := []) [] rfl) hX hS) rfl hl.1 rfl (Nat.le_of_ble_eq_true rfl) dJ0_charAt_5068e_12 ⟨(Nat.le_of_ble_eq_true rfl), (Nat.le_of_ble_eq_true rfl)⟩) hS hP (fun r_5 H locs hw hP hS => ?_)
  have w_7 : (narrow .char (.int r_5) = .int r_5) := hw
  obtain c_8 := w_7
  exact W.zret (v := r_5) hx hb hr (show narrow .char (.int r_5) = .int r_5 by first | assumption | (simp only []; rw [sc_c2]; exact sc_nar _)) (fun t ht hW => ⟨⟨r_5, (), rfl, (show narrow .char (.int r_5) = .int r_5 by first | assumption | (simp only []; rw [sc_c2]; exact sc_nar _)), trivial⟩, hS.F ht⟩) hS.2.2 dJ0_charAt_5068e_15
