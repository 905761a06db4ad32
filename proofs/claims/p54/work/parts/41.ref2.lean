set_option maxHeartbeats 4000000 in
set_option maxRecDepth 100000 in
theorem c_X11_copyRow_1 (l : Launch) (D : va_G) (T : Nat → ClassId) (rw : Nat) (i2 i3 : Int32) (f : Nat → Int32) (sz : Nat) (h_i2 : 0 ≤ i2.toInt ∧ i2.toInt ≤ 4) (h_i3 : 0 ≤ i3.toInt ∧ i3.toInt ≤ 4) (hab : i2.toInt < i3.toInt ∨ i3.toInt < i2.toInt) : Met l yX11_copyRow (wM yX11_copyRow cX11_copyRow 5 none) ({ frames := 0, cells := 0, slots := 0, locals := 0 }) (va_Pc [.ref rw, .int 1, .int i2, .int i3] (pwM D T [(rw, .inl (T 0, 5, .inl f))] sz)) (va_Qv (fun (u : U5) => ((u.2.1 0) = cpR 1 i2.toInt.toNat i3.toInt.toNat 1 f)) (fun u t => pwE D (va_A [(rw, .inl (T 0, 5, .inl f))] sz) [(rw, .inl (T 0, 5, .inl (u.2.1 0)))] t) (va_A [(rw, .inl (T 0, 5, .inl f))] sz)) 0 0 (va_A [(rw, .inl (T 0, 5, .inl f))] sz) := by
  refine Met.ofW (cc := cX11_copyRow) (maxL := 5) (ret := none) (by decide) rfl ?_
  intro p e s m args below meth c s₁ B hml hv
  obtain ⟨rfl, hsz, hP, hC, hD0⟩ := hv
  have hx := B.exec
  have hb := B.bytes
  have hr := B.returns
  have hts : ∀ w ∈ gt, w.before _ s = true := fun w hw => atoms_spec (ws := (wM yX11_copyRow cX11_copyRow 5 none)) B.pre w (List.mem_cons_of_mem _ hw)
  have hown : s.vm.findClass RX11 = some m.cls := findClass_of_methodNamed B.named
  have hlocks := B.notSynchronized
  have hK := hC.1
  subst hsz
  have hD := hD0.self (sz := s.heap.size)
  generalize hAe : va_A [(rw, .inl (T 0, 5, .inl f))] s.heap.size = A at hD ⊢
  have hA : ∀ q : Nat, s.heap.size ≤ q → A q := fun q h => by rw [← hAe]; exact Or.inr h
  have hS : va_S A s.heap s.heap [] := va_S.rf
  have hl := lv_entry ([.ref rw, .int 1, .int i2, .int i3]) (n := 5) (Nat.le_of_ble_eq_true rfl)
  rw [lg_entry_eq]
  generalize (lg_sl ([.ref rw, .int 1, .int i2, .int i3]) ++ List.replicate (5 - (lg_sl ([.ref rw, .int 1, .int i2, .int i3])).length) Slot.unset).toArray = ls at hl ⊢
  have hl : lv_has ls 5 [(0, .ref rw), (1, .int 1), (2, .int i2), (3, .int i3)] := hl
  refine lv_iconst (v := 0) hx hb dX11_copyRow_0 (by decide) ?_
  refine lv_istore (lv' := [(4, .int 0), (0, .ref rw), (1, .int 1), (2, .int i2), (3, .int i3)]) hx hb dX11_copyRow_1 hl (by decide) rfl (fun ls hl => ?_)
  refine lp_ind (fun (a : Heap × List Loc × Array Slot × (Int32) × (Nat → Int32)) => match a with | (H, locs, ls, i_1, f_2) => W p l e _ s m _ below meth c H locs 0 0 _ (F0 m 3 ls [])) (fun (a : Heap × List Loc × Array Slot × (Int32) × (Nat → Int32)) => match a with | (H, locs, ls, i_1, f_2) => 0 ≤ i_1.toInt ∧ i_1.toInt ≤ 1 ∧ f_2 = cpR 1 i2.toInt.toNat i3.toInt.toNat i_1.toInt.toNat f ∧ va_P D vwCl [(rw, .inl (T 0, 5, .inl f_2))] H ∧ va_D A [(rw, .inl (T 0, 5, .inl f_2))] ∧ va_S A s.heap H locs ∧ lv_has ls 5 [(4, .int i_1), (0, .ref rw), (1, .int 1), (2, .int i2), (3, .int i3)]) (fun (a : Heap × List Loc × Array Slot × (Int32) × (Nat → Int32)) => match a with | (H, locs, ls, i_1, f_2) => (1 - i_1.toInt).toNat) ?_ (_, _, ls, (0 : Int32), f) ⟨(show 0 ≤ (0 : Int) by omega), (show (0 : Int) ≤ 1 by omega), (show f = cpR 1 i2.toInt.toNat i3.toInt.toNat 0 f from cpR_z.symm), hP, hD, hS, lv_sub hl [0, 1, 2, 3, 4] rfl⟩
  rintro ⟨H, locs, ls, i_1, f_2⟩ ⟨c_3, c_4, c_5, hP, hD, hS, hl⟩ ih_6
  refine lv_iload hx hb dX11_copyRow_3 (lv_at hl 0 rfl) ?_
  refine lv_iload_n hx hb dX11_copyRow_5 rfl (lv_at hl 2 rfl) ?_
  refine lv_icmp_ge (tgt := 31) hx hb dX11_copyRow_6 (by decide) (fun c_7 => ?_) (fun c_7 => ?_)
  · have c_7 : 1 ≤ i_1.toInt := (c_le (x := 1) (y := i_1.toInt) rfl rfl).mp c_7
    have hP9 := hP.sub (ws' := [(rw, .inl (T 0, 5, .inl f_2))]) [0] rfl
    have hD9 := hD.sub (ws' := [(rw, .inl (T 0, 5, .inl f_2))]) [0] (by decide) rfl
    exact W.vret hx hb hr (fun t ht hW => ⟨⟨(fun k => ([] : List (Nat)).getD k 0, fun k => ([f_2] : List (Nat → Int32)).getD k (fun _ => 0), fun k => ([] : List (Nat → Int64)).getD k (fun _ => 0), fun k => ([] : List (Int32)).getD k 0, fun k => ([] : List (Int64)).getD k 0), rfl, (show f_2 = cpR 1 i2.toInt.toNat i3.toInt.toNat 1 f by rw [c_5, show i_1.toInt.toNat = 1 by omega]), by rw [ht]; exact hP9, hD9⟩, hS.F ht⟩) hS.2.2 dX11_copyRow_31
  · have c_7 : i_1.toInt < 1 := by have h := mt (c_le (x := 1) (y := i_1.toInt) rfl rfl).mpr c_7; omega
    refine lv_aload_n hx hb dX11_copyRow_9 rfl (lv_at hl 1 rfl) ?_
    refine lv_iload_n hx hb dX11_copyRow_10 rfl (lv_at hl 2 rfl) ?_
    refine lv_iload_n hx hb dX11_copyRow_11 rfl (lv_at hl 4 rfl) ?_
    refine lv_imul hx hb dX11_copyRow_12 ?_
    refine lv_topi (fun x_8 ex_8 => ?_)
    have tx_8 : x_8.toInt = 1 * i3.toInt := t_mul (x := 1) (y := i3.toInt) ex_8 rfl rfl (by omega) (by omega)
    refine lv_iload hx hb dX11_copyRow_13 (lv_at hl 0 rfl) ?_
    refine lv_iadd hx hb dX11_copyRow_15 ?_
    refine lv_topi (fun x_9 ex_9 => ?_)
    have tx_9 : x_9.toInt = x_8.toInt + i_1.toInt := t_add (x := x_8.toInt) (y := i_1.toInt) ex_9 rfl rfl (by omega) (by omega)
    refine lv_aload_n hx hb dX11_copyRow_16 rfl (lv_at hl 1 rfl) ?_
    refine lv_iload_n hx hb dX11_copyRow_17 rfl (lv_at hl 2 rfl) ?_
    refine lv_iload_n hx hb dX11_copyRow_18 rfl (lv_at hl 3 rfl) ?_
    refine lv_imul hx hb dX11_copyRow_19 ?_
    refine lv_topi (fun x_10 ex_10 => ?_)
    have tx_10 : x_10.toInt = 1 * i2.toInt := t_mul (x := 1) (y := i2.toInt) ex_10 rfl rfl (by omega) (by omega)
    refine lv_iload hx hb dX11_copyRow_20 (lv_at hl 0 rfl) ?_
    refine lv_iadd hx hb dX11_copyRow_22 ?_
    refine lv_topi (fun x_11 ex_11 => ?_)
    have tx_11 : x_11.toInt = x_10.toInt + i_1.toInt := t_add (x := x_10.toInt) (y := i_1.toInt) ex_11 rfl rfl (by omega) (by omega)
    refine va_iald (D := D) hx hb hK hP 0 0 rfl rfl (v_in (x := x_11.toInt) rfl (by omega) (by omega)) dX11_copyRow_23 ?_
    refine lv_topi (fun x_12 ex_12 => ?_)
    refine va_iast (D := D) hx hb hK hP hD hS 0 0 rfl rfl (v_in (x := x_9.toInt) rfl (by omega) (by omega)) dX11_copyRow_24 (fun H locs hP hD hS => ?_)
    obtain ⟨f_13, hf_13⟩ : ∃ g : Nat → Int32, g = upd f_2 x_9.toNatClampNeg x_12 := ⟨_, rfl⟩
    have hP : va_P D vwCl [(rw, .inl (T 0, 5, .inl (upd f_2 x_9.toNatClampNeg x_12)))] H := hP
    have hD : va_D A [(rw, .inl (T 0, 5, .inl (upd f_2 x_9.toNatClampNeg x_12)))] := hD
    rw [← hf_13] at hP hD
    obtain ⟨x_14, ex_14⟩ : ∃ y : Int32, y = i_1 + 1 := ⟨_, rfl⟩
    have tx_14 : x_14.toInt = i_1.toInt + 1 := t_add (x := i_1.toInt) (y := 1) ex_14 rfl rfl (by omega) (by omega)
    refine lv_iinc (v := x_14) (lv' := [(4, .int x_14), (0, .ref rw), (1, .int 1), (2, .int i2), (3, .int i3)]) hx hb dX11_copyRow_25 hl (k := 0) rfl (by rw [ex_14]; rfl) (by decide) rfl (fun ls hl => ?_)
    refine lv_goto (tgt := 3) hx hb dX11_copyRow_28 (by decide) ?_
    exact ih_6 (_, _, _, x_14, f_13) ⟨(show 0 ≤ x_14.toInt by omega), (show x_14.toInt ≤ 1 by omega), (show f_13 = cpR 1 i2.toInt.toNat i3.toInt.toNat x_14.toInt.toNat f by rw [hf_13, ex_12, c_5, tn (x := x_9) rfl, tn (x := x_11) rfl, show x_9.toInt.toNat = 1 * i3.toInt.toNat + i_1.toInt.toNat by omega, show x_11.toInt.toNat = 1 * i2.toInt.toNat + i_1.toInt.toNat by omega, show x_14.toInt.toNat = i_1.toInt.toNat + 1 by omega]; exact cpR_s (by omega) (by omega)), hP, hD, hS, lv_sub hl [0, 1, 2, 3, 4] rfl⟩ (show (1 - x_14.toInt).toNat < (1 - i_1.toInt).toNat by omega)

set_option maxHeartbeats 4000000 in
set_option maxRecDepth 100000 in
theorem c_X11_copyRow_3 (l : Launch) (D : va_G) (T : Nat → ClassId) (rw : Nat) (i2 i3 : Int32) (f : Nat → Int32) (sz : Nat) (h_i2 : 0 ≤ i2.toInt ∧ i2.toInt ≤ 4) (h_i3 : 0 ≤ i3.toInt ∧ i3.toInt ≤ 4) (hab : i2.toInt < i3.toInt ∨ i3.toInt < i2.toInt) : Met l yX11_copyRow (wM yX11_copyRow cX11_copyRow 5 none) ({ frames := 0, cells := 0, slots := 0, locals := 0 }) (va_Pc [.ref rw, .int 3, .int i2, .int i3] (pwM D T [(rw, .inl (T 0, 15, .inl f))] sz)) (va_Qv (fun (u : U5) => ((u.2.1 0) = cpR 3 i2.toInt.toNat i3.toInt.toNat 3 f)) (fun u t => pwE D (va_A [(rw, .inl (T 0, 15, .inl f))] sz) [(rw, .inl (T 0, 15, .inl (u.2.1 0)))] t) (va_A [(rw, .inl (T 0, 15, .inl f))] sz)) 0 0 (va_A [(rw, .inl (T 0, 15, .inl f))] sz) := by
  refine Met.ofW (cc := cX11_copyRow) (maxL := 5) (ret := none) (by decide) rfl ?_
  intro p e s m args below meth c s₁ B hml hv
  obtain ⟨rfl, hsz, hP, hC, hD0⟩ := hv
  have hx := B.exec
  have hb := B.bytes
  have hr := B.returns
  have hts : ∀ w ∈ gt, w.before _ s = true := fun w hw => atoms_spec (ws := (wM yX11_copyRow cX11_copyRow 5 none)) B.pre w (List.mem_cons_of_mem _ hw)
  have hown : s.vm.findClass RX11 = some m.cls := findClass_of_methodNamed B.named
  have hlocks := B.notSynchronized
  have hK := hC.1
  subst hsz
  have hD := hD0.self (sz := s.heap.size)
  generalize hAe : va_A [(rw, .inl (T 0, 15, .inl f))] s.heap.size = A at hD ⊢
  have hA : ∀ q : Nat, s.heap.size ≤ q → A q := fun q h => by rw [← hAe]; exact Or.inr h
  have hS : va_S A s.heap s.heap [] := va_S.rf
  have hl := lv_entry ([.ref rw, .int 3, .int i2, .int i3]) (n := 5) (Nat.le_of_ble_eq_true rfl)
  rw [lg_entry_eq]
  generalize (lg_sl ([.ref rw, .int 3, .int i2, .int i3]) ++ List.replicate (5 - (lg_sl ([.ref rw, .int 3, .int i2, .int i3])).length) Slot.unset).toArray = ls at hl ⊢
  have hl : lv_has ls 5 [(0, .ref rw), (1, .int 3), (2, .int i2), (3, .int i3)] := hl
  refine lv_iconst (v := 0) hx hb dX11_copyRow_0 (by decide) ?_
  refine lv_istore (lv' := [(4, .int 0), (0, .ref rw), (1, .int 3), (2, .int i2), (3, .int i3)]) hx hb dX11_copyRow_1 hl (by decide) rfl (fun ls hl => ?_)
  refine lp_ind (fun (a : Heap × List Loc × Array Slot × (Int32) × (Nat → Int32)) => match a with | (H, locs, ls, i_1, f_2) => W p l e _ s m _ below meth c H locs 0 0 _ (F0 m 3 ls [])) (fun (a : Heap × List Loc × Array Slot × (Int32) × (Nat → Int32)) => match a with | (H, locs, ls, i_1, f_2) => 0 ≤ i_1.toInt ∧ i_1.toInt ≤ 3 ∧ f_2 = cpR 3 i2.toInt.toNat i3.toInt.toNat i_1.toInt.toNat f ∧ va_P D vwCl [(rw, .inl (T 0, 15, .inl f_2))] H ∧ va_D A [(rw, .inl (T 0, 15, .inl f_2))] ∧ va_S A s.heap H locs ∧ lv_has ls 5 [(4, .int i_1), (0, .ref rw), (1, .int 3), (2, .int i2), (3, .int i3)]) (fun (a : Heap × List Loc × Array Slot × (Int32) × (Nat → Int32)) => match a with | (H, locs, ls, i_1, f_2) => (3 - i_1.toInt).toNat) ?_ (_, _, ls, (0 : Int32), f) ⟨(show 0 ≤ (0 : Int) by omega), (show (0 : Int) ≤ 3 by omega), (show f = cpR 3 i2.toInt.toNat i3.toInt.toNat 0 f from cpR_z.symm), hP, hD, hS, lv_sub hl [0, 1, 2, 3, 4] rfl⟩
  rintro ⟨H, locs, ls, i_1, f_2⟩ ⟨c_3, c_4, c_5, hP, hD, hS, hl⟩ ih_6
  refine lv_iload hx hb dX11_copyRow_3 (lv_at hl 0 rfl) ?_
  refine lv_iload_n hx hb dX11_copyRow_5 rfl (lv_at hl 2 rfl) ?_
  refine lv_icmp_ge (tgt := 31) hx hb dX11_copyRow_6 (by decide) (fun c_7 => ?_) (fun c_7 => ?_)
  · have c_7 : 3 ≤ i_1.toInt := (c_le (x := 3) (y := i_1.toInt) rfl rfl).mp c_7
    have hP9 := hP.sub (ws' := [(rw, .inl (T 0, 15, .inl f_2))]) [0] rfl
    have hD9 := hD.sub (ws' := [(rw, .inl (T 0, 15, .inl f_2))]) [0] (by decide) rfl
    exact W.vret hx hb hr (fun t ht hW => ⟨⟨(fun k => ([] : List (Nat)).getD k 0, fun k => ([f_2] : List (Nat → Int32)).getD k (fun _ => 0), fun k => ([] : List (Nat → Int64)).getD k (fun _ => 0), fun k => ([] : List (Int32)).getD k 0, fun k => ([] : List (Int64)).getD k 0), rfl, (show f_2 = cpR 3 i2.toInt.toNat i3.toInt.toNat 3 f by rw [c_5, show i_1.toInt.toNat = 3 by omega]), by rw [ht]; exact hP9, hD9⟩, hS.F ht⟩) hS.2.2 dX11_copyRow_31
  · have c_7 : i_1.toInt < 3 := by have h := mt (c_le (x := 3) (y := i_1.toInt) rfl rfl).mpr c_7; omega
    refine lv_aload_n hx hb dX11_copyRow_9 rfl (lv_at hl 1 rfl) ?_
    refine lv_iload_n hx hb dX11_copyRow_10 rfl (lv_at hl 2 rfl) ?_
    refine lv_iload_n hx hb dX11_copyRow_11 rfl (lv_at hl 4 rfl) ?_
    refine lv_imul hx hb dX11_copyRow_12 ?_
    refine lv_topi (fun x_8 ex_8 => ?_)
    have tx_8 : x_8.toInt = 3 * i3.toInt := t_mul (x := 3) (y := i3.toInt) ex_8 rfl rfl (by omega) (by omega)
    refine lv_iload hx hb dX11_copyRow_13 (lv_at hl 0 rfl) ?_
    refine lv_iadd hx hb dX11_copyRow_15 ?_
    refine lv_topi (fun x_9 ex_9 => ?_)
    have tx_9 : x_9.toInt = x_8.toInt + i_1.toInt := t_add (x := x_8.toInt) (y := i_1.toInt) ex_9 rfl rfl (by omega) (by omega)
    refine lv_aload_n hx hb dX11_copyRow_16 rfl (lv_at hl 1 rfl) ?_
    refine lv_iload_n hx hb dX11_copyRow_17 rfl (lv_at hl 2 rfl) ?_
    refine lv_iload_n hx hb dX11_copyRow_18 rfl (lv_at hl 3 rfl) ?_
    refine lv_imul hx hb dX11_copyRow_19 ?_
    refine lv_topi (fun x_10 ex_10 => ?_)
    have tx_10 : x_10.toInt = 3 * i2.toInt := t_mul (x := 3) (y := i2.toInt) ex_10 rfl rfl (by omega) (by omega)
    refine lv_iload hx hb dX11_copyRow_20 (lv_at hl 0 rfl) ?_
    refine lv_iadd hx hb dX11_copyRow_22 ?_
    refine lv_topi (fun x_11 ex_11 => ?_)
    have tx_11 : x_11.toInt = x_10.toInt + i_1.toInt := t_add (x := x_10.toInt) (y := i_1.toInt) ex_11 rfl rfl (by omega) (by omega)
    refine va_iald (D := D) hx hb hK hP 0 0 rfl rfl (v_in (x := x_11.toInt) rfl (by omega) (by omega)) dX11_copyRow_23 ?_
    refine lv_topi (fun x_12 ex_12 => ?_)
    refine va_iast (D := D) hx hb hK hP hD hS 0 0 rfl rfl (v_in (x := x_9.toInt) rfl (by omega) (by omega)) dX11_copyRow_24 (fun H locs hP hD hS => ?_)
    obtain ⟨f_13, hf_13⟩ : ∃ g : Nat → Int32, g = upd f_2 x_9.toNatClampNeg x_12 := ⟨_, rfl⟩
    have hP : va_P D vwCl [(rw, .inl (T 0, 15, .inl (upd f_2 x_9.toNatClampNeg x_12)))] H := hP
    have hD : va_D A [(rw, .inl (T 0, 15, .inl (upd f_2 x_9.toNatClampNeg x_12)))] := hD
    rw [← hf_13] at hP hD
    obtain ⟨x_14, ex_14⟩ : ∃ y : Int32, y = i_1 + 1 := ⟨_, rfl⟩
    have tx_14 : x_14.toInt = i_1.toInt + 1 := t_add (x := i_1.toInt) (y := 1) ex_14 rfl rfl (by omega) (by omega)
    refine lv_iinc (v := x_14) (lv' := [(4, .int x_14), (0, .ref rw), (1, .int 3), (2, .int i2), (3, .int i3)]) hx hb dX11_copyRow_25 hl (k := 0) rfl (by rw [ex_14]; rfl) (by decide) rfl (fun ls hl => ?_)
    refine lv_goto (tgt := 3) hx hb dX11_copyRow_28 (by decide) ?_
    exact ih_6 (_, _, _, x_14, f_13) ⟨(show 0 ≤ x_14.toInt by omega), (show x_14.toInt ≤ 3 by omega), (show f_13 = cpR 3 i2.toInt.toNat i3.toInt.toNat x_14.toInt.toNat f by rw [hf_13, ex_12, c_5, tn (x := x_9) rfl, tn (x := x_11) rfl, show x_9.toInt.toNat = 3 * i3.toInt.toNat + i_1.toInt.toNat by omega, show x_11.toInt.toNat = 3 * i2.toInt.toNat + i_1.toInt.toNat by omega, show x_14.toInt.toNat = i_1.toInt.toNat + 1 by omega]; exact cpR_s (by omega) (by omega)), hP, hD, hS, lv_sub hl [0, 1, 2, 3, 4] rfl⟩ (show (3 - x_14.toInt).toNat < (3 - i_1.toInt).toNat by omega)

set_option maxHeartbeats 4000000 in
set_option maxRecDepth 100000 in
theorem c_X11_copyRow_5 (l : Launch) (D : va_G) (T : Nat → ClassId) (rw : Nat) (i2 i3 : Int32) (f : Nat → Int32) (sz : Nat) (h_i2 : 0 ≤ i2.toInt ∧ i2.toInt ≤ 4) (h_i3 : 0 ≤ i3.toInt ∧ i3.toInt ≤ 4) (hab : i2.toInt < i3.toInt ∨ i3.toInt < i2.toInt) : Met l yX11_copyRow (wM yX11_copyRow cX11_copyRow 5 none) ({ frames := 0, cells := 0, slots := 0, locals := 0 }) (va_Pc [.ref rw, .int 5, .int i2, .int i3] (pwM D T [(rw, .inl (T 0, 25, .inl f))] sz)) (va_Qv (fun (u : U5) => ((u.2.1 0) = cpR 5 i2.toInt.toNat i3.toInt.toNat 5 f)) (fun u t => pwE D (va_A [(rw, .inl (T 0, 25, .inl f))] sz) [(rw, .inl (T 0, 25, .inl (u.2.1 0)))] t) (va_A [(rw, .inl (T 0, 25, .inl f))] sz)) 0 0 (va_A [(rw, .inl (T 0, 25, .inl f))] sz) := by
  refine Met.ofW (cc := cX11_copyRow) (maxL := 5) (ret := none) (by decide) rfl ?_
  intro p e s m args below meth c s₁ B hml hv
  obtain ⟨rfl, hsz, hP, hC, hD0⟩ := hv
  have hx := B.exec
  have hb := B.bytes
  have hr := B.returns
  have hts : ∀ w ∈ gt, w.before _ s = true := fun w hw => atoms_spec (ws := (wM yX11_copyRow cX11_copyRow 5 none)) B.pre w (List.mem_cons_of_mem _ hw)
  have hown : s.vm.findClass RX11 = some m.cls := findClass_of_methodNamed B.named
  have hlocks := B.notSynchronized
  have hK := hC.1
  subst hsz
  have hD := hD0.self (sz := s.heap.size)
  generalize hAe : va_A [(rw, .inl (T 0, 25, .inl f))] s.heap.size = A at hD ⊢
  have hA : ∀ q : Nat, s.heap.size ≤ q → A q := fun q h => by rw [← hAe]; exact Or.inr h
  have hS : va_S A s.heap s.heap [] := va_S.rf
  have hl := lv_entry ([.ref rw, .int 5, .int i2, .int i3]) (n := 5) (Nat.le_of_ble_eq_true rfl)
  rw [lg_entry_eq]
  generalize (lg_sl ([.ref rw, .int 5, .int i2, .int i3]) ++ List.replicate (5 - (lg_sl ([.ref rw, .int 5, .int i2, .int i3])).length) Slot.unset).toArray = ls at hl ⊢
  have hl : lv_has ls 5 [(0, .ref rw), (1, .int 5), (2, .int i2), (3, .int i3)] := hl
  refine lv_iconst (v := 0) hx hb dX11_copyRow_0 (by decide) ?_
  refine lv_istore (lv' := [(4, .int 0), (0, .ref rw), (1, .int 5), (2, .int i2), (3, .int i3)]) hx hb dX11_copyRow_1 hl (by decide) rfl (fun ls hl => ?_)
  refine lp_ind (fun (a : Heap × List Loc × Array Slot × (Int32) × (Nat → Int32)) => match a with | (H, locs, ls, i_1, f_2) => W p l e _ s m _ below meth c H locs 0 0 _ (F0 m 3 ls [])) (fun (a : Heap × List Loc × Array Slot × (Int32) × (Nat → Int32)) => match a with | (H, locs, ls, i_1, f_2) => 0 ≤ i_1.toInt ∧ i_1.toInt ≤ 5 ∧ f_2 = cpR 5 i2.toInt.toNat i3.toInt.toNat i_1.toInt.toNat f ∧ va_P D vwCl [(rw, .inl (T 0, 25, .inl f_2))] H ∧ va_D A [(rw, .inl (T 0, 25, .inl f_2))] ∧ va_S A s.heap H locs ∧ lv_has ls 5 [(4, .int i_1), (0, .ref rw), (1, .int 5), (2, .int i2), (3, .int i3)]) (fun (a : Heap × List Loc × Array Slot × (Int32) × (Nat → Int32)) => match a with | (H, locs, ls, i_1, f_2) => (5 - i_1.toInt).toNat) ?_ (_, _, ls, (0 : Int32), f) ⟨(show 0 ≤ (0 : Int) by omega), (show (0 : Int) ≤ 5 by omega), (show f = cpR 5 i2.toInt.toNat i3.toInt.toNat 0 f from cpR_z.symm), hP, hD, hS, lv_sub hl [0, 1, 2, 3, 4] rfl⟩
  rintro ⟨H, locs, ls, i_1, f_2⟩ ⟨c_3, c_4, c_5, hP, hD, hS, hl⟩ ih_6
  refine lv_iload hx hb dX11_copyRow_3 (lv_at hl 0 rfl) ?_
  refine lv_iload_n hx hb dX11_copyRow_5 rfl (lv_at hl 2 rfl) ?_
  refine lv_icmp_ge (tgt := 31) hx hb dX11_copyRow_6 (by decide) (fun c_7 => ?_) (fun c_7 => ?_)
  · have c_7 : 5 ≤ i_1.toInt := (c_le (x := 5) (y := i_1.toInt) rfl rfl).mp c_7
    have hP9 := hP.sub (ws' := [(rw, .inl (T 0, 25, .inl f_2))]) [0] rfl
    have hD9 := hD.sub (ws' := [(rw, .inl (T 0, 25, .inl f_2))]) [0] (by decide) rfl
    exact W.vret hx hb hr (fun t ht hW => ⟨⟨(fun k => ([] : List (Nat)).getD k 0, fun k => ([f_2] : List (Nat → Int32)).getD k (fun _ => 0), fun k => ([] : List (Nat → Int64)).getD k (fun _ => 0), fun k => ([] : List (Int32)).getD k 0, fun k => ([] : List (Int64)).getD k 0), rfl, (show f_2 = cpR 5 i2.toInt.toNat i3.toInt.toNat 5 f by rw [c_5, show i_1.toInt.toNat = 5 by omega]), by rw [ht]; exact hP9, hD9⟩, hS.F ht⟩) hS.2.2 dX11_copyRow_31
  · have c_7 : i_1.toInt < 5 := by have h := mt (c_le (x := 5) (y := i_1.toInt) rfl rfl).mpr c_7; omega
    refine lv_aload_n hx hb dX11_copyRow_9 rfl (lv_at hl 1 rfl) ?_
    refine lv_iload_n hx hb dX11_copyRow_10 rfl (lv_at hl 2 rfl) ?_
    refine lv_iload_n hx hb dX11_copyRow_11 rfl (lv_at hl 4 rfl) ?_
    refine lv_imul hx hb dX11_copyRow_12 ?_
    refine lv_topi (fun x_8 ex_8 => ?_)
    have tx_8 : x_8.toInt = 5 * i3.toInt := t_mul (x := 5) (y := i3.toInt) ex_8 rfl rfl (by omega) (by omega)
    refine lv_iload hx hb dX11_copyRow_13 (lv_at hl 0 rfl) ?_
    refine lv_iadd hx hb dX11_copyRow_15 ?_
    refine lv_topi (fun x_9 ex_9 => ?_)
    have tx_9 : x_9.toInt = x_8.toInt + i_1.toInt := t_add (x := x_8.toInt) (y := i_1.toInt) ex_9 rfl rfl (by omega) (by omega)
    refine lv_aload_n hx hb dX11_copyRow_16 rfl (lv_at hl 1 rfl) ?_
    refine lv_iload_n hx hb dX11_copyRow_17 rfl (lv_at hl 2 rfl) ?_
    refine lv_iload_n hx hb dX11_copyRow_18 rfl (lv_at hl 3 rfl) ?_
    refine lv_imul hx hb dX11_copyRow_19 ?_
    refine lv_topi (fun x_10 ex_10 => ?_)
    have tx_10 : x_10.toInt = 5 * i2.toInt := t_mul (x := 5) (y := i2.toInt) ex_10 rfl rfl (by omega) (by omega)
    refine lv_iload hx hb dX11_copyRow_20 (lv_at hl 0 rfl) ?_
    refine lv_iadd hx hb dX11_copyRow_22 ?_
    refine lv_topi (fun x_11 ex_11 => ?_)
    have tx_11 : x_11.toInt = x_10.toInt + i_1.toInt := t_add (x := x_10.toInt) (y := i_1.toInt) ex_11 rfl rfl (by omega) (by omega)
    refine va_iald (D := D) hx hb hK hP 0 0 rfl rfl (v_in (x := x_11.toInt) rfl (by omega) (by omega)) dX11_copyRow_23 ?_
    refine lv_topi (fun x_12 ex_12 => ?_)
    refine va_iast (D := D) hx hb hK hP hD hS 0 0 rfl rfl (v_in (x := x_9.toInt) rfl (by omega) (by omega)) dX11_copyRow_24 (fun H locs hP hD hS => ?_)
    obtain ⟨f_13, hf_13⟩ : ∃ g : Nat → Int32, g = upd f_2 x_9.toNatClampNeg x_12 := ⟨_, rfl⟩
    have hP : va_P D vwCl [(rw, .inl (T 0, 25, .inl (upd f_2 x_9.toNatClampNeg x_12)))] H := hP
    have hD : va_D A [(rw, .inl (T 0, 25, .inl (upd f_2 x_9.toNatClampNeg x_12)))] := hD
    rw [← hf_13] at hP hD
    obtain ⟨x_14, ex_14⟩ : ∃ y : Int32, y = i_1 + 1 := ⟨_, rfl⟩
    have tx_14 : x_14.toInt = i_1.toInt + 1 := t_add (x := i_1.toInt) (y := 1) ex_14 rfl rfl (by omega) (by omega)
    refine lv_iinc (v := x_14) (lv' := [(4, .int x_14), (0, .ref rw), (1, .int 5), (2, .int i2), (3, .int i3)]) hx hb dX11_copyRow_25 hl (k := 0) rfl (by rw [ex_14]; rfl) (by decide) rfl (fun ls hl => ?_)
    refine lv_goto (tgt := 3) hx hb dX11_copyRow_28 (by decide) ?_
    exact ih_6 (_, _, _, x_14, f_13) ⟨(show 0 ≤ x_14.toInt by omega), (show x_14.toInt ≤ 5 by omega), (show f_13 = cpR 5 i2.toInt.toNat i3.toInt.toNat x_14.toInt.toNat f by rw [hf_13, ex_12, c_5, tn (x := x_9) rfl, tn (x := x_11) rfl, show x_9.toInt.toNat = 5 * i3.toInt.toNat + i_1.toInt.toNat by omega, show x_11.toInt.toNat = 5 * i2.toInt.toNat + i_1.toInt.toNat by omega, show x_14.toInt.toNat = i_1.toInt.toNat + 1 by omega]; exact cpR_s (by omega) (by omega)), hP, hD, hS, lv_sub hl [0, 1, 2, 3, 4] rfl⟩ (show (5 - x_14.toInt).toNat < (5 - i_1.toInt).toNat by omega)

set_option maxHeartbeats 4000000 in
set_option maxRecDepth 100000 in
theorem c_X11_copyRow_15 (l : Launch) (D : va_G) (T : Nat → ClassId) (rw : Nat) (i2 i3 : Int32) (f : Nat → Int32) (sz : Nat) (h_i2 : 0 ≤ i2.toInt ∧ i2.toInt ≤ 4) (h_i3 : 0 ≤ i3.toInt ∧ i3.toInt ≤ 4) (hab : i2.toInt < i3.toInt ∨ i3.toInt < i2.toInt) : Met l yX11_copyRow (wM yX11_copyRow cX11_copyRow 5 none) ({ frames := 0, cells := 0, slots := 0, locals := 0 }) (va_Pc [.ref rw, .int 15, .int i2, .int i3] (pwM D T [(rw, .inl (T 0, 75, .inl f))] sz)) (va_Qv (fun (u : U5) => ((u.2.1 0) = cpR 15 i2.toInt.toNat i3.toInt.toNat 15 f)) (fun u t => pwE D (va_A [(rw, .inl (T 0, 75, .inl f))] sz) [(rw, .inl (T 0, 75, .inl (u.2.1 0)))] t) (va_A [(rw, .inl (T 0, 75, .inl f))] sz)) 0 0 (va_A [(rw, .inl (T 0, 75, .inl f))] sz) := by
  refine Met.ofW (cc := cX11_copyRow) (maxL := 5) (ret := none) (by decide) rfl ?_
  intro p e s m args below meth c s₁ B hml hv
  obtain ⟨rfl, hsz, hP, hC, hD0⟩ := hv
  have hx := B.exec
  have hb := B.bytes
  have hr := B.returns
  have hts : ∀ w ∈ gt, w.before _ s = true := fun w hw => atoms_spec (ws := (wM yX11_copyRow cX11_copyRow 5 none)) B.pre w (List.mem_cons_of_mem _ hw)
  have hown : s.vm.findClass RX11 = some m.cls := findClass_of_methodNamed B.named
  have hlocks := B.notSynchronized
  have hK := hC.1
  subst hsz
  have hD := hD0.self (sz := s.heap.size)
  generalize hAe : va_A [(rw, .inl (T 0, 75, .inl f))] s.heap.size = A at hD ⊢
  have hA : ∀ q : Nat, s.heap.size ≤ q → A q := fun q h => by rw [← hAe]; exact Or.inr h
  have hS : va_S A s.heap s.heap [] := va_S.rf
  have hl := lv_entry ([.ref rw, .int 15, .int i2, .int i3]) (n := 5) (Nat.le_of_ble_eq_true rfl)
  rw [lg_entry_eq]
  generalize (lg_sl ([.ref rw, .int 15, .int i2, .int i3]) ++ List.replicate (5 - (lg_sl ([.ref rw, .int 15, .int i2, .int i3])).length) Slot.unset).toArray = ls at hl ⊢
  have hl : lv_has ls 5 [(0, .ref rw), (1, .int 15), (2, .int i2), (3, .int i3)] := hl
  refine lv_iconst (v := 0) hx hb dX11_copyRow_0 (by decide) ?_
  refine lv_istore (lv' := [(4, .int 0), (0, .ref rw), (1, .int 15), (2, .int i2), (3, .int i3)]) hx hb dX11_copyRow_1 hl (by decide) rfl (fun ls hl => ?_)
  refine lp_ind (fun (a : Heap × List Loc × Array Slot × (Int32) × (Nat → Int32)) => match a with | (H, locs, ls, i_1, f_2) => W p l e _ s m _ below meth c H locs 0 0 _ (F0 m 3 ls [])) (fun (a : Heap × List Loc × Array Slot × (Int32) × (Nat → Int32)) => match a with | (H, locs, ls, i_1, f_2) => 0 ≤ i_1.toInt ∧ i_1.toInt ≤ 15 ∧ f_2 = cpR 15 i2.toInt.toNat i3.toInt.toNat i_1.toInt.toNat f ∧ va_P D vwCl [(rw, .inl (T 0, 75, .inl f_2))] H ∧ va_D A [(rw, .inl (T 0, 75, .inl f_2))] ∧ va_S A s.heap H locs ∧ lv_has ls 5 [(4, .int i_1), (0, .ref rw), (1, .int 15), (2, .int i2), (3, .int i3)]) (fun (a : Heap × List Loc × Array Slot × (Int32) × (Nat → Int32)) => match a with | (H, locs, ls, i_1, f_2) => (15 - i_1.toInt).toNat) ?_ (_, _, ls, (0 : Int32), f) ⟨(show 0 ≤ (0 : Int) by omega), (show (0 : Int) ≤ 15 by omega), (show f = cpR 15 i2.toInt.toNat i3.toInt.toNat 0 f from cpR_z.symm), hP, hD, hS, lv_sub hl [0, 1, 2, 3, 4] rfl⟩
  rintro ⟨H, locs, ls, i_1, f_2⟩ ⟨c_3, c_4, c_5, hP, hD, hS, hl⟩ ih_6
  refine lv_iload hx hb dX11_copyRow_3 (lv_at hl 0 rfl) ?_
  refine lv_iload_n hx hb dX11_copyRow_5 rfl (lv_at hl 2 rfl) ?_
  refine lv_icmp_ge (tgt := 31) hx hb dX11_copyRow_6 (by decide) (fun c_7 => ?_) (fun c_7 => ?_)
  · have c_7 : 15 ≤ i_1.toInt := (c_le (x := 15) (y := i_1.toInt) rfl rfl).mp c_7
    have hP9 := hP.sub (ws' := [(rw, .inl (T 0, 75, .inl f_2))]) [0] rfl
    have hD9 := hD.sub (ws' := [(rw, .inl (T 0, 75, .inl f_2))]) [0] (by decide) rfl
    exact W.vret hx hb hr (fun t ht hW => ⟨⟨(fun k => ([] : List (Nat)).getD k 0, fun k => ([f_2] : List (Nat → Int32)).getD k (fun _ => 0), fun k => ([] : List (Nat → Int64)).getD k (fun _ => 0), fun k => ([] : List (Int32)).getD k 0, fun k => ([] : List (Int64)).getD k 0), rfl, (show f_2 = cpR 15 i2.toInt.toNat i3.toInt.toNat 15 f by rw [c_5, show i_1.toInt.toNat = 15 by omega]), by rw [ht]; exact hP9, hD9⟩, hS.F ht⟩) hS.2.2 dX11_copyRow_31
  · have c_7 : i_1.toInt < 15 := by have h := mt (c_le (x := 15) (y := i_1.toInt) rfl rfl).mpr c_7; omega
    refine lv_aload_n hx hb dX11_copyRow_9 rfl (lv_at hl 1 rfl) ?_
    refine lv_iload_n hx hb dX11_copyRow_10 rfl (lv_at hl 2 rfl) ?_
    refine lv_iload_n hx hb dX11_copyRow_11 rfl (lv_at hl 4 rfl) ?_
    refine lv_imul hx hb dX11_copyRow_12 ?_
    refine lv_topi (fun x_8 ex_8 => ?_)
    have tx_8 : x_8.toInt = 15 * i3.toInt := t_mul (x := 15) (y := i3.toInt) ex_8 rfl rfl (by omega) (by omega)
    refine lv_iload hx hb dX11_copyRow_13 (lv_at hl 0 rfl) ?_
    refine lv_iadd hx hb dX11_copyRow_15 ?_
    refine lv_topi (fun x_9 ex_9 => ?_)
    have tx_9 : x_9.toInt = x_8.toInt + i_1.toInt := t_add (x := x_8.toInt) (y := i_1.toInt) ex_9 rfl rfl (by omega) (by omega)
    refine lv_aload_n hx hb dX11_copyRow_16 rfl (lv_at hl 1 rfl) ?_
    refine lv_iload_n hx hb dX11_copyRow_17 rfl (lv_at hl 2 rfl) ?_
    refine lv_iload_n hx hb dX11_copyRow_18 rfl (lv_at hl 3 rfl) ?_
    refine lv_imul hx hb dX11_copyRow_19 ?_
    refine lv_topi (fun x_10 ex_10 => ?_)
    have tx_10 : x_10.toInt = 15 * i2.toInt := t_mul (x := 15) (y := i2.toInt) ex_10 rfl rfl (by omega) (by omega)
    refine lv_iload hx hb dX11_copyRow_20 (lv_at hl 0 rfl) ?_
    refine lv_iadd hx hb dX11_copyRow_22 ?_
    refine lv_topi (fun x_11 ex_11 => ?_)
    have tx_11 : x_11.toInt = x_10.toInt + i_1.toInt := t_add (x := x_10.toInt) (y := i_1.toInt) ex_11 rfl rfl (by omega) (by omega)
    refine va_iald (D := D) hx hb hK hP 0 0 rfl rfl (v_in (x := x_11.toInt) rfl (by omega) (by omega)) dX11_copyRow_23 ?_
    refine lv_topi (fun x_12 ex_12 => ?_)
    refine va_iast (D := D) hx hb hK hP hD hS 0 0 rfl rfl (v_in (x := x_9.toInt) rfl (by omega) (by omega)) dX11_copyRow_24 (fun H locs hP hD hS => ?_)
    obtain ⟨f_13, hf_13⟩ : ∃ g : Nat → Int32, g = upd f_2 x_9.toNatClampNeg x_12 := ⟨_, rfl⟩
    have hP : va_P D vwCl [(rw, .inl (T 0, 75, .inl (upd f_2 x_9.toNatClampNeg x_12)))] H := hP
    have hD : va_D A [(rw, .inl (T 0, 75, .inl (upd f_2 x_9.toNatClampNeg x_12)))] := hD
    rw [← hf_13] at hP hD
    obtain ⟨x_14, ex_14⟩ : ∃ y : Int32, y = i_1 + 1 := ⟨_, rfl⟩
    have tx_14 : x_14.toInt = i_1.toInt + 1 := t_add (x := i_1.toInt) (y := 1) ex_14 rfl rfl (by omega) (by omega)
    refine lv_iinc (v := x_14) (lv' := [(4, .int x_14), (0, .ref rw), (1, .int 15), (2, .int i2), (3, .int i3)]) hx hb dX11_copyRow_25 hl (k := 0) rfl (by rw [ex_14]; rfl) (by decide) rfl (fun ls hl => ?_)
    refine lv_goto (tgt := 3) hx hb dX11_copyRow_28 (by decide) ?_
    exact ih_6 (_, _, _, x_14, f_13) ⟨(show 0 ≤ x_14.toInt by omega), (show x_14.toInt ≤ 15 by omega), (show f_13 = cpR 15 i2.toInt.toNat i3.toInt.toNat x_14.toInt.toNat f by rw [hf_13, ex_12, c_5, tn (x := x_9) rfl, tn (x := x_11) rfl, show x_9.toInt.toNat = 15 * i3.toInt.toNat + i_1.toInt.toNat by omega, show x_11.toInt.toNat = 15 * i2.toInt.toNat + i_1.toInt.toNat by omega, show x_14.toInt.toNat = i_1.toInt.toNat + 1 by omega]; exact cpR_s (by omega) (by omega)), hP, hD, hS, lv_sub hl [0, 1, 2, 3, 4] rfl⟩ (show (15 - x_14.toInt).toNat < (15 - i_1.toInt).toNat by omega)

set_option maxHeartbeats 4000000 in
set_option maxRecDepth 100000 in
theorem c_X11_copyRow_16 (l : Launch) (D : va_G) (T : Nat → ClassId) (rw : Nat) (i2 i3 : Int32) (f : Nat → Int32) (sz : Nat) (h_i2 : 0 ≤ i2.toInt ∧ i2.toInt ≤ 4) (h_i3 : 0 ≤ i3.toInt ∧ i3.toInt ≤ 4) (hab : i2.toInt < i3.toInt ∨ i3.toInt < i2.toInt) : Met l yX11_copyRow (wM yX11_copyRow cX11_copyRow 5 none) ({ frames := 0, cells := 0, slots := 0, locals := 0 }) (va_Pc [.ref rw, .int 16, .int i2, .int i3] (pwM D T [(rw, .inl (T 0, 80, .inl f))] sz)) (va_Qv (fun (u : U5) => ((u.2.1 0) = cpR 16 i2.toInt.toNat i3.toInt.toNat 16 f)) (fun u t => pwE D (va_A [(rw, .inl (T 0, 80, .inl f))] sz) [(rw, .inl (T 0, 80, .inl (u.2.1 0)))] t) (va_A [(rw, .inl (T 0, 80, .inl f))] sz)) 0 0 (va_A [(rw, .inl (T 0, 80, .inl f))] sz) := by
  refine Met.ofW (cc := cX11_copyRow) (maxL := 5) (ret := none) (by decide) rfl ?_
  intro p e s m args below meth c s₁ B hml hv
  obtain ⟨rfl, hsz, hP, hC, hD0⟩ := hv
  have hx := B.exec
  have hb := B.bytes
  have hr := B.returns
  have hts : ∀ w ∈ gt, w.before _ s = true := fun w hw => atoms_spec (ws := (wM yX11_copyRow cX11_copyRow 5 none)) B.pre w (List.mem_cons_of_mem _ hw)
  have hown : s.vm.findClass RX11 = some m.cls := findClass_of_methodNamed B.named
  have hlocks := B.notSynchronized
  have hK := hC.1
  subst hsz
  have hD := hD0.self (sz := s.heap.size)
  generalize hAe : va_A [(rw, .inl (T 0, 80, .inl f))] s.heap.size = A at hD ⊢
  have hA : ∀ q : Nat, s.heap.size ≤ q → A q := fun q h => by rw [← hAe]; exact Or.inr h
  have hS : va_S A s.heap s.heap [] := va_S.rf
  have hl := lv_entry ([.ref rw, .int 16, .int i2, .int i3]) (n := 5) (Nat.le_of_ble_eq_true rfl)
  rw [lg_entry_eq]
  generalize (lg_sl ([.ref rw, .int 16, .int i2, .int i3]) ++ List.replicate (5 - (lg_sl ([.ref rw, .int 16, .int i2, .int i3])).length) Slot.unset).toArray = ls at hl ⊢
  have hl : lv_has ls 5 [(0, .ref rw), (1, .int 16), (2, .int i2), (3, .int i3)] := hl
  refine lv_iconst (v := 0) hx hb dX11_copyRow_0 (by decide) ?_
  refine lv_istore (lv' := [(4, .int 0), (0, .ref rw), (1, .int 16), (2, .int i2), (3, .int i3)]) hx hb dX11_copyRow_1 hl (by decide) rfl (fun ls hl => ?_)
  refine lp_ind (fun (a : Heap × List Loc × Array Slot × (Int32) × (Nat → Int32)) => match a with | (H, locs, ls, i_1, f_2) => W p l e _ s m _ below meth c H locs 0 0 _ (F0 m 3 ls [])) (fun (a : Heap × List Loc × Array Slot × (Int32) × (Nat → Int32)) => match a with | (H, locs, ls, i_1, f_2) => 0 ≤ i_1.toInt ∧ i_1.toInt ≤ 16 ∧ f_2 = cpR 16 i2.toInt.toNat i3.toInt.toNat i_1.toInt.toNat f ∧ va_P D vwCl [(rw, .inl (T 0, 80, .inl f_2))] H ∧ va_D A [(rw, .inl (T 0, 80, .inl f_2))] ∧ va_S A s.heap H locs ∧ lv_has ls 5 [(4, .int i_1), (0, .ref rw), (1, .int 16), (2, .int i2), (3, .int i3)]) (fun (a : Heap × List Loc × Array Slot × (Int32) × (Nat → Int32)) => match a with | (H, locs, ls, i_1, f_2) => (16 - i_1.toInt).toNat) ?_ (_, _, ls, (0 : Int32), f) ⟨(show 0 ≤ (0 : Int) by omega), (show (0 : Int) ≤ 16 by omega), (show f = cpR 16 i2.toInt.toNat i3.toInt.toNat 0 f from cpR_z.symm), hP, hD, hS, lv_sub hl [0, 1, 2, 3, 4] rfl⟩
  rintro ⟨H, locs, ls, i_1, f_2⟩ ⟨c_3, c_4, c_5, hP, hD, hS, hl⟩ ih_6
  refine lv_iload hx hb dX11_copyRow_3 (lv_at hl 0 rfl) ?_
  refine lv_iload_n hx hb dX11_copyRow_5 rfl (lv_at hl 2 rfl) ?_
  refine lv_icmp_ge (tgt := 31) hx hb dX11_copyRow_6 (by decide) (fun c_7 => ?_) (fun c_7 => ?_)
  · have c_7 : 16 ≤ i_1.toInt := (c_le (x := 16) (y := i_1.toInt) rfl rfl).mp c_7
    have hP9 := hP.sub (ws' := [(rw, .inl (T 0, 80, .inl f_2))]) [0] rfl
    have hD9 := hD.sub (ws' := [(rw, .inl (T 0, 80, .inl f_2))]) [0] (by decide) rfl
    exact W.vret hx hb hr (fun t ht hW => ⟨⟨(fun k => ([] : List (Nat)).getD k 0, fun k => ([f_2] : List (Nat → Int32)).getD k (fun _ => 0), fun k => ([] : List (Nat → Int64)).getD k (fun _ => 0), fun k => ([] : List (Int32)).getD k 0, fun k => ([] : List (Int64)).getD k 0), rfl, (show f_2 = cpR 16 i2.toInt.toNat i3.toInt.toNat 16 f by rw [c_5, show i_1.toInt.toNat = 16 by omega]), by rw [ht]; exact hP9, hD9⟩, hS.F ht⟩) hS.2.2 dX11_copyRow_31
  · have c_7 : i_1.toInt < 16 := by have h := mt (c_le (x := 16) (y := i_1.toInt) rfl rfl).mpr c_7; omega
    refine lv_aload_n hx hb dX11_copyRow_9 rfl (lv_at hl 1 rfl) ?_
    refine lv_iload_n hx hb dX11_copyRow_10 rfl (lv_at hl 2 rfl) ?_
    refine lv_iload_n hx hb dX11_copyRow_11 rfl (lv_at hl 4 rfl) ?_
    refine lv_imul hx hb dX11_copyRow_12 ?_
    refine lv_topi (fun x_8 ex_8 => ?_)
    have tx_8 : x_8.toInt = 16 * i3.toInt := t_mul (x := 16) (y := i3.toInt) ex_8 rfl rfl (by omega) (by omega)
    refine lv_iload hx hb dX11_copyRow_13 (lv_at hl 0 rfl) ?_
    refine lv_iadd hx hb dX11_copyRow_15 ?_
    refine lv_topi (fun x_9 ex_9 => ?_)
    have tx_9 : x_9.toInt = x_8.toInt + i_1.toInt := t_add (x := x_8.toInt) (y := i_1.toInt) ex_9 rfl rfl (by omega) (by omega)
    refine lv_aload_n hx hb dX11_copyRow_16 rfl (lv_at hl 1 rfl) ?_
    refine lv_iload_n hx hb dX11_copyRow_17 rfl (lv_at hl 2 rfl) ?_
    refine lv_iload_n hx hb dX11_copyRow_18 rfl (lv_at hl 3 rfl) ?_
    refine lv_imul hx hb dX11_copyRow_19 ?_
    refine lv_topi (fun x_10 ex_10 => ?_)
    have tx_10 : x_10.toInt = 16 * i2.toInt := t_mul (x := 16) (y := i2.toInt) ex_10 rfl rfl (by omega) (by omega)
    refine lv_iload hx hb dX11_copyRow_20 (lv_at hl 0 rfl) ?_
    refine lv_iadd hx hb dX11_copyRow_22 ?_
    refine lv_topi (fun x_11 ex_11 => ?_)
    have tx_11 : x_11.toInt = x_10.toInt + i_1.toInt := t_add (x := x_10.toInt) (y := i_1.toInt) ex_11 rfl rfl (by omega) (by omega)
    refine va_iald (D := D) hx hb hK hP 0 0 rfl rfl (v_in (x := x_11.toInt) rfl (by omega) (by omega)) dX11_copyRow_23 ?_
    refine lv_topi (fun x_12 ex_12 => ?_)
    refine va_iast (D := D) hx hb hK hP hD hS 0 0 rfl rfl (v_in (x := x_9.toInt) rfl (by omega) (by omega)) dX11_copyRow_24 (fun H locs hP hD hS => ?_)
    obtain ⟨f_13, hf_13⟩ : ∃ g : Nat → Int32, g = upd f_2 x_9.toNatClampNeg x_12 := ⟨_, rfl⟩
    have hP : va_P D vwCl [(rw, .inl (T 0, 80, .inl (upd f_2 x_9.toNatClampNeg x_12)))] H := hP
    have hD : va_D A [(rw, .inl (T 0, 80, .inl (upd f_2 x_9.toNatClampNeg x_12)))] := hD
    rw [← hf_13] at hP hD
    obtain ⟨x_14, ex_14⟩ : ∃ y : Int32, y = i_1 + 1 := ⟨_, rfl⟩
    have tx_14 : x_14.toInt = i_1.toInt + 1 := t_add (x := i_1.toInt) (y := 1) ex_14 rfl rfl (by omega) (by omega)
    refine lv_iinc (v := x_14) (lv' := [(4, .int x_14), (0, .ref rw), (1, .int 16), (2, .int i2), (3, .int i3)]) hx hb dX11_copyRow_25 hl (k := 0) rfl (by rw [ex_14]; rfl) (by decide) rfl (fun ls hl => ?_)
    refine lv_goto (tgt := 3) hx hb dX11_copyRow_28 (by decide) ?_
    exact ih_6 (_, _, _, x_14, f_13) ⟨(show 0 ≤ x_14.toInt by omega), (show x_14.toInt ≤ 16 by omega), (show f_13 = cpR 16 i2.toInt.toNat i3.toInt.toNat x_14.toInt.toNat f by rw [hf_13, ex_12, c_5, tn (x := x_9) rfl, tn (x := x_11) rfl, show x_9.toInt.toNat = 16 * i3.toInt.toNat + i_1.toInt.toNat by omega, show x_11.toInt.toNat = 16 * i2.toInt.toNat + i_1.toInt.toNat by omega, show x_14.toInt.toNat = i_1.toInt.toNat + 1 by omega]; exact cpR_s (by omega) (by omega)), hP, hD, hS, lv_sub hl [0, 1, 2, 3, 4] rfl⟩ (show (16 - x_14.toInt).toNat < (16 - i_1.toInt).toNat by omega)

set_option maxHeartbeats 4000000 in
set_option maxRecDepth 100000 in
theorem c_X11_copyRow_80 (l : Launch) (D : va_G) (T : Nat → ClassId) (rw : Nat) (i2 i3 : Int32) (f : Nat → Int32) (sz : Nat) (h_i2 : 0 ≤ i2.toInt ∧ i2.toInt ≤ 4) (h_i3 : 0 ≤ i3.toInt ∧ i3.toInt ≤ 4) (hab : i2.toInt < i3.toInt ∨ i3.toInt < i2.toInt) : Met l yX11_copyRow (wM yX11_copyRow cX11_copyRow 5 none) ({ frames := 0, cells := 0, slots := 0, locals := 0 }) (va_Pc [.ref rw, .int 80, .int i2, .int i3] (pwM D T [(rw, .inl (T 0, 400, .inl f))] sz)) (va_Qv (fun (u : U5) => ((u.2.1 0) = cpR 80 i2.toInt.toNat i3.toInt.toNat 80 f)) (fun u t => pwE D (va_A [(rw, .inl (T 0, 400, .inl f))] sz) [(rw, .inl (T 0, 400, .inl (u.2.1 0)))] t) (va_A [(rw, .inl (T 0, 400, .inl f))] sz)) 0 0 (va_A [(rw, .inl (T 0, 400, .inl f))] sz) := by
  refine Met.ofW (cc := cX11_copyRow) (maxL := 5) (ret := none) (by decide) rfl ?_
  intro p e s m args below meth c s₁ B hml hv
  obtain ⟨rfl, hsz, hP, hC, hD0⟩ := hv
  have hx := B.exec
  have hb := B.bytes
  have hr := B.returns
  have hts : ∀ w ∈ gt, w.before _ s = true := fun w hw => atoms_spec (ws := (wM yX11_copyRow cX11_copyRow 5 none)) B.pre w (List.mem_cons_of_mem _ hw)
  have hown : s.vm.findClass RX11 = some m.cls := findClass_of_methodNamed B.named
  have hlocks := B.notSynchronized
  have hK := hC.1
  subst hsz
  have hD := hD0.self (sz := s.heap.size)
  generalize hAe : va_A [(rw, .inl (T 0, 400, .inl f))] s.heap.size = A at hD ⊢
  have hA : ∀ q : Nat, s.heap.size ≤ q → A q := fun q h => by rw [← hAe]; exact Or.inr h
  have hS : va_S A s.heap s.heap [] := va_S.rf
  have hl := lv_entry ([.ref rw, .int 80, .int i2, .int i3]) (n := 5) (Nat.le_of_ble_eq_true rfl)
  rw [lg_entry_eq]
  generalize (lg_sl ([.ref rw, .int 80, .int i2, .int i3]) ++ List.replicate (5 - (lg_sl ([.ref rw, .int 80, .int i2, .int i3])).length) Slot.unset).toArray = ls at hl ⊢
  have hl : lv_has ls 5 [(0, .ref rw), (1, .int 80), (2, .int i2), (3, .int i3)] := hl
  refine lv_iconst (v := 0) hx hb dX11_copyRow_0 (by decide) ?_
  refine lv_istore (lv' := [(4, .int 0), (0, .ref rw), (1, .int 80), (2, .int i2), (3, .int i3)]) hx hb dX11_copyRow_1 hl (by decide) rfl (fun ls hl => ?_)
  refine lp_ind (fun (a : Heap × List Loc × Array Slot × (Int32) × (Nat → Int32)) => match a with | (H, locs, ls, i_1, f_2) => W p l e _ s m _ below meth c H locs 0 0 _ (F0 m 3 ls [])) (fun (a : Heap × List Loc × Array Slot × (Int32) × (Nat → Int32)) => match a with | (H, locs, ls, i_1, f_2) => 0 ≤ i_1.toInt ∧ i_1.toInt ≤ 80 ∧ f_2 = cpR 80 i2.toInt.toNat i3.toInt.toNat i_1.toInt.toNat f ∧ va_P D vwCl [(rw, .inl (T 0, 400, .inl f_2))] H ∧ va_D A [(rw, .inl (T 0, 400, .inl f_2))] ∧ va_S A s.heap H locs ∧ lv_has ls 5 [(4, .int i_1), (0, .ref rw), (1, .int 80), (2, .int i2), (3, .int i3)]) (fun (a : Heap × List Loc × Array Slot × (Int32) × (Nat → Int32)) => match a with | (H, locs, ls, i_1, f_2) => (80 - i_1.toInt).toNat) ?_ (_, _, ls, (0 : Int32), f) ⟨(show 0 ≤ (0 : Int) by omega), (show (0 : Int) ≤ 80 by omega), (show f = cpR 80 i2.toInt.toNat i3.toInt.toNat 0 f from cpR_z.symm), hP, hD, hS, lv_sub hl [0, 1, 2, 3, 4] rfl⟩
  rintro ⟨H, locs, ls, i_1, f_2⟩ ⟨c_3, c_4, c_5, hP, hD, hS, hl⟩ ih_6
  refine lv_iload hx hb dX11_copyRow_3 (lv_at hl 0 rfl) ?_
  refine lv_iload_n hx hb dX11_copyRow_5 rfl (lv_at hl 2 rfl) ?_
  refine lv_icmp_ge (tgt := 31) hx hb dX11_copyRow_6 (by decide) (fun c_7 => ?_) (fun c_7 => ?_)
  · have c_7 : 80 ≤ i_1.toInt := (c_le (x := 80) (y := i_1.toInt) rfl rfl).mp c_7
    have hP9 := hP.sub (ws' := [(rw, .inl (T 0, 400, .inl f_2))]) [0] rfl
    have hD9 := hD.sub (ws' := [(rw, .inl (T 0, 400, .inl f_2))]) [0] (by decide) rfl
    exact W.vret hx hb hr (fun t ht hW => ⟨⟨(fun k => ([] : List (Nat)).getD k 0, fun k => ([f_2] : List (Nat → Int32)).getD k (fun _ => 0), fun k => ([] : List (Nat → Int64)).getD k (fun _ => 0), fun k => ([] : List (Int32)).getD k 0, fun k => ([] : List (Int64)).getD k 0), rfl, (show f_2 = cpR 80 i2.toInt.toNat i3.toInt.toNat 80 f by rw [c_5, show i_1.toInt.toNat = 80 by omega]), by rw [ht]; exact hP9, hD9⟩, hS.F ht⟩) hS.2.2 dX11_copyRow_31
  · have c_7 : i_1.toInt < 80 := by have h := mt (c_le (x := 80) (y := i_1.toInt) rfl rfl).mpr c_7; omega
    refine lv_aload_n hx hb dX11_copyRow_9 rfl (lv_at hl 1 rfl) ?_
    refine lv_iload_n hx hb dX11_copyRow_10 rfl (lv_at hl 2 rfl) ?_
    refine lv_iload_n hx hb dX11_copyRow_11 rfl (lv_at hl 4 rfl) ?_
    refine lv_imul hx hb dX11_copyRow_12 ?_
    refine lv_topi (fun x_8 ex_8 => ?_)
    have tx_8 : x_8.toInt = 80 * i3.toInt := t_mul (x := 80) (y := i3.toInt) ex_8 rfl rfl (by omega) (by omega)
    refine lv_iload hx hb dX11_copyRow_13 (lv_at hl 0 rfl) ?_
    refine lv_iadd hx hb dX11_copyRow_15 ?_
    refine lv_topi (fun x_9 ex_9 => ?_)
    have tx_9 : x_9.toInt = x_8.toInt + i_1.toInt := t_add (x := x_8.toInt) (y := i_1.toInt) ex_9 rfl rfl (by omega) (by omega)
    refine lv_aload_n hx hb dX11_copyRow_16 rfl (lv_at hl 1 rfl) ?_
    refine lv_iload_n hx hb dX11_copyRow_17 rfl (lv_at hl 2 rfl) ?_
    refine lv_iload_n hx hb dX11_copyRow_18 rfl (lv_at hl 3 rfl) ?_
    refine lv_imul hx hb dX11_copyRow_19 ?_
    refine lv_topi (fun x_10 ex_10 => ?_)
    have tx_10 : x_10.toInt = 80 * i2.toInt := t_mul (x := 80) (y := i2.toInt) ex_10 rfl rfl (by omega) (by omega)
    refine lv_iload hx hb dX11_copyRow_20 (lv_at hl 0 rfl) ?_
    refine lv_iadd hx hb dX11_copyRow_22 ?_
    refine lv_topi (fun x_11 ex_11 => ?_)
    have tx_11 : x_11.toInt = x_10.toInt + i_1.toInt := t_add (x := x_10.toInt) (y := i_1.toInt) ex_11 rfl rfl (by omega) (by omega)
    refine va_iald (D := D) hx hb hK hP 0 0 rfl rfl (v_in (x := x_11.toInt) rfl (by omega) (by omega)) dX11_copyRow_23 ?_
    refine lv_topi (fun x_12 ex_12 => ?_)
    refine va_iast (D := D) hx hb hK hP hD hS 0 0 rfl rfl (v_in (x := x_9.toInt) rfl (by omega) (by omega)) dX11_copyRow_24 (fun H locs hP hD hS => ?_)
    obtain ⟨f_13, hf_13⟩ : ∃ g : Nat → Int32, g = upd f_2 x_9.toNatClampNeg x_12 := ⟨_, rfl⟩
    have hP : va_P D vwCl [(rw, .inl (T 0, 400, .inl (upd f_2 x_9.toNatClampNeg x_12)))] H := hP
    have hD : va_D A [(rw, .inl (T 0, 400, .inl (upd f_2 x_9.toNatClampNeg x_12)))] := hD
    rw [← hf_13] at hP hD
    obtain ⟨x_14, ex_14⟩ : ∃ y : Int32, y = i_1 + 1 := ⟨_, rfl⟩
    have tx_14 : x_14.toInt = i_1.toInt + 1 := t_add (x := i_1.toInt) (y := 1) ex_14 rfl rfl (by omega) (by omega)
    refine lv_iinc (v := x_14) (lv' := [(4, .int x_14), (0, .ref rw), (1, .int 80), (2, .int i2), (3, .int i3)]) hx hb dX11_copyRow_25 hl (k := 0) rfl (by rw [ex_14]; rfl) (by decide) rfl (fun ls hl => ?_)
    refine lv_goto (tgt := 3) hx hb dX11_copyRow_28 (by decide) ?_
    exact ih_6 (_, _, _, x_14, f_13) ⟨(show 0 ≤ x_14.toInt by omega), (show x_14.toInt ≤ 80 by omega), (show f_13 = cpR 80 i2.toInt.toNat i3.toInt.toNat x_14.toInt.toNat f by rw [hf_13, ex_12, c_5, tn (x := x_9) rfl, tn (x := x_11) rfl, show x_9.toInt.toNat = 80 * i3.toInt.toNat + i_1.toInt.toNat by omega, show x_11.toInt.toNat = 80 * i2.toInt.toNat + i_1.toInt.toNat by omega, show x_14.toInt.toNat = i_1.toInt.toNat + 1 by omega]; exact cpR_s (by omega) (by omega)), hP, hD, hS, lv_sub hl [0, 1, 2, 3, 4] rfl⟩ (show (80 - x_14.toInt).toNat < (80 - i_1.toInt).toNat by omega)

set_option maxHeartbeats 4000000 in
set_option maxRecDepth 100000 in
theorem c_X11_copyRow_100 (l : Launch) (D : va_G) (T : Nat → ClassId) (rw : Nat) (i2 i3 : Int32) (f : Nat → Int32) (sz : Nat) (h_i2 : 0 ≤ i2.toInt ∧ i2.toInt ≤ 4) (h_i3 : 0 ≤ i3.toInt ∧ i3.toInt ≤ 4) (hab : i2.toInt < i3.toInt ∨ i3.toInt < i2.toInt) : Met l yX11_copyRow (wM yX11_copyRow cX11_copyRow 5 none) ({ frames := 0, cells := 0, slots := 0, locals := 0 }) (va_Pc [.ref rw, .int 100, .int i2, .int i3] (pwM D T [(rw, .inl (T 0, 500, .inl f))] sz)) (va_Qv (fun (u : U5) => ((u.2.1 0) = cpR 100 i2.toInt.toNat i3.toInt.toNat 100 f)) (fun u t => pwE D (va_A [(rw, .inl (T 0, 500, .inl f))] sz) [(rw, .inl (T 0, 500, .inl (u.2.1 0)))] t) (va_A [(rw, .inl (T 0, 500, .inl f))] sz)) 0 0 (va_A [(rw, .inl (T 0, 500, .inl f))] sz) := by
  refine Met.ofW (cc := cX11_copyRow) (maxL := 5) (ret := none) (by decide) rfl ?_
  intro p e s m args below meth c s₁ B hml hv
  obtain ⟨rfl, hsz, hP, hC, hD0⟩ := hv
  have hx := B.exec
  have hb := B.bytes
  have hr := B.returns
  have hts : ∀ w ∈ gt, w.before _ s = true := fun w hw => atoms_spec (ws := (wM yX11_copyRow cX11_copyRow 5 none)) B.pre w (List.mem_cons_of_mem _ hw)
  have hown : s.vm.findClass RX11 = some m.cls := findClass_of_methodNamed B.named
  have hlocks := B.notSynchronized
  have hK := hC.1
  subst hsz
  have hD := hD0.self (sz := s.heap.size)
  generalize hAe : va_A [(rw, .inl (T 0, 500, .inl f))] s.heap.size = A at hD ⊢
  have hA : ∀ q : Nat, s.heap.size ≤ q → A q := fun q h => by rw [← hAe]; exact Or.inr h
  have hS : va_S A s.heap s.heap [] := va_S.rf
  have hl := lv_entry ([.ref rw, .int 100, .int i2, .int i3]) (n := 5) (Nat.le_of_ble_eq_true rfl)
  rw [lg_entry_eq]
  generalize (lg_sl ([.ref rw, .int 100, .int i2, .int i3]) ++ List.replicate (5 - (lg_sl ([.ref rw, .int 100, .int i2, .int i3])).length) Slot.unset).toArray = ls at hl ⊢
  have hl : lv_has ls 5 [(0, .ref rw), (1, .int 100), (2, .int i2), (3, .int i3)] := hl
  refine lv_iconst (v := 0) hx hb dX11_copyRow_0 (by decide) ?_
  refine lv_istore (lv' := [(4, .int 0), (0, .ref rw), (1, .int 100), (2, .int i2), (3, .int i3)]) hx hb dX11_copyRow_1 hl (by decide) rfl (fun ls hl => ?_)
  refine lp_ind (fun (a : Heap × List Loc × Array Slot × (Int32) × (Nat → Int32)) => match a with | (H, locs, ls, i_1, f_2) => W p l e _ s m _ below meth c H locs 0 0 _ (F0 m 3 ls [])) (fun (a : Heap × List Loc × Array Slot × (Int32) × (Nat → Int32)) => match a with | (H, locs, ls, i_1, f_2) => 0 ≤ i_1.toInt ∧ i_1.toInt ≤ 100 ∧ f_2 = cpR 100 i2.toInt.toNat i3.toInt.toNat i_1.toInt.toNat f ∧ va_P D vwCl [(rw, .inl (T 0, 500, .inl f_2))] H ∧ va_D A [(rw, .inl (T 0, 500, .inl f_2))] ∧ va_S A s.heap H locs ∧ lv_has ls 5 [(4, .int i_1), (0, .ref rw), (1, .int 100), (2, .int i2), (3, .int i3)]) (fun (a : Heap × List Loc × Array Slot × (Int32) × (Nat → Int32)) => match a with | (H, locs, ls, i_1, f_2) => (100 - i_1.toInt).toNat) ?_ (_, _, ls, (0 : Int32), f) ⟨(show 0 ≤ (0 : Int) by omega), (show (0 : Int) ≤ 100 by omega), (show f = cpR 100 i2.toInt.toNat i3.toInt.toNat 0 f from cpR_z.symm), hP, hD, hS, lv_sub hl [0, 1, 2, 3, 4] rfl⟩
  rintro ⟨H, locs, ls, i_1, f_2⟩ ⟨c_3, c_4, c_5, hP, hD, hS, hl⟩ ih_6
  refine lv_iload hx hb dX11_copyRow_3 (lv_at hl 0 rfl) ?_
  refine lv_iload_n hx hb dX11_copyRow_5 rfl (lv_at hl 2 rfl) ?_
  refine lv_icmp_ge (tgt := 31) hx hb dX11_copyRow_6 (by decide) (fun c_7 => ?_) (fun c_7 => ?_)
  · have c_7 : 100 ≤ i_1.toInt := (c_le (x := 100) (y := i_1.toInt) rfl rfl).mp c_7
    have hP9 := hP.sub (ws' := [(rw, .inl (T 0, 500, .inl f_2))]) [0] rfl
    have hD9 := hD.sub (ws' := [(rw, .inl (T 0, 500, .inl f_2))]) [0] (by decide) rfl
    exact W.vret hx hb hr (fun t ht hW => ⟨⟨(fun k => ([] : List (Nat)).getD k 0, fun k => ([f_2] : List (Nat → Int32)).getD k (fun _ => 0), fun k => ([] : List (Nat → Int64)).getD k (fun _ => 0), fun k => ([] : List (Int32)).getD k 0, fun k => ([] : List (Int64)).getD k 0), rfl, (show f_2 = cpR 100 i2.toInt.toNat i3.toInt.toNat 100 f by rw [c_5, show i_1.toInt.toNat = 100 by omega]), by rw [ht]; exact hP9, hD9⟩, hS.F ht⟩) hS.2.2 dX11_copyRow_31
  · have c_7 : i_1.toInt < 100 := by have h := mt (c_le (x := 100) (y := i_1.toInt) rfl rfl).mpr c_7; omega
    refine lv_aload_n hx hb dX11_copyRow_9 rfl (lv_at hl 1 rfl) ?_
    refine lv_iload_n hx hb dX11_copyRow_10 rfl (lv_at hl 2 rfl) ?_
    refine lv_iload_n hx hb dX11_copyRow_11 rfl (lv_at hl 4 rfl) ?_
    refine lv_imul hx hb dX11_copyRow_12 ?_
    refine lv_topi (fun x_8 ex_8 => ?_)
    have tx_8 : x_8.toInt = 100 * i3.toInt := t_mul (x := 100) (y := i3.toInt) ex_8 rfl rfl (by omega) (by omega)
    refine lv_iload hx hb dX11_copyRow_13 (lv_at hl 0 rfl) ?_
    refine lv_iadd hx hb dX11_copyRow_15 ?_
    refine lv_topi (fun x_9 ex_9 => ?_)
    have tx_9 : x_9.toInt = x_8.toInt + i_1.toInt := t_add (x := x_8.toInt) (y := i_1.toInt) ex_9 rfl rfl (by omega) (by omega)
    refine lv_aload_n hx hb dX11_copyRow_16 rfl (lv_at hl 1 rfl) ?_
    refine lv_iload_n hx hb dX11_copyRow_17 rfl (lv_at hl 2 rfl) ?_
    refine lv_iload_n hx hb dX11_copyRow_18 rfl (lv_at hl 3 rfl) ?_
    refine lv_imul hx hb dX11_copyRow_19 ?_
    refine lv_topi (fun x_10 ex_10 => ?_)
    have tx_10 : x_10.toInt = 100 * i2.toInt := t_mul (x := 100) (y := i2.toInt) ex_10 rfl rfl (by omega) (by omega)
    refine lv_iload hx hb dX11_copyRow_20 (lv_at hl 0 rfl) ?_
    refine lv_iadd hx hb dX11_copyRow_22 ?_
    refine lv_topi (fun x_11 ex_11 => ?_)
    have tx_11 : x_11.toInt = x_10.toInt + i_1.toInt := t_add (x := x_10.toInt) (y := i_1.toInt) ex_11 rfl rfl (by omega) (by omega)
    refine va_iald (D := D) hx hb hK hP 0 0 rfl rfl (v_in (x := x_11.toInt) rfl (by omega) (by omega)) dX11_copyRow_23 ?_
    refine lv_topi (fun x_12 ex_12 => ?_)
    refine va_iast (D := D) hx hb hK hP hD hS 0 0 rfl rfl (v_in (x := x_9.toInt) rfl (by omega) (by omega)) dX11_copyRow_24 (fun H locs hP hD hS => ?_)
    obtain ⟨f_13, hf_13⟩ : ∃ g : Nat → Int32, g = upd f_2 x_9.toNatClampNeg x_12 := ⟨_, rfl⟩
    have hP : va_P D vwCl [(rw, .inl (T 0, 500, .inl (upd f_2 x_9.toNatClampNeg x_12)))] H := hP
    have hD : va_D A [(rw, .inl (T 0, 500, .inl (upd f_2 x_9.toNatClampNeg x_12)))] := hD
    rw [← hf_13] at hP hD
    obtain ⟨x_14, ex_14⟩ : ∃ y : Int32, y = i_1 + 1 := ⟨_, rfl⟩
    have tx_14 : x_14.toInt = i_1.toInt + 1 := t_add (x := i_1.toInt) (y := 1) ex_14 rfl rfl (by omega) (by omega)
    refine lv_iinc (v := x_14) (lv' := [(4, .int x_14), (0, .ref rw), (1, .int 100), (2, .int i2), (3, .int i3)]) hx hb dX11_copyRow_25 hl (k := 0) rfl (by rw [ex_14]; rfl) (by decide) rfl (fun ls hl => ?_)
    refine lv_goto (tgt := 3) hx hb dX11_copyRow_28 (by decide) ?_
    exact ih_6 (_, _, _, x_14, f_13) ⟨(show 0 ≤ x_14.toInt by omega), (show x_14.toInt ≤ 100 by omega), (show f_13 = cpR 100 i2.toInt.toNat i3.toInt.toNat x_14.toInt.toNat f by rw [hf_13, ex_12, c_5, tn (x := x_9) rfl, tn (x := x_11) rfl, show x_9.toInt.toNat = 100 * i3.toInt.toNat + i_1.toInt.toNat by omega, show x_11.toInt.toNat = 100 * i2.toInt.toNat + i_1.toInt.toNat by omega, show x_14.toInt.toNat = i_1.toInt.toNat + 1 by omega]; exact cpR_s (by omega) (by omega)), hP, hD, hS, lv_sub hl [0, 1, 2, 3, 4] rfl⟩ (show (100 - x_14.toInt).toNat < (100 - i_1.toInt).toNat by omega)

set_option maxHeartbeats 4000000 in
set_option maxRecDepth 100000 in
theorem c_X11_copyRow_192 (l : Launch) (D : va_G) (T : Nat → ClassId) (rw : Nat) (i2 i3 : Int32) (f : Nat → Int32) (sz : Nat) (h_i2 : 0 ≤ i2.toInt ∧ i2.toInt ≤ 4) (h_i3 : 0 ≤ i3.toInt ∧ i3.toInt ≤ 4) (hab : i2.toInt < i3.toInt ∨ i3.toInt < i2.toInt) : Met l yX11_copyRow (wM yX11_copyRow cX11_copyRow 5 none) ({ frames := 0, cells := 0, slots := 0, locals := 0 }) (va_Pc [.ref rw, .int 192, .int i2, .int i3] (pwM D T [(rw, .inl (T 0, 960, .inl f))] sz)) (va_Qv (fun (u : U5) => ((u.2.1 0) = cpR 192 i2.toInt.toNat i3.toInt.toNat 192 f)) (fun u t => pwE D (va_A [(rw, .inl (T 0, 960, .inl f))] sz) [(rw, .inl (T 0, 960, .inl (u.2.1 0)))] t) (va_A [(rw, .inl (T 0, 960, .inl f))] sz)) 0 0 (va_A [(rw, .inl (T 0, 960, .inl f))] sz) := by
  refine Met.ofW (cc := cX11_copyRow) (maxL := 5) (ret := none) (by decide) rfl ?_
  intro p e s m args below meth c s₁ B hml hv
  obtain ⟨rfl, hsz, hP, hC, hD0⟩ := hv
  have hx := B.exec
  have hb := B.bytes
  have hr := B.returns
  have hts : ∀ w ∈ gt, w.before _ s = true := fun w hw => atoms_spec (ws := (wM yX11_copyRow cX11_copyRow 5 none)) B.pre w (List.mem_cons_of_mem _ hw)
  have hown : s.vm.findClass RX11 = some m.cls := findClass_of_methodNamed B.named
  have hlocks := B.notSynchronized
  have hK := hC.1
  subst hsz
  have hD := hD0.self (sz := s.heap.size)
  generalize hAe : va_A [(rw, .inl (T 0, 960, .inl f))] s.heap.size = A at hD ⊢
  have hA : ∀ q : Nat, s.heap.size ≤ q → A q := fun q h => by rw [← hAe]; exact Or.inr h
  have hS : va_S A s.heap s.heap [] := va_S.rf
  have hl := lv_entry ([.ref rw, .int 192, .int i2, .int i3]) (n := 5) (Nat.le_of_ble_eq_true rfl)
  rw [lg_entry_eq]
  generalize (lg_sl ([.ref rw, .int 192, .int i2, .int i3]) ++ List.replicate (5 - (lg_sl ([.ref rw, .int 192, .int i2, .int i3])).length) Slot.unset).toArray = ls at hl ⊢
  have hl : lv_has ls 5 [(0, .ref rw), (1, .int 192), (2, .int i2), (3, .int i3)] := hl
  refine lv_iconst (v := 0) hx hb dX11_copyRow_0 (by decide) ?_
  refine lv_istore (lv' := [(4, .int 0), (0, .ref rw), (1, .int 192), (2, .int i2), (3, .int i3)]) hx hb dX11_copyRow_1 hl (by decide) rfl (fun ls hl => ?_)
  refine lp_ind (fun (a : Heap × List Loc × Array Slot × (Int32) × (Nat → Int32)) => match a with | (H, locs, ls, i_1, f_2) => W p l e _ s m _ below meth c H locs 0 0 _ (F0 m 3 ls [])) (fun (a : Heap × List Loc × Array Slot × (Int32) × (Nat → Int32)) => match a with | (H, locs, ls, i_1, f_2) => 0 ≤ i_1.toInt ∧ i_1.toInt ≤ 192 ∧ f_2 = cpR 192 i2.toInt.toNat i3.toInt.toNat i_1.toInt.toNat f ∧ va_P D vwCl [(rw, .inl (T 0, 960, .inl f_2))] H ∧ va_D A [(rw, .inl (T 0, 960, .inl f_2))] ∧ va_S A s.heap H locs ∧ lv_has ls 5 [(4, .int i_1), (0, .ref rw), (1, .int 192), (2, .int i2), (3, .int i3)]) (fun (a : Heap × List Loc × Array Slot × (Int32) × (Nat → Int32)) => match a with | (H, locs, ls, i_1, f_2) => (192 - i_1.toInt).toNat) ?_ (_, _, ls, (0 : Int32), f) ⟨(show 0 ≤ (0 : Int) by omega), (show (0 : Int) ≤ 192 by omega), (show f = cpR 192 i2.toInt.toNat i3.toInt.toNat 0 f from cpR_z.symm), hP, hD, hS, lv_sub hl [0, 1, 2, 3, 4] rfl⟩
  rintro ⟨H, locs, ls, i_1, f_2⟩ ⟨c_3, c_4, c_5, hP, hD, hS, hl⟩ ih_6
  refine lv_iload hx hb dX11_copyRow_3 (lv_at hl 0 rfl) ?_
  refine lv_iload_n hx hb dX11_copyRow_5 rfl (lv_at hl 2 rfl) ?_
  refine lv_icmp_ge (tgt := 31) hx hb dX11_copyRow_6 (by decide) (fun c_7 => ?_) (fun c_7 => ?_)
  · have c_7 : 192 ≤ i_1.toInt := (c_le (x := 192) (y := i_1.toInt) rfl rfl).mp c_7
    have hP9 := hP.sub (ws' := [(rw, .inl (T 0, 960, .inl f_2))]) [0] rfl
    have hD9 := hD.sub (ws' := [(rw, .inl (T 0, 960, .inl f_2))]) [0] (by decide) rfl
    exact W.vret hx hb hr (fun t ht hW => ⟨⟨(fun k => ([] : List (Nat)).getD k 0, fun k => ([f_2] : List (Nat → Int32)).getD k (fun _ => 0), fun k => ([] : List (Nat → Int64)).getD k (fun _ => 0), fun k => ([] : List (Int32)).getD k 0, fun k => ([] : List (Int64)).getD k 0), rfl, (show f_2 = cpR 192 i2.toInt.toNat i3.toInt.toNat 192 f by rw [c_5, show i_1.toInt.toNat = 192 by omega]), by rw [ht]; exact hP9, hD9⟩, hS.F ht⟩) hS.2.2 dX11_copyRow_31
  · have c_7 : i_1.toInt < 192 := by have h := mt (c_le (x := 192) (y := i_1.toInt) rfl rfl).mpr c_7; omega
    refine lv_aload_n hx hb dX11_copyRow_9 rfl (lv_at hl 1 rfl) ?_
    refine lv_iload_n hx hb dX11_copyRow_10 rfl (lv_at hl 2 rfl) ?_
    refine lv_iload_n hx hb dX11_copyRow_11 rfl (lv_at hl 4 rfl) ?_
    refine lv_imul hx hb dX11_copyRow_12 ?_
    refine lv_topi (fun x_8 ex_8 => ?_)
    have tx_8 : x_8.toInt = 192 * i3.toInt := t_mul (x := 192) (y := i3.toInt) ex_8 rfl rfl (by omega) (by omega)
    refine lv_iload hx hb dX11_copyRow_13 (lv_at hl 0 rfl) ?_
    refine lv_iadd hx hb dX11_copyRow_15 ?_
    refine lv_topi (fun x_9 ex_9 => ?_)
    have tx_9 : x_9.toInt = x_8.toInt + i_1.toInt := t_add (x := x_8.toInt) (y := i_1.toInt) ex_9 rfl rfl (by omega) (by omega)
    refine lv_aload_n hx hb dX11_copyRow_16 rfl (lv_at hl 1 rfl) ?_
    refine lv_iload_n hx hb dX11_copyRow_17 rfl (lv_at hl 2 rfl) ?_
    refine lv_iload_n hx hb dX11_copyRow_18 rfl (lv_at hl 3 rfl) ?_
    refine lv_imul hx hb dX11_copyRow_19 ?_
    refine lv_topi (fun x_10 ex_10 => ?_)
    have tx_10 : x_10.toInt = 192 * i2.toInt := t_mul (x := 192) (y := i2.toInt) ex_10 rfl rfl (by omega) (by omega)
    refine lv_iload hx hb dX11_copyRow_20 (lv_at hl 0 rfl) ?_
    refine lv_iadd hx hb dX11_copyRow_22 ?_
    refine lv_topi (fun x_11 ex_11 => ?_)
    have tx_11 : x_11.toInt = x_10.toInt + i_1.toInt := t_add (x := x_10.toInt) (y := i_1.toInt) ex_11 rfl rfl (by omega) (by omega)
    refine va_iald (D := D) hx hb hK hP 0 0 rfl rfl (v_in (x := x_11.toInt) rfl (by omega) (by omega)) dX11_copyRow_23 ?_
    refine lv_topi (fun x_12 ex_12 => ?_)
    refine va_iast (D := D) hx hb hK hP hD hS 0 0 rfl rfl (v_in (x := x_9.toInt) rfl (by omega) (by omega)) dX11_copyRow_24 (fun H locs hP hD hS => ?_)
    obtain ⟨f_13, hf_13⟩ : ∃ g : Nat → Int32, g = upd f_2 x_9.toNatClampNeg x_12 := ⟨_, rfl⟩
    have hP : va_P D vwCl [(rw, .inl (T 0, 960, .inl (upd f_2 x_9.toNatClampNeg x_12)))] H := hP
    have hD : va_D A [(rw, .inl (T 0, 960, .inl (upd f_2 x_9.toNatClampNeg x_12)))] := hD
    rw [← hf_13] at hP hD
    obtain ⟨x_14, ex_14⟩ : ∃ y : Int32, y = i_1 + 1 := ⟨_, rfl⟩
    have tx_14 : x_14.toInt = i_1.toInt + 1 := t_add (x := i_1.toInt) (y := 1) ex_14 rfl rfl (by omega) (by omega)
    refine lv_iinc (v := x_14) (lv' := [(4, .int x_14), (0, .ref rw), (1, .int 192), (2, .int i2), (3, .int i3)]) hx hb dX11_copyRow_25 hl (k := 0) rfl (by rw [ex_14]; rfl) (by decide) rfl (fun ls hl => ?_)
    refine lv_goto (tgt := 3) hx hb dX11_copyRow_28 (by decide) ?_
    exact ih_6 (_, _, _, x_14, f_13) ⟨(show 0 ≤ x_14.toInt by omega), (show x_14.toInt ≤ 192 by omega), (show f_13 = cpR 192 i2.toInt.toNat i3.toInt.toNat x_14.toInt.toNat f by rw [hf_13, ex_12, c_5, tn (x := x_9) rfl, tn (x := x_11) rfl, show x_9.toInt.toNat = 192 * i3.toInt.toNat + i_1.toInt.toNat by omega, show x_11.toInt.toNat = 192 * i2.toInt.toNat + i_1.toInt.toNat by omega, show x_14.toInt.toNat = i_1.toInt.toNat + 1 by omega]; exact cpR_s (by omega) (by omega)), hP, hD, hS, lv_sub hl [0, 1, 2, 3, 4] rfl⟩ (show (192 - x_14.toInt).toNat < (192 - i_1.toInt).toNat by omega)

set_option maxHeartbeats 4000000 in
set_option maxRecDepth 100000 in
theorem c_X11_copyRow_200 (l : Launch) (D : va_G) (T : Nat → ClassId) (rw : Nat) (i2 i3 : Int32) (f : Nat → Int32) (sz : Nat) (h_i2 : 0 ≤ i2.toInt ∧ i2.toInt ≤ 4) (h_i3 : 0 ≤ i3.toInt ∧ i3.toInt ≤ 4) (hab : i2.toInt < i3.toInt ∨ i3.toInt < i2.toInt) : Met l yX11_copyRow (wM yX11_copyRow cX11_copyRow 5 none) ({ frames := 0, cells := 0, slots := 0, locals := 0 }) (va_Pc [.ref rw, .int 200, .int i2, .int i3] (pwM D T [(rw, .inl (T 0, 1000, .inl f))] sz)) (va_Qv (fun (u : U5) => ((u.2.1 0) = cpR 200 i2.toInt.toNat i3.toInt.toNat 200 f)) (fun u t => pwE D (va_A [(rw, .inl (T 0, 1000, .inl f))] sz) [(rw, .inl (T 0, 1000, .inl (u.2.1 0)))] t) (va_A [(rw, .inl (T 0, 1000, .inl f))] sz)) 0 0 (va_A [(rw, .inl (T 0, 1000, .inl f))] sz) := by
  refine Met.ofW (cc := cX11_copyRow) (maxL := 5) (ret := none) (by decide) rfl ?_
  intro p e s m args below meth c s₁ B hml hv
  obtain ⟨rfl, hsz, hP, hC, hD0⟩ := hv
  have hx := B.exec
  have hb := B.bytes
  have hr := B.returns
  have hts : ∀ w ∈ gt, w.before _ s = true := fun w hw => atoms_spec (ws := (wM yX11_copyRow cX11_copyRow 5 none)) B.pre w (List.mem_cons_of_mem _ hw)
  have hown : s.vm.findClass RX11 = some m.cls := findClass_of_methodNamed B.named
  have hlocks := B.notSynchronized
  have hK := hC.1
  subst hsz
  have hD := hD0.self (sz := s.heap.size)
  generalize hAe : va_A [(rw, .inl (T 0, 1000, .inl f))] s.heap.size = A at hD ⊢
  have hA : ∀ q : Nat, s.heap.size ≤ q → A q := fun q h => by rw [← hAe]; exact Or.inr h
  have hS : va_S A s.heap s.heap [] := va_S.rf
  have hl := lv_entry ([.ref rw, .int 200, .int i2, .int i3]) (n := 5) (Nat.le_of_ble_eq_true rfl)
  rw [lg_entry_eq]
  generalize (lg_sl ([.ref rw, .int 200, .int i2, .int i3]) ++ List.replicate (5 - (lg_sl ([.ref rw, .int 200, .int i2, .int i3])).length) Slot.unset).toArray = ls at hl ⊢
  have hl : lv_has ls 5 [(0, .ref rw), (1, .int 200), (2, .int i2), (3, .int i3)] := hl
  refine lv_iconst (v := 0) hx hb dX11_copyRow_0 (by decide) ?_
  refine lv_istore (lv' := [(4, .int 0), (0, .ref rw), (1, .int 200), (2, .int i2), (3, .int i3)]) hx hb dX11_copyRow_1 hl (by decide) rfl (fun ls hl => ?_)
  refine lp_ind (fun (a : Heap × List Loc × Array Slot × (Int32) × (Nat → Int32)) => match a with | (H, locs, ls, i_1, f_2) => W p l e _ s m _ below meth c H locs 0 0 _ (F0 m 3 ls [])) (fun (a : Heap × List Loc × Array Slot × (Int32) × (Nat → Int32)) => match a with | (H, locs, ls, i_1, f_2) => 0 ≤ i_1.toInt ∧ i_1.toInt ≤ 200 ∧ f_2 = cpR 200 i2.toInt.toNat i3.toInt.toNat i_1.toInt.toNat f ∧ va_P D vwCl [(rw, .inl (T 0, 1000, .inl f_2))] H ∧ va_D A [(rw, .inl (T 0, 1000, .inl f_2))] ∧ va_S A s.heap H locs ∧ lv_has ls 5 [(4, .int i_1), (0, .ref rw), (1, .int 200), (2, .int i2), (3, .int i3)]) (fun (a : Heap × List Loc × Array Slot × (Int32) × (Nat → Int32)) => match a with | (H, locs, ls, i_1, f_2) => (200 - i_1.toInt).toNat) ?_ (_, _, ls, (0 : Int32), f) ⟨(show 0 ≤ (0 : Int) by omega), (show (0 : Int) ≤ 200 by omega), (show f = cpR 200 i2.toInt.toNat i3.toInt.toNat 0 f from cpR_z.symm), hP, hD, hS, lv_sub hl [0, 1, 2, 3, 4] rfl⟩
  rintro ⟨H, locs, ls, i_1, f_2⟩ ⟨c_3, c_4, c_5, hP, hD, hS, hl⟩ ih_6
  refine lv_iload hx hb dX11_copyRow_3 (lv_at hl 0 rfl) ?_
  refine lv_iload_n hx hb dX11_copyRow_5 rfl (lv_at hl 2 rfl) ?_
  refine lv_icmp_ge (tgt := 31) hx hb dX11_copyRow_6 (by decide) (fun c_7 => ?_) (fun c_7 => ?_)
  · have c_7 : 200 ≤ i_1.toInt := (c_le (x := 200) (y := i_1.toInt) rfl rfl).mp c_7
    have hP9 := hP.sub (ws' := [(rw, .inl (T 0, 1000, .inl f_2))]) [0] rfl
    have hD9 := hD.sub (ws' := [(rw, .inl (T 0, 1000, .inl f_2))]) [0] (by decide) rfl
    exact W.vret hx hb hr (fun t ht hW => ⟨⟨(fun k => ([] : List (Nat)).getD k 0, fun k => ([f_2] : List (Nat → Int32)).getD k (fun _ => 0), fun k => ([] : List (Nat → Int64)).getD k (fun _ => 0), fun k => ([] : List (Int32)).getD k 0, fun k => ([] : List (Int64)).getD k 0), rfl, (show f_2 = cpR 200 i2.toInt.toNat i3.toInt.toNat 200 f by rw [c_5, show i_1.toInt.toNat = 200 by omega]), by rw [ht]; exact hP9, hD9⟩, hS.F ht⟩) hS.2.2 dX11_copyRow_31
  · have c_7 : i_1.toInt < 200 := by have h := mt (c_le (x := 200) (y := i_1.toInt) rfl rfl).mpr c_7; omega
    refine lv_aload_n hx hb dX11_copyRow_9 rfl (lv_at hl 1 rfl) ?_
    refine lv_iload_n hx hb dX11_copyRow_10 rfl (lv_at hl 2 rfl) ?_
    refine lv_iload_n hx hb dX11_copyRow_11 rfl (lv_at hl 4 rfl) ?_
    refine lv_imul hx hb dX11_copyRow_12 ?_
    refine lv_topi (fun x_8 ex_8 => ?_)
    have tx_8 : x_8.toInt = 200 * i3.toInt := t_mul (x := 200) (y := i3.toInt) ex_8 rfl rfl (by omega) (by omega)
    refine lv_iload hx hb dX11_copyRow_13 (lv_at hl 0 rfl) ?_
    refine lv_iadd hx hb dX11_copyRow_15 ?_
    refine lv_topi (fun x_9 ex_9 => ?_)
    have tx_9 : x_9.toInt = x_8.toInt + i_1.toInt := t_add (x := x_8.toInt) (y := i_1.toInt) ex_9 rfl rfl (by omega) (by omega)
    refine lv_aload_n hx hb dX11_copyRow_16 rfl (lv_at hl 1 rfl) ?_
    refine lv_iload_n hx hb dX11_copyRow_17 rfl (lv_at hl 2 rfl) ?_
    refine lv_iload_n hx hb dX11_copyRow_18 rfl (lv_at hl 3 rfl) ?_
    refine lv_imul hx hb dX11_copyRow_19 ?_
    refine lv_topi (fun x_10 ex_10 => ?_)
    have tx_10 : x_10.toInt = 200 * i2.toInt := t_mul (x := 200) (y := i2.toInt) ex_10 rfl rfl (by omega) (by omega)
    refine lv_iload hx hb dX11_copyRow_20 (lv_at hl 0 rfl) ?_
    refine lv_iadd hx hb dX11_copyRow_22 ?_
    refine lv_topi (fun x_11 ex_11 => ?_)
    have tx_11 : x_11.toInt = x_10.toInt + i_1.toInt := t_add (x := x_10.toInt) (y := i_1.toInt) ex_11 rfl rfl (by omega) (by omega)
    refine va_iald (D := D) hx hb hK hP 0 0 rfl rfl (v_in (x := x_11.toInt) rfl (by omega) (by omega)) dX11_copyRow_23 ?_
    refine lv_topi (fun x_12 ex_12 => ?_)
    refine va_iast (D := D) hx hb hK hP hD hS 0 0 rfl rfl (v_in (x := x_9.toInt) rfl (by omega) (by omega)) dX11_copyRow_24 (fun H locs hP hD hS => ?_)
    obtain ⟨f_13, hf_13⟩ : ∃ g : Nat → Int32, g = upd f_2 x_9.toNatClampNeg x_12 := ⟨_, rfl⟩
    have hP : va_P D vwCl [(rw, .inl (T 0, 1000, .inl (upd f_2 x_9.toNatClampNeg x_12)))] H := hP
    have hD : va_D A [(rw, .inl (T 0, 1000, .inl (upd f_2 x_9.toNatClampNeg x_12)))] := hD
    rw [← hf_13] at hP hD
    obtain ⟨x_14, ex_14⟩ : ∃ y : Int32, y = i_1 + 1 := ⟨_, rfl⟩
    have tx_14 : x_14.toInt = i_1.toInt + 1 := t_add (x := i_1.toInt) (y := 1) ex_14 rfl rfl (by omega) (by omega)
    refine lv_iinc (v := x_14) (lv' := [(4, .int x_14), (0, .ref rw), (1, .int 200), (2, .int i2), (3, .int i3)]) hx hb dX11_copyRow_25 hl (k := 0) rfl (by rw [ex_14]; rfl) (by decide) rfl (fun ls hl => ?_)
    refine lv_goto (tgt := 3) hx hb dX11_copyRow_28 (by decide) ?_
    exact ih_6 (_, _, _, x_14, f_13) ⟨(show 0 ≤ x_14.toInt by omega), (show x_14.toInt ≤ 200 by omega), (show f_13 = cpR 200 i2.toInt.toNat i3.toInt.toNat x_14.toInt.toNat f by rw [hf_13, ex_12, c_5, tn (x := x_9) rfl, tn (x := x_11) rfl, show x_9.toInt.toNat = 200 * i3.toInt.toNat + i_1.toInt.toNat by omega, show x_11.toInt.toNat = 200 * i2.toInt.toNat + i_1.toInt.toNat by omega, show x_14.toInt.toNat = i_1.toInt.toNat + 1 by omega]; exact cpR_s (by omega) (by omega)), hP, hD, hS, lv_sub hl [0, 1, 2, 3, 4] rfl⟩ (show (200 - x_14.toInt).toNat < (200 - i_1.toInt).toNat by omega)

set_option maxHeartbeats 4000000 in
set_option maxRecDepth 100000 in
theorem c_X11_copyTown (l : Launch) (D : va_G) (T : Nat → ClassId) (y1 y16 y17 y18 y19 y2 y20 y21 y22 y23 y24 y25 y26 y27 y28 y29 y3 y30 y31 y32 y36 y4 y40 y41 y42 y5 ym : Nat) (i1 i2 w0 w10 w12 w13 w14 w15 w33 w34 w35 w37 w38 w39 w43 w6 w7 w8 w9 : Int32) (v11 v44 : Int64) (c16 c17 c18 c19 c20 c21 c22 : Nat → Int32) (sz : Nat) (h_w6 : 0 ≤ w6.toInt ∧ w6.toInt ≤ 1600) (h_w43 : 0 ≤ w43.toInt ∧ w43.toInt ≤ 16) (h_i1 : 0 ≤ i1.toInt ∧ i1.toInt ≤ 4) (h_i2 : 0 ≤ i2.toInt ∧ i2.toInt ≤ 4) (R_c18 : rg 0 5 c18) (R_c20 : rg 0 10 c20) (P_0 : pg 3 0 0 8 c17) (P_1 : pg 3 1 0 12 c17) (P_2 : vr 0 c20 c21) (P_3 : vr 1 c20 c21) (P_4 : vr 2 c20 c21) (P_5 : vr 3 c20 c21) (hab : i1.toInt < i2.toInt ∨ i2.toInt < i1.toInt) : Met l yX11_copyTown (wM yX11_copyTown cX11_copyTown 3 none) ({ frames := 1, cells := 0, slots := 0, locals := 24 }) (va_Pc [.ref ym, .int i1, .int i2] (pwM D T [(ym, .inr (11, [.int w0, .ref y1, .ref y2, .ref y3, .ref y4, .ref y5, .int w6, .int w7, .int w8, .int w9, .int w10, .long v11, .int w12, .int w13, .int w14, .int w15, .ref y16, .ref y17, .ref y18, .ref y19, .ref y20, .ref y21, .ref y22, .ref y23, .ref y24, .ref y25, .ref y26, .ref y27, .ref y28, .ref y29, .ref y30, .ref y31, .ref y32, .int w33, .int w34, .int w35, .ref y36, .int w37, .int w38, .int w39, .ref y40, .ref y41, .ref y42, .int w43, .long v44])), (y16, .inl (T 0, 5, .inl c16)), (y17, .inl (T 0, 15, .inl c17)), (y18, .inl (T 0, 5, .inl c18)), (y19, .inl (T 0, 75, .inl c19)), (y20, .inl (T 0, 5, .inl c20)), (y21, .inl (T 0, 400, .inl c21)), (y22, .inl (T 0, 15, .inl c22))] sz)) (va_Qv (fun (u : U5) => rg 0 5 (u.2.1 2) ∧ rg 0 10 (u.2.1 4) ∧ ((u.2.1 4) = cpR 1 i1.toInt.toNat i2.toInt.toNat 1 c20) ∧ ((u.2.1 5) = cpR 80 i1.toInt.toNat i2.toInt.toNat 80 c21) ∧ pg 3 0 0 8 (u.2.1 1) ∧ pg 3 1 0 12 (u.2.1 1)) (fun u t => pwE D (va_A [(ym, .inr (11, [.int w0, .ref y1, .ref y2, .ref y3, .ref y4, .ref y5, .int w6, .int w7, .int w8, .int w9, .int w10, .long v11, .int w12, .int w13, .int w14, .int w15, .ref y16, .ref y17, .ref y18, .ref y19, .ref y20, .ref y21, .ref y22, .ref y23, .ref y24, .ref y25, .ref y26, .ref y27, .ref y28, .ref y29, .ref y30, .ref y31, .ref y32, .int w33, .int w34, .int w35, .ref y36, .int w37, .int w38, .int w39, .ref y40, .ref y41, .ref y42, .int w43, .long v44])), (y16, .inl (T 0, 5, .inl c16)), (y17, .inl (T 0, 15, .inl c17)), (y18, .inl (T 0, 5, .inl c18)), (y19, .inl (T 0, 75, .inl c19)), (y20, .inl (T 0, 5, .inl c20)), (y21, .inl (T 0, 400, .inl c21)), (y22, .inl (T 0, 15, .inl c22))] sz) [(ym, .inr (11, [.int w0, .ref y1, .ref y2, .ref y3, .ref y4, .ref y5, .int w6, .int w7, .int w8, .int w9, .int w10, .long v11, .int w12, .int w13, .int w14, .int w15, .ref y16, .ref y17, .ref y18, .ref y19, .ref y20, .ref y21, .ref y22, .ref y23, .ref y24, .ref y25, .ref y26, .ref y27, .ref y28, .ref y29, .ref y30, .ref y31, .ref y32, .int w33, .int w34, .int w35, .ref y36, .int w37, .int w38, .int w39, .ref y40, .ref y41, .ref y42, .int w43, .long v44])), (y16, .inl (T 0, 5, .inl (u.2.1 0))), (y17, .inl (T 0, 15, .inl (u.2.1 1))), (y18, .inl (T 0, 5, .inl (u.2.1 2))), (y19, .inl (T 0, 75, .inl (u.2.1 3))), (y20, .inl (T 0, 5, .inl (u.2.1 4))), (y21, .inl (T 0, 400, .inl (u.2.1 5))), (y22, .inl (T 0, 15, .inl (u.2.1 6)))] t) (va_A [(ym, .inr (11, [.int w0, .ref y1, .ref y2, .ref y3, .ref y4, .ref y5, .int w6, .int w7, .int w8, .int w9, .int w10, .long v11, .int w12, .int w13, .int w14, .int w15, .ref y16, .ref y17, .ref y18, .ref y19, .ref y20, .ref y21, .ref y22, .ref y23, .ref y24, .ref y25, .ref y26, .ref y27, .ref y28, .ref y29, .ref y30, .ref y31, .ref y32, .int w33, .int w34, .int w35, .ref y36, .int w37, .int w38, .int w39, .ref y40, .ref y41, .ref y42, .int w43, .long v44])), (y16, .inl (T 0, 5, .inl c16)), (y17, .inl (T 0, 15, .inl c17)), (y18, .inl (T 0, 5, .inl c18)), (y19, .inl (T 0, 75, .inl c19)), (y20, .inl (T 0, 5, .inl c20)), (y21, .inl (T 0, 400, .inl c21)), (y22, .inl (T 0, 15, .inl c22))] sz)) 0 0 (va_A [(ym, .inr (11, [.int w0, .ref y1, .ref y2, .ref y3, .ref y4, .ref y5, .int w6, .int w7, .int w8, .int w9, .int w10, .long v11, .int w12, .int w13, .int w14, .int w15, .ref y16, .ref y17, .ref y18, .ref y19, .ref y20, .ref y21, .ref y22, .ref y23, .ref y24, .ref y25, .ref y26, .ref y27, .ref y28, .ref y29, .ref y30, .ref y31, .ref y32, .int w33, .int w34, .int w35, .ref y36, .int w37, .int w38, .int w39, .ref y40, .ref y41, .ref y42, .int w43, .long v44])), (y16, .inl (T 0, 5, .inl c16)), (y17, .inl (T 0, 15, .inl c17)), (y18, .inl (T 0, 5, .inl c18)), (y19, .inl (T 0, 75, .inl c19)), (y20, .inl (T 0, 5, .inl c20)), (y21, .inl (T 0, 400, .inl c21)), (y22, .inl (T 0, 15, .inl c22))] sz) := by
  refine Met.ofW (cc := cX11_copyTown) (maxL := 3) (ret := none) (by decide) rfl ?_
  intro p e s m args below meth c s₁ B hml hv
  obtain ⟨rfl, hsz, hP, hC, hD0⟩ := hv
  have hx := B.exec
  have hb := B.bytes
  have hr := B.returns
  have hts : ∀ w ∈ gt, w.before _ s = true := fun w hw => atoms_spec (ws := (wM yX11_copyTown cX11_copyTown 3 none)) B.pre w (List.mem_cons_of_mem _ hw)
  have hown : s.vm.findClass RX11 = some m.cls := findClass_of_methodNamed B.named
  have hlocks := B.notSynchronized
  have hK := hC.1
  subst hsz
  have hD := hD0.self (sz := s.heap.size)
  generalize hAe : va_A [(ym, .inr (11, [.int w0, .ref y1, .ref y2, .ref y3, .ref y4, .ref y5, .int w6, .int w7, .int w8, .int w9, .int w10, .long v11, .int w12, .int w13, .int w14, .int w15, .ref y16, .ref y17, .ref y18, .ref y19, .ref y20, .ref y21, .ref y22, .ref y23, .ref y24, .ref y25, .ref y26, .ref y27, .ref y28, .ref y29, .ref y30, .ref y31, .ref y32, .int w33, .int w34, .int w35, .ref y36, .int w37, .int w38, .int w39, .ref y40, .ref y41, .ref y42, .int w43, .long v44])), (y16, .inl (T 0, 5, .inl c16)), (y17, .inl (T 0, 15, .inl c17)), (y18, .inl (T 0, 5, .inl c18)), (y19, .inl (T 0, 75, .inl c19)), (y20, .inl (T 0, 5, .inl c20)), (y21, .inl (T 0, 400, .inl c21)), (y22, .inl (T 0, 15, .inl c22))] s.heap.size = A at hD ⊢
  have hA : ∀ q : Nat, s.heap.size ≤ q → A q := fun q h => by rw [← hAe]; exact Or.inr h
  have hS : va_S A s.heap s.heap [] := va_S.rf
  have hl := lv_entry ([.ref ym, .int i1, .int i2]) (n := 3) (Nat.le_of_ble_eq_true rfl)
  rw [lg_entry_eq]
  generalize (lg_sl ([.ref ym, .int i1, .int i2]) ++ List.replicate (3 - (lg_sl ([.ref ym, .int i1, .int i2])).length) Slot.unset).toArray = ls at hl ⊢
  have hl : lv_has ls 3 [(0, .ref ym), (1, .int i1), (2, .int i2)] := hl
  have b_y17_0 : 0 ≤ (c17 0).toInt ∧ (c17 0).toInt ≤ 8 := P_0 0
  have b_y17_1 : 0 ≤ (c17 1).toInt ∧ (c17 1).toInt ≤ 12 := P_1 0
  have b_y18 : 0 ≤ (c18 0).toInt ∧ (c18 0).toInt ≤ 5 := R_c18 0
  have b_y18_4 : 0 ≤ (c18 4).toInt ∧ (c18 4).toInt ≤ 5 := R_c18 4
  have b_y20 : 0 ≤ (c20 0).toInt ∧ (c20 0).toInt ≤ 10 := R_c20 0
  have b_y20_4 : 0 ≤ (c20 4).toInt ∧ (c20 4).toInt ≤ 10 := R_c20 4
  refine lv_aload_n hx hb dX11_copyTown_0 rfl (lv_at hl 0 rfl) ?_
  refine va_get (D := D) (ci := 11) (C := RX11) (T := TX11) (N := 45) hx hb hts iX11 hown hK hP 0 rfl rfl 16 (by decide) (hts _ m1334) (fun _ h9 => h9) rfl dX11_copyTown_1 ?_
  refine lv_iconst (v := 1) hx hb dX11_copyTown_4 (by decide) ?_
  refine lv_iload_n hx hb dX11_copyTown_5 rfl (lv_at hl 1 rfl) ?_
  refine lv_iload_n hx hb dX11_copyTown_6 rfl (lv_at hl 2 rfl) ?_
  refine mtV (wr := [(ym, .inr (11, [.int w0, .ref y1, .ref y2, .ref y3, .ref y4, .ref y5, .int w6, .int w7, .int w8, .int w9, .int w10, .long v11, .int w12, .int w13, .int w14, .int w15, .ref y16, .ref y17, .ref y18, .ref y19, .ref y20, .ref y21, .ref y22, .ref y23, .ref y24, .ref y25, .ref y26, .ref y27, .ref y28, .ref y29, .ref y30, .ref y31, .ref y32, .int w33, .int w34, .int w35, .ref y36, .int w37, .int w38, .int w39, .ref y40, .ref y41, .ref y42, .int w43, .long v44])), (y17, .inl (T 0, 15, .inl c17)), (y18, .inl (T 0, 5, .inl c18)), (y19, .inl (T 0, 75, .inl c19)), (y20, .inl (T 0, 5, .inl c20)), (y21, .inl (T 0, 400, .inl c21)), (y22, .inl (T 0, 15, .inl c22))]) (cS (As := [.ref y16, .int 1, .int i1, .int i2]) (rest := []) ⟨hx, hb, hml, hown, hts⟩ (c_X11_copyRow_1 l D T y16 i1 i2 c16 _ ⟨by omega, by omega⟩ ⟨by omega, by omega⟩ (by omega)) k_X11_copyRow m1605 m1604 rfl rfl ⟨(Nat.le_of_ble_eq_true rfl), (Nat.le_of_ble_eq_true rfl)⟩ (preM hC (hP.sub (ws' := [(y16, .inl (T 0, 5, .inl c16))]) [1] rfl) (hD.sub (ws' := [(y16, .inl (T 0, 5, .inl c16))]) [1] (by decide) rfl)) rfl hl.1 rfl (Nat.le_of_ble_eq_true rfl) dX11_copyTown_7 ⟨(Nat.le_of_ble_eq_true rfl), (Nat.le_of_ble_eq_true rfl)⟩) hS hA hP hD [1] [0, 2, 3, 4, 5, 6, 7] rfl rfl (by decide) (by decide) (fun u_2 H locs hw hP hD hS => ?_)
  have hP : va_P D vwCl [(ym, .inr (11, [.int w0, .ref y1, .ref y2, .ref y3, .ref y4, .ref y5, .int w6, .int w7, .int w8, .int w9, .int w10, .long v11, .int w12, .int w13, .int w14, .int w15, .ref y16, .ref y17, .ref y18, .ref y19, .ref y20, .ref y21, .ref y22, .ref y23, .ref y24, .ref y25, .ref y26, .ref y27, .ref y28, .ref y29, .ref y30, .ref y31, .ref y32, .int w33, .int w34, .int w35, .ref y36, .int w37, .int w38, .int w39, .ref y40, .ref y41, .ref y42, .int w43, .long v44])), (y16, .inl (T 0, 5, .inl (u_2.2.1 0))), (y17, .inl (T 0, 15, .inl c17)), (y18, .inl (T 0, 5, .inl c18)), (y19, .inl (T 0, 75, .inl c19)), (y20, .inl (T 0, 5, .inl c20)), (y21, .inl (T 0, 400, .inl c21)), (y22, .inl (T 0, 15, .inl c22))] H := hP.sub [0, 7, 1, 2, 3, 4, 5, 6] rfl
  have hD : va_D A [(ym, .inr (11, [.int w0, .ref y1, .ref y2, .ref y3, .ref y4, .ref y5, .int w6, .int w7, .int w8, .int w9, .int w10, .long v11, .int w12, .int w13, .int w14, .int w15, .ref y16, .ref y17, .ref y18, .ref y19, .ref y20, .ref y21, .ref y22, .ref y23, .ref y24, .ref y25, .ref y26, .ref y27, .ref y28, .ref y29, .ref y30, .ref y31, .ref y32, .int w33, .int w34, .int w35, .ref y36, .int w37, .int w38, .int w39, .ref y40, .ref y41, .ref y42, .int w43, .long v44])), (y16, .inl (T 0, 5, .inl (u_2.2.1 0))), (y17, .inl (T 0, 15, .inl c17)), (y18, .inl (T 0, 5, .inl c18)), (y19, .inl (T 0, 75, .inl c19)), (y20, .inl (T 0, 5, .inl c20)), (y21, .inl (T 0, 400, .inl c21)), (y22, .inl (T 0, 15, .inl c22))] := hD.sub [0, 7, 1, 2, 3, 4, 5, 6] (by decide) rfl
  have w_3 : ((u_2.2.1 0) = cpR 1 i1.toInt.toNat i2.toInt.toNat 1 c16) := hw
  refine lv_aload_n hx hb dX11_copyTown_10 rfl (lv_at hl 0 rfl) ?_
  refine va_get (D := D) (ci := 11) (C := RX11) (T := TX11) (N := 45) hx hb hts iX11 hown hK hP 0 rfl rfl 17 (by decide) (hts _ m1335) (fun _ h9 => h9) rfl dX11_copyTown_11 ?_
  refine lv_iconst (v := 3) hx hb dX11_copyTown_14 (by decide) ?_
  refine lv_iload_n hx hb dX11_copyTown_15 rfl (lv_at hl 1 rfl) ?_
  refine lv_iload_n hx hb dX11_copyTown_16 rfl (lv_at hl 2 rfl) ?_
  refine mtV (wr := [(ym, .inr (11, [.int w0, .ref y1, .ref y2, .ref y3, .ref y4, .ref y5, .int w6, .int w7, .int w8, .int w9, .int w10, .long v11, .int w12, .int w13, .int w14, .int w15, .ref y16, .ref y17, .ref y18, .ref y19, .ref y20, .ref y21, .ref y22, .ref y23, .ref y24, .ref y25, .ref y26, .ref y27, .ref y28, .ref y29, .ref y30, .ref y31, .ref y32, .int w33, .int w34, .int w35, .ref y36, .int w37, .int w38, .int w39, .ref y40, .ref y41, .ref y42, .int w43, .long v44])), (y16, .inl (T 0, 5, .inl (u_2.2.1 0))), (y18, .inl (T 0, 5, .inl c18)), (y19, .inl (T 0, 75, .inl c19)), (y20, .inl (T 0, 5, .inl c20)), (y21, .inl (T 0, 400, .inl c21)), (y22, .inl (T 0, 15, .inl c22))]) (cS (As := [.ref y17, .int 3, .int i1, .int i2]) (rest := []) ⟨hx, hb, hml, hown, hts⟩ (c_X11_copyRow_3 l D T y17 i1 i2 c17 _ ⟨by omega, by omega⟩ ⟨by omega, by omega⟩ (by omega)) k_X11_copyRow m1605 m1604 rfl rfl ⟨(Nat.le_of_ble_eq_true rfl), (Nat.le_of_ble_eq_true rfl)⟩ (preM hC (hP.sub (ws' := [(y17, .inl (T 0, 15, .inl c17))]) [2] rfl) (hD.sub (ws' := [(y17, .inl (T 0, 15, .inl c17))]) [2] (by decide) rfl)) rfl hl.1 rfl (Nat.le_of_ble_eq_true rfl) dX11_copyTown_17 ⟨(Nat.le_of_ble_eq_true rfl), (Nat.le_of_ble_eq_true rfl)⟩) hS hA hP hD [2] [0, 1, 3, 4, 5, 6, 7] rfl rfl (by decide) (by decide) (fun u_5 H locs hw hP hD hS => ?_)
  have hP : va_P D vwCl [(ym, .inr (11, [.int w0, .ref y1, .ref y2, .ref y3, .ref y4, .ref y5, .int w6, .int w7, .int w8, .int w9, .int w10, .long v11, .int w12, .int w13, .int w14, .int w15, .ref y16, .ref y17, .ref y18, .ref y19, .ref y20, .ref y21, .ref y22, .ref y23, .ref y24, .ref y25, .ref y26, .ref y27, .ref y28, .ref y29, .ref y30, .ref y31, .ref y32, .int w33, .int w34, .int w35, .ref y36, .int w37, .int w38, .int w39, .ref y40, .ref y41, .ref y42, .int w43, .long v44])), (y16, .inl (T 0, 5, .inl (u_2.2.1 0))), (y17, .inl (T 0, 15, .inl (u_5.2.1 0))), (y18, .inl (T 0, 5, .inl c18)), (y19, .inl (T 0, 75, .inl c19)), (y20, .inl (T 0, 5, .inl c20)), (y21, .inl (T 0, 400, .inl c21)), (y22, .inl (T 0, 15, .inl c22))] H := hP.sub [0, 1, 7, 2, 3, 4, 5, 6] rfl
  have hD : va_D A [(ym, .inr (11, [.int w0, .ref y1, .ref y2, .ref y3, .ref y4, .ref y5, .int w6, .int w7, .int w8, .int w9, .int w10, .long v11, .int w12, .int w13, .int w14, .int w15, .ref y16, .ref y17, .ref y18, .ref y19, .ref y20, .ref y21, .ref y22, .ref y23, .ref y24, .ref y25, .ref y26, .ref y27, .ref y28, .ref y29, .ref y30, .ref y31, .ref y32, .int w33, .int w34, .int w35, .ref y36, .int w37, .int w38, .int w39, .ref y40, .ref y41, .ref y42, .int w43, .long v44])), (y16, .inl (T 0, 5, .inl (u_2.2.1 0))), (y17, .inl (T 0, 15, .inl (u_5.2.1 0))), (y18, .inl (T 0, 5, .inl c18)), (y19, .inl (T 0, 75, .inl c19)), (y20, .inl (T 0, 5, .inl c20)), (y21, .inl (T 0, 400, .inl c21)), (y22, .inl (T 0, 15, .inl c22))] := hD.sub [0, 1, 7, 2, 3, 4, 5, 6] (by decide) rfl
  have w_6 : ((u_5.2.1 0) = cpR 3 i1.toInt.toNat i2.toInt.toNat 3 c17) := hw
  have P_7 : pg 3 0 0 8 (u_5.2.1 0) := by rw [w_6]; exact pg_cpR P_0 (by decide)
  have P_8 : pg 3 1 0 12 (u_5.2.1 0) := by rw [w_6]; exact pg_cpR P_1 (by decide)
  refine lv_aload_n hx hb dX11_copyTown_20 rfl (lv_at hl 0 rfl) ?_
  refine va_get (D := D) (ci := 11) (C := RX11) (T := TX11) (N := 45) hx hb hts iX11 hown hK hP 0 rfl rfl 18 (by decide) (hts _ m1336) (fun _ h9 => h9) rfl dX11_copyTown_21 ?_
  refine lv_iconst (v := 1) hx hb dX11_copyTown_24 (by decide) ?_
  refine lv_iload_n hx hb dX11_copyTown_25 rfl (lv_at hl 1 rfl) ?_
  refine lv_iload_n hx hb dX11_copyTown_26 rfl (lv_at hl 2 rfl) ?_
  refine mtV (wr := [(ym, .inr (11, [.int w0, .ref y1, .ref y2, .ref y3, .ref y4, .ref y5, .int w6, .int w7, .int w8, .int w9, .int w10, .long v11, .int w12, .int w13, .int w14, .int w15, .ref y16, .ref y17, .ref y18, .ref y19, .ref y20, .ref y21, .ref y22, .ref y23, .ref y24, .ref y25, .ref y26, .ref y27, .ref y28, .ref y29, .ref y30, .ref y31, .ref y32, .int w33, .int w34, .int w35, .ref y36, .int w37, .int w38, .int w39, .ref y40, .ref y41, .ref y42, .int w43, .long v44])), (y16, .inl (T 0, 5, .inl (u_2.2.1 0))), (y17, .inl (T 0, 15, .inl (u_5.2.1 0))), (y19, .inl (T 0, 75, .inl c19)), (y20, .inl (T 0, 5, .inl c20)), (y21, .inl (T 0, 400, .inl c21)), (y22, .inl (T 0, 15, .inl c22))]) (cS (As := [.ref y18, .int 1, .int i1, .int i2]) (rest := []) ⟨hx, hb, hml, hown, hts⟩ (c_X11_copyRow_1 l D T y18 i1 i2 c18 _ ⟨by omega, by omega⟩ ⟨by omega, by omega⟩ (by omega)) k_X11_copyRow m1605 m1604 rfl rfl ⟨(Nat.le_of_ble_eq_true rfl), (Nat.le_of_ble_eq_true rfl)⟩ (preM hC (hP.sub (ws' := [(y18, .inl (T 0, 5, .inl c18))]) [3] rfl) (hD.sub (ws' := [(y18, .inl (T 0, 5, .inl c18))]) [3] (by decide) rfl)) rfl hl.1 rfl (Nat.le_of_ble_eq_true rfl) dX11_copyTown_27 ⟨(Nat.le_of_ble_eq_true rfl), (Nat.le_of_ble_eq_true rfl)⟩) hS hA hP hD [3] [0, 1, 2, 4, 5, 6, 7] rfl rfl (by decide) (by decide) (fun u_10 H locs hw hP hD hS => ?_)
  have hP : va_P D vwCl [(ym, .inr (11, [.int w0, .ref y1, .ref y2, .ref y3, .ref y4, .ref y5, .int w6, .int w7, .int w8, .int w9, .int w10, .long v11, .int w12, .int w13, .int w14, .int w15, .ref y16, .ref y17, .ref y18, .ref y19, .ref y20, .ref y21, .ref y22, .ref y23, .ref y24, .ref y25, .ref y26, .ref y27, .ref y28, .ref y29, .ref y30, .ref y31, .ref y32, .int w33, .int w34, .int w35, .ref y36, .int w37, .int w38, .int w39, .ref y40, .ref y41, .ref y42, .int w43, .long v44])), (y16, .inl (T 0, 5, .inl (u_2.2.1 0))), (y17, .inl (T 0, 15, .inl (u_5.2.1 0))), (y18, .inl (T 0, 5, .inl (u_10.2.1 0))), (y19, .inl (T 0, 75, .inl c19)), (y20, .inl (T 0, 5, .inl c20)), (y21, .inl (T 0, 400, .inl c21)), (y22, .inl (T 0, 15, .inl c22))] H := hP.sub [0, 1, 2, 7, 3, 4, 5, 6] rfl
  have hD : va_D A [(ym, .inr (11, [.int w0, .ref y1, .ref y2, .ref y3, .ref y4, .ref y5, .int w6, .int w7, .int w8, .int w9, .int w10, .long v11, .int w12, .int w13, .int w14, .int w15, .ref y16, .ref y17, .ref y18, .ref y19, .ref y20, .ref y21, .ref y22, .ref y23, .ref y24, .ref y25, .ref y26, .ref y27, .ref y28, .ref y29, .ref y30, .ref y31, .ref y32, .int w33, .int w34, .int w35, .ref y36, .int w37, .int w38, .int w39, .ref y40, .ref y41, .ref y42, .int w43, .long v44])), (y16, .inl (T 0, 5, .inl (u_2.2.1 0))), (y17, .inl (T 0, 15, .inl (u_5.2.1 0))), (y18, .inl (T 0, 5, .inl (u_10.2.1 0))), (y19, .inl (T 0, 75, .inl c19)), (y20, .inl (T 0, 5, .inl c20)), (y21, .inl (T 0, 400, .inl c21)), (y22, .inl (T 0, 15, .inl c22))] := hD.sub [0, 1, 2, 7, 3, 4, 5, 6] (by decide) rfl
  have w_11 : ((u_10.2.1 0) = cpR 1 i1.toInt.toNat i2.toInt.toNat 1 c18) := hw
  have R_12 : rg 0 5 (u_10.2.1 0) := by rw [w_11]; exact rg_cpR R_c18
  refine lv_aload_n hx hb dX11_copyTown_30 rfl (lv_at hl 0 rfl) ?_
  refine va_get (D := D) (ci := 11) (C := RX11) (T := TX11) (N := 45) hx hb hts iX11 hown hK hP 0 rfl rfl 19 (by decide) (hts _ m1337) (fun _ h9 => h9) rfl dX11_copyTown_31 ?_
  refine lv_bipush (v := 15) hx hb dX11_copyTown_34 (by decide) ?_
  refine lv_iload_n hx hb dX11_copyTown_36 rfl (lv_at hl 1 rfl) ?_
  refine lv_iload_n hx hb dX11_copyTown_37 rfl (lv_at hl 2 rfl) ?_
  refine mtV (wr := [(ym, .inr (11, [.int w0, .ref y1, .ref y2, .ref y3, .ref y4, .ref y5, .int w6, .int w7, .int w8, .int w9, .int w10, .long v11, .int w12, .int w13, .int w14, .int w15, .ref y16, .ref y17, .ref y18, .ref y19, .ref y20, .ref y21, .ref y22, .ref y23, .ref y24, .ref y25, .ref y26, .ref y27, .ref y28, .ref y29, .ref y30, .ref y31, .ref y32, .int w33, .int w34, .int w35, .ref y36, .int w37, .int w38, .int w39, .ref y40, .ref y41, .ref y42, .int w43, .long v44])), (y16, .inl (T 0, 5, .inl (u_2.2.1 0))), (y17, .inl (T 0, 15, .inl (u_5.2.1 0))), (y18, .inl (T 0, 5, .inl (u_10.2.1 0))), (y20, .inl (T 0, 5, .inl c20)), (y21, .inl (T 0, 400, .inl c21)), (y22, .inl (T 0, 15, .inl c22))]) (cS (As := [.ref y19, .int 15, .int i1, .int i2]) (rest := []) ⟨hx, hb, hml, hown, hts⟩ (c_X11_copyRow_15 l D T y19 i1 i2 c19 _ ⟨by omega, by omega⟩ ⟨by omega, by omega⟩ (by omega)) k_X11_copyRow m1605 m1604 rfl rfl ⟨(Nat.le_of_ble_eq_true rfl), (Nat.le_of_ble_eq_true rfl)⟩ (preM hC (hP.sub (ws' := [(y19, .inl (T 0, 75, .inl c19))]) [4] rfl) (hD.sub (ws' := [(y19, .inl (T 0, 75, .inl c19))]) [4] (by decide) rfl)) rfl hl.1 rfl (Nat.le_of_ble_eq_true rfl) dX11_copyTown_38 ⟨(Nat.le_of_ble_eq_true rfl), (Nat.le_of_ble_eq_true rfl)⟩) hS hA hP hD [4] [0, 1, 2, 3, 5, 6, 7] rfl rfl (by decide) (by decide) (fun u_14 H locs hw hP hD hS => ?_)
  have hP : va_P D vwCl [(ym, .inr (11, [.int w0, .ref y1, .ref y2, .ref y3, .ref y4, .ref y5, .int w6, .int w7, .int w8, .int w9, .int w10, .long v11, .int w12, .int w13, .int w14, .int w15, .ref y16, .ref y17, .ref y18, .ref y19, .ref y20, .ref y21, .ref y22, .ref y23, .ref y24, .ref y25, .ref y26, .ref y27, .ref y28, .ref y29, .ref y30, .ref y31, .ref y32, .int w33, .int w34, .int w35, .ref y36, .int w37, .int w38, .int w39, .ref y40, .ref y41, .ref y42, .int w43, .long v44])), (y16, .inl (T 0, 5, .inl (u_2.2.1 0))), (y17, .inl (T 0, 15, .inl (u_5.2.1 0))), (y18, .inl (T 0, 5, .inl (u_10.2.1 0))), (y19, .inl (T 0, 75, .inl (u_14.2.1 0))), (y20, .inl (T 0, 5, .inl c20)), (y21, .inl (T 0, 400, .inl c21)), (y22, .inl (T 0, 15, .inl c22))] H := hP.sub [0, 1, 2, 3, 7, 4, 5, 6] rfl
  have hD : va_D A [(ym, .inr (11, [.int w0, .ref y1, .ref y2, .ref y3, .ref y4, .ref y5, .int w6, .int w7, .int w8, .int w9, .int w10, .long v11, .int w12, .int w13, .int w14, .int w15, .ref y16, .ref y17, .ref y18, .ref y19, .ref y20, .ref y21, .ref y22, .ref y23, .ref y24, .ref y25, .ref y26, .ref y27, .ref y28, .ref y29, .ref y30, .ref y31, .ref y32, .int w33, .int w34, .int w35, .ref y36, .int w37, .int w38, .int w39, .ref y40, .ref y41, .ref y42, .int w43, .long v44])), (y16, .inl (T 0, 5, .inl (u_2.2.1 0))), (y17, .inl (T 0, 15, .inl (u_5.2.1 0))), (y18, .inl (T 0, 5, .inl (u_10.2.1 0))), (y19, .inl (T 0, 75, .inl (u_14.2.1 0))), (y20, .inl (T 0, 5, .inl c20)), (y21, .inl (T 0, 400, .inl c21)), (y22, .inl (T 0, 15, .inl c22))] := hD.sub [0, 1, 2, 3, 7, 4, 5, 6] (by decide) rfl
  have w_15 : ((u_14.2.1 0) = cpR 15 i1.toInt.toNat i2.toInt.toNat 15 c19) := hw
  refine lv_aload_n hx hb dX11_copyTown_41 rfl (lv_at hl 0 rfl) ?_
  refine va_get (D := D) (ci := 11) (C := RX11) (T := TX11) (N := 45) hx hb hts iX11 hown hK hP 0 rfl rfl 20 (by decide) (hts _ m1338) (fun _ h9 => h9) rfl dX11_copyTown_42 ?_
  refine lv_iconst (v := 1) hx hb dX11_copyTown_45 (by decide) ?_
  refine lv_iload_n hx hb dX11_copyTown_46 rfl (lv_at hl 1 rfl) ?_
  refine lv_iload_n hx hb dX11_copyTown_47 rfl (lv_at hl 2 rfl) ?_
  refine mtV (wr := [(ym, .inr (11, [.int w0, .ref y1, .ref y2, .ref y3, .ref y4, .ref y5, .int w6, .int w7, .int w8, .int w9, .int w10, .long v11, .int w12, .int w13, .int w14, .int w15, .ref y16, .ref y17, .ref y18, .ref y19, .ref y20, .ref y21, .ref y22, .ref y23, .ref y24, .ref y25, .ref y26, .ref y27, .ref y28, .ref y29, .ref y30, .ref y31, .ref y32, .int w33, .int w34, .int w35, .ref y36, .int w37, .int w38, .int w39, .ref y40, .ref y41, .ref y42, .int w43, .long v44])), (y16, .inl (T 0, 5, .inl (u_2.2.1 0))), (y17, .inl (T 0, 15, .inl (u_5.2.1 0))), (y18, .inl (T 0, 5, .inl (u_10.2.1 0))), (y19, .inl (T 0, 75, .inl (u_14.2.1 0))), (y21, .inl (T 0, 400, .inl c21)), (y22, .inl (T 0, 15, .inl c22))]) (cS (As := [.ref y20, .int 1, .int i1, .int i2]) (rest := []) ⟨hx, hb, hml, hown, hts⟩ (c_X11_copyRow_1 l D T y20 i1 i2 c20 _ ⟨by omega, by omega⟩ ⟨by omega, by omega⟩ (by omega)) k_X11_copyRow m1605 m1604 rfl rfl ⟨(Nat.le_of_ble_eq_true rfl), (Nat.le_of_ble_eq_true rfl)⟩ (preM hC (hP.sub (ws' := [(y20, .inl (T 0, 5, .inl c20))]) [5] rfl) (hD.sub (ws' := [(y20, .inl (T 0, 5, .inl c20))]) [5] (by decide) rfl)) rfl hl.1 rfl (Nat.le_of_ble_eq_true rfl) dX11_copyTown_48 ⟨(Nat.le_of_ble_eq_true rfl), (Nat.le_of_ble_eq_true rfl)⟩) hS hA hP hD [5] [0, 1, 2, 3, 4, 6, 7] rfl rfl (by decide) (by decide) (fun u_17 H locs hw hP hD hS => ?_)
  have hP : va_P D vwCl [(ym, .inr (11, [.int w0, .ref y1, .ref y2, .ref y3, .ref y4, .ref y5, .int w6, .int w7, .int w8, .int w9, .int w10, .long v11, .int w12, .int w13, .int w14, .int w15, .ref y16, .ref y17, .ref y18, .ref y19, .ref y20, .ref y21, .ref y22, .ref y23, .ref y24, .ref y25, .ref y26, .ref y27, .ref y28, .ref y29, .ref y30, .ref y31, .ref y32, .int w33, .int w34, .int w35, .ref y36, .int w37, .int w38, .int w39, .ref y40, .ref y41, .ref y42, .int w43, .long v44])), (y16, .inl (T 0, 5, .inl (u_2.2.1 0))), (y17, .inl (T 0, 15, .inl (u_5.2.1 0))), (y18, .inl (T 0, 5, .inl (u_10.2.1 0))), (y19, .inl (T 0, 75, .inl (u_14.2.1 0))), (y20, .inl (T 0, 5, .inl (u_17.2.1 0))), (y21, .inl (T 0, 400, .inl c21)), (y22, .inl (T 0, 15, .inl c22))] H := hP.sub [0, 1, 2, 3, 4, 7, 5, 6] rfl
  have hD : va_D A [(ym, .inr (11, [.int w0, .ref y1, .ref y2, .ref y3, .ref y4, .ref y5, .int w6, .int w7, .int w8, .int w9, .int w10, .long v11, .int w12, .int w13, .int w14, .int w15, .ref y16, .ref y17, .ref y18, .ref y19, .ref y20, .ref y21, .ref y22, .ref y23, .ref y24, .ref y25, .ref y26, .ref y27, .ref y28, .ref y29, .ref y30, .ref y31, .ref y32, .int w33, .int w34, .int w35, .ref y36, .int w37, .int w38, .int w39, .ref y40, .ref y41, .ref y42, .int w43, .long v44])), (y16, .inl (T 0, 5, .inl (u_2.2.1 0))), (y17, .inl (T 0, 15, .inl (u_5.2.1 0))), (y18, .inl (T 0, 5, .inl (u_10.2.1 0))), (y19, .inl (T 0, 75, .inl (u_14.2.1 0))), (y20, .inl (T 0, 5, .inl (u_17.2.1 0))), (y21, .inl (T 0, 400, .inl c21)), (y22, .inl (T 0, 15, .inl c22))] := hD.sub [0, 1, 2, 3, 4, 7, 5, 6] (by decide) rfl
  have w_18 : ((u_17.2.1 0) = cpR 1 i1.toInt.toNat i2.toInt.toNat 1 c20) := hw
  have R_19 : rg 0 10 (u_17.2.1 0) := by rw [w_18]; exact rg_cpR R_c20
  refine lv_aload_n hx hb dX11_copyTown_51 rfl (lv_at hl 0 rfl) ?_
  refine va_get (D := D) (ci := 11) (C := RX11) (T := TX11) (N := 45) hx hb hts iX11 hown hK hP 0 rfl rfl 21 (by decide) (hts _ m1339) (fun _ h9 => h9) rfl dX11_copyTown_52 ?_
  refine lv_bipush (v := 80) hx hb dX11_copyTown_55 (by decide) ?_
  refine lv_iload_n hx hb dX11_copyTown_57 rfl (lv_at hl 1 rfl) ?_
  refine lv_iload_n hx hb dX11_copyTown_58 rfl (lv_at hl 2 rfl) ?_
  refine mtV (wr := [(ym, .inr (11, [.int w0, .ref y1, .ref y2, .ref y3, .ref y4, .ref y5, .int w6, .int w7, .int w8, .int w9, .int w10, .long v11, .int w12, .int w13, .int w14, .int w15, .ref y16, .ref y17, .ref y18, .ref y19, .ref y20, .ref y21, .ref y22, .ref y23, .ref y24, .ref y25, .ref y26, .ref y27, .ref y28, .ref y29, .ref y30, .ref y31, .ref y32, .int w33, .int w34, .int w35, .ref y36, .int w37, .int w38, .int w39, .ref y40, .ref y41, .ref y42, .int w43, .long v44])), (y16, .inl (T 0, 5, .inl (u_2.2.1 0))), (y17, .inl (T 0, 15, .inl (u_5.2.1 0))), (y18, .inl (T 0, 5, .inl (u_10.2.1 0))), (y19, .inl (T 0, 75, .inl (u_14.2.1 0))), (y20, .inl (T 0, 5, .inl (u_17.2.1 0))), (y22, .inl (T 0, 15, .inl c22))]) (cS (As := [.ref y21, .int 80, .int i1, .int i2]) (rest := []) ⟨hx, hb, hml, hown, hts⟩ (c_X11_copyRow_80 l D T y21 i1 i2 c21 _ ⟨by omega, by omega⟩ ⟨by omega, by omega⟩ (by omega)) k_X11_copyRow m1605 m1604 rfl rfl ⟨(Nat.le_of_ble_eq_true rfl), (Nat.le_of_ble_eq_true rfl)⟩ (preM hC (hP.sub (ws' := [(y21, .inl (T 0, 400, .inl c21))]) [6] rfl) (hD.sub (ws' := [(y21, .inl (T 0, 400, .inl c21))]) [6] (by decide) rfl)) rfl hl.1 rfl (Nat.le_of_ble_eq_true rfl) dX11_copyTown_59 ⟨(Nat.le_of_ble_eq_true rfl), (Nat.le_of_ble_eq_true rfl)⟩) hS hA hP hD [6] [0, 1, 2, 3, 4, 5, 7] rfl rfl (by decide) (by decide) (fun u_21 H locs hw hP hD hS => ?_)
  have hP : va_P D vwCl [(ym, .inr (11, [.int w0, .ref y1, .ref y2, .ref y3, .ref y4, .ref y5, .int w6, .int w7, .int w8, .int w9, .int w10, .long v11, .int w12, .int w13, .int w14, .int w15, .ref y16, .ref y17, .ref y18, .ref y19, .ref y20, .ref y21, .ref y22, .ref y23, .ref y24, .ref y25, .ref y26, .ref y27, .ref y28, .ref y29, .ref y30, .ref y31, .ref y32, .int w33, .int w34, .int w35, .ref y36, .int w37, .int w38, .int w39, .ref y40, .ref y41, .ref y42, .int w43, .long v44])), (y16, .inl (T 0, 5, .inl (u_2.2.1 0))), (y17, .inl (T 0, 15, .inl (u_5.2.1 0))), (y18, .inl (T 0, 5, .inl (u_10.2.1 0))), (y19, .inl (T 0, 75, .inl (u_14.2.1 0))), (y20, .inl (T 0, 5, .inl (u_17.2.1 0))), (y21, .inl (T 0, 400, .inl (u_21.2.1 0))), (y22, .inl (T 0, 15, .inl c22))] H := hP.sub [0, 1, 2, 3, 4, 5, 7, 6] rfl
  have hD : va_D A [(ym, .inr (11, [.int w0, .ref y1, .ref y2, .ref y3, .ref y4, .ref y5, .int w6, .int w7, .int w8, .int w9, .int w10, .long v11, .int w12, .int w13, .int w14, .int w15, .ref y16, .ref y17, .ref y18, .ref y19, .ref y20, .ref y21, .ref y22, .ref y23, .ref y24, .ref y25, .ref y26, .ref y27, .ref y28, .ref y29, .ref y30, .ref y31, .ref y32, .int w33, .int w34, .int w35, .ref y36, .int w37, .int w38, .int w39, .ref y40, .ref y41, .ref y42, .int w43, .long v44])), (y16, .inl (T 0, 5, .inl (u_2.2.1 0))), (y17, .inl (T 0, 15, .inl (u_5.2.1 0))), (y18, .inl (T 0, 5, .inl (u_10.2.1 0))), (y19, .inl (T 0, 75, .inl (u_14.2.1 0))), (y20, .inl (T 0, 5, .inl (u_17.2.1 0))), (y21, .inl (T 0, 400, .inl (u_21.2.1 0))), (y22, .inl (T 0, 15, .inl c22))] := hD.sub [0, 1, 2, 3, 4, 5, 7, 6] (by decide) rfl
  have w_22 : ((u_21.2.1 0) = cpR 80 i1.toInt.toNat i2.toInt.toNat 80 c21) := hw
  refine lv_aload_n hx hb dX11_copyTown_62 rfl (lv_at hl 0 rfl) ?_
  refine va_get (D := D) (ci := 11) (C := RX11) (T := TX11) (N := 45) hx hb hts iX11 hown hK hP 0 rfl rfl 22 (by decide) (hts _ m1340) (fun _ h9 => h9) rfl dX11_copyTown_63 ?_
  refine lv_iconst (v := 3) hx hb dX11_copyTown_66 (by decide) ?_
  refine lv_iload_n hx hb dX11_copyTown_67 rfl (lv_at hl 1 rfl) ?_
  refine lv_iload_n hx hb dX11_copyTown_68 rfl (lv_at hl 2 rfl) ?_
  refine mtV (wr := [(ym, .inr (11, [.int w0, .ref y1, .ref y2, .ref y3, .ref y4, .ref y5, .int w6, .int w7, .int w8, .int w9, .int w10, .long v11, .int w12, .int w13, .int w14, .int w15, .ref y16, .ref y17, .ref y18, .ref y19, .ref y20, .ref y21, .ref y22, .ref y23, .ref y24, .ref y25, .ref y26, .ref y27, .ref y28, .ref y29, .ref y30, .ref y31, .ref y32, .int w33, .int w34, .int w35, .ref y36, .int w37, .int w38, .int w39, .ref y40, .ref y41, .ref y42, .int w43, .long v44])), (y16, .inl (T 0, 5, .inl (u_2.2.1 0))), (y17, .inl (T 0, 15, .inl (u_5.2.1 0))), (y18, .inl (T 0, 5, .inl (u_10.2.1 0))), (y19, .inl (T 0, 75, .inl (u_14.2.1 0))), (y20, .inl (T 0, 5, .inl (u_17.2.1 0))), (y21, .inl (T 0, 400, .inl (u_21.2.1 0)))]) (cS (As := [.ref y22, .int 3, .int i1, .int i2]) (rest := []) ⟨hx, hb, hml, hown, hts⟩ (c_X11_copyRow_3 l D T y22 i1 i2 c22 _ ⟨by omega, by omega⟩ ⟨by omega, by omega⟩ (by omega)) k_X11_copyRow m1605 m1604 rfl rfl ⟨(Nat.le_of_ble_eq_true rfl), (Nat.le_of_ble_eq_true rfl)⟩ (preM hC (hP.sub (ws' := [(y22, .inl (T 0, 15, .inl c22))]) [7] rfl) (hD.sub (ws' := [(y22, .inl (T 0, 15, .inl c22))]) [7] (by decide) rfl)) rfl hl.1 rfl (Nat.le_of_ble_eq_true rfl) dX11_copyTown_69 ⟨(Nat.le_of_ble_eq_true rfl), (Nat.le_of_ble_eq_true rfl)⟩) hS hA hP hD [7] [0, 1, 2, 3, 4, 5, 6] rfl rfl (by decide) (by decide) (fun u_24 H locs hw hP hD hS => ?_)
  have hP : va_P D vwCl [(ym, .inr (11, [.int w0, .ref y1, .ref y2, .ref y3, .ref y4, .ref y5, .int w6, .int w7, .int w8, .int w9, .int w10, .long v11, .int w12, .int w13, .int w14, .int w15, .ref y16, .ref y17, .ref y18, .ref y19, .ref y20, .ref y21, .ref y22, .ref y23, .ref y24, .ref y25, .ref y26, .ref y27, .ref y28, .ref y29, .ref y30, .ref y31, .ref y32, .int w33, .int w34, .int w35, .ref y36, .int w37, .int w38, .int w39, .ref y40, .ref y41, .ref y42, .int w43, .long v44])), (y16, .inl (T 0, 5, .inl (u_2.2.1 0))), (y17, .inl (T 0, 15, .inl (u_5.2.1 0))), (y18, .inl (T 0, 5, .inl (u_10.2.1 0))), (y19, .inl (T 0, 75, .inl (u_14.2.1 0))), (y20, .inl (T 0, 5, .inl (u_17.2.1 0))), (y21, .inl (T 0, 400, .inl (u_21.2.1 0))), (y22, .inl (T 0, 15, .inl (u_24.2.1 0)))] H := hP.sub [0, 1, 2, 3, 4, 5, 6, 7] rfl
  have hD : va_D A [(ym, .inr (11, [.int w0, .ref y1, .ref y2, .ref y3, .ref y4, .ref y5, .int w6, .int w7, .int w8, .int w9, .int w10, .long v11, .int w12, .int w13, .int w14, .int w15, .ref y16, .ref y17, .ref y18, .ref y19, .ref y20, .ref y21, .ref y22, .ref y23, .ref y24, .ref y25, .ref y26, .ref y27, .ref y28, .ref y29, .ref y30, .ref y31, .ref y32, .int w33, .int w34, .int w35, .ref y36, .int w37, .int w38, .int w39, .ref y40, .ref y41, .ref y42, .int w43, .long v44])), (y16, .inl (T 0, 5, .inl (u_2.2.1 0))), (y17, .inl (T 0, 15, .inl (u_5.2.1 0))), (y18, .inl (T 0, 5, .inl (u_10.2.1 0))), (y19, .inl (T 0, 75, .inl (u_14.2.1 0))), (y20, .inl (T 0, 5, .inl (u_17.2.1 0))), (y21, .inl (T 0, 400, .inl (u_21.2.1 0))), (y22, .inl (T 0, 15, .inl (u_24.2.1 0)))] := hD.sub [0, 1, 2, 3, 4, 5, 6, 7] (by decide) rfl
  have w_25 : ((u_24.2.1 0) = cpR 3 i1.toInt.toNat i2.toInt.toNat 3 c22) := hw
  have hP9 := hP.sub (ws' := [(ym, .inr (11, [.int w0, .ref y1, .ref y2, .ref y3, .ref y4, .ref y5, .int w6, .int w7, .int w8, .int w9, .int w10, .long v11, .int w12, .int w13, .int w14, .int w15, .ref y16, .ref y17, .ref y18, .ref y19, .ref y20, .ref y21, .ref y22, .ref y23, .ref y24, .ref y25, .ref y26, .ref y27, .ref y28, .ref y29, .ref y30, .ref y31, .ref y32, .int w33, .int w34, .int w35, .ref y36, .int w37, .int w38, .int w39, .ref y40, .ref y41, .ref y42, .int w43, .long v44])), (y16, .inl (T 0, 5, .inl (u_2.2.1 0))), (y17, .inl (T 0, 15, .inl (u_5.2.1 0))), (y18, .inl (T 0, 5, .inl (u_10.2.1 0))), (y19, .inl (T 0, 75, .inl (u_14.2.1 0))), (y20, .inl (T 0, 5, .inl (u_17.2.1 0))), (y21, .inl (T 0, 400, .inl (u_21.2.1 0))), (y22, .inl (T 0, 15, .inl (u_24.2.1 0)))]) [0, 1, 2, 3, 4, 5, 6, 7] rfl
  have hD9 := hD.sub (ws' := [(ym, .inr (11, [.int w0, .ref y1, .ref y2, .ref y3, .ref y4, .ref y5, .int w6, .int w7, .int w8, .int w9, .int w10, .long v11, .int w12, .int w13, .int w14, .int w15, .ref y16, .ref y17, .ref y18, .ref y19, .ref y20, .ref y21, .ref y22, .ref y23, .ref y24, .ref y25, .ref y26, .ref y27, .ref y28, .ref y29, .ref y30, .ref y31, .ref y32, .int w33, .int w34, .int w35, .ref y36, .int w37, .int w38, .int w39, .ref y40, .ref y41, .ref y42, .int w43, .long v44])), (y16, .inl (T 0, 5, .inl (u_2.2.1 0))), (y17, .inl (T 0, 15, .inl (u_5.2.1 0))), (y18, .inl (T 0, 5, .inl (u_10.2.1 0))), (y19, .inl (T 0, 75, .inl (u_14.2.1 0))), (y20, .inl (T 0, 5, .inl (u_17.2.1 0))), (y21, .inl (T 0, 400, .inl (u_21.2.1 0))), (y22, .inl (T 0, 15, .inl (u_24.2.1 0)))]) [0, 1, 2, 3, 4, 5, 6, 7] (by decide) rfl
  exact W.vret hx hb hr (fun t ht hW => ⟨⟨(fun k => ([] : List (Nat)).getD k 0, fun k => ([u_2.2.1 0, u_5.2.1 0, u_10.2.1 0, u_14.2.1 0, u_17.2.1 0, u_21.2.1 0, u_24.2.1 0] : List (Nat → Int32)).getD k (fun _ => 0), fun k => ([] : List (Nat → Int64)).getD k (fun _ => 0), fun k => ([] : List (Int32)).getD k 0, fun k => ([] : List (Int64)).getD k 0), rfl, ⟨(show rg 0 5 (u_10.2.1 0) from R_12), (show rg 0 10 (u_17.2.1 0) from R_19), (show (u_17.2.1 0) = cpR 1 i1.toInt.toNat i2.toInt.toNat 1 c20 by first | assumption | (simp only [w_3, w_3, w_6, w_6, w_11, w_11, w_15, w_15, w_18, w_18, w_22, w_22, w_25, w_25])), (show (u_21.2.1 0) = cpR 80 i1.toInt.toNat i2.toInt.toNat 80 c21 by first | assumption | (simp only [w_3, w_3, w_6, w_6, w_11, w_11, w_15, w_15, w_18, w_18, w_22, w_22, w_25, w_25])), (show pg 3 0 0 8 (u_5.2.1 0) from P_7), (show pg 3 1 0 12 (u_5.2.1 0) from P_8)⟩, by rw [ht]; exact hP9, hD9⟩, hS.F ht⟩) hS.2.2 dX11_copyTown_72

set_option maxHeartbeats 4000000 in
set_option maxRecDepth 100000 in
theorem c_X11_copyWall (l : Launch) (D : va_G) (T : Nat → ClassId) (y1 y16 y17 y18 y19 y2 y20 y21 y22 y23 y24 y25 y26 y27 y28 y29 y3 y30 y31 y32 y36 y4 y40 y41 y42 y5 ym : Nat) (i1 i2 w0 w10 w12 w13 w14 w15 w33 w34 w35 w37 w38 w39 w43 w6 w7 w8 w9 : Int32) (v11 v44 : Int64) (c24 c25 c26 c27 c28 c29 c30 c31 : Nat → Int32) (sz : Nat) (h_w6 : 0 ≤ w6.toInt ∧ w6.toInt ≤ 1600) (h_w43 : 0 ≤ w43.toInt ∧ w43.toInt ≤ 16) (h_i1 : 0 ≤ i1.toInt ∧ i1.toInt ≤ 4) (h_i2 : 0 ≤ i2.toInt ∧ i2.toInt ≤ 4) (R_c24 : rg 0 12 c24) (R_c25 : rg 0 4 c25) (R_c26 : rg (-1) 9 c26) (P_0 : pg 3 0 0 100 c29) (P_1 : pg 3 1 0 2 c29) (hab : i1.toInt < i2.toInt ∨ i2.toInt < i1.toInt) : Met l yX11_copyWall (wM yX11_copyWall cX11_copyWall 3 none) ({ frames := 1, cells := 0, slots := 0, locals := 24 }) (va_Pc [.ref ym, .int i1, .int i2] (pwM D T [(ym, .inr (11, [.int w0, .ref y1, .ref y2, .ref y3, .ref y4, .ref y5, .int w6, .int w7, .int w8, .int w9, .int w10, .long v11, .int w12, .int w13, .int w14, .int w15, .ref y16, .ref y17, .ref y18, .ref y19, .ref y20, .ref y21, .ref y22, .ref y23, .ref y24, .ref y25, .ref y26, .ref y27, .ref y28, .ref y29, .ref y30, .ref y31, .ref y32, .int w33, .int w34, .int w35, .ref y36, .int w37, .int w38, .int w39, .ref y40, .ref y41, .ref y42, .int w43, .long v44])), (y24, .inl (T 0, 80, .inl c24)), (y25, .inl (T 0, 960, .inl c25)), (y26, .inl (T 0, 960, .inl c26)), (y27, .inl (T 0, 960, .inl c27)), (y28, .inl (T 0, 25, .inl c28)), (y29, .inl (T 0, 15, .inl c29)), (y30, .inl (T 0, 500, .inl c30)), (y31, .inl (T 0, 1000, .inl c31))] sz)) (va_Qv (fun (u : U5) => rg 0 12 (u.2.1 0) ∧ rg 0 4 (u.2.1 1) ∧ rg (-1) 9 (u.2.1 2) ∧ ((u.2.1 5) = cpR 3 i1.toInt.toNat i2.toInt.toNat 3 c29) ∧ pg 3 0 0 100 (u.2.1 5) ∧ pg 3 1 0 2 (u.2.1 5)) (fun u t => pwE D (va_A [(ym, .inr (11, [.int w0, .ref y1, .ref y2, .ref y3, .ref y4, .ref y5, .int w6, .int w7, .int w8, .int w9, .int w10, .long v11, .int w12, .int w13, .int w14, .int w15, .ref y16, .ref y17, .ref y18, .ref y19, .ref y20, .ref y21, .ref y22, .ref y23, .ref y24, .ref y25, .ref y26, .ref y27, .ref y28, .ref y29, .ref y30, .ref y31, .ref y32, .int w33, .int w34, .int w35, .ref y36, .int w37, .int w38, .int w39, .ref y40, .ref y41, .ref y42, .int w43, .long v44])), (y24, .inl (T 0, 80, .inl c24)), (y25, .inl (T 0, 960, .inl c25)), (y26, .inl (T 0, 960, .inl c26)), (y27, .inl (T 0, 960, .inl c27)), (y28, .inl (T 0, 25, .inl c28)), (y29, .inl (T 0, 15, .inl c29)), (y30, .inl (T 0, 500, .inl c30)), (y31, .inl (T 0, 1000, .inl c31))] sz) [(ym, .inr (11, [.int w0, .ref y1, .ref y2, .ref y3, .ref y4, .ref y5, .int w6, .int w7, .int w8, .int w9, .int w10, .long v11, .int w12, .int w13, .int w14, .int w15, .ref y16, .ref y17, .ref y18, .ref y19, .ref y20, .ref y21, .ref y22, .ref y23, .ref y24, .ref y25, .ref y26, .ref y27, .ref y28, .ref y29, .ref y30, .ref y31, .ref y32, .int w33, .int w34, .int w35, .ref y36, .int w37, .int w38, .int w39, .ref y40, .ref y41, .ref y42, .int w43, .long v44])), (y24, .inl (T 0, 80, .inl (u.2.1 0))), (y25, .inl (T 0, 960, .inl (u.2.1 1))), (y26, .inl (T 0, 960, .inl (u.2.1 2))), (y27, .inl (T 0, 960, .inl (u.2.1 3))), (y28, .inl (T 0, 25, .inl (u.2.1 4))), (y29, .inl (T 0, 15, .inl (u.2.1 5))), (y30, .inl (T 0, 500, .inl (u.2.1 6))), (y31, .inl (T 0, 1000, .inl (u.2.1 7)))] t) (va_A [(ym, .inr (11, [.int w0, .ref y1, .ref y2, .ref y3, .ref y4, .ref y5, .int w6, .int w7, .int w8, .int w9, .int w10, .long v11, .int w12, .int w13, .int w14, .int w15, .ref y16, .ref y17, .ref y18, .ref y19, .ref y20, .ref y21, .ref y22, .ref y23, .ref y24, .ref y25, .ref y26, .ref y27, .ref y28, .ref y29, .ref y30, .ref y31, .ref y32, .int w33, .int w34, .int w35, .ref y36, .int w37, .int w38, .int w39, .ref y40, .ref y41, .ref y42, .int w43, .long v44])), (y24, .inl (T 0, 80, .inl c24)), (y25, .inl (T 0, 960, .inl c25)), (y26, .inl (T 0, 960, .inl c26)), (y27, .inl (T 0, 960, .inl c27)), (y28, .inl (T 0, 25, .inl c28)), (y29, .inl (T 0, 15, .inl c29)), (y30, .inl (T 0, 500, .inl c30)), (y31, .inl (T 0, 1000, .inl c31))] sz)) 0 0 (va_A [(ym, .inr (11, [.int w0, .ref y1, .ref y2, .ref y3, .ref y4, .ref y5, .int w6, .int w7, .int w8, .int w9, .int w10, .long v11, .int w12, .int w13, .int w14, .int w15, .ref y16, .ref y17, .ref y18, .ref y19, .ref y20, .ref y21, .ref y22, .ref y23, .ref y24, .ref y25, .ref y26, .ref y27, .ref y28, .ref y29, .ref y30, .ref y31, .ref y32, .int w33, .int w34, .int w35, .ref y36, .int w37, .int w38, .int w39, .ref y40, .ref y41, .ref y42, .int w43, .long v44])), (y24, .inl (T 0, 80, .inl c24)), (y25, .inl (T 0, 960, .inl c25)), (y26, .inl (T 0, 960, .inl c26)), (y27, .inl (T 0, 960, .inl c27)), (y28, .inl (T 0, 25, .inl c28)), (y29, .inl (T 0, 15, .inl c29)), (y30, .inl (T 0, 500, .inl c30)), (y31, .inl (T 0, 1000, .inl c31))] sz) := by
  refine Met.ofW (cc := cX11_copyWall) (maxL := 3) (ret := none) (by decide) rfl ?_
  intro p e s m args below meth c s₁ B hml hv
  obtain ⟨rfl, hsz, hP, hC, hD0⟩ := hv
  have hx := B.exec
  have hb := B.bytes
  have hr := B.returns
  have hts : ∀ w ∈ gt, w.before _ s = true := fun w hw => atoms_spec (ws := (wM yX11_copyWall cX11_copyWall 3 none)) B.pre w (List.mem_cons_of_mem _ hw)
  have hown : s.vm.findClass RX11 = some m.cls := findClass_of_methodNamed B.named
  have hlocks := B.notSynchronized
  have hK := hC.1
  subst hsz
  have hD := hD0.self (sz := s.heap.size)
  generalize hAe : va_A [(ym, .inr (11, [.int w0, .ref y1, .ref y2, .ref y3, .ref y4, .ref y5, .int w6, .int w7, .int w8, .int w9, .int w10, .long v11, .int w12, .int w13, .int w14, .int w15, .ref y16, .ref y17, .ref y18, .ref y19, .ref y20, .ref y21, .ref y22, .ref y23, .ref y24, .ref y25, .ref y26, .ref y27, .ref y28, .ref y29, .ref y30, .ref y31, .ref y32, .int w33, .int w34, .int w35, .ref y36, .int w37, .int w38, .int w39, .ref y40, .ref y41, .ref y42, .int w43, .long v44])), (y24, .inl (T 0, 80, .inl c24)), (y25, .inl (T 0, 960, .inl c25)), (y26, .inl (T 0, 960, .inl c26)), (y27, .inl (T 0, 960, .inl c27)), (y28, .inl (T 0, 25, .inl c28)), (y29, .inl (T 0, 15, .inl c29)), (y30, .inl (T 0, 500, .inl c30)), (y31, .inl (T 0, 1000, .inl c31))] s.heap.size = A at hD ⊢
  have hA : ∀ q : Nat, s.heap.size ≤ q → A q := fun q h => by rw [← hAe]; exact Or.inr h
  have hS : va_S A s.heap s.heap [] := va_S.rf
  have hl := lv_entry ([.ref ym, .int i1, .int i2]) (n := 3) (Nat.le_of_ble_eq_true rfl)
  rw [lg_entry_eq]
  generalize (lg_sl ([.ref ym, .int i1, .int i2]) ++ List.replicate (3 - (lg_sl ([.ref ym, .int i1, .int i2])).length) Slot.unset).toArray = ls at hl ⊢
  have hl : lv_has ls 3 [(0, .ref ym), (1, .int i1), (2, .int i2)] := hl
  have b_y29_0 : 0 ≤ (c29 0).toInt ∧ (c29 0).toInt ≤ 100 := P_0 0
  have b_y29_1 : 0 ≤ (c29 1).toInt ∧ (c29 1).toInt ≤ 2 := P_1 0
  refine lv_aload_n hx hb dX11_copyWall_0 rfl (lv_at hl 0 rfl) ?_
  refine va_get (D := D) (ci := 11) (C := RX11) (T := TX11) (N := 45) hx hb hts iX11 hown hK hP 0 rfl rfl 24 (by decide) (hts _ m1342) (fun _ h9 => h9) rfl dX11_copyWall_1 ?_
  refine lv_bipush (v := 16) hx hb dX11_copyWall_4 (by decide) ?_
  refine lv_iload_n hx hb dX11_copyWall_6 rfl (lv_at hl 1 rfl) ?_
  refine lv_iload_n hx hb dX11_copyWall_7 rfl (lv_at hl 2 rfl) ?_
  refine mtV (wr := [(ym, .inr (11, [.int w0, .ref y1, .ref y2, .ref y3, .ref y4, .ref y5, .int w6, .int w7, .int w8, .int w9, .int w10, .long v11, .int w12, .int w13, .int w14, .int w15, .ref y16, .ref y17, .ref y18, .ref y19, .ref y20, .ref y21, .ref y22, .ref y23, .ref y24, .ref y25, .ref y26, .ref y27, .ref y28, .ref y29, .ref y30, .ref y31, .ref y32, .int w33, .int w34, .int w35, .ref y36, .int w37, .int w38, .int w39, .ref y40, .ref y41, .ref y42, .int w43, .long v44])), (y25, .inl (T 0, 960, .inl c25)), (y26, .inl (T 0, 960, .inl c26)), (y27, .inl (T 0, 960, .inl c27)), (y28, .inl (T 0, 25, .inl c28)), (y29, .inl (T 0, 15, .inl c29)), (y30, .inl (T 0, 500, .inl c30)), (y31, .inl (T 0, 1000, .inl c31))]) (cS (As := [.ref y24, .int 16, .int i1, .int i2]) (rest := []) ⟨hx, hb, hml, hown, hts⟩ (c_X11_copyRow_16 l D T y24 i1 i2 c24 _ ⟨by omega, by omega⟩ ⟨by omega, by omega⟩ (by omega)) k_X11_copyRow m1605 m1604 rfl rfl ⟨(Nat.le_of_ble_eq_true rfl), (Nat.le_of_ble_eq_true rfl)⟩ (preM hC (hP.sub (ws' := [(y24, .inl (T 0, 80, .inl c24))]) [1] rfl) (hD.sub (ws' := [(y24, .inl (T 0, 80, .inl c24))]) [1] (by decide) rfl)) rfl hl.1 rfl (Nat.le_of_ble_eq_true rfl) dX11_copyWall_8 ⟨(Nat.le_of_ble_eq_true rfl), (Nat.le_of_ble_eq_true rfl)⟩) hS hA hP hD [1] [0, 2, 3, 4, 5, 6, 7, 8] rfl rfl (by decide) (by decide) (fun u_2 H locs hw hP hD hS => ?_)
  have hP : va_P D vwCl [(ym, .inr (11, [.int w0, .ref y1, .ref y2, .ref y3, .ref y4, .ref y5, .int w6, .int w7, .int w8, .int w9, .int w10, .long v11, .int w12, .int w13, .int w14, .int w15, .ref y16, .ref y17, .ref y18, .ref y19, .ref y20, .ref y21, .ref y22, .ref y23, .ref y24, .ref y25, .ref y26, .ref y27, .ref y28, .ref y29, .ref y30, .ref y31, .ref y32, .int w33, .int w34, .int w35, .ref y36, .int w37, .int w38, .int w39, .ref y40, .ref y41, .ref y42, .int w43, .long v44])), (y24, .inl (T 0, 80, .inl (u_2.2.1 0))), (y25, .inl (T 0, 960, .inl c25)), (y26, .inl (T 0, 960, .inl c26)), (y27, .inl (T 0, 960, .inl c27)), (y28, .inl (T 0, 25, .inl c28)), (y29, .inl (T 0, 15, .inl c29)), (y30, .inl (T 0, 500, .inl c30)), (y31, .inl (T 0, 1000, .inl c31))] H := hP.sub [0, 8, 1, 2, 3, 4, 5, 6, 7] rfl
  have hD : va_D A [(ym, .inr (11, [.int w0, .ref y1, .ref y2, .ref y3, .ref y4, .ref y5, .int w6, .int w7, .int w8, .int w9, .int w10, .long v11, .int w12, .int w13, .int w14, .int w15, .ref y16, .ref y17, .ref y18, .ref y19, .ref y20, .ref y21, .ref y22, .ref y23, .ref y24, .ref y25, .ref y26, .ref y27, .ref y28, .ref y29, .ref y30, .ref y31, .ref y32, .int w33, .int w34, .int w35, .ref y36, .int w37, .int w38, .int w39, .ref y40, .ref y41, .ref y42, .int w43, .long v44])), (y24, .inl (T 0, 80, .inl (u_2.2.1 0))), (y25, .inl (T 0, 960, .inl c25)), (y26, .inl (T 0, 960, .inl c26)), (y27, .inl (T 0, 960, .inl c27)), (y28, .inl (T 0, 25, .inl c28)), (y29, .inl (T 0, 15, .inl c29)), (y30, .inl (T 0, 500, .inl c30)), (y31, .inl (T 0, 1000, .inl c31))] := hD.sub [0, 8, 1, 2, 3, 4, 5, 6, 7] (by decide) rfl
  have w_3 : ((u_2.2.1 0) = cpR 16 i1.toInt.toNat i2.toInt.toNat 16 c24) := hw
  have R_4 : rg 0 12 (u_2.2.1 0) := by rw [w_3]; exact rg_cpR R_c24
  refine lv_aload_n hx hb dX11_copyWall_11 rfl (lv_at hl 0 rfl) ?_
  refine va_get (D := D) (ci := 11) (C := RX11) (T := TX11) (N := 45) hx hb hts iX11 hown hK hP 0 rfl rfl 25 (by decide) (hts _ m1343) (fun _ h9 => h9) rfl dX11_copyWall_12 ?_
  refine lv_sipush (v := 192) hx hb dX11_copyWall_15 (by decide) ?_
  refine lv_iload_n hx hb dX11_copyWall_18 rfl (lv_at hl 1 rfl) ?_
  refine lv_iload_n hx hb dX11_copyWall_19 rfl (lv_at hl 2 rfl) ?_
  refine mtV (wr := [(ym, .inr (11, [.int w0, .ref y1, .ref y2, .ref y3, .ref y4, .ref y5, .int w6, .int w7, .int w8, .int w9, .int w10, .long v11, .int w12, .int w13, .int w14, .int w15, .ref y16, .ref y17, .ref y18, .ref y19, .ref y20, .ref y21, .ref y22, .ref y23, .ref y24, .ref y25, .ref y26, .ref y27, .ref y28, .ref y29, .ref y30, .ref y31, .ref y32, .int w33, .int w34, .int w35, .ref y36, .int w37, .int w38, .int w39, .ref y40, .ref y41, .ref y42, .int w43, .long v44])), (y24, .inl (T 0, 80, .inl (u_2.2.1 0))), (y26, .inl (T 0, 960, .inl c26)), (y27, .inl (T 0, 960, .inl c27)), (y28, .inl (T 0, 25, .inl c28)), (y29, .inl (T 0, 15, .inl c29)), (y30, .inl (T 0, 500, .inl c30)), (y31, .inl (T 0, 1000, .inl c31))]) (cS (As := [.ref y25, .int 192, .int i1, .int i2]) (rest := []) ⟨hx, hb, hml, hown, hts⟩ (c_X11_copyRow_192 l D T y25 i1 i2 c25 _ ⟨by omega, by omega⟩ ⟨by omega, by omega⟩ (by omega)) k_X11_copyRow m1605 m1604 rfl rfl ⟨(Nat.le_of_ble_eq_true rfl), (Nat.le_of_ble_eq_true rfl)⟩ (preM hC (hP.sub (ws' := [(y25, .inl (T 0, 960, .inl c25))]) [2] rfl) (hD.sub (ws' := [(y25, .inl (T 0, 960, .inl c25))]) [2] (by decide) rfl)) rfl hl.1 rfl (Nat.le_of_ble_eq_true rfl) dX11_copyWall_20 ⟨(Nat.le_of_ble_eq_true rfl), (Nat.le_of_ble_eq_true rfl)⟩) hS hA hP hD [2] [0, 1, 3, 4, 5, 6, 7, 8] rfl rfl (by decide) (by decide) (fun u_6 H locs hw hP hD hS => ?_)
  have hP : va_P D vwCl [(ym, .inr (11, [.int w0, .ref y1, .ref y2, .ref y3, .ref y4, .ref y5, .int w6, .int w7, .int w8, .int w9, .int w10, .long v11, .int w12, .int w13, .int w14, .int w15, .ref y16, .ref y17, .ref y18, .ref y19, .ref y20, .ref y21, .ref y22, .ref y23, .ref y24, .ref y25, .ref y26, .ref y27, .ref y28, .ref y29, .ref y30, .ref y31, .ref y32, .int w33, .int w34, .int w35, .ref y36, .int w37, .int w38, .int w39, .ref y40, .ref y41, .ref y42, .int w43, .long v44])), (y24, .inl (T 0, 80, .inl (u_2.2.1 0))), (y25, .inl (T 0, 960, .inl (u_6.2.1 0))), (y26, .inl (T 0, 960, .inl c26)), (y27, .inl (T 0, 960, .inl c27)), (y28, .inl (T 0, 25, .inl c28)), (y29, .inl (T 0, 15, .inl c29)), (y30, .inl (T 0, 500, .inl c30)), (y31, .inl (T 0, 1000, .inl c31))] H := hP.sub [0, 1, 8, 2, 3, 4, 5, 6, 7] rfl
  have hD : va_D A [(ym, .inr (11, [.int w0, .ref y1, .ref y2, .ref y3, .ref y4, .ref y5, .int w6, .int w7, .int w8, .int w9, .int w10, .long v11, .int w12, .int w13, .int w14, .int w15, .ref y16, .ref y17, .ref y18, .ref y19, .ref y20, .ref y21, .ref y22, .ref y23, .ref y24, .ref y25, .ref y26, .ref y27, .ref y28, .ref y29, .ref y30, .ref y31, .ref y32, .int w33, .int w34, .int w35, .ref y36, .int w37, .int w38, .int w39, .ref y40, .ref y41, .ref y42, .int w43, .long v44])), (y24, .inl (T 0, 80, .inl (u_2.2.1 0))), (y25, .inl (T 0, 960, .inl (u_6.2.1 0))), (y26, .inl (T 0, 960, .inl c26)), (y27, .inl (T 0, 960, .inl c27)), (y28, .inl (T 0, 25, .inl c28)), (y29, .inl (T 0, 15, .inl c29)), (y30, .inl (T 0, 500, .inl c30)), (y31, .inl (T 0, 1000, .inl c31))] := hD.sub [0, 1, 8, 2, 3, 4, 5, 6, 7] (by decide) rfl
  have w_7 : ((u_6.2.1 0) = cpR 192 i1.toInt.toNat i2.toInt.toNat 192 c25) := hw
  have R_8 : rg 0 4 (u_6.2.1 0) := by rw [w_7]; exact rg_cpR R_c25
  refine lv_aload_n hx hb dX11_copyWall_23 rfl (lv_at hl 0 rfl) ?_
  refine va_get (D := D) (ci := 11) (C := RX11) (T := TX11) (N := 45) hx hb hts iX11 hown hK hP 0 rfl rfl 26 (by decide) (hts _ m1344) (fun _ h9 => h9) rfl dX11_copyWall_24 ?_
  refine lv_sipush (v := 192) hx hb dX11_copyWall_27 (by decide) ?_
  refine lv_iload_n hx hb dX11_copyWall_30 rfl (lv_at hl 1 rfl) ?_
  refine lv_iload_n hx hb dX11_copyWall_31 rfl (lv_at hl 2 rfl) ?_
  refine mtV (wr := [(ym, .inr (11, [.int w0, .ref y1, .ref y2, .ref y3, .ref y4, .ref y5, .int w6, .int w7, .int w8, .int w9, .int w10, .long v11, .int w12, .int w13, .int w14, .int w15, .ref y16, .ref y17, .ref y18, .ref y19, .ref y20, .ref y21, .ref y22, .ref y23, .ref y24, .ref y25, .ref y26, .ref y27, .ref y28, .ref y29, .ref y30, .ref y31, .ref y32, .int w33, .int w34, .int w35, .ref y36, .int w37, .int w38, .int w39, .ref y40, .ref y41, .ref y42, .int w43, .long v44])), (y24, .inl (T 0, 80, .inl (u_2.2.1 0))), (y25, .inl (T 0, 960, .inl (u_6.2.1 0))), (y27, .inl (T 0, 960, .inl c27)), (y28, .inl (T 0, 25, .inl c28)), (y29, .inl (T 0, 15, .inl c29)), (y30, .inl (T 0, 500, .inl c30)), (y31, .inl (T 0, 1000, .inl c31))]) (cS (As := [.ref y26, .int 192, .int i1, .int i2]) (rest := []) ⟨hx, hb, hml, hown, hts⟩ (c_X11_copyRow_192 l D T y26 i1 i2 c26 _ ⟨by omega, by omega⟩ ⟨by omega, by omega⟩ (by omega)) k_X11_copyRow m1605 m1604 rfl rfl ⟨(Nat.le_of_ble_eq_true rfl), (Nat.le_of_ble_eq_true rfl)⟩ (preM hC (hP.sub (ws' := [(y26, .inl (T 0, 960, .inl c26))]) [3] rfl) (hD.sub (ws' := [(y26, .inl (T 0, 960, .inl c26))]) [3] (by decide) rfl)) rfl hl.1 rfl (Nat.le_of_ble_eq_true rfl) dX11_copyWall_32 ⟨(Nat.le_of_ble_eq_true rfl), (Nat.le_of_ble_eq_true rfl)⟩) hS hA hP hD [3] [0, 1, 2, 4, 5, 6, 7, 8] rfl rfl (by decide) (by decide) (fun u_10 H locs hw hP hD hS => ?_)
  have hP : va_P D vwCl [(ym, .inr (11, [.int w0, .ref y1, .ref y2, .ref y3, .ref y4, .ref y5, .int w6, .int w7, .int w8, .int w9, .int w10, .long v11, .int w12, .int w13, .int w14, .int w15, .ref y16, .ref y17, .ref y18, .ref y19, .ref y20, .ref y21, .ref y22, .ref y23, .ref y24, .ref y25, .ref y26, .ref y27, .ref y28, .ref y29, .ref y30, .ref y31, .ref y32, .int w33, .int w34, .int w35, .ref y36, .int w37, .int w38, .int w39, .ref y40, .ref y41, .ref y42, .int w43, .long v44])), (y24, .inl (T 0, 80, .inl (u_2.2.1 0))), (y25, .inl (T 0, 960, .inl (u_6.2.1 0))), (y26, .inl (T 0, 960, .inl (u_10.2.1 0))), (y27, .inl (T 0, 960, .inl c27)), (y28, .inl (T 0, 25, .inl c28)), (y29, .inl (T 0, 15, .inl c29)), (y30, .inl (T 0, 500, .inl c30)), (y31, .inl (T 0, 1000, .inl c31))] H := hP.sub [0, 1, 2, 8, 3, 4, 5, 6, 7] rfl
  have hD : va_D A [(ym, .inr (11, [.int w0, .ref y1, .ref y2, .ref y3, .ref y4, .ref y5, .int w6, .int w7, .int w8, .int w9, .int w10, .long v11, .int w12, .int w13, .int w14, .int w15, .ref y16, .ref y17, .ref y18, .ref y19, .ref y20, .ref y21, .ref y22, .ref y23, .ref y24, .ref y25, .ref y26, .ref y27, .ref y28, .ref y29, .ref y30, .ref y31, .ref y32, .int w33, .int w34, .int w35, .ref y36, .int w37, .int w38, .int w39, .ref y40, .ref y41, .ref y42, .int w43, .long v44])), (y24, .inl (T 0, 80, .inl (u_2.2.1 0))), (y25, .inl (T 0, 960, .inl (u_6.2.1 0))), (y26, .inl (T 0, 960, .inl (u_10.2.1 0))), (y27, .inl (T 0, 960, .inl c27)), (y28, .inl (T 0, 25, .inl c28)), (y29, .inl (T 0, 15, .inl c29)), (y30, .inl (T 0, 500, .inl c30)), (y31, .inl (T 0, 1000, .inl c31))] := hD.sub [0, 1, 2, 8, 3, 4, 5, 6, 7] (by decide) rfl
  have w_11 : ((u_10.2.1 0) = cpR 192 i1.toInt.toNat i2.toInt.toNat 192 c26) := hw
  have R_12 : rg (-1) 9 (u_10.2.1 0) := by rw [w_11]; exact rg_cpR R_c26
  refine lv_aload_n hx hb dX11_copyWall_35 rfl (lv_at hl 0 rfl) ?_
  refine va_get (D := D) (ci := 11) (C := RX11) (T := TX11) (N := 45) hx hb hts iX11 hown hK hP 0 rfl rfl 27 (by decide) (hts _ m1345) (fun _ h9 => h9) rfl dX11_copyWall_36 ?_
  refine lv_sipush (v := 192) hx hb dX11_copyWall_39 (by decide) ?_
  refine lv_iload_n hx hb dX11_copyWall_42 rfl (lv_at hl 1 rfl) ?_
  refine lv_iload_n hx hb dX11_copyWall_43 rfl (lv_at hl 2 rfl) ?_
  refine mtV (wr := [(ym, .inr (11, [.int w0, .ref y1, .ref y2, .ref y3, .ref y4, .ref y5, .int w6, .int w7, .int w8, .int w9, .int w10, .long v11, .int w12, .int w13, .int w14, .int w15, .ref y16, .ref y17, .ref y18, .ref y19, .ref y20, .ref y21, .ref y22, .ref y23, .ref y24, .ref y25, .ref y26, .ref y27, .ref y28, .ref y29, .ref y30, .ref y31, .ref y32, .int w33, .int w34, .int w35, .ref y36, .int w37, .int w38, .int w39, .ref y40, .ref y41, .ref y42, .int w43, .long v44])), (y24, .inl (T 0, 80, .inl (u_2.2.1 0))), (y25, .inl (T 0, 960, .inl (u_6.2.1 0))), (y26, .inl (T 0, 960, .inl (u_10.2.1 0))), (y28, .inl (T 0, 25, .inl c28)), (y29, .inl (T 0, 15, .inl c29)), (y30, .inl (T 0, 500, .inl c30)), (y31, .inl (T 0, 1000, .inl c31))]) (cS (As := [.ref y27, .int 192, .int i1, .int i2]) (rest := []) ⟨hx, hb, hml, hown, hts⟩ (c_X11_copyRow_192 l D T y27 i1 i2 c27 _ ⟨by omega, by omega⟩ ⟨by omega, by omega⟩ (by omega)) k_X11_copyRow m1605 m1604 rfl rfl ⟨(Nat.le_of_ble_eq_true rfl), (Nat.le_of_ble_eq_true rfl)⟩ (preM hC (hP.sub (ws' := [(y27, .inl (T 0, 960, .inl c27))]) [4] rfl) (hD.sub (ws' := [(y27, .inl (T 0, 960, .inl c27))]) [4] (by decide) rfl)) rfl hl.1 rfl (Nat.le_of_ble_eq_true rfl) dX11_copyWall_44 ⟨(Nat.le_of_ble_eq_true rfl), (Nat.le_of_ble_eq_true rfl)⟩) hS hA hP hD [4] [0, 1, 2, 3, 5, 6, 7, 8] rfl rfl (by decide) (by decide) (fun u_14 H locs hw hP hD hS => ?_)
  have hP : va_P D vwCl [(ym, .inr (11, [.int w0, .ref y1, .ref y2, .ref y3, .ref y4, .ref y5, .int w6, .int w7, .int w8, .int w9, .int w10, .long v11, .int w12, .int w13, .int w14, .int w15, .ref y16, .ref y17, .ref y18, .ref y19, .ref y20, .ref y21, .ref y22, .ref y23, .ref y24, .ref y25, .ref y26, .ref y27, .ref y28, .ref y29, .ref y30, .ref y31, .ref y32, .int w33, .int w34, .int w35, .ref y36, .int w37, .int w38, .int w39, .ref y40, .ref y41, .ref y42, .int w43, .long v44])), (y24, .inl (T 0, 80, .inl (u_2.2.1 0))), (y25, .inl (T 0, 960, .inl (u_6.2.1 0))), (y26, .inl (T 0, 960, .inl (u_10.2.1 0))), (y27, .inl (T 0, 960, .inl (u_14.2.1 0))), (y28, .inl (T 0, 25, .inl c28)), (y29, .inl (T 0, 15, .inl c29)), (y30, .inl (T 0, 500, .inl c30)), (y31, .inl (T 0, 1000, .inl c31))] H := hP.sub [0, 1, 2, 3, 8, 4, 5, 6, 7] rfl
  have hD : va_D A [(ym, .inr (11, [.int w0, .ref y1, .ref y2, .ref y3, .ref y4, .ref y5, .int w6, .int w7, .int w8, .int w9, .int w10, .long v11, .int w12, .int w13, .int w14, .int w15, .ref y16, .ref y17, .ref y18, .ref y19, .ref y20, .ref y21, .ref y22, .ref y23, .ref y24, .ref y25, .ref y26, .ref y27, .ref y28, .ref y29, .ref y30, .ref y31, .ref y32, .int w33, .int w34, .int w35, .ref y36, .int w37, .int w38, .int w39, .ref y40, .ref y41, .ref y42, .int w43, .long v44])), (y24, .inl (T 0, 80, .inl (u_2.2.1 0))), (y25, .inl (T 0, 960, .inl (u_6.2.1 0))), (y26, .inl (T 0, 960, .inl (u_10.2.1 0))), (y27, .inl (T 0, 960, .inl (u_14.2.1 0))), (y28, .inl (T 0, 25, .inl c28)), (y29, .inl (T 0, 15, .inl c29)), (y30, .inl (T 0, 500, .inl c30)), (y31, .inl (T 0, 1000, .inl c31))] := hD.sub [0, 1, 2, 3, 8, 4, 5, 6, 7] (by decide) rfl
  have w_15 : ((u_14.2.1 0) = cpR 192 i1.toInt.toNat i2.toInt.toNat 192 c27) := hw
  refine lv_aload_n hx hb dX11_copyWall_47 rfl (lv_at hl 0 rfl) ?_
  refine va_get (D := D) (ci := 11) (C := RX11) (T := TX11) (N := 45) hx hb hts iX11 hown hK hP 0 rfl rfl 28 (by decide) (hts _ m1346) (fun _ h9 => h9) rfl dX11_copyWall_48 ?_
  refine lv_iconst (v := 5) hx hb dX11_copyWall_51 (by decide) ?_
  refine lv_iload_n hx hb dX11_copyWall_52 rfl (lv_at hl 1 rfl) ?_
  refine lv_iload_n hx hb dX11_copyWall_53 rfl (lv_at hl 2 rfl) ?_
  refine mtV (wr := [(ym, .inr (11, [.int w0, .ref y1, .ref y2, .ref y3, .ref y4, .ref y5, .int w6, .int w7, .int w8, .int w9, .int w10, .long v11, .int w12, .int w13, .int w14, .int w15, .ref y16, .ref y17, .ref y18, .ref y19, .ref y20, .ref y21, .ref y22, .ref y23, .ref y24, .ref y25, .ref y26, .ref y27, .ref y28, .ref y29, .ref y30, .ref y31, .ref y32, .int w33, .int w34, .int w35, .ref y36, .int w37, .int w38, .int w39, .ref y40, .ref y41, .ref y42, .int w43, .long v44])), (y24, .inl (T 0, 80, .inl (u_2.2.1 0))), (y25, .inl (T 0, 960, .inl (u_6.2.1 0))), (y26, .inl (T 0, 960, .inl (u_10.2.1 0))), (y27, .inl (T 0, 960, .inl (u_14.2.1 0))), (y29, .inl (T 0, 15, .inl c29)), (y30, .inl (T 0, 500, .inl c30)), (y31, .inl (T 0, 1000, .inl c31))]) (cS (As := [.ref y28, .int 5, .int i1, .int i2]) (rest := []) ⟨hx, hb, hml, hown, hts⟩ (c_X11_copyRow_5 l D T y28 i1 i2 c28 _ ⟨by omega, by omega⟩ ⟨by omega, by omega⟩ (by omega)) k_X11_copyRow m1605 m1604 rfl rfl ⟨(Nat.le_of_ble_eq_true rfl), (Nat.le_of_ble_eq_true rfl)⟩ (preM hC (hP.sub (ws' := [(y28, .inl (T 0, 25, .inl c28))]) [5] rfl) (hD.sub (ws' := [(y28, .inl (T 0, 25, .inl c28))]) [5] (by decide) rfl)) rfl hl.1 rfl (Nat.le_of_ble_eq_true rfl) dX11_copyWall_54 ⟨(Nat.le_of_ble_eq_true rfl), (Nat.le_of_ble_eq_true rfl)⟩) hS hA hP hD [5] [0, 1, 2, 3, 4, 6, 7, 8] rfl rfl (by decide) (by decide) (fun u_17 H locs hw hP hD hS => ?_)
  have hP : va_P D vwCl [(ym, .inr (11, [.int w0, .ref y1, .ref y2, .ref y3, .ref y4, .ref y5, .int w6, .int w7, .int w8, .int w9, .int w10, .long v11, .int w12, .int w13, .int w14, .int w15, .ref y16, .ref y17, .ref y18, .ref y19, .ref y20, .ref y21, .ref y22, .ref y23, .ref y24, .ref y25, .ref y26, .ref y27, .ref y28, .ref y29, .ref y30, .ref y31, .ref y32, .int w33, .int w34, .int w35, .ref y36, .int w37, .int w38, .int w39, .ref y40, .ref y41, .ref y42, .int w43, .long v44])), (y24, .inl (T 0, 80, .inl (u_2.2.1 0))), (y25, .inl (T 0, 960, .inl (u_6.2.1 0))), (y26, .inl (T 0, 960, .inl (u_10.2.1 0))), (y27, .inl (T 0, 960, .inl (u_14.2.1 0))), (y28, .inl (T 0, 25, .inl (u_17.2.1 0))), (y29, .inl (T 0, 15, .inl c29)), (y30, .inl (T 0, 500, .inl c30)), (y31, .inl (T 0, 1000, .inl c31))] H := hP.sub [0, 1, 2, 3, 4, 8, 5, 6, 7] rfl
  have hD : va_D A [(ym, .inr (11, [.int w0, .ref y1, .ref y2, .ref y3, .ref y4, .ref y5, .int w6, .int w7, .int w8, .int w9, .int w10, .long v11, .int w12, .int w13, .int w14, .int w15, .ref y16, .ref y17, .ref y18, .ref y19, .ref y20, .ref y21, .ref y22, .ref y23, .ref y24, .ref y25, .ref y26, .ref y27, .ref y28, .ref y29, .ref y30, .ref y31, .ref y32, .int w33, .int w34, .int w35, .ref y36, .int w37, .int w38, .int w39, .ref y40, .ref y41, .ref y42, .int w43, .long v44])), (y24, .inl (T 0, 80, .inl (u_2.2.1 0))), (y25, .inl (T 0, 960, .inl (u_6.2.1 0))), (y26, .inl (T 0, 960, .inl (u_10.2.1 0))), (y27, .inl (T 0, 960, .inl (u_14.2.1 0))), (y28, .inl (T 0, 25, .inl (u_17.2.1 0))), (y29, .inl (T 0, 15, .inl c29)), (y30, .inl (T 0, 500, .inl c30)), (y31, .inl (T 0, 1000, .inl c31))] := hD.sub [0, 1, 2, 3, 4, 8, 5, 6, 7] (by decide) rfl
  have w_18 : ((u_17.2.1 0) = cpR 5 i1.toInt.toNat i2.toInt.toNat 5 c28) := hw
  refine lv_aload_n hx hb dX11_copyWall_57 rfl (lv_at hl 0 rfl) ?_
  refine va_get (D := D) (ci := 11) (C := RX11) (T := TX11) (N := 45) hx hb hts iX11 hown hK hP 0 rfl rfl 29 (by decide) (hts _ m1347) (fun _ h9 => h9) rfl dX11_copyWall_58 ?_
  refine lv_iconst (v := 3) hx hb dX11_copyWall_61 (by decide) ?_
  refine lv_iload_n hx hb dX11_copyWall_62 rfl (lv_at hl 1 rfl) ?_
  refine lv_iload_n hx hb dX11_copyWall_63 rfl (lv_at hl 2 rfl) ?_
  refine mtV (wr := [(ym, .inr (11, [.int w0, .ref y1, .ref y2, .ref y3, .ref y4, .ref y5, .int w6, .int w7, .int w8, .int w9, .int w10, .long v11, .int w12, .int w13, .int w14, .int w15, .ref y16, .ref y17, .ref y18, .ref y19, .ref y20, .ref y21, .ref y22, .ref y23, .ref y24, .ref y25, .ref y26, .ref y27, .ref y28, .ref y29, .ref y30, .ref y31, .ref y32, .int w33, .int w34, .int w35, .ref y36, .int w37, .int w38, .int w39, .ref y40, .ref y41, .ref y42, .int w43, .long v44])), (y24, .inl (T 0, 80, .inl (u_2.2.1 0))), (y25, .inl (T 0, 960, .inl (u_6.2.1 0))), (y26, .inl (T 0, 960, .inl (u_10.2.1 0))), (y27, .inl (T 0, 960, .inl (u_14.2.1 0))), (y28, .inl (T 0, 25, .inl (u_17.2.1 0))), (y30, .inl (T 0, 500, .inl c30)), (y31, .inl (T 0, 1000, .inl c31))]) (cS (As := [.ref y29, .int 3, .int i1, .int i2]) (rest := []) ⟨hx, hb, hml, hown, hts⟩ (c_X11_copyRow_3 l D T y29 i1 i2 c29 _ ⟨by omega, by omega⟩ ⟨by omega, by omega⟩ (by omega)) k_X11_copyRow m1605 m1604 rfl rfl ⟨(Nat.le_of_ble_eq_true rfl), (Nat.le_of_ble_eq_true rfl)⟩ (preM hC (hP.sub (ws' := [(y29, .inl (T 0, 15, .inl c29))]) [6] rfl) (hD.sub (ws' := [(y29, .inl (T 0, 15, .inl c29))]) [6] (by decide) rfl)) rfl hl.1 rfl (Nat.le_of_ble_eq_true rfl) dX11_copyWall_64 ⟨(Nat.le_of_ble_eq_true rfl), (Nat.le_of_ble_eq_true rfl)⟩) hS hA hP hD [6] [0, 1, 2, 3, 4, 5, 7, 8] rfl rfl (by decide) (by decide) (fun u_20 H locs hw hP hD hS => ?_)
  have hP : va_P D vwCl [(ym, .inr (11, [.int w0, .ref y1, .ref y2, .ref y3, .ref y4, .ref y5, .int w6, .int w7, .int w8, .int w9, .int w10, .long v11, .int w12, .int w13, .int w14, .int w15, .ref y16, .ref y17, .ref y18, .ref y19, .ref y20, .ref y21, .ref y22, .ref y23, .ref y24, .ref y25, .ref y26, .ref y27, .ref y28, .ref y29, .ref y30, .ref y31, .ref y32, .int w33, .int w34, .int w35, .ref y36, .int w37, .int w38, .int w39, .ref y40, .ref y41, .ref y42, .int w43, .long v44])), (y24, .inl (T 0, 80, .inl (u_2.2.1 0))), (y25, .inl (T 0, 960, .inl (u_6.2.1 0))), (y26, .inl (T 0, 960, .inl (u_10.2.1 0))), (y27, .inl (T 0, 960, .inl (u_14.2.1 0))), (y28, .inl (T 0, 25, .inl (u_17.2.1 0))), (y29, .inl (T 0, 15, .inl (u_20.2.1 0))), (y30, .inl (T 0, 500, .inl c30)), (y31, .inl (T 0, 1000, .inl c31))] H := hP.sub [0, 1, 2, 3, 4, 5, 8, 6, 7] rfl
  have hD : va_D A [(ym, .inr (11, [.int w0, .ref y1, .ref y2, .ref y3, .ref y4, .ref y5, .int w6, .int w7, .int w8, .int w9, .int w10, .long v11, .int w12, .int w13, .int w14, .int w15, .ref y16, .ref y17, .ref y18, .ref y19, .ref y20, .ref y21, .ref y22, .ref y23, .ref y24, .ref y25, .ref y26, .ref y27, .ref y28, .ref y29, .ref y30, .ref y31, .ref y32, .int w33, .int w34, .int w35, .ref y36, .int w37, .int w38, .int w39, .ref y40, .ref y41, .ref y42, .int w43, .long v44])), (y24, .inl (T 0, 80, .inl (u_2.2.1 0))), (y25, .inl (T 0, 960, .inl (u_6.2.1 0))), (y26, .inl (T 0, 960, .inl (u_10.2.1 0))), (y27, .inl (T 0, 960, .inl (u_14.2.1 0))), (y28, .inl (T 0, 25, .inl (u_17.2.1 0))), (y29, .inl (T 0, 15, .inl (u_20.2.1 0))), (y30, .inl (T 0, 500, .inl c30)), (y31, .inl (T 0, 1000, .inl c31))] := hD.sub [0, 1, 2, 3, 4, 5, 8, 6, 7] (by decide) rfl
  have w_21 : ((u_20.2.1 0) = cpR 3 i1.toInt.toNat i2.toInt.toNat 3 c29) := hw
  have P_22 : pg 3 0 0 100 (u_20.2.1 0) := by rw [w_21]; exact pg_cpR P_0 (by decide)
  have P_23 : pg 3 1 0 2 (u_20.2.1 0) := by rw [w_21]; exact pg_cpR P_1 (by decide)
  refine lv_aload_n hx hb dX11_copyWall_67 rfl (lv_at hl 0 rfl) ?_
  refine va_get (D := D) (ci := 11) (C := RX11) (T := TX11) (N := 45) hx hb hts iX11 hown hK hP 0 rfl rfl 30 (by decide) (hts _ m1348) (fun _ h9 => h9) rfl dX11_copyWall_68 ?_
  refine lv_bipush (v := 100) hx hb dX11_copyWall_71 (by decide) ?_
  refine lv_iload_n hx hb dX11_copyWall_73 rfl (lv_at hl 1 rfl) ?_
  refine lv_iload_n hx hb dX11_copyWall_74 rfl (lv_at hl 2 rfl) ?_
  refine mtV (wr := [(ym, .inr (11, [.int w0, .ref y1, .ref y2, .ref y3, .ref y4, .ref y5, .int w6, .int w7, .int w8, .int w9, .int w10, .long v11, .int w12, .int w13, .int w14, .int w15, .ref y16, .ref y17, .ref y18, .ref y19, .ref y20, .ref y21, .ref y22, .ref y23, .ref y24, .ref y25, .ref y26, .ref y27, .ref y28, .ref y29, .ref y30, .ref y31, .ref y32, .int w33, .int w34, .int w35, .ref y36, .int w37, .int w38, .int w39, .ref y40, .ref y41, .ref y42, .int w43, .long v44])), (y24, .inl (T 0, 80, .inl (u_2.2.1 0))), (y25, .inl (T 0, 960, .inl (u_6.2.1 0))), (y26, .inl (T 0, 960, .inl (u_10.2.1 0))), (y27, .inl (T 0, 960, .inl (u_14.2.1 0))), (y28, .inl (T 0, 25, .inl (u_17.2.1 0))), (y29, .inl (T 0, 15, .inl (u_20.2.1 0))), (y31, .inl (T 0, 1000, .inl c31))]) (cS (As := [.ref y30, .int 100, .int i1, .int i2]) (rest := []) ⟨hx, hb, hml, hown, hts⟩ (c_X11_copyRow_100 l D T y30 i1 i2 c30 _ ⟨by omega, by omega⟩ ⟨by omega, by omega⟩ (by omega)) k_X11_copyRow m1605 m1604 rfl rfl ⟨(Nat.le_of_ble_eq_true rfl), (Nat.le_of_ble_eq_true rfl)⟩ (preM hC (hP.sub (ws' := [(y30, .inl (T 0, 500, .inl c30))]) [7] rfl) (hD.sub (ws' := [(y30, .inl (T 0, 500, .inl c30))]) [7] (by decide) rfl)) rfl hl.1 rfl (Nat.le_of_ble_eq_true rfl) dX11_copyWall_75 ⟨(Nat.le_of_ble_eq_true rfl), (Nat.le_of_ble_eq_true rfl)⟩) hS hA hP hD [7] [0, 1, 2, 3, 4, 5, 6, 8] rfl rfl (by decide) (by decide) (fun u_25 H locs hw hP hD hS => ?_)
  have hP : va_P D vwCl [(ym, .inr (11, [.int w0, .ref y1, .ref y2, .ref y3, .ref y4, .ref y5, .int w6, .int w7, .int w8, .int w9, .int w10, .long v11, .int w12, .int w13, .int w14, .int w15, .ref y16, .ref y17, .ref y18, .ref y19, .ref y20, .ref y21, .ref y22, .ref y23, .ref y24, .ref y25, .ref y26, .ref y27, .ref y28, .ref y29, .ref y30, .ref y31, .ref y32, .int w33, .int w34, .int w35, .ref y36, .int w37, .int w38, .int w39, .ref y40, .ref y41, .ref y42, .int w43, .long v44])), (y24, .inl (T 0, 80, .inl (u_2.2.1 0))), (y25, .inl (T 0, 960, .inl (u_6.2.1 0))), (y26, .inl (T 0, 960, .inl (u_10.2.1 0))), (y27, .inl (T 0, 960, .inl (u_14.2.1 0))), (y28, .inl (T 0, 25, .inl (u_17.2.1 0))), (y29, .inl (T 0, 15, .inl (u_20.2.1 0))), (y30, .inl (T 0, 500, .inl (u_25.2.1 0))), (y31, .inl (T 0, 1000, .inl c31))] H := hP.sub [0, 1, 2, 3, 4, 5, 6, 8, 7] rfl
  have hD : va_D A [(ym, .inr (11, [.int w0, .ref y1, .ref y2, .ref y3, .ref y4, .ref y5, .int w6, .int w7, .int w8, .int w9, .int w10, .long v11, .int w12, .int w13, .int w14, .int w15, .ref y16, .ref y17, .ref y18, .ref y19, .ref y20, .ref y21, .ref y22, .ref y23, .ref y24, .ref y25, .ref y26, .ref y27, .ref y28, .ref y29, .ref y30, .ref y31, .ref y32, .int w33, .int w34, .int w35, .ref y36, .int w37, .int w38, .int w39, .ref y40, .ref y41, .ref y42, .int w43, .long v44])), (y24, .inl (T 0, 80, .inl (u_2.2.1 0))), (y25, .inl (T 0, 960, .inl (u_6.2.1 0))), (y26, .inl (T 0, 960, .inl (u_10.2.1 0))), (y27, .inl (T 0, 960, .inl (u_14.2.1 0))), (y28, .inl (T 0, 25, .inl (u_17.2.1 0))), (y29, .inl (T 0, 15, .inl (u_20.2.1 0))), (y30, .inl (T 0, 500, .inl (u_25.2.1 0))), (y31, .inl (T 0, 1000, .inl c31))] := hD.sub [0, 1, 2, 3, 4, 5, 6, 8, 7] (by decide) rfl
  have w_26 : ((u_25.2.1 0) = cpR 100 i1.toInt.toNat i2.toInt.toNat 100 c30) := hw
  refine lv_aload_n hx hb dX11_copyWall_78 rfl (lv_at hl 0 rfl) ?_
  refine va_get (D := D) (ci := 11) (C := RX11) (T := TX11) (N := 45) hx hb hts iX11 hown hK hP 0 rfl rfl 31 (by decide) (hts _ m1349) (fun _ h9 => h9) rfl dX11_copyWall_79 ?_
  refine lv_sipush (v := 200) hx hb dX11_copyWall_82 (by decide) ?_
  refine lv_iload_n hx hb dX11_copyWall_85 rfl (lv_at hl 1 rfl) ?_
  refine lv_iload_n hx hb dX11_copyWall_86 rfl (lv_at hl 2 rfl) ?_
  refine mtV (wr := [(ym, .inr (11, [.int w0, .ref y1, .ref y2, .ref y3, .ref y4, .ref y5, .int w6, .int w7, .int w8, .int w9, .int w10, .long v11, .int w12, .int w13, .int w14, .int w15, .ref y16, .ref y17, .ref y18, .ref y19, .ref y20, .ref y21, .ref y22, .ref y23, .ref y24, .ref y25, .ref y26, .ref y27, .ref y28, .ref y29, .ref y30, .ref y31, .ref y32, .int w33, .int w34, .int w35, .ref y36, .int w37, .int w38, .int w39, .ref y40, .ref y41, .ref y42, .int w43, .long v44])), (y24, .inl (T 0, 80, .inl (u_2.2.1 0))), (y25, .inl (T 0, 960, .inl (u_6.2.1 0))), (y26, .inl (T 0, 960, .inl (u_10.2.1 0))), (y27, .inl (T 0, 960, .inl (u_14.2.1 0))), (y28, .inl (T 0, 25, .inl (u_17.2.1 0))), (y29, .inl (T 0, 15, .inl (u_20.2.1 0))), (y30, .inl (T 0, 500, .inl (u_25.2.1 0)))]) (cS (As := [.ref y31, .int 200, .int i1, .int i2]) (rest := []) ⟨hx, hb, hml, hown, hts⟩ (c_X11_copyRow_200 l D T y31 i1 i2 c31 _ ⟨by omega, by omega⟩ ⟨by omega, by omega⟩ (by omega)) k_X11_copyRow m1605 m1604 rfl rfl ⟨(Nat.le_of_ble_eq_true rfl), (Nat.le_of_ble_eq_true rfl)⟩ (preM hC (hP.sub (ws' := [(y31, .inl (T 0, 1000, .inl c31))]) [8] rfl) (hD.sub (ws' := [(y31, .inl (T 0, 1000, .inl c31))]) [8] (by decide) rfl)) rfl hl.1 rfl (Nat.le_of_ble_eq_true rfl) dX11_copyWall_87 ⟨(Nat.le_of_ble_eq_true rfl), (Nat.le_of_ble_eq_true rfl)⟩) hS hA hP hD [8] [0, 1, 2, 3, 4, 5, 6, 7] rfl rfl (by decide) (by decide) (fun u_28 H locs hw hP hD hS => ?_)
  have hP : va_P D vwCl [(ym, .inr (11, [.int w0, .ref y1, .ref y2, .ref y3, .ref y4, .ref y5, .int w6, .int w7, .int w8, .int w9, .int w10, .long v11, .int w12, .int w13, .int w14, .int w15, .ref y16, .ref y17, .ref y18, .ref y19, .ref y20, .ref y21, .ref y22, .ref y23, .ref y24, .ref y25, .ref y26, .ref y27, .ref y28, .ref y29, .ref y30, .ref y31, .ref y32, .int w33, .int w34, .int w35, .ref y36, .int w37, .int w38, .int w39, .ref y40, .ref y41, .ref y42, .int w43, .long v44])), (y24, .inl (T 0, 80, .inl (u_2.2.1 0))), (y25, .inl (T 0, 960, .inl (u_6.2.1 0))), (y26, .inl (T 0, 960, .inl (u_10.2.1 0))), (y27, .inl (T 0, 960, .inl (u_14.2.1 0))), (y28, .inl (T 0, 25, .inl (u_17.2.1 0))), (y29, .inl (T 0, 15, .inl (u_20.2.1 0))), (y30, .inl (T 0, 500, .inl (u_25.2.1 0))), (y31, .inl (T 0, 1000, .inl (u_28.2.1 0)))] H := hP.sub [0, 1, 2, 3, 4, 5, 6, 7, 8] rfl
  have hD : va_D A [(ym, .inr (11, [.int w0, .ref y1, .ref y2, .ref y3, .ref y4, .ref y5, .int w6, .int w7, .int w8, .int w9, .int w10, .long v11, .int w12, .int w13, .int w14, .int w15, .ref y16, .ref y17, .ref y18, .ref y19, .ref y20, .ref y21, .ref y22, .ref y23, .ref y24, .ref y25, .ref y26, .ref y27, .ref y28, .ref y29, .ref y30, .ref y31, .ref y32, .int w33, .int w34, .int w35, .ref y36, .int w37, .int w38, .int w39, .ref y40, .ref y41, .ref y42, .int w43, .long v44])), (y24, .inl (T 0, 80, .inl (u_2.2.1 0))), (y25, .inl (T 0, 960, .inl (u_6.2.1 0))), (y26, .inl (T 0, 960, .inl (u_10.2.1 0))), (y27, .inl (T 0, 960, .inl (u_14.2.1 0))), (y28, .inl (T 0, 25, .inl (u_17.2.1 0))), (y29, .inl (T 0, 15, .inl (u_20.2.1 0))), (y30, .inl (T 0, 500, .inl (u_25.2.1 0))), (y31, .inl (T 0, 1000, .inl (u_28.2.1 0)))] := hD.sub [0, 1, 2, 3, 4, 5, 6, 7, 8] (by decide) rfl
  have w_29 : ((u_28.2.1 0) = cpR 200 i1.toInt.toNat i2.toInt.toNat 200 c31) := hw
  have hP9 := hP.sub (ws' := [(ym, .inr (11, [.int w0, .ref y1, .ref y2, .ref y3, .ref y4, .ref y5, .int w6, .int w7, .int w8, .int w9, .int w10, .long v11, .int w12, .int w13, .int w14, .int w15, .ref y16, .ref y17, .ref y18, .ref y19, .ref y20, .ref y21, .ref y22, .ref y23, .ref y24, .ref y25, .ref y26, .ref y27, .ref y28, .ref y29, .ref y30, .ref y31, .ref y32, .int w33, .int w34, .int w35, .ref y36, .int w37, .int w38, .int w39, .ref y40, .ref y41, .ref y42, .int w43, .long v44])), (y24, .inl (T 0, 80, .inl (u_2.2.1 0))), (y25, .inl (T 0, 960, .inl (u_6.2.1 0))), (y26, .inl (T 0, 960, .inl (u_10.2.1 0))), (y27, .inl (T 0, 960, .inl (u_14.2.1 0))), (y28, .inl (T 0, 25, .inl (u_17.2.1 0))), (y29, .inl (T 0, 15, .inl (u_20.2.1 0))), (y30, .inl (T 0, 500, .inl (u_25.2.1 0))), (y31, .inl (T 0, 1000, .inl (u_28.2.1 0)))]) [0, 1, 2, 3, 4, 5, 6, 7, 8] rfl
  have hD9 := hD.sub (ws' := [(ym, .inr (11, [.int w0, .ref y1, .ref y2, .ref y3, .ref y4, .ref y5, .int w6, .int w7, .int w8, .int w9, .int w10, .long v11, .int w12, .int w13, .int w14, .int w15, .ref y16, .ref y17, .ref y18, .ref y19, .ref y20, .ref y21, .ref y22, .ref y23, .ref y24, .ref y25, .ref y26, .ref y27, .ref y28, .ref y29, .ref y30, .ref y31, .ref y32, .int w33, .int w34, .int w35, .ref y36, .int w37, .int w38, .int w39, .ref y40, .ref y41, .ref y42, .int w43, .long v44])), (y24, .inl (T 0, 80, .inl (u_2.2.1 0))), (y25, .inl (T 0, 960, .inl (u_6.2.1 0))), (y26, .inl (T 0, 960, .inl (u_10.2.1 0))), (y27, .inl (T 0, 960, .inl (u_14.2.1 0))), (y28, .inl (T 0, 25, .inl (u_17.2.1 0))), (y29, .inl (T 0, 15, .inl (u_20.2.1 0))), (y30, .inl (T 0, 500, .inl (u_25.2.1 0))), (y31, .inl (T 0, 1000, .inl (u_28.2.1 0)))]) [0, 1, 2, 3, 4, 5, 6, 7, 8] (by decide) rfl
  exact W.vret hx hb hr (fun t ht hW => ⟨⟨(fun k => ([] : List (Nat)).getD k 0, fun k => ([u_2.2.1 0, u_6.2.1 0, u_10.2.1 0, u_14.2.1 0, u_17.2.1 0, u_20.2.1 0, u_25.2.1 0, u_28.2.1 0] : List (Nat → Int32)).getD k (fun _ => 0), fun k => ([] : List (Nat → Int64)).getD k (fun _ => 0), fun k => ([] : List (Int32)).getD k 0, fun k => ([] : List (Int64)).getD k 0), rfl, ⟨(show rg 0 12 (u_2.2.1 0) from R_4), (show rg 0 4 (u_6.2.1 0) from R_8), (show rg (-1) 9 (u_10.2.1 0) from R_12), (show (u_20.2.1 0) = cpR 3 i1.toInt.toNat i2.toInt.toNat 3 c29 by first | assumption | (simp only [w_3, w_3, w_7, w_7, w_11, w_11, w_15, w_15, w_18, w_18, w_21, w_21, w_26, w_26, w_29, w_29])), (show pg 3 0 0 100 (u_20.2.1 0) from P_22), (show pg 3 1 0 2 (u_20.2.1 0) from P_23)⟩, by rw [ht]; exact hP9, hD9⟩, hS.F ht⟩) hS.2.2 dX11_copyWall_90

set_option maxHeartbeats 4000000 in
set_option maxRecDepth 100000 in
theorem c_X11_builds (l : Launch) (D : va_G) (T : Nat → ClassId) (y1 y16 y17 y18 y19 y2 y20 y21 y22 y23 y24 y25 y26 y27 y28 y29 y3 y30 y31 y32 y36 y4 y40 y41 y42 y5 ym : Nat) (w0 w10 w12 w13 w14 w15 w33 w34 w35 w37 w38 w39 w43 w6 w7 w8 w9 : Int32) (v11 v44 : Int64) (c18 c19 c24 c28 c29 c31 : Nat → Int32) (sz : Nat) (h_w6 : 0 ≤ w6.toInt ∧ w6.toInt ≤ 1600) (h_w43 : 0 ≤ w43.toInt ∧ w43.toInt ≤ 16) (R_c18 : rg 0 5 c18) (R_c24 : rg 0 12 c24) (P_0 : pg 3 0 0 100 c29) (P_1 : pg 3 1 0 2 c29) : Met l yX11_builds (wM yX11_builds cX11_builds 2 none) ({ frames := 0, cells := 0, slots := 0, locals := 0 }) (va_Pc [.ref ym] (pwM D T [(ym, .inr (11, [.int w0, .ref y1, .ref y2, .ref y3, .ref y4, .ref y5, .int w6, .int w7, .int w8, .int w9, .int w10, .long v11, .int w12, .int w13, .int w14, .int w15, .ref y16, .ref y17, .ref y18, .ref y19, .ref y20, .ref y21, .ref y22, .ref y23, .ref y24, .ref y25, .ref y26, .ref y27, .ref y28, .ref y29, .ref y30, .ref y31, .ref y32, .int w33, .int w34, .int w35, .ref y36, .int w37, .int w38, .int w39, .ref y40, .ref y41, .ref y42, .int w43, .long v44])), (y18, .inl (T 0, 5, .inl c18)), (y19, .inl (T 0, 75, .inl c19)), (y24, .inl (T 0, 80, .inl c24)), (y28, .inl (T 0, 25, .inl c28)), (y29, .inl (T 0, 15, .inl c29)), (y31, .inl (T 0, 1000, .inl c31))] sz)) (va_Qv (fun (u : U5) => rg 0 12 (u.2.1 0) ∧ pg 3 0 0 100 (u.2.1 2) ∧ pg 3 1 0 2 (u.2.1 2)) (fun u t => pwE D (va_A [(ym, .inr (11, [.int w0, .ref y1, .ref y2, .ref y3, .ref y4, .ref y5, .int w6, .int w7, .int w8, .int w9, .int w10, .long v11, .int w12, .int w13, .int w14, .int w15, .ref y16, .ref y17, .ref y18, .ref y19, .ref y20, .ref y21, .ref y22, .ref y23, .ref y24, .ref y25, .ref y26, .ref y27, .ref y28, .ref y29, .ref y30, .ref y31, .ref y32, .int w33, .int w34, .int w35, .ref y36, .int w37, .int w38, .int w39, .ref y40, .ref y41, .ref y42, .int w43, .long v44])), (y18, .inl (T 0, 5, .inl c18)), (y19, .inl (T 0, 75, .inl c19)), (y24, .inl (T 0, 80, .inl c24)), (y28, .inl (T 0, 25, .inl c28)), (y29, .inl (T 0, 15, .inl c29)), (y31, .inl (T 0, 1000, .inl c31))] sz) [(ym, .inr (11, [.int w0, .ref y1, .ref y2, .ref y3, .ref y4, .ref y5, .int w6, .int w7, .int w8, .int w9, .int w10, .long v11, .int w12, .int w13, .int w14, .int w15, .ref y16, .ref y17, .ref y18, .ref y19, .ref y20, .ref y21, .ref y22, .ref y23, .ref y24, .ref y25, .ref y26, .ref y27, .ref y28, .ref y29, .ref y30, .ref y31, .ref y32, .int w33, .int w34, .int w35, .ref y36, .int w37, .int w38, .int w39, .ref y40, .ref y41, .ref y42, .int w43, .long v44])), (y18, .inl (T 0, 5, .inl c18)), (y19, .inl (T 0, 75, .inl c19)), (y24, .inl (T 0, 80, .inl (u.2.1 0))), (y28, .inl (T 0, 25, .inl (u.2.1 1))), (y29, .inl (T 0, 15, .inl (u.2.1 2))), (y31, .inl (T 0, 1000, .inl (u.2.1 3)))] t) (va_A [(ym, .inr (11, [.int w0, .ref y1, .ref y2, .ref y3, .ref y4, .ref y5, .int w6, .int w7, .int w8, .int w9, .int w10, .long v11, .int w12, .int w13, .int w14, .int w15, .ref y16, .ref y17, .ref y18, .ref y19, .ref y20, .ref y21, .ref y22, .ref y23, .ref y24, .ref y25, .ref y26, .ref y27, .ref y28, .ref y29, .ref y30, .ref y31, .ref y32, .int w33, .int w34, .int w35, .ref y36, .int w37, .int w38, .int w39, .ref y40, .ref y41, .ref y42, .int w43, .long v44])), (y18, .inl (T 0, 5, .inl c18)), (y19, .inl (T 0, 75, .inl c19)), (y24, .inl (T 0, 80, .inl c24)), (y28, .inl (T 0, 25, .inl c28)), (y29, .inl (T 0, 15, .inl c29)), (y31, .inl (T 0, 1000, .inl c31))] sz)) 0 0 (va_A [(ym, .inr (11, [.int w0, .ref y1, .ref y2, .ref y3, .ref y4, .ref y5, .int w6, .int w7, .int w8, .int w9, .int w10, .long v11, .int w12, .int w13, .int w14, .int w15, .ref y16, .ref y17, .ref y18, .ref y19, .ref y20, .ref y21, .ref y22, .ref y23, .ref y24, .ref y25, .ref y26, .ref y27, .ref y28, .ref y29, .ref y30, .ref y31, .ref y32, .int w33, .int w34, .int w35, .ref y36, .int w37, .int w38, .int w39, .ref y40, .ref y41, .ref y42, .int w43, .long v44])), (y18, .inl (T 0, 5, .inl c18)), (y19, .inl (T 0, 75, .inl c19)), (y24, .inl (T 0, 80, .inl c24)), (y28, .inl (T 0, 25, .inl c28)), (y29, .inl (T 0, 15, .inl c29)), (y31, .inl (T 0, 1000, .inl c31))] sz) := by
  refine Met.ofW (cc := cX11_builds) (maxL := 2) (ret := none) (by decide) rfl ?_
  intro p e s m args below meth c s₁ B hml hv
  obtain ⟨rfl, hsz, hP, hC, hD0⟩ := hv
  have hx := B.exec
  have hb := B.bytes
  have hr := B.returns
  have hts : ∀ w ∈ gt, w.before _ s = true := fun w hw => atoms_spec (ws := (wM yX11_builds cX11_builds 2 none)) B.pre w (List.mem_cons_of_mem _ hw)
  have hown : s.vm.findClass RX11 = some m.cls := findClass_of_methodNamed B.named
  have hlocks := B.notSynchronized
  have hK := hC.1
  subst hsz
  have hD := hD0.self (sz := s.heap.size)
  generalize hAe : va_A [(ym, .inr (11, [.int w0, .ref y1, .ref y2, .ref y3, .ref y4, .ref y5, .int w6, .int w7, .int w8, .int w9, .int w10, .long v11, .int w12, .int w13, .int w14, .int w15, .ref y16, .ref y17, .ref y18, .ref y19, .ref y20, .ref y21, .ref y22, .ref y23, .ref y24, .ref y25, .ref y26, .ref y27, .ref y28, .ref y29, .ref y30, .ref y31, .ref y32, .int w33, .int w34, .int w35, .ref y36, .int w37, .int w38, .int w39, .ref y40, .ref y41, .ref y42, .int w43, .long v44])), (y18, .inl (T 0, 5, .inl c18)), (y19, .inl (T 0, 75, .inl c19)), (y24, .inl (T 0, 80, .inl c24)), (y28, .inl (T 0, 25, .inl c28)), (y29, .inl (T 0, 15, .inl c29)), (y31, .inl (T 0, 1000, .inl c31))] s.heap.size = A at hD ⊢
  have hA : ∀ q : Nat, s.heap.size ≤ q → A q := fun q h => by rw [← hAe]; exact Or.inr h
  have hS : va_S A s.heap s.heap [] := va_S.rf
  have hl := lv_entry ([.ref ym]) (n := 2) (Nat.le_of_ble_eq_true rfl)
  rw [lg_entry_eq]
  generalize (lg_sl ([.ref ym]) ++ List.replicate (2 - (lg_sl ([.ref ym])).length) Slot.unset).toArray = ls at hl ⊢
  have hl : lv_has ls 2 [(0, .ref ym)] := hl
  have b_y29_0 : 0 ≤ (c29 0).toInt ∧ (c29 0).toInt ≤ 100 := P_0 0
  have b_y29_1 : 0 ≤ (c29 1).toInt ∧ (c29 1).toInt ≤ 2 := P_1 0
  have b_y18 : 0 ≤ (c18 0).toInt ∧ (c18 0).toInt ≤ 5 := R_c18 0
  have b_y18_4 : 0 ≤ (c18 4).toInt ∧ (c18 4).toInt ≤ 5 := R_c18 4
  refine lv_iconst (v := 0) hx hb dX11_builds_0 (by decide) ?_
  refine lv_istore_n (lv' := [(1, .int 0), (0, .ref ym)]) hx hb dX11_builds_1 rfl hl (by decide) rfl (fun ls hl => ?_)
  refine lp_ind (fun (a : Heap × List Loc × Array Slot × (Int32) × (Nat → Int32)) => match a with | (H, locs, ls, i_1, f_2) => W p l e _ s m _ below meth c H locs 0 0 _ (F0 m 2 ls [])) (fun (a : Heap × List Loc × Array Slot × (Int32) × (Nat → Int32)) => match a with | (H, locs, ls, i_1, f_2) => 0 ≤ i_1.toInt ∧ i_1.toInt ≤ 16 ∧ rg 0 12 f_2 ∧ va_P D vwCl [(ym, .inr (11, [.int w0, .ref y1, .ref y2, .ref y3, .ref y4, .ref y5, .int w6, .int w7, .int w8, .int w9, .int w10, .long v11, .int w12, .int w13, .int w14, .int w15, .ref y16, .ref y17, .ref y18, .ref y19, .ref y20, .ref y21, .ref y22, .ref y23, .ref y24, .ref y25, .ref y26, .ref y27, .ref y28, .ref y29, .ref y30, .ref y31, .ref y32, .int w33, .int w34, .int w35, .ref y36, .int w37, .int w38, .int w39, .ref y40, .ref y41, .ref y42, .int w43, .long v44])), (y18, .inl (T 0, 5, .inl c18)), (y19, .inl (T 0, 75, .inl c19)), (y24, .inl (T 0, 80, .inl f_2)), (y28, .inl (T 0, 25, .inl c28)), (y29, .inl (T 0, 15, .inl c29)), (y31, .inl (T 0, 1000, .inl c31))] H ∧ va_D A [(ym, .inr (11, [.int w0, .ref y1, .ref y2, .ref y3, .ref y4, .ref y5, .int w6, .int w7, .int w8, .int w9, .int w10, .long v11, .int w12, .int w13, .int w14, .int w15, .ref y16, .ref y17, .ref y18, .ref y19, .ref y20, .ref y21, .ref y22, .ref y23, .ref y24, .ref y25, .ref y26, .ref y27, .ref y28, .ref y29, .ref y30, .ref y31, .ref y32, .int w33, .int w34, .int w35, .ref y36, .int w37, .int w38, .int w39, .ref y40, .ref y41, .ref y42, .int w43, .long v44])), (y18, .inl (T 0, 5, .inl c18)), (y19, .inl (T 0, 75, .inl c19)), (y24, .inl (T 0, 80, .inl f_2)), (y28, .inl (T 0, 25, .inl c28)), (y29, .inl (T 0, 15, .inl c29)), (y31, .inl (T 0, 1000, .inl c31))] ∧ va_S A s.heap H locs ∧ lv_has ls 2 [(1, .int i_1), (0, .ref ym)]) (fun (a : Heap × List Loc × Array Slot × (Int32) × (Nat → Int32)) => match a with | (H, locs, ls, i_1, f_2) => (16 - i_1.toInt).toNat) ?_ (_, _, ls, (0 : Int32), c24) ⟨(show 0 ≤ (0 : Int) by omega), (show (0 : Int) ≤ 16 by omega), R_c24, hP, hD, hS, lv_sub hl [0, 1] rfl⟩
  rintro ⟨H, locs, ls, i_1, f_2⟩ ⟨c_3, c_4, Rf_2, hP, hD, hS, hl⟩ ih_6
  refine lv_iload_n hx hb dX11_builds_2 rfl (lv_at hl 0 rfl) ?_
  refine lv_bipush (v := 16) hx hb dX11_builds_3 (by decide) ?_
  refine lv_icmp_ge (tgt := 21) hx hb dX11_builds_5 (by decide) (fun c_7 => ?_) (fun c_7 => ?_)
  · have c_7 : 16 ≤ i_1.toInt := (c_le (x := 16) (y := i_1.toInt) rfl rfl).mp c_7
    refine lv_iconst (v := 0) hx hb dX11_builds_21 (by decide) ?_
    refine lv_istore_n (lv' := [(1, .int 0), (0, .ref ym)]) hx hb dX11_builds_22 rfl hl (by decide) rfl (fun ls hl => ?_)
    refine lp_ind (fun (a : Heap × List Loc × Array Slot × (Int32) × (Nat → Int32)) => match a with | (H, locs, ls, i_8, f_9) => W p l e _ s m _ below meth c H locs 0 0 _ (F0 m 23 ls [])) (fun (a : Heap × List Loc × Array Slot × (Int32) × (Nat → Int32)) => match a with | (H, locs, ls, i_8, f_9) => 0 ≤ i_8.toInt ∧ i_8.toInt ≤ 5 ∧ va_P D vwCl [(ym, .inr (11, [.int w0, .ref y1, .ref y2, .ref y3, .ref y4, .ref y5, .int w6, .int w7, .int w8, .int w9, .int w10, .long v11, .int w12, .int w13, .int w14, .int w15, .ref y16, .ref y17, .ref y18, .ref y19, .ref y20, .ref y21, .ref y22, .ref y23, .ref y24, .ref y25, .ref y26, .ref y27, .ref y28, .ref y29, .ref y30, .ref y31, .ref y32, .int w33, .int w34, .int w35, .ref y36, .int w37, .int w38, .int w39, .ref y40, .ref y41, .ref y42, .int w43, .long v44])), (y18, .inl (T 0, 5, .inl c18)), (y19, .inl (T 0, 75, .inl c19)), (y24, .inl (T 0, 80, .inl f_2)), (y28, .inl (T 0, 25, .inl f_9)), (y29, .inl (T 0, 15, .inl c29)), (y31, .inl (T 0, 1000, .inl c31))] H ∧ va_D A [(ym, .inr (11, [.int w0, .ref y1, .ref y2, .ref y3, .ref y4, .ref y5, .int w6, .int w7, .int w8, .int w9, .int w10, .long v11, .int w12, .int w13, .int w14, .int w15, .ref y16, .ref y17, .ref y18, .ref y19, .ref y20, .ref y21, .ref y22, .ref y23, .ref y24, .ref y25, .ref y26, .ref y27, .ref y28, .ref y29, .ref y30, .ref y31, .ref y32, .int w33, .int w34, .int w35, .ref y36, .int w37, .int w38, .int w39, .ref y40, .ref y41, .ref y42, .int w43, .long v44])), (y18, .inl (T 0, 5, .inl c18)), (y19, .inl (T 0, 75, .inl c19)), (y24, .inl (T 0, 80, .inl f_2)), (y28, .inl (T 0, 25, .inl f_9)), (y29, .inl (T 0, 15, .inl c29)), (y31, .inl (T 0, 1000, .inl c31))] ∧ va_S A s.heap H locs ∧ lv_has ls 2 [(1, .int i_8), (0, .ref ym)]) (fun (a : Heap × List Loc × Array Slot × (Int32) × (Nat → Int32)) => match a with | (H, locs, ls, i_8, f_9) => (5 - i_8.toInt).toNat) ?_ (_, _, ls, (0 : Int32), c28) ⟨(show 0 ≤ (0 : Int) by omega), (show (0 : Int) ≤ 5 by omega), hP, hD, hS, lv_sub hl [0, 1] rfl⟩
    rintro ⟨H, locs, ls, i_8, f_9⟩ ⟨c_10, c_11, hP, hD, hS, hl⟩ ih_12
    refine lv_iload_n hx hb dX11_builds_23 rfl (lv_at hl 0 rfl) ?_
    refine lv_iconst (v := 5) hx hb dX11_builds_24 (by decide) ?_
    refine lv_icmp_ge (tgt := 64) hx hb dX11_builds_25 (by decide) (fun c_13 => ?_) (fun c_13 => ?_)
    · have c_13 : 5 ≤ i_8.toInt := (c_le (x := 5) (y := i_8.toInt) rfl rfl).mp c_13
      refine lv_aload_n hx hb dX11_builds_64 rfl (lv_at hl 1 rfl) ?_
      refine va_get (D := D) (ci := 11) (C := RX11) (T := TX11) (N := 45) hx hb hts iX11 hown hK hP 0 rfl rfl 29 (by decide) (hts _ m1347) (fun _ h9 => h9) rfl dX11_builds_65 ?_
      refine lv_iconst (v := 0) hx hb dX11_builds_68 (by decide) ?_
      refine lv_iconst (v := 0) hx hb dX11_builds_69 (by decide) ?_
      refine va_iast (D := D) hx hb hK hP hD hS 5 0 rfl rfl (by unfold vp_in; decide) dX11_builds_70 (fun H locs hP hD hS => ?_)
      obtain ⟨f_14, hf_14⟩ : ∃ g : Nat → Int32, g = upd c29 (0 : Int32).toNatClampNeg (0 : Int32) := ⟨_, rfl⟩
      have hP : va_P D vwCl [(ym, .inr (11, [.int w0, .ref y1, .ref y2, .ref y3, .ref y4, .ref y5, .int w6, .int w7, .int w8, .int w9, .int w10, .long v11, .int w12, .int w13, .int w14, .int w15, .ref y16, .ref y17, .ref y18, .ref y19, .ref y20, .ref y21, .ref y22, .ref y23, .ref y24, .ref y25, .ref y26, .ref y27, .ref y28, .ref y29, .ref y30, .ref y31, .ref y32, .int w33, .int w34, .int w35, .ref y36, .int w37, .int w38, .int w39, .ref y40, .ref y41, .ref y42, .int w43, .long v44])), (y18, .inl (T 0, 5, .inl c18)), (y19, .inl (T 0, 75, .inl c19)), (y24, .inl (T 0, 80, .inl f_2)), (y28, .inl (T 0, 25, .inl f_9)), (y29, .inl (T 0, 15, .inl (upd c29 (0 : Int32).toNatClampNeg (0 : Int32)))), (y31, .inl (T 0, 1000, .inl c31))] H := hP
      have hD : va_D A [(ym, .inr (11, [.int w0, .ref y1, .ref y2, .ref y3, .ref y4, .ref y5, .int w6, .int w7, .int w8, .int w9, .int w10, .long v11, .int w12, .int w13, .int w14, .int w15, .ref y16, .ref y17, .ref y18, .ref y19, .ref y20, .ref y21, .ref y22, .ref y23, .ref y24, .ref y25, .ref y26, .ref y27, .ref y28, .ref y29, .ref y30, .ref y31, .ref y32, .int w33, .int w34, .int w35, .ref y36, .int w37, .int w38, .int w39, .ref y40, .ref y41, .ref y42, .int w43, .long v44])), (y18, .inl (T 0, 5, .inl c18)), (y19, .inl (T 0, 75, .inl c19)), (y24, .inl (T 0, 80, .inl f_2)), (y28, .inl (T 0, 25, .inl f_9)), (y29, .inl (T 0, 15, .inl (upd c29 (0 : Int32).toNatClampNeg (0 : Int32)))), (y31, .inl (T 0, 1000, .inl c31))] := hD
      rw [← hf_14] at hP hD
      have P_15 : pg 3 0 0 100 f_14 := (by rw [hf_14]; exact pg_upd P_0 (fun j hj => by decide))
      have P_16 : pg 3 1 0 2 f_14 := (by rw [hf_14]; exact pg_upd P_1 (fun j hj => by decide))
      refine lv_aload_n hx hb dX11_builds_71 rfl (lv_at hl 1 rfl) ?_
      refine va_get (D := D) (ci := 11) (C := RX11) (T := TX11) (N := 45) hx hb hts iX11 hown hK hP 0 rfl rfl 29 (by decide) (hts _ m1347) (fun _ h9 => h9) rfl dX11_builds_72 ?_
      refine lv_iconst (v := 1) hx hb dX11_builds_75 (by decide) ?_
      refine lv_iconst (v := 2) hx hb dX11_builds_76 (by decide) ?_
      refine va_iast (D := D) hx hb hK hP hD hS 5 0 rfl rfl (by unfold vp_in; decide) dX11_builds_77 (fun H locs hP hD hS => ?_)
      obtain ⟨f_17, hf_17⟩ : ∃ g : Nat → Int32, g = upd f_14 (1 : Int32).toNatClampNeg (2 : Int32) := ⟨_, rfl⟩
      have hP : va_P D vwCl [(ym, .inr (11, [.int w0, .ref y1, .ref y2, .ref y3, .ref y4, .ref y5, .int w6, .int w7, .int w8, .int w9, .int w10, .long v11, .int w12, .int w13, .int w14, .int w15, .ref y16, .ref y17, .ref y18, .ref y19, .ref y20, .ref y21, .ref y22, .ref y23, .ref y24, .ref y25, .ref y26, .ref y27, .ref y28, .ref y29, .ref y30, .ref y31, .ref y32, .int w33, .int w34, .int w35, .ref y36, .int w37, .int w38, .int w39, .ref y40, .ref y41, .ref y42, .int w43, .long v44])), (y18, .inl (T 0, 5, .inl c18)), (y19, .inl (T 0, 75, .inl c19)), (y24, .inl (T 0, 80, .inl f_2)), (y28, .inl (T 0, 25, .inl f_9)), (y29, .inl (T 0, 15, .inl (upd f_14 (1 : Int32).toNatClampNeg (2 : Int32)))), (y31, .inl (T 0, 1000, .inl c31))] H := hP
      have hD : va_D A [(ym, .inr (11, [.int w0, .ref y1, .ref y2, .ref y3, .ref y4, .ref y5, .int w6, .int w7, .int w8, .int w9, .int w10, .long v11, .int w12, .int w13, .int w14, .int w15, .ref y16, .ref y17, .ref y18, .ref y19, .ref y20, .ref y21, .ref y22, .ref y23, .ref y24, .ref y25, .ref y26, .ref y27, .ref y28, .ref y29, .ref y30, .ref y31, .ref y32, .int w33, .int w34, .int w35, .ref y36, .int w37, .int w38, .int w39, .ref y40, .ref y41, .ref y42, .int w43, .long v44])), (y18, .inl (T 0, 5, .inl c18)), (y19, .inl (T 0, 75, .inl c19)), (y24, .inl (T 0, 80, .inl f_2)), (y28, .inl (T 0, 25, .inl f_9)), (y29, .inl (T 0, 15, .inl (upd f_14 (1 : Int32).toNatClampNeg (2 : Int32)))), (y31, .inl (T 0, 1000, .inl c31))] := hD
      rw [← hf_17] at hP hD
      have P_18 : pg 3 0 0 100 f_17 := (by rw [hf_17]; exact pg_upd P_15 (fun j hj => by decide))
      have P_19 : pg 3 1 0 2 f_17 := (by rw [hf_17]; exact pg_upd P_16 (fun j hj => by decide))
      refine lv_aload_n hx hb dX11_builds_78 rfl (lv_at hl 1 rfl) ?_
      refine va_get (D := D) (ci := 11) (C := RX11) (T := TX11) (N := 45) hx hb hts iX11 hown hK hP 0 rfl rfl 29 (by decide) (hts _ m1347) (fun _ h9 => h9) rfl dX11_builds_79 ?_
      refine lv_iconst (v := 2) hx hb dX11_builds_82 (by decide) ?_
      refine lv_iconst (v := 0) hx hb dX11_builds_83 (by decide) ?_
      refine va_iast (D := D) hx hb hK hP hD hS 5 0 rfl rfl (by unfold vp_in; decide) dX11_builds_84 (fun H locs hP hD hS => ?_)
      obtain ⟨f_20, hf_20⟩ : ∃ g : Nat → Int32, g = upd f_17 (2 : Int32).toNatClampNeg (0 : Int32) := ⟨_, rfl⟩
      have hP : va_P D vwCl [(ym, .inr (11, [.int w0, .ref y1, .ref y2, .ref y3, .ref y4, .ref y5, .int w6, .int w7, .int w8, .int w9, .int w10, .long v11, .int w12, .int w13, .int w14, .int w15, .ref y16, .ref y17, .ref y18, .ref y19, .ref y20, .ref y21, .ref y22, .ref y23, .ref y24, .ref y25, .ref y26, .ref y27, .ref y28, .ref y29, .ref y30, .ref y31, .ref y32, .int w33, .int w34, .int w35, .ref y36, .int w37, .int w38, .int w39, .ref y40, .ref y41, .ref y42, .int w43, .long v44])), (y18, .inl (T 0, 5, .inl c18)), (y19, .inl (T 0, 75, .inl c19)), (y24, .inl (T 0, 80, .inl f_2)), (y28, .inl (T 0, 25, .inl f_9)), (y29, .inl (T 0, 15, .inl (upd f_17 (2 : Int32).toNatClampNeg (0 : Int32)))), (y31, .inl (T 0, 1000, .inl c31))] H := hP
      have hD : va_D A [(ym, .inr (11, [.int w0, .ref y1, .ref y2, .ref y3, .ref y4, .ref y5, .int w6, .int w7, .int w8, .int w9, .int w10, .long v11, .int w12, .int w13, .int w14, .int w15, .ref y16, .ref y17, .ref y18, .ref y19, .ref y20, .ref y21, .ref y22, .ref y23, .ref y24, .ref y25, .ref y26, .ref y27, .ref y28, .ref y29, .ref y30, .ref y31, .ref y32, .int w33, .int w34, .int w35, .ref y36, .int w37, .int w38, .int w39, .ref y40, .ref y41, .ref y42, .int w43, .long v44])), (y18, .inl (T 0, 5, .inl c18)), (y19, .inl (T 0, 75, .inl c19)), (y24, .inl (T 0, 80, .inl f_2)), (y28, .inl (T 0, 25, .inl f_9)), (y29, .inl (T 0, 15, .inl (upd f_17 (2 : Int32).toNatClampNeg (0 : Int32)))), (y31, .inl (T 0, 1000, .inl c31))] := hD
      rw [← hf_20] at hP hD
      have P_21 : pg 3 0 0 100 f_20 := (by rw [hf_20]; exact pg_upd P_18 (fun j hj => by decide))
      have P_22 : pg 3 1 0 2 f_20 := (by rw [hf_20]; exact pg_upd P_19 (fun j hj => by decide))
      refine lv_iconst (v := 0) hx hb dX11_builds_85 (by decide) ?_
      refine lv_istore_n (lv' := [(1, .int 0), (0, .ref ym)]) hx hb dX11_builds_86 rfl hl (by decide) rfl (fun ls hl => ?_)
      refine lp_ind (fun (a : Heap × List Loc × Array Slot × (Int32) × (Nat → Int32)) => match a with | (H, locs, ls, i_23, f_24) => W p l e _ s m _ below meth c H locs 0 0 _ (F0 m 87 ls [])) (fun (a : Heap × List Loc × Array Slot × (Int32) × (Nat → Int32)) => match a with | (H, locs, ls, i_23, f_24) => 0 ≤ i_23.toInt ∧ i_23.toInt ≤ 200 ∧ va_P D vwCl [(ym, .inr (11, [.int w0, .ref y1, .ref y2, .ref y3, .ref y4, .ref y5, .int w6, .int w7, .int w8, .int w9, .int w10, .long v11, .int w12, .int w13, .int w14, .int w15, .ref y16, .ref y17, .ref y18, .ref y19, .ref y20, .ref y21, .ref y22, .ref y23, .ref y24, .ref y25, .ref y26, .ref y27, .ref y28, .ref y29, .ref y30, .ref y31, .ref y32, .int w33, .int w34, .int w35, .ref y36, .int w37, .int w38, .int w39, .ref y40, .ref y41, .ref y42, .int w43, .long v44])), (y18, .inl (T 0, 5, .inl c18)), (y19, .inl (T 0, 75, .inl c19)), (y24, .inl (T 0, 80, .inl f_2)), (y28, .inl (T 0, 25, .inl f_9)), (y29, .inl (T 0, 15, .inl f_20)), (y31, .inl (T 0, 1000, .inl f_24))] H ∧ va_D A [(ym, .inr (11, [.int w0, .ref y1, .ref y2, .ref y3, .ref y4, .ref y5, .int w6, .int w7, .int w8, .int w9, .int w10, .long v11, .int w12, .int w13, .int w14, .int w15, .ref y16, .ref y17, .ref y18, .ref y19, .ref y20, .ref y21, .ref y22, .ref y23, .ref y24, .ref y25, .ref y26, .ref y27, .ref y28, .ref y29, .ref y30, .ref y31, .ref y32, .int w33, .int w34, .int w35, .ref y36, .int w37, .int w38, .int w39, .ref y40, .ref y41, .ref y42, .int w43, .long v44])), (y18, .inl (T 0, 5, .inl c18)), (y19, .inl (T 0, 75, .inl c19)), (y24, .inl (T 0, 80, .inl f_2)), (y28, .inl (T 0, 25, .inl f_9)), (y29, .inl (T 0, 15, .inl f_20)), (y31, .inl (T 0, 1000, .inl f_24))] ∧ va_S A s.heap H locs ∧ lv_has ls 2 [(1, .int i_23), (0, .ref ym)]) (fun (a : Heap × List Loc × Array Slot × (Int32) × (Nat → Int32)) => match a with | (H, locs, ls, i_23, f_24) => (200 - i_23.toInt).toNat) ?_ (_, _, ls, (0 : Int32), c31) ⟨(show 0 ≤ (0 : Int) by omega), (show (0 : Int) ≤ 200 by omega), hP, hD, hS, lv_sub hl [0, 1] rfl⟩
      rintro ⟨H, locs, ls, i_23, f_24⟩ ⟨c_25, c_26, hP, hD, hS, hl⟩ ih_27
      refine lv_iload_n hx hb dX11_builds_87 rfl (lv_at hl 0 rfl) ?_
      refine lv_sipush (v := 200) hx hb dX11_builds_88 (by decide) ?_
      refine lv_icmp_ge (tgt := 107) hx hb dX11_builds_91 (by decide) (fun c_28 => ?_) (fun c_28 => ?_)
      · have c_28 : 200 ≤ i_23.toInt := (c_le (x := 200) (y := i_23.toInt) rfl rfl).mp c_28
        have hP9 := hP.sub (ws' := [(ym, .inr (11, [.int w0, .ref y1, .ref y2, .ref y3, .ref y4, .ref y5, .int w6, .int w7, .int w8, .int w9, .int w10, .long v11, .int w12, .int w13, .int w14, .int w15, .ref y16, .ref y17, .ref y18, .ref y19, .ref y20, .ref y21, .ref y22, .ref y23, .ref y24, .ref y25, .ref y26, .ref y27, .ref y28, .ref y29, .ref y30, .ref y31, .ref y32, .int w33, .int w34, .int w35, .ref y36, .int w37, .int w38, .int w39, .ref y40, .ref y41, .ref y42, .int w43, .long v44])), (y18, .inl (T 0, 5, .inl c18)), (y19, .inl (T 0, 75, .inl c19)), (y24, .inl (T 0, 80, .inl f_2)), (y28, .inl (T 0, 25, .inl f_9)), (y29, .inl (T 0, 15, .inl f_20)), (y31, .inl (T 0, 1000, .inl f_24))]) [0, 1, 2, 3, 4, 5, 6] rfl
        have hD9 := hD.sub (ws' := [(ym, .inr (11, [.int w0, .ref y1, .ref y2, .ref y3, .ref y4, .ref y5, .int w6, .int w7, .int w8, .int w9, .int w10, .long v11, .int w12, .int w13, .int w14, .int w15, .ref y16, .ref y17, .ref y18, .ref y19, .ref y20, .ref y21, .ref y22, .ref y23, .ref y24, .ref y25, .ref y26, .ref y27, .ref y28, .ref y29, .ref y30, .ref y31, .ref y32, .int w33, .int w34, .int w35, .ref y36, .int w37, .int w38, .int w39, .ref y40, .ref y41, .ref y42, .int w43, .long v44])), (y18, .inl (T 0, 5, .inl c18)), (y19, .inl (T 0, 75, .inl c19)), (y24, .inl (T 0, 80, .inl f_2)), (y28, .inl (T 0, 25, .inl f_9)), (y29, .inl (T 0, 15, .inl f_20)), (y31, .inl (T 0, 1000, .inl f_24))]) [0, 1, 2, 3, 4, 5, 6] (by decide) rfl
        exact W.vret hx hb hr (fun t ht hW => ⟨⟨(fun k => ([] : List (Nat)).getD k 0, fun k => ([f_2, f_9, f_20, f_24] : List (Nat → Int32)).getD k (fun _ => 0), fun k => ([] : List (Nat → Int64)).getD k (fun _ => 0), fun k => ([] : List (Int32)).getD k 0, fun k => ([] : List (Int64)).getD k 0), rfl, ⟨(show rg 0 12 f_2 from Rf_2), (show pg 3 0 0 100 f_20 from P_21), (show pg 3 1 0 2 f_20 from P_22)⟩, by rw [ht]; exact hP9, hD9⟩, hS.F ht⟩) hS.2.2 dX11_builds_107
      · have c_28 : i_23.toInt < 200 := by have h := mt (c_le (x := 200) (y := i_23.toInt) rfl rfl).mpr c_28; omega
        refine lv_aload_n hx hb dX11_builds_94 rfl (lv_at hl 1 rfl) ?_
        refine va_get (D := D) (ci := 11) (C := RX11) (T := TX11) (N := 45) hx hb hts iX11 hown hK hP 0 rfl rfl 31 (by decide) (hts _ m1349) (fun _ h9 => h9) rfl dX11_builds_95 ?_
        refine lv_iload_n hx hb dX11_builds_98 rfl (lv_at hl 0 rfl) ?_
        refine lv_iconst (v := 0) hx hb dX11_builds_99 (by decide) ?_
        refine va_iast (D := D) hx hb hK hP hD hS 6 0 rfl rfl (v_in (x := i_23.toInt) rfl (by omega) (by omega)) dX11_builds_100 (fun H locs hP hD hS => ?_)
        obtain ⟨f_29, hf_29⟩ : ∃ g : Nat → Int32, g = upd f_24 i_23.toNatClampNeg (0 : Int32) := ⟨_, rfl⟩
        have hP : va_P D vwCl [(ym, .inr (11, [.int w0, .ref y1, .ref y2, .ref y3, .ref y4, .ref y5, .int w6, .int w7, .int w8, .int w9, .int w10, .long v11, .int w12, .int w13, .int w14, .int w15, .ref y16, .ref y17, .ref y18, .ref y19, .ref y20, .ref y21, .ref y22, .ref y23, .ref y24, .ref y25, .ref y26, .ref y27, .ref y28, .ref y29, .ref y30, .ref y31, .ref y32, .int w33, .int w34, .int w35, .ref y36, .int w37, .int w38, .int w39, .ref y40, .ref y41, .ref y42, .int w43, .long v44])), (y18, .inl (T 0, 5, .inl c18)), (y19, .inl (T 0, 75, .inl c19)), (y24, .inl (T 0, 80, .inl f_2)), (y28, .inl (T 0, 25, .inl f_9)), (y29, .inl (T 0, 15, .inl f_20)), (y31, .inl (T 0, 1000, .inl (upd f_24 i_23.toNatClampNeg (0 : Int32))))] H := hP
        have hD : va_D A [(ym, .inr (11, [.int w0, .ref y1, .ref y2, .ref y3, .ref y4, .ref y5, .int w6, .int w7, .int w8, .int w9, .int w10, .long v11, .int w12, .int w13, .int w14, .int w15, .ref y16, .ref y17, .ref y18, .ref y19, .ref y20, .ref y21, .ref y22, .ref y23, .ref y24, .ref y25, .ref y26, .ref y27, .ref y28, .ref y29, .ref y30, .ref y31, .ref y32, .int w33, .int w34, .int w35, .ref y36, .int w37, .int w38, .int w39, .ref y40, .ref y41, .ref y42, .int w43, .long v44])), (y18, .inl (T 0, 5, .inl c18)), (y19, .inl (T 0, 75, .inl c19)), (y24, .inl (T 0, 80, .inl f_2)), (y28, .inl (T 0, 25, .inl f_9)), (y29, .inl (T 0, 15, .inl f_20)), (y31, .inl (T 0, 1000, .inl (upd f_24 i_23.toNatClampNeg (0 : Int32))))] := hD
        rw [← hf_29] at hP hD
        obtain ⟨x_30, ex_30⟩ : ∃ y : Int32, y = i_23 + 1 := ⟨_, rfl⟩
        have tx_30 : x_30.toInt = i_23.toInt + 1 := t_add (x := i_23.toInt) (y := 1) ex_30 rfl rfl (by omega) (by omega)
        refine lv_iinc (v := x_30) (lv' := [(1, .int x_30), (0, .ref ym)]) hx hb dX11_builds_101 hl (k := 0) rfl (by rw [ex_30]; rfl) (by decide) rfl (fun ls hl => ?_)
        refine lv_goto (tgt := 87) hx hb dX11_builds_104 (by decide) ?_
        exact ih_27 (_, _, _, x_30, f_29) ⟨(show 0 ≤ x_30.toInt by omega), (show x_30.toInt ≤ 200 by omega), hP, hD, hS, lv_sub hl [0, 1] rfl⟩ (show (200 - x_30.toInt).toNat < (200 - i_23.toInt).toNat by omega)
    · have c_13 : i_8.toInt < 5 := by have h := mt (c_le (x := 5) (y := i_8.toInt) rfl rfl).mpr c_13; omega
      refine lv_aload_n hx hb dX11_builds_28 rfl (lv_at hl 1 rfl) ?_
      refine va_get (D := D) (ci := 11) (C := RX11) (T := TX11) (N := 45) hx hb hts iX11 hown hK hP 0 rfl rfl 28 (by decide) (hts _ m1346) (fun _ h9 => h9) rfl dX11_builds_29 ?_
      refine lv_iload_n hx hb dX11_builds_32 rfl (lv_at hl 0 rfl) ?_
      refine lv_iload_n hx hb dX11_builds_33 rfl (lv_at hl 0 rfl) ?_
      refine lv_aload_n hx hb dX11_builds_34 rfl (lv_at hl 1 rfl) ?_
      refine va_get (D := D) (ci := 11) (C := RX11) (T := TX11) (N := 45) hx hb hts iX11 hown hK hP 0 rfl rfl 18 (by decide) (hts _ m1336) (fun _ h9 => h9) rfl dX11_builds_35 ?_
      refine lv_iconst (v := 0) hx hb dX11_builds_38 (by decide) ?_
      refine va_iald (D := D) hx hb hK hP 1 0 rfl rfl (by unfold vp_in; decide) dX11_builds_39 ?_
      refine lv_topi (fun x_31 ex_31 => ?_)
      have tx_31 : 0 ≤ x_31.toInt ∧ x_31.toInt ≤ 5 := rg_at R_c18 ex_31
      have qx_31 : x_31.toInt = (c18 0).toInt := by rw [ex_31]; rfl
      refine lv_icmp_ge (tgt := 56) hx hb dX11_builds_40 (by decide) (fun c_32 => ?_) (fun c_32 => ?_)
      · have c_32 : x_31.toInt ≤ i_8.toInt := (c_le (x := x_31.toInt) (y := i_8.toInt) rfl rfl).mp c_32
        refine lv_iconst (v := 0) hx hb dX11_builds_56 (by decide) ?_
        refine va_iast (D := D) hx hb hK hP hD hS 4 0 rfl rfl (v_in (x := i_8.toInt) rfl (by omega) (by omega)) dX11_builds_57 (fun H locs hP hD hS => ?_)
        obtain ⟨f_33, hf_33⟩ : ∃ g : Nat → Int32, g = upd f_9 i_8.toNatClampNeg (0 : Int32) := ⟨_, rfl⟩
        have hP : va_P D vwCl [(ym, .inr (11, [.int w0, .ref y1, .ref y2, .ref y3, .ref y4, .ref y5, .int w6, .int w7, .int w8, .int w9, .int w10, .long v11, .int w12, .int w13, .int w14, .int w15, .ref y16, .ref y17, .ref y18, .ref y19, .ref y20, .ref y21, .ref y22, .ref y23, .ref y24, .ref y25, .ref y26, .ref y27, .ref y28, .ref y29, .ref y30, .ref y31, .ref y32, .int w33, .int w34, .int w35, .ref y36, .int w37, .int w38, .int w39, .ref y40, .ref y41, .ref y42, .int w43, .long v44])), (y18, .inl (T 0, 5, .inl c18)), (y19, .inl (T 0, 75, .inl c19)), (y24, .inl (T 0, 80, .inl f_2)), (y28, .inl (T 0, 25, .inl (upd f_9 i_8.toNatClampNeg (0 : Int32)))), (y29, .inl (T 0, 15, .inl c29)), (y31, .inl (T 0, 1000, .inl c31))] H := hP
        have hD : va_D A [(ym, .inr (11, [.int w0, .ref y1, .ref y2, .ref y3, .ref y4, .ref y5, .int w6, .int w7, .int w8, .int w9, .int w10, .long v11, .int w12, .int w13, .int w14, .int w15, .ref y16, .ref y17, .ref y18, .ref y19, .ref y20, .ref y21, .ref y22, .ref y23, .ref y24, .ref y25, .ref y26, .ref y27, .ref y28, .ref y29, .ref y30, .ref y31, .ref y32, .int w33, .int w34, .int w35, .ref y36, .int w37, .int w38, .int w39, .ref y40, .ref y41, .ref y42, .int w43, .long v44])), (y18, .inl (T 0, 5, .inl c18)), (y19, .inl (T 0, 75, .inl c19)), (y24, .inl (T 0, 80, .inl f_2)), (y28, .inl (T 0, 25, .inl (upd f_9 i_8.toNatClampNeg (0 : Int32)))), (y29, .inl (T 0, 15, .inl c29)), (y31, .inl (T 0, 1000, .inl c31))] := hD
        rw [← hf_33] at hP hD
        obtain ⟨x_34, ex_34⟩ : ∃ y : Int32, y = i_8 + 1 := ⟨_, rfl⟩
        have tx_34 : x_34.toInt = i_8.toInt + 1 := t_add (x := i_8.toInt) (y := 1) ex_34 rfl rfl (by omega) (by omega)
        refine lv_iinc (v := x_34) (lv' := [(1, .int x_34), (0, .ref ym)]) hx hb dX11_builds_58 hl (k := 0) rfl (by rw [ex_34]; rfl) (by decide) rfl (fun ls hl => ?_)
        refine lv_goto (tgt := 23) hx hb dX11_builds_61 (by decide) ?_
        exact ih_12 (_, _, _, x_34, f_33) ⟨(show 0 ≤ x_34.toInt by omega), (show x_34.toInt ≤ 5 by omega), hP, hD, hS, lv_sub hl [0, 1] rfl⟩ (show (5 - x_34.toInt).toNat < (5 - i_8.toInt).toNat by omega)
      · have c_32 : i_8.toInt < x_31.toInt := by have h := mt (c_le (x := x_31.toInt) (y := i_8.toInt) rfl rfl).mpr c_32; omega
        refine lv_aload_n hx hb dX11_builds_43 rfl (lv_at hl 1 rfl) ?_
        refine va_get (D := D) (ci := 11) (C := RX11) (T := TX11) (N := 45) hx hb hts iX11 hown hK hP 0 rfl rfl 19 (by decide) (hts _ m1337) (fun _ h9 => h9) rfl dX11_builds_44 ?_
        refine lv_iconst (v := 3) hx hb dX11_builds_47 (by decide) ?_
        refine lv_iload_n hx hb dX11_builds_48 rfl (lv_at hl 0 rfl) ?_
        refine lv_imul hx hb dX11_builds_49 ?_
        refine lv_topi (fun x_35 ex_35 => ?_)
        have tx_35 : x_35.toInt = 3 * i_8.toInt := t_mul (x := 3) (y := i_8.toInt) ex_35 rfl rfl (by omega) (by omega)
        refine lv_iconst (v := 2) hx hb dX11_builds_50 (by decide) ?_
        refine lv_iadd hx hb dX11_builds_51 ?_
        refine lv_topi (fun x_36 ex_36 => ?_)
        have tx_36 : x_36.toInt = x_35.toInt + 2 := t_add (x := x_35.toInt) (y := 2) ex_36 rfl rfl (by omega) (by omega)
        refine va_iald (D := D) hx hb hK hP 2 0 rfl rfl (v_in (x := x_36.toInt) rfl (by omega) (by omega)) dX11_builds_52 ?_
        refine lv_topi (fun x_37 ex_37 => ?_)
        refine lv_goto (tgt := 57) hx hb dX11_builds_53 (by decide) ?_
        refine va_iast (D := D) hx hb hK hP hD hS 4 0 rfl rfl (v_in (x := i_8.toInt) rfl (by omega) (by omega)) dX11_builds_57 (fun H locs hP hD hS => ?_)
        obtain ⟨f_38, hf_38⟩ : ∃ g : Nat → Int32, g = upd f_9 i_8.toNatClampNeg x_37 := ⟨_, rfl⟩
        have hP : va_P D vwCl [(ym, .inr (11, [.int w0, .ref y1, .ref y2, .ref y3, .ref y4, .ref y5, .int w6, .int w7, .int w8, .int w9, .int w10, .long v11, .int w12, .int w13, .int w14, .int w15, .ref y16, .ref y17, .ref y18, .ref y19, .ref y20, .ref y21, .ref y22, .ref y23, .ref y24, .ref y25, .ref y26, .ref y27, .ref y28, .ref y29, .ref y30, .ref y31, .ref y32, .int w33, .int w34, .int w35, .ref y36, .int w37, .int w38, .int w39, .ref y40, .ref y41, .ref y42, .int w43, .long v44])), (y18, .inl (T 0, 5, .inl c18)), (y19, .inl (T 0, 75, .inl c19)), (y24, .inl (T 0, 80, .inl f_2)), (y28, .inl (T 0, 25, .inl (upd f_9 i_8.toNatClampNeg x_37))), (y29, .inl (T 0, 15, .inl c29)), (y31, .inl (T 0, 1000, .inl c31))] H := hP
        have hD : va_D A [(ym, .inr (11, [.int w0, .ref y1, .ref y2, .ref y3, .ref y4, .ref y5, .int w6, .int w7, .int w8, .int w9, .int w10, .long v11, .int w12, .int w13, .int w14, .int w15, .ref y16, .ref y17, .ref y18, .ref y19, .ref y20, .ref y21, .ref y22, .ref y23, .ref y24, .ref y25, .ref y26, .ref y27, .ref y28, .ref y29, .ref y30, .ref y31, .ref y32, .int w33, .int w34, .int w35, .ref y36, .int w37, .int w38, .int w39, .ref y40, .ref y41, .ref y42, .int w43, .long v44])), (y18, .inl (T 0, 5, .inl c18)), (y19, .inl (T 0, 75, .inl c19)), (y24, .inl (T 0, 80, .inl f_2)), (y28, .inl (T 0, 25, .inl (upd f_9 i_8.toNatClampNeg x_37))), (y29, .inl (T 0, 15, .inl c29)), (y31, .inl (T 0, 1000, .inl c31))] := hD
        rw [← hf_38] at hP hD
        obtain ⟨x_39, ex_39⟩ : ∃ y : Int32, y = i_8 + 1 := ⟨_, rfl⟩
        have tx_39 : x_39.toInt = i_8.toInt + 1 := t_add (x := i_8.toInt) (y := 1) ex_39 rfl rfl (by omega) (by omega)
        refine lv_iinc (v := x_39) (lv' := [(1, .int x_39), (0, .ref ym)]) hx hb dX11_builds_58 hl (k := 0) rfl (by rw [ex_39]; rfl) (by decide) rfl (fun ls hl => ?_)
        refine lv_goto (tgt := 23) hx hb dX11_builds_61 (by decide) ?_
        exact ih_12 (_, _, _, x_39, f_38) ⟨(show 0 ≤ x_39.toInt by omega), (show x_39.toInt ≤ 5 by omega), hP, hD, hS, lv_sub hl [0, 1] rfl⟩ (show (5 - x_39.toInt).toNat < (5 - i_8.toInt).toNat by omega)
  · have c_7 : i_1.toInt < 16 := by have h := mt (c_le (x := 16) (y := i_1.toInt) rfl rfl).mpr c_7; omega
    refine lv_aload_n hx hb dX11_builds_8 rfl (lv_at hl 1 rfl) ?_
    refine va_get (D := D) (ci := 11) (C := RX11) (T := TX11) (N := 45) hx hb hts iX11 hown hK hP 0 rfl rfl 24 (by decide) (hts _ m1342) (fun _ h9 => h9) rfl dX11_builds_9 ?_
    refine lv_iload_n hx hb dX11_builds_12 rfl (lv_at hl 0 rfl) ?_
    refine lv_iconst (v := 0) hx hb dX11_builds_13 (by decide) ?_
    refine va_iast (D := D) hx hb hK hP hD hS 3 0 rfl rfl (v_in (x := i_1.toInt) rfl (by omega) (by omega)) dX11_builds_14 (fun H locs hP hD hS => ?_)
    obtain ⟨f_40, hf_40⟩ : ∃ g : Nat → Int32, g = upd f_2 i_1.toNatClampNeg (0 : Int32) := ⟨_, rfl⟩
    have hP : va_P D vwCl [(ym, .inr (11, [.int w0, .ref y1, .ref y2, .ref y3, .ref y4, .ref y5, .int w6, .int w7, .int w8, .int w9, .int w10, .long v11, .int w12, .int w13, .int w14, .int w15, .ref y16, .ref y17, .ref y18, .ref y19, .ref y20, .ref y21, .ref y22, .ref y23, .ref y24, .ref y25, .ref y26, .ref y27, .ref y28, .ref y29, .ref y30, .ref y31, .ref y32, .int w33, .int w34, .int w35, .ref y36, .int w37, .int w38, .int w39, .ref y40, .ref y41, .ref y42, .int w43, .long v44])), (y18, .inl (T 0, 5, .inl c18)), (y19, .inl (T 0, 75, .inl c19)), (y24, .inl (T 0, 80, .inl (upd f_2 i_1.toNatClampNeg (0 : Int32)))), (y28, .inl (T 0, 25, .inl c28)), (y29, .inl (T 0, 15, .inl c29)), (y31, .inl (T 0, 1000, .inl c31))] H := hP
    have hD : va_D A [(ym, .inr (11, [.int w0, .ref y1, .ref y2, .ref y3, .ref y4, .ref y5, .int w6, .int w7, .int w8, .int w9, .int w10, .long v11, .int w12, .int w13, .int w14, .int w15, .ref y16, .ref y17, .ref y18, .ref y19, .ref y20, .ref y21, .ref y22, .ref y23, .ref y24, .ref y25, .ref y26, .ref y27, .ref y28, .ref y29, .ref y30, .ref y31, .ref y32, .int w33, .int w34, .int w35, .ref y36, .int w37, .int w38, .int w39, .ref y40, .ref y41, .ref y42, .int w43, .long v44])), (y18, .inl (T 0, 5, .inl c18)), (y19, .inl (T 0, 75, .inl c19)), (y24, .inl (T 0, 80, .inl (upd f_2 i_1.toNatClampNeg (0 : Int32)))), (y28, .inl (T 0, 25, .inl c28)), (y29, .inl (T 0, 15, .inl c29)), (y31, .inl (T 0, 1000, .inl c31))] := hD
    rw [← hf_40] at hP hD
    have Rf_40 : rg 0 12 f_40 := by rw [hf_40]; exact rg_upd Rf_2 (by decide)
    obtain ⟨x_41, ex_41⟩ : ∃ y : Int32, y = i_1 + 1 := ⟨_, rfl⟩
    have tx_41 : x_41.toInt = i_1.toInt + 1 := t_add (x := i_1.toInt) (y := 1) ex_41 rfl rfl (by omega) (by omega)
    refine lv_iinc (v := x_41) (lv' := [(1, .int x_41), (0, .ref ym)]) hx hb dX11_builds_15 hl (k := 0) rfl (by rw [ex_41]; rfl) (by decide) rfl (fun ls hl => ?_)
    refine lv_goto (tgt := 2) hx hb dX11_builds_18 (by decide) ?_
    exact ih_6 (_, _, _, x_41, f_40) ⟨(show 0 ≤ x_41.toInt by omega), (show x_41.toInt ≤ 16 by omega), Rf_40, hP, hD, hS, lv_sub hl [0, 1] rfl⟩ (show (16 - x_41.toInt).toNat < (16 - i_1.toInt).toNat by omega)

set_option maxHeartbeats 4000000 in
set_option maxRecDepth 100000 in
theorem c_X11_clears (l : Launch) (D : va_G) (T : Nat → ClassId) (y1 y16 y17 y18 y19 y2 y20 y21 y22 y23 y24 y25 y26 y27 y28 y29 y3 y30 y31 y32 y36 y4 y40 y41 y42 y5 ym : Nat) (w0 w10 w12 w13 w14 w15 w33 w34 w35 w37 w38 w39 w43 w6 w7 w8 w9 : Int32) (v11 v44 : Int64) (c16 c17 c18 c20 c21 c22 c23 : Nat → Int32) (sz : Nat) (h_w6 : 0 ≤ w6.toInt ∧ w6.toInt ≤ 1600) (h_w43 : 0 ≤ w43.toInt ∧ w43.toInt ≤ 16) (R_c18 : rg 0 5 c18) (R_c20 : rg 0 10 c20) (P_0 : pg 3 0 0 8 c17) (P_1 : pg 3 1 0 12 c17) (P_2 : vr 0 c20 c21) (P_3 : vr 1 c20 c21) (P_4 : vr 2 c20 c21) (P_5 : vr 3 c20 c21) : Met l yX11_clears (wM yX11_clears cX11_clears 2 none) ({ frames := 0, cells := 0, slots := 0, locals := 0 }) (va_Pc [.ref ym] (pwM D T [(ym, .inr (11, [.int w0, .ref y1, .ref y2, .ref y3, .ref y4, .ref y5, .int w6, .int w7, .int w8, .int w9, .int w10, .long v11, .int w12, .int w13, .int w14, .int w15, .ref y16, .ref y17, .ref y18, .ref y19, .ref y20, .ref y21, .ref y22, .ref y23, .ref y24, .ref y25, .ref y26, .ref y27, .ref y28, .ref y29, .ref y30, .ref y31, .ref y32, .int w33, .int w34, .int w35, .ref y36, .int w37, .int w38, .int w39, .ref y40, .ref y41, .ref y42, .int w43, .long v44])), (y16, .inl (T 0, 5, .inl c16)), (y17, .inl (T 0, 15, .inl c17)), (y18, .inl (T 0, 5, .inl c18)), (y20, .inl (T 0, 5, .inl c20)), (y21, .inl (T 0, 400, .inl c21)), (y22, .inl (T 0, 15, .inl c22)), (y23, .inl (T 3, 15, .inl c23))] sz)) (va_Qv (fun (u : U5) => rg 0 5 (u.2.1 2) ∧ rg 0 10 (u.2.1 3) ∧ pg 3 0 0 8 (u.2.1 1) ∧ pg 3 1 0 12 (u.2.1 1) ∧ vr 0 (u.2.1 3) c21 ∧ vr 1 (u.2.1 3) c21 ∧ vr 2 (u.2.1 3) c21 ∧ vr 3 (u.2.1 3) c21 ∧ (vr 4 (u.2.1 3) c21)) (fun u t => pwE D (va_A [(ym, .inr (11, [.int w0, .ref y1, .ref y2, .ref y3, .ref y4, .ref y5, .int w6, .int w7, .int w8, .int w9, .int w10, .long v11, .int w12, .int w13, .int w14, .int w15, .ref y16, .ref y17, .ref y18, .ref y19, .ref y20, .ref y21, .ref y22, .ref y23, .ref y24, .ref y25, .ref y26, .ref y27, .ref y28, .ref y29, .ref y30, .ref y31, .ref y32, .int w33, .int w34, .int w35, .ref y36, .int w37, .int w38, .int w39, .ref y40, .ref y41, .ref y42, .int w43, .long v44])), (y16, .inl (T 0, 5, .inl c16)), (y17, .inl (T 0, 15, .inl c17)), (y18, .inl (T 0, 5, .inl c18)), (y20, .inl (T 0, 5, .inl c20)), (y21, .inl (T 0, 400, .inl c21)), (y22, .inl (T 0, 15, .inl c22)), (y23, .inl (T 3, 15, .inl c23))] sz) [(ym, .inr (11, [.int w0, .ref y1, .ref y2, .ref y3, .ref y4, .ref y5, .int w6, .int w7, .int w8, .int w9, .int w10, .long v11, .int w12, .int w13, .int w14, .int w15, .ref y16, .ref y17, .ref y18, .ref y19, .ref y20, .ref y21, .ref y22, .ref y23, .ref y24, .ref y25, .ref y26, .ref y27, .ref y28, .ref y29, .ref y30, .ref y31, .ref y32, .int w33, .int w34, .int w35, .ref y36, .int w37, .int w38, .int w39, .ref y40, .ref y41, .ref y42, .int w43, .long v44])), (y16, .inl (T 0, 5, .inl (u.2.1 0))), (y17, .inl (T 0, 15, .inl (u.2.1 1))), (y18, .inl (T 0, 5, .inl (u.2.1 2))), (y20, .inl (T 0, 5, .inl (u.2.1 3))), (y21, .inl (T 0, 400, .inl c21)), (y22, .inl (T 0, 15, .inl (u.2.1 4))), (y23, .inl (T 3, 15, .inl (u.2.1 5)))] t) (va_A [(ym, .inr (11, [.int w0, .ref y1, .ref y2, .ref y3, .ref y4, .ref y5, .int w6, .int w7, .int w8, .int w9, .int w10, .long v11, .int w12, .int w13, .int w14, .int w15, .ref y16, .ref y17, .ref y18, .ref y19, .ref y20, .ref y21, .ref y22, .ref y23, .ref y24, .ref y25, .ref y26, .ref y27, .ref y28, .ref y29, .ref y30, .ref y31, .ref y32, .int w33, .int w34, .int w35, .ref y36, .int w37, .int w38, .int w39, .ref y40, .ref y41, .ref y42, .int w43, .long v44])), (y16, .inl (T 0, 5, .inl c16)), (y17, .inl (T 0, 15, .inl c17)), (y18, .inl (T 0, 5, .inl c18)), (y20, .inl (T 0, 5, .inl c20)), (y21, .inl (T 0, 400, .inl c21)), (y22, .inl (T 0, 15, .inl c22)), (y23, .inl (T 3, 15, .inl c23))] sz)) 0 0 (va_A [(ym, .inr (11, [.int w0, .ref y1, .ref y2, .ref y3, .ref y4, .ref y5, .int w6, .int w7, .int w8, .int w9, .int w10, .long v11, .int w12, .int w13, .int w14, .int w15, .ref y16, .ref y17, .ref y18, .ref y19, .ref y20, .ref y21, .ref y22, .ref y23, .ref y24, .ref y25, .ref y26, .ref y27, .ref y28, .ref y29, .ref y30, .ref y31, .ref y32, .int w33, .int w34, .int w35, .ref y36, .int w37, .int w38, .int w39, .ref y40, .ref y41, .ref y42, .int w43, .long v44])), (y16, .inl (T 0, 5, .inl c16)), (y17, .inl (T 0, 15, .inl c17)), (y18, .inl (T 0, 5, .inl c18)), (y20, .inl (T 0, 5, .inl c20)), (y21, .inl (T 0, 400, .inl c21)), (y22, .inl (T 0, 15, .inl c22)), (y23, .inl (T 3, 15, .inl c23))] sz) := by
  refine Met.ofW (cc := cX11_clears) (maxL := 2) (ret := none) (by decide) rfl ?_
  intro p e s m args below meth c s₁ B hml hv
  obtain ⟨rfl, hsz, hP, hC, hD0⟩ := hv
  have hx := B.exec
  have hb := B.bytes
  have hr := B.returns
  have hts : ∀ w ∈ gt, w.before _ s = true := fun w hw => atoms_spec (ws := (wM yX11_clears cX11_clears 2 none)) B.pre w (List.mem_cons_of_mem _ hw)
  have hown : s.vm.findClass RX11 = some m.cls := findClass_of_methodNamed B.named
  have hlocks := B.notSynchronized
  have hK := hC.1
  subst hsz
  have hD := hD0.self (sz := s.heap.size)
  generalize hAe : va_A [(ym, .inr (11, [.int w0, .ref y1, .ref y2, .ref y3, .ref y4, .ref y5, .int w6, .int w7, .int w8, .int w9, .int w10, .long v11, .int w12, .int w13, .int w14, .int w15, .ref y16, .ref y17, .ref y18, .ref y19, .ref y20, .ref y21, .ref y22, .ref y23, .ref y24, .ref y25, .ref y26, .ref y27, .ref y28, .ref y29, .ref y30, .ref y31, .ref y32, .int w33, .int w34, .int w35, .ref y36, .int w37, .int w38, .int w39, .ref y40, .ref y41, .ref y42, .int w43, .long v44])), (y16, .inl (T 0, 5, .inl c16)), (y17, .inl (T 0, 15, .inl c17)), (y18, .inl (T 0, 5, .inl c18)), (y20, .inl (T 0, 5, .inl c20)), (y21, .inl (T 0, 400, .inl c21)), (y22, .inl (T 0, 15, .inl c22)), (y23, .inl (T 3, 15, .inl c23))] s.heap.size = A at hD ⊢
  have hA : ∀ q : Nat, s.heap.size ≤ q → A q := fun q h => by rw [← hAe]; exact Or.inr h
  have hS : va_S A s.heap s.heap [] := va_S.rf
  have hl := lv_entry ([.ref ym]) (n := 2) (Nat.le_of_ble_eq_true rfl)
  rw [lg_entry_eq]
  generalize (lg_sl ([.ref ym]) ++ List.replicate (2 - (lg_sl ([.ref ym])).length) Slot.unset).toArray = ls at hl ⊢
  have hl : lv_has ls 2 [(0, .ref ym)] := hl
  have b_y17_0 : 0 ≤ (c17 0).toInt ∧ (c17 0).toInt ≤ 8 := P_0 0
  have b_y17_1 : 0 ≤ (c17 1).toInt ∧ (c17 1).toInt ≤ 12 := P_1 0
  have b_y18 : 0 ≤ (c18 0).toInt ∧ (c18 0).toInt ≤ 5 := R_c18 0
  have b_y18_4 : 0 ≤ (c18 4).toInt ∧ (c18 4).toInt ≤ 5 := R_c18 4
  have b_y20 : 0 ≤ (c20 0).toInt ∧ (c20 0).toInt ≤ 10 := R_c20 0
  have b_y20_4 : 0 ≤ (c20 4).toInt ∧ (c20 4).toInt ≤ 10 := R_c20 4
  refine lv_aload_n hx hb dX11_clears_0 rfl (lv_at hl 0 rfl) ?_
  refine va_get (D := D) (ci := 11) (C := RX11) (T := TX11) (N := 45) hx hb hts iX11 hown hK hP 0 rfl rfl 16 (by decide) (hts _ m1334) (fun _ h9 => h9) rfl dX11_clears_1 ?_
  refine lv_iconst (v := 4) hx hb dX11_clears_4 (by decide) ?_
  refine lv_iconst (v := 0) hx hb dX11_clears_5 (by decide) ?_
  refine va_iast (D := D) hx hb hK hP hD hS 1 0 rfl rfl (by unfold vp_in; decide) dX11_clears_6 (fun H locs hP hD hS => ?_)
  obtain ⟨f_1, hf_1⟩ : ∃ g : Nat → Int32, g = upd c16 (4 : Int32).toNatClampNeg (0 : Int32) := ⟨_, rfl⟩
  have hP : va_P D vwCl [(ym, .inr (11, [.int w0, .ref y1, .ref y2, .ref y3, .ref y4, .ref y5, .int w6, .int w7, .int w8, .int w9, .int w10, .long v11, .int w12, .int w13, .int w14, .int w15, .ref y16, .ref y17, .ref y18, .ref y19, .ref y20, .ref y21, .ref y22, .ref y23, .ref y24, .ref y25, .ref y26, .ref y27, .ref y28, .ref y29, .ref y30, .ref y31, .ref y32, .int w33, .int w34, .int w35, .ref y36, .int w37, .int w38, .int w39, .ref y40, .ref y41, .ref y42, .int w43, .long v44])), (y16, .inl (T 0, 5, .inl (upd c16 (4 : Int32).toNatClampNeg (0 : Int32)))), (y17, .inl (T 0, 15, .inl c17)), (y18, .inl (T 0, 5, .inl c18)), (y20, .inl (T 0, 5, .inl c20)), (y21, .inl (T 0, 400, .inl c21)), (y22, .inl (T 0, 15, .inl c22)), (y23, .inl (T 3, 15, .inl c23))] H := hP
  have hD : va_D A [(ym, .inr (11, [.int w0, .ref y1, .ref y2, .ref y3, .ref y4, .ref y5, .int w6, .int w7, .int w8, .int w9, .int w10, .long v11, .int w12, .int w13, .int w14, .int w15, .ref y16, .ref y17, .ref y18, .ref y19, .ref y20, .ref y21, .ref y22, .ref y23, .ref y24, .ref y25, .ref y26, .ref y27, .ref y28, .ref y29, .ref y30, .ref y31, .ref y32, .int w33, .int w34, .int w35, .ref y36, .int w37, .int w38, .int w39, .ref y40, .ref y41, .ref y42, .int w43, .long v44])), (y16, .inl (T 0, 5, .inl (upd c16 (4 : Int32).toNatClampNeg (0 : Int32)))), (y17, .inl (T 0, 15, .inl c17)), (y18, .inl (T 0, 5, .inl c18)), (y20, .inl (T 0, 5, .inl c20)), (y21, .inl (T 0, 400, .inl c21)), (y22, .inl (T 0, 15, .inl c22)), (y23, .inl (T 3, 15, .inl c23))] := hD
  rw [← hf_1] at hP hD
  refine lv_iconst (v := 0) hx hb dX11_clears_7 (by decide) ?_
  refine lv_istore_n (lv' := [(1, .int 0), (0, .ref ym)]) hx hb dX11_clears_8 rfl hl (by decide) rfl (fun ls hl => ?_)
  refine lp_ind (fun (a : Heap × List Loc × Array Slot × (Int32) × (Nat → Int32)) => match a with | (H, locs, ls, i_2, f_3) => W p l e _ s m _ below meth c H locs 0 0 _ (F0 m 9 ls [])) (fun (a : Heap × List Loc × Array Slot × (Int32) × (Nat → Int32)) => match a with | (H, locs, ls, i_2, f_3) => 0 ≤ i_2.toInt ∧ i_2.toInt ≤ 3 ∧ pg 3 0 0 8 f_3 ∧ pg 3 1 0 12 f_3 ∧ va_P D vwCl [(ym, .inr (11, [.int w0, .ref y1, .ref y2, .ref y3, .ref y4, .ref y5, .int w6, .int w7, .int w8, .int w9, .int w10, .long v11, .int w12, .int w13, .int w14, .int w15, .ref y16, .ref y17, .ref y18, .ref y19, .ref y20, .ref y21, .ref y22, .ref y23, .ref y24, .ref y25, .ref y26, .ref y27, .ref y28, .ref y29, .ref y30, .ref y31, .ref y32, .int w33, .int w34, .int w35, .ref y36, .int w37, .int w38, .int w39, .ref y40, .ref y41, .ref y42, .int w43, .long v44])), (y16, .inl (T 0, 5, .inl f_1)), (y17, .inl (T 0, 15, .inl f_3)), (y18, .inl (T 0, 5, .inl c18)), (y20, .inl (T 0, 5, .inl c20)), (y21, .inl (T 0, 400, .inl c21)), (y22, .inl (T 0, 15, .inl c22)), (y23, .inl (T 3, 15, .inl c23))] H ∧ va_D A [(ym, .inr (11, [.int w0, .ref y1, .ref y2, .ref y3, .ref y4, .ref y5, .int w6, .int w7, .int w8, .int w9, .int w10, .long v11, .int w12, .int w13, .int w14, .int w15, .ref y16, .ref y17, .ref y18, .ref y19, .ref y20, .ref y21, .ref y22, .ref y23, .ref y24, .ref y25, .ref y26, .ref y27, .ref y28, .ref y29, .ref y30, .ref y31, .ref y32, .int w33, .int w34, .int w35, .ref y36, .int w37, .int w38, .int w39, .ref y40, .ref y41, .ref y42, .int w43, .long v44])), (y16, .inl (T 0, 5, .inl f_1)), (y17, .inl (T 0, 15, .inl f_3)), (y18, .inl (T 0, 5, .inl c18)), (y20, .inl (T 0, 5, .inl c20)), (y21, .inl (T 0, 400, .inl c21)), (y22, .inl (T 0, 15, .inl c22)), (y23, .inl (T 3, 15, .inl c23))] ∧ va_S A s.heap H locs ∧ lv_has ls 2 [(1, .int i_2), (0, .ref ym)]) (fun (a : Heap × List Loc × Array Slot × (Int32) × (Nat → Int32)) => match a with | (H, locs, ls, i_2, f_3) => (3 - i_2.toInt).toNat) ?_ (_, _, ls, (0 : Int32), c17) ⟨(show 0 ≤ (0 : Int) by omega), (show (0 : Int) ≤ 3 by omega), P_0, P_1, hP, hD, hS, lv_sub hl [0, 1] rfl⟩
  rintro ⟨H, locs, ls, i_2, f_3⟩ ⟨c_4, c_5, c_6, c_7, hP, hD, hS, hl⟩ ih_8
  refine lv_iload_n hx hb dX11_clears_9 rfl (lv_at hl 0 rfl) ?_
  refine lv_iconst (v := 3) hx hb dX11_clears_10 (by decide) ?_
  refine lv_icmp_ge (tgt := 30) hx hb dX11_clears_11 (by decide) (fun c_9 => ?_) (fun c_9 => ?_)
  · have c_9 : 3 ≤ i_2.toInt := (c_le (x := 3) (y := i_2.toInt) rfl rfl).mp c_9
    refine lv_aload_n hx hb dX11_clears_30 rfl (lv_at hl 1 rfl) ?_
    refine va_get (D := D) (ci := 11) (C := RX11) (T := TX11) (N := 45) hx hb hts iX11 hown hK hP 0 rfl rfl 18 (by decide) (hts _ m1336) (fun _ h9 => h9) rfl dX11_clears_31 ?_
    refine lv_iconst (v := 4) hx hb dX11_clears_34 (by decide) ?_
    refine lv_iconst (v := 0) hx hb dX11_clears_35 (by decide) ?_
    refine va_iast (D := D) hx hb hK hP hD hS 3 0 rfl rfl (by unfold vp_in; decide) dX11_clears_36 (fun H locs hP hD hS => ?_)
    obtain ⟨f_10, hf_10⟩ : ∃ g : Nat → Int32, g = upd c18 (4 : Int32).toNatClampNeg (0 : Int32) := ⟨_, rfl⟩
    have hP : va_P D vwCl [(ym, .inr (11, [.int w0, .ref y1, .ref y2, .ref y3, .ref y4, .ref y5, .int w6, .int w7, .int w8, .int w9, .int w10, .long v11, .int w12, .int w13, .int w14, .int w15, .ref y16, .ref y17, .ref y18, .ref y19, .ref y20, .ref y21, .ref y22, .ref y23, .ref y24, .ref y25, .ref y26, .ref y27, .ref y28, .ref y29, .ref y30, .ref y31, .ref y32, .int w33, .int w34, .int w35, .ref y36, .int w37, .int w38, .int w39, .ref y40, .ref y41, .ref y42, .int w43, .long v44])), (y16, .inl (T 0, 5, .inl f_1)), (y17, .inl (T 0, 15, .inl f_3)), (y18, .inl (T 0, 5, .inl (upd c18 (4 : Int32).toNatClampNeg (0 : Int32)))), (y20, .inl (T 0, 5, .inl c20)), (y21, .inl (T 0, 400, .inl c21)), (y22, .inl (T 0, 15, .inl c22)), (y23, .inl (T 3, 15, .inl c23))] H := hP
    have hD : va_D A [(ym, .inr (11, [.int w0, .ref y1, .ref y2, .ref y3, .ref y4, .ref y5, .int w6, .int w7, .int w8, .int w9, .int w10, .long v11, .int w12, .int w13, .int w14, .int w15, .ref y16, .ref y17, .ref y18, .ref y19, .ref y20, .ref y21, .ref y22, .ref y23, .ref y24, .ref y25, .ref y26, .ref y27, .ref y28, .ref y29, .ref y30, .ref y31, .ref y32, .int w33, .int w34, .int w35, .ref y36, .int w37, .int w38, .int w39, .ref y40, .ref y41, .ref y42, .int w43, .long v44])), (y16, .inl (T 0, 5, .inl f_1)), (y17, .inl (T 0, 15, .inl f_3)), (y18, .inl (T 0, 5, .inl (upd c18 (4 : Int32).toNatClampNeg (0 : Int32)))), (y20, .inl (T 0, 5, .inl c20)), (y21, .inl (T 0, 400, .inl c21)), (y22, .inl (T 0, 15, .inl c22)), (y23, .inl (T 3, 15, .inl c23))] := hD
    rw [← hf_10] at hP hD
    have Rf_10 : rg 0 5 f_10 := by rw [hf_10]; exact rg_upd R_c18 (by decide)
    refine lv_aload_n hx hb dX11_clears_37 rfl (lv_at hl 1 rfl) ?_
    refine va_get (D := D) (ci := 11) (C := RX11) (T := TX11) (N := 45) hx hb hts iX11 hown hK hP 0 rfl rfl 20 (by decide) (hts _ m1338) (fun _ h9 => h9) rfl dX11_clears_38 ?_
    refine lv_iconst (v := 4) hx hb dX11_clears_41 (by decide) ?_
    refine lv_iconst (v := 0) hx hb dX11_clears_42 (by decide) ?_
    refine va_iast (D := D) hx hb hK hP hD hS 4 0 rfl rfl (by unfold vp_in; decide) dX11_clears_43 (fun H locs hP hD hS => ?_)
    obtain ⟨f_11, hf_11⟩ : ∃ g : Nat → Int32, g = upd c20 (4 : Int32).toNatClampNeg (0 : Int32) := ⟨_, rfl⟩
    have hP : va_P D vwCl [(ym, .inr (11, [.int w0, .ref y1, .ref y2, .ref y3, .ref y4, .ref y5, .int w6, .int w7, .int w8, .int w9, .int w10, .long v11, .int w12, .int w13, .int w14, .int w15, .ref y16, .ref y17, .ref y18, .ref y19, .ref y20, .ref y21, .ref y22, .ref y23, .ref y24, .ref y25, .ref y26, .ref y27, .ref y28, .ref y29, .ref y30, .ref y31, .ref y32, .int w33, .int w34, .int w35, .ref y36, .int w37, .int w38, .int w39, .ref y40, .ref y41, .ref y42, .int w43, .long v44])), (y16, .inl (T 0, 5, .inl f_1)), (y17, .inl (T 0, 15, .inl f_3)), (y18, .inl (T 0, 5, .inl f_10)), (y20, .inl (T 0, 5, .inl (upd c20 (4 : Int32).toNatClampNeg (0 : Int32)))), (y21, .inl (T 0, 400, .inl c21)), (y22, .inl (T 0, 15, .inl c22)), (y23, .inl (T 3, 15, .inl c23))] H := hP
    have hD : va_D A [(ym, .inr (11, [.int w0, .ref y1, .ref y2, .ref y3, .ref y4, .ref y5, .int w6, .int w7, .int w8, .int w9, .int w10, .long v11, .int w12, .int w13, .int w14, .int w15, .ref y16, .ref y17, .ref y18, .ref y19, .ref y20, .ref y21, .ref y22, .ref y23, .ref y24, .ref y25, .ref y26, .ref y27, .ref y28, .ref y29, .ref y30, .ref y31, .ref y32, .int w33, .int w34, .int w35, .ref y36, .int w37, .int w38, .int w39, .ref y40, .ref y41, .ref y42, .int w43, .long v44])), (y16, .inl (T 0, 5, .inl f_1)), (y17, .inl (T 0, 15, .inl f_3)), (y18, .inl (T 0, 5, .inl f_10)), (y20, .inl (T 0, 5, .inl (upd c20 (4 : Int32).toNatClampNeg (0 : Int32)))), (y21, .inl (T 0, 400, .inl c21)), (y22, .inl (T 0, 15, .inl c22)), (y23, .inl (T 3, 15, .inl c23))] := hD
    rw [← hf_11] at hP hD
    have Rf_11 : rg 0 10 f_11 := by rw [hf_11]; exact rg_upd R_c20 (by decide)
    have P_12 : vr 0 f_11 c21 := (by rw [hf_11]; exact vr_20 P_2 (by decide))
    have P_13 : vr 1 f_11 c21 := (by rw [hf_11]; exact vr_20 P_3 (by decide))
    have P_14 : vr 2 f_11 c21 := (by rw [hf_11]; exact vr_20 P_4 (by decide))
    have P_15 : vr 3 f_11 c21 := (by rw [hf_11]; exact vr_20 P_5 (by decide))
    refine lv_iconst (v := 0) hx hb dX11_clears_44 (by decide) ?_
    refine lv_istore_n (lv' := [(1, .int 0), (0, .ref ym)]) hx hb dX11_clears_45 rfl hl (by decide) rfl (fun ls hl => ?_)
    refine lp_ind (fun (a : Heap × List Loc × Array Slot × (Int32) × (Nat → Int32)) => match a with | (H, locs, ls, i_16, f_17) => W p l e _ s m _ below meth c H locs 0 0 _ (F0 m 46 ls [])) (fun (a : Heap × List Loc × Array Slot × (Int32) × (Nat → Int32)) => match a with | (H, locs, ls, i_16, f_17) => 0 ≤ i_16.toInt ∧ i_16.toInt ≤ 3 ∧ va_P D vwCl [(ym, .inr (11, [.int w0, .ref y1, .ref y2, .ref y3, .ref y4, .ref y5, .int w6, .int w7, .int w8, .int w9, .int w10, .long v11, .int w12, .int w13, .int w14, .int w15, .ref y16, .ref y17, .ref y18, .ref y19, .ref y20, .ref y21, .ref y22, .ref y23, .ref y24, .ref y25, .ref y26, .ref y27, .ref y28, .ref y29, .ref y30, .ref y31, .ref y32, .int w33, .int w34, .int w35, .ref y36, .int w37, .int w38, .int w39, .ref y40, .ref y41, .ref y42, .int w43, .long v44])), (y16, .inl (T 0, 5, .inl f_1)), (y17, .inl (T 0, 15, .inl f_3)), (y18, .inl (T 0, 5, .inl f_10)), (y20, .inl (T 0, 5, .inl f_11)), (y21, .inl (T 0, 400, .inl c21)), (y22, .inl (T 0, 15, .inl f_17)), (y23, .inl (T 3, 15, .inl c23))] H ∧ va_D A [(ym, .inr (11, [.int w0, .ref y1, .ref y2, .ref y3, .ref y4, .ref y5, .int w6, .int w7, .int w8, .int w9, .int w10, .long v11, .int w12, .int w13, .int w14, .int w15, .ref y16, .ref y17, .ref y18, .ref y19, .ref y20, .ref y21, .ref y22, .ref y23, .ref y24, .ref y25, .ref y26, .ref y27, .ref y28, .ref y29, .ref y30, .ref y31, .ref y32, .int w33, .int w34, .int w35, .ref y36, .int w37, .int w38, .int w39, .ref y40, .ref y41, .ref y42, .int w43, .long v44])), (y16, .inl (T 0, 5, .inl f_1)), (y17, .inl (T 0, 15, .inl f_3)), (y18, .inl (T 0, 5, .inl f_10)), (y20, .inl (T 0, 5, .inl f_11)), (y21, .inl (T 0, 400, .inl c21)), (y22, .inl (T 0, 15, .inl f_17)), (y23, .inl (T 3, 15, .inl c23))] ∧ va_S A s.heap H locs ∧ lv_has ls 2 [(1, .int i_16), (0, .ref ym)]) (fun (a : Heap × List Loc × Array Slot × (Int32) × (Nat → Int32)) => match a with | (H, locs, ls, i_16, f_17) => (3 - i_16.toInt).toNat) ?_ (_, _, ls, (0 : Int32), c22) ⟨(show 0 ≤ (0 : Int) by omega), (show (0 : Int) ≤ 3 by omega), hP, hD, hS, lv_sub hl [0, 1] rfl⟩
    rintro ⟨H, locs, ls, i_16, f_17⟩ ⟨c_18, c_19, hP, hD, hS, hl⟩ ih_20
    refine lv_iload_n hx hb dX11_clears_46 rfl (lv_at hl 0 rfl) ?_
    refine lv_iconst (v := 3) hx hb dX11_clears_47 (by decide) ?_
    refine lv_icmp_ge (tgt := 67) hx hb dX11_clears_48 (by decide) (fun c_21 => ?_) (fun c_21 => ?_)
    · have c_21 : 3 ≤ i_16.toInt := (c_le (x := 3) (y := i_16.toInt) rfl rfl).mp c_21
      refine lv_iconst (v := 0) hx hb dX11_clears_67 (by decide) ?_
      refine lv_istore_n (lv' := [(1, .int 0), (0, .ref ym)]) hx hb dX11_clears_68 rfl hl (by decide) rfl (fun ls hl => ?_)
      refine lp_ind (fun (a : Heap × List Loc × Array Slot × (Int32) × (Nat → Int32)) => match a with | (H, locs, ls, i_22, f_23) => W p l e _ s m _ below meth c H locs 0 0 _ (F0 m 69 ls [])) (fun (a : Heap × List Loc × Array Slot × (Int32) × (Nat → Int32)) => match a with | (H, locs, ls, i_22, f_23) => 0 ≤ i_22.toInt ∧ i_22.toInt ≤ 3 ∧ va_P D vwCl [(ym, .inr (11, [.int w0, .ref y1, .ref y2, .ref y3, .ref y4, .ref y5, .int w6, .int w7, .int w8, .int w9, .int w10, .long v11, .int w12, .int w13, .int w14, .int w15, .ref y16, .ref y17, .ref y18, .ref y19, .ref y20, .ref y21, .ref y22, .ref y23, .ref y24, .ref y25, .ref y26, .ref y27, .ref y28, .ref y29, .ref y30, .ref y31, .ref y32, .int w33, .int w34, .int w35, .ref y36, .int w37, .int w38, .int w39, .ref y40, .ref y41, .ref y42, .int w43, .long v44])), (y16, .inl (T 0, 5, .inl f_1)), (y17, .inl (T 0, 15, .inl f_3)), (y18, .inl (T 0, 5, .inl f_10)), (y20, .inl (T 0, 5, .inl f_11)), (y21, .inl (T 0, 400, .inl c21)), (y22, .inl (T 0, 15, .inl f_17)), (y23, .inl (T 3, 15, .inl f_23))] H ∧ va_D A [(ym, .inr (11, [.int w0, .ref y1, .ref y2, .ref y3, .ref y4, .ref y5, .int w6, .int w7, .int w8, .int w9, .int w10, .long v11, .int w12, .int w13, .int w14, .int w15, .ref y16, .ref y17, .ref y18, .ref y19, .ref y20, .ref y21, .ref y22, .ref y23, .ref y24, .ref y25, .ref y26, .ref y27, .ref y28, .ref y29, .ref y30, .ref y31, .ref y32, .int w33, .int w34, .int w35, .ref y36, .int w37, .int w38, .int w39, .ref y40, .ref y41, .ref y42, .int w43, .long v44])), (y16, .inl (T 0, 5, .inl f_1)), (y17, .inl (T 0, 15, .inl f_3)), (y18, .inl (T 0, 5, .inl f_10)), (y20, .inl (T 0, 5, .inl f_11)), (y21, .inl (T 0, 400, .inl c21)), (y22, .inl (T 0, 15, .inl f_17)), (y23, .inl (T 3, 15, .inl f_23))] ∧ va_S A s.heap H locs ∧ lv_has ls 2 [(1, .int i_22), (0, .ref ym)]) (fun (a : Heap × List Loc × Array Slot × (Int32) × (Nat → Int32)) => match a with | (H, locs, ls, i_22, f_23) => (3 - i_22.toInt).toNat) ?_ (_, _, ls, (0 : Int32), c23) ⟨(show 0 ≤ (0 : Int) by omega), (show (0 : Int) ≤ 3 by omega), hP, hD, hS, lv_sub hl [0, 1] rfl⟩
      rintro ⟨H, locs, ls, i_22, f_23⟩ ⟨c_24, c_25, hP, hD, hS, hl⟩ ih_26
      refine lv_iload_n hx hb dX11_clears_69 rfl (lv_at hl 0 rfl) ?_
      refine lv_iconst (v := 3) hx hb dX11_clears_70 (by decide) ?_
      refine lv_icmp_ge (tgt := 90) hx hb dX11_clears_71 (by decide) (fun c_27 => ?_) (fun c_27 => ?_)
      · have c_27 : 3 ≤ i_22.toInt := (c_le (x := 3) (y := i_22.toInt) rfl rfl).mp c_27
        have hP9 := hP.sub (ws' := [(ym, .inr (11, [.int w0, .ref y1, .ref y2, .ref y3, .ref y4, .ref y5, .int w6, .int w7, .int w8, .int w9, .int w10, .long v11, .int w12, .int w13, .int w14, .int w15, .ref y16, .ref y17, .ref y18, .ref y19, .ref y20, .ref y21, .ref y22, .ref y23, .ref y24, .ref y25, .ref y26, .ref y27, .ref y28, .ref y29, .ref y30, .ref y31, .ref y32, .int w33, .int w34, .int w35, .ref y36, .int w37, .int w38, .int w39, .ref y40, .ref y41, .ref y42, .int w43, .long v44])), (y16, .inl (T 0, 5, .inl f_1)), (y17, .inl (T 0, 15, .inl f_3)), (y18, .inl (T 0, 5, .inl f_10)), (y20, .inl (T 0, 5, .inl f_11)), (y21, .inl (T 0, 400, .inl c21)), (y22, .inl (T 0, 15, .inl f_17)), (y23, .inl (T 3, 15, .inl f_23))]) [0, 1, 2, 3, 4, 5, 6, 7] rfl
        have hD9 := hD.sub (ws' := [(ym, .inr (11, [.int w0, .ref y1, .ref y2, .ref y3, .ref y4, .ref y5, .int w6, .int w7, .int w8, .int w9, .int w10, .long v11, .int w12, .int w13, .int w14, .int w15, .ref y16, .ref y17, .ref y18, .ref y19, .ref y20, .ref y21, .ref y22, .ref y23, .ref y24, .ref y25, .ref y26, .ref y27, .ref y28, .ref y29, .ref y30, .ref y31, .ref y32, .int w33, .int w34, .int w35, .ref y36, .int w37, .int w38, .int w39, .ref y40, .ref y41, .ref y42, .int w43, .long v44])), (y16, .inl (T 0, 5, .inl f_1)), (y17, .inl (T 0, 15, .inl f_3)), (y18, .inl (T 0, 5, .inl f_10)), (y20, .inl (T 0, 5, .inl f_11)), (y21, .inl (T 0, 400, .inl c21)), (y22, .inl (T 0, 15, .inl f_17)), (y23, .inl (T 3, 15, .inl f_23))]) [0, 1, 2, 3, 4, 5, 6, 7] (by decide) rfl
        exact W.vret hx hb hr (fun t ht hW => ⟨⟨(fun k => ([] : List (Nat)).getD k 0, fun k => ([f_1, f_3, f_10, f_11, f_17, f_23] : List (Nat → Int32)).getD k (fun _ => 0), fun k => ([] : List (Nat → Int64)).getD k (fun _ => 0), fun k => ([] : List (Int32)).getD k 0, fun k => ([] : List (Int64)).getD k 0), rfl, ⟨(show rg 0 5 f_10 from Rf_10), (show rg 0 10 f_11 from Rf_11), (show pg 3 0 0 8 f_3 from c_6), (show pg 3 1 0 12 f_3 from c_7), (show vr 0 f_11 c21 from P_12), (show vr 1 f_11 c21 from P_13), (show vr 2 f_11 c21 from P_14), (show vr 3 f_11 c21 from P_15), (show vr 4 f_11 c21 by rw [hf_11]; exact vr_4)⟩, by rw [ht]; exact hP9, hD9⟩, hS.F ht⟩) hS.2.2 dX11_clears_90
      · have c_27 : i_22.toInt < 3 := by have h := mt (c_le (x := 3) (y := i_22.toInt) rfl rfl).mpr c_27; omega
        refine lv_aload_n hx hb dX11_clears_74 rfl (lv_at hl 1 rfl) ?_
        refine va_get (D := D) (ci := 11) (C := RX11) (T := TX11) (N := 45) hx hb hts iX11 hown hK hP 0 rfl rfl 23 (by decide) (hts _ m1341) (fun _ h9 => h9) rfl dX11_clears_75 ?_
        refine lv_bipush (v := 12) hx hb dX11_clears_78 (by decide) ?_
        refine lv_iload_n hx hb dX11_clears_80 rfl (lv_at hl 0 rfl) ?_
        refine lv_iadd hx hb dX11_clears_81 ?_
        refine lv_topi (fun x_28 ex_28 => ?_)
        have tx_28 : x_28.toInt = 12 + i_22.toInt := t_add (x := 12) (y := i_22.toInt) ex_28 rfl rfl (by omega) (by omega)
        refine lv_iconst (v := 0) hx hb dX11_clears_82 (by decide) ?_
        refine va_zast (D := D) hx hb hK hP hD hS 7 3 rfl rfl (v_in (x := x_28.toInt) rfl (by omega) (by omega)) dX11_clears_83 (fun H locs hP hD hS => ?_)
        obtain ⟨f_29, hf_29⟩ : ∃ g : Nat → Int32, g = upd f_23 x_28.toNatClampNeg (vp_nar .boolean 0) := ⟨_, rfl⟩
        have hP : va_P D vwCl [(ym, .inr (11, [.int w0, .ref y1, .ref y2, .ref y3, .ref y4, .ref y5, .int w6, .int w7, .int w8, .int w9, .int w10, .long v11, .int w12, .int w13, .int w14, .int w15, .ref y16, .ref y17, .ref y18, .ref y19, .ref y20, .ref y21, .ref y22, .ref y23, .ref y24, .ref y25, .ref y26, .ref y27, .ref y28, .ref y29, .ref y30, .ref y31, .ref y32, .int w33, .int w34, .int w35, .ref y36, .int w37, .int w38, .int w39, .ref y40, .ref y41, .ref y42, .int w43, .long v44])), (y16, .inl (T 0, 5, .inl f_1)), (y17, .inl (T 0, 15, .inl f_3)), (y18, .inl (T 0, 5, .inl f_10)), (y20, .inl (T 0, 5, .inl f_11)), (y21, .inl (T 0, 400, .inl c21)), (y22, .inl (T 0, 15, .inl f_17)), (y23, .inl (T 3, 15, .inl (upd f_23 x_28.toNatClampNeg (vp_nar .boolean 0))))] H := hP
        have hD : va_D A [(ym, .inr (11, [.int w0, .ref y1, .ref y2, .ref y3, .ref y4, .ref y5, .int w6, .int w7, .int w8, .int w9, .int w10, .long v11, .int w12, .int w13, .int w14, .int w15, .ref y16, .ref y17, .ref y18, .ref y19, .ref y20, .ref y21, .ref y22, .ref y23, .ref y24, .ref y25, .ref y26, .ref y27, .ref y28, .ref y29, .ref y30, .ref y31, .ref y32, .int w33, .int w34, .int w35, .ref y36, .int w37, .int w38, .int w39, .ref y40, .ref y41, .ref y42, .int w43, .long v44])), (y16, .inl (T 0, 5, .inl f_1)), (y17, .inl (T 0, 15, .inl f_3)), (y18, .inl (T 0, 5, .inl f_10)), (y20, .inl (T 0, 5, .inl f_11)), (y21, .inl (T 0, 400, .inl c21)), (y22, .inl (T 0, 15, .inl f_17)), (y23, .inl (T 3, 15, .inl (upd f_23 x_28.toNatClampNeg (vp_nar .boolean 0))))] := hD
        rw [← hf_29] at hP hD
        obtain ⟨x_30, ex_30⟩ : ∃ y : Int32, y = i_22 + 1 := ⟨_, rfl⟩
        have tx_30 : x_30.toInt = i_22.toInt + 1 := t_add (x := i_22.toInt) (y := 1) ex_30 rfl rfl (by omega) (by omega)
        refine lv_iinc (v := x_30) (lv' := [(1, .int x_30), (0, .ref ym)]) hx hb dX11_clears_84 hl (k := 0) rfl (by rw [ex_30]; rfl) (by decide) rfl (fun ls hl => ?_)
        refine lv_goto (tgt := 69) hx hb dX11_clears_87 (by decide) ?_
        exact ih_26 (_, _, _, x_30, f_29) ⟨(show 0 ≤ x_30.toInt by omega), (show x_30.toInt ≤ 3 by omega), hP, hD, hS, lv_sub hl [0, 1] rfl⟩ (show (3 - x_30.toInt).toNat < (3 - i_22.toInt).toNat by omega)
    · have c_21 : i_16.toInt < 3 := by have h := mt (c_le (x := 3) (y := i_16.toInt) rfl rfl).mpr c_21; omega
      refine lv_aload_n hx hb dX11_clears_51 rfl (lv_at hl 1 rfl) ?_
      refine va_get (D := D) (ci := 11) (C := RX11) (T := TX11) (N := 45) hx hb hts iX11 hown hK hP 0 rfl rfl 22 (by decide) (hts _ m1340) (fun _ h9 => h9) rfl dX11_clears_52 ?_
      refine lv_bipush (v := 12) hx hb dX11_clears_55 (by decide) ?_
      refine lv_iload_n hx hb dX11_clears_57 rfl (lv_at hl 0 rfl) ?_
      refine lv_iadd hx hb dX11_clears_58 ?_
      refine lv_topi (fun x_31 ex_31 => ?_)
      have tx_31 : x_31.toInt = 12 + i_16.toInt := t_add (x := 12) (y := i_16.toInt) ex_31 rfl rfl (by omega) (by omega)
      refine lv_iconst (v := 0) hx hb dX11_clears_59 (by decide) ?_
      refine va_iast (D := D) hx hb hK hP hD hS 6 0 rfl rfl (v_in (x := x_31.toInt) rfl (by omega) (by omega)) dX11_clears_60 (fun H locs hP hD hS => ?_)
      obtain ⟨f_32, hf_32⟩ : ∃ g : Nat → Int32, g = upd f_17 x_31.toNatClampNeg (0 : Int32) := ⟨_, rfl⟩
      have hP : va_P D vwCl [(ym, .inr (11, [.int w0, .ref y1, .ref y2, .ref y3, .ref y4, .ref y5, .int w6, .int w7, .int w8, .int w9, .int w10, .long v11, .int w12, .int w13, .int w14, .int w15, .ref y16, .ref y17, .ref y18, .ref y19, .ref y20, .ref y21, .ref y22, .ref y23, .ref y24, .ref y25, .ref y26, .ref y27, .ref y28, .ref y29, .ref y30, .ref y31, .ref y32, .int w33, .int w34, .int w35, .ref y36, .int w37, .int w38, .int w39, .ref y40, .ref y41, .ref y42, .int w43, .long v44])), (y16, .inl (T 0, 5, .inl f_1)), (y17, .inl (T 0, 15, .inl f_3)), (y18, .inl (T 0, 5, .inl f_10)), (y20, .inl (T 0, 5, .inl f_11)), (y21, .inl (T 0, 400, .inl c21)), (y22, .inl (T 0, 15, .inl (upd f_17 x_31.toNatClampNeg (0 : Int32)))), (y23, .inl (T 3, 15, .inl c23))] H := hP
      have hD : va_D A [(ym, .inr (11, [.int w0, .ref y1, .ref y2, .ref y3, .ref y4, .ref y5, .int w6, .int w7, .int w8, .int w9, .int w10, .long v11, .int w12, .int w13, .int w14, .int w15, .ref y16, .ref y17, .ref y18, .ref y19, .ref y20, .ref y21, .ref y22, .ref y23, .ref y24, .ref y25, .ref y26, .ref y27, .ref y28, .ref y29, .ref y30, .ref y31, .ref y32, .int w33, .int w34, .int w35, .ref y36, .int w37, .int w38, .int w39, .ref y40, .ref y41, .ref y42, .int w43, .long v44])), (y16, .inl (T 0, 5, .inl f_1)), (y17, .inl (T 0, 15, .inl f_3)), (y18, .inl (T 0, 5, .inl f_10)), (y20, .inl (T 0, 5, .inl f_11)), (y21, .inl (T 0, 400, .inl c21)), (y22, .inl (T 0, 15, .inl (upd f_17 x_31.toNatClampNeg (0 : Int32)))), (y23, .inl (T 3, 15, .inl c23))] := hD
      rw [← hf_32] at hP hD
      obtain ⟨x_33, ex_33⟩ : ∃ y : Int32, y = i_16 + 1 := ⟨_, rfl⟩
      have tx_33 : x_33.toInt = i_16.toInt + 1 := t_add (x := i_16.toInt) (y := 1) ex_33 rfl rfl (by omega) (by omega)
      refine lv_iinc (v := x_33) (lv' := [(1, .int x_33), (0, .ref ym)]) hx hb dX11_clears_61 hl (k := 0) rfl (by rw [ex_33]; rfl) (by decide) rfl (fun ls hl => ?_)
      refine lv_goto (tgt := 46) hx hb dX11_clears_64 (by decide) ?_
      exact ih_20 (_, _, _, x_33, f_32) ⟨(show 0 ≤ x_33.toInt by omega), (show x_33.toInt ≤ 3 by omega), hP, hD, hS, lv_sub hl [0, 1] rfl⟩ (show (3 - x_33.toInt).toNat < (3 - i_16.toInt).toNat by omega)
  · have c_9 : i_2.toInt < 3 := by have h := mt (c_le (x := 3) (y := i_2.toInt) rfl rfl).mpr c_9; omega
    refine lv_aload_n hx hb dX11_clears_14 rfl (lv_at hl 1 rfl) ?_
    refine va_get (D := D) (ci := 11) (C := RX11) (T := TX11) (N := 45) hx hb hts iX11 hown hK hP 0 rfl rfl 17 (by decide) (hts _ m1335) (fun _ h9 => h9) rfl dX11_clears_15 ?_
    refine lv_bipush (v := 12) hx hb dX11_clears_18 (by decide) ?_
    refine lv_iload_n hx hb dX11_clears_20 rfl (lv_at hl 0 rfl) ?_
    refine lv_iadd hx hb dX11_clears_21 ?_
    refine lv_topi (fun x_34 ex_34 => ?_)
    have tx_34 : x_34.toInt = 12 + i_2.toInt := t_add (x := 12) (y := i_2.toInt) ex_34 rfl rfl (by omega) (by omega)
    refine lv_iconst (v := 0) hx hb dX11_clears_22 (by decide) ?_
    refine va_iast (D := D) hx hb hK hP hD hS 2 0 rfl rfl (v_in (x := x_34.toInt) rfl (by omega) (by omega)) dX11_clears_23 (fun H locs hP hD hS => ?_)
    obtain ⟨f_35, hf_35⟩ : ∃ g : Nat → Int32, g = upd f_3 x_34.toNatClampNeg (0 : Int32) := ⟨_, rfl⟩
    have hP : va_P D vwCl [(ym, .inr (11, [.int w0, .ref y1, .ref y2, .ref y3, .ref y4, .ref y5, .int w6, .int w7, .int w8, .int w9, .int w10, .long v11, .int w12, .int w13, .int w14, .int w15, .ref y16, .ref y17, .ref y18, .ref y19, .ref y20, .ref y21, .ref y22, .ref y23, .ref y24, .ref y25, .ref y26, .ref y27, .ref y28, .ref y29, .ref y30, .ref y31, .ref y32, .int w33, .int w34, .int w35, .ref y36, .int w37, .int w38, .int w39, .ref y40, .ref y41, .ref y42, .int w43, .long v44])), (y16, .inl (T 0, 5, .inl f_1)), (y17, .inl (T 0, 15, .inl (upd f_3 x_34.toNatClampNeg (0 : Int32)))), (y18, .inl (T 0, 5, .inl c18)), (y20, .inl (T 0, 5, .inl c20)), (y21, .inl (T 0, 400, .inl c21)), (y22, .inl (T 0, 15, .inl c22)), (y23, .inl (T 3, 15, .inl c23))] H := hP
    have hD : va_D A [(ym, .inr (11, [.int w0, .ref y1, .ref y2, .ref y3, .ref y4, .ref y5, .int w6, .int w7, .int w8, .int w9, .int w10, .long v11, .int w12, .int w13, .int w14, .int w15, .ref y16, .ref y17, .ref y18, .ref y19, .ref y20, .ref y21, .ref y22, .ref y23, .ref y24, .ref y25, .ref y26, .ref y27, .ref y28, .ref y29, .ref y30, .ref y31, .ref y32, .int w33, .int w34, .int w35, .ref y36, .int w37, .int w38, .int w39, .ref y40, .ref y41, .ref y42, .int w43, .long v44])), (y16, .inl (T 0, 5, .inl f_1)), (y17, .inl (T 0, 15, .inl (upd f_3 x_34.toNatClampNeg (0 : Int32)))), (y18, .inl (T 0, 5, .inl c18)), (y20, .inl (T 0, 5, .inl c20)), (y21, .inl (T 0, 400, .inl c21)), (y22, .inl (T 0, 15, .inl c22)), (y23, .inl (T 3, 15, .inl c23))] := hD
    rw [← hf_35] at hP hD
    have P_36 : pg 3 0 0 8 f_35 := (by rw [hf_35]; exact pg_upd c_6 (fun j hj => by decide))
    have P_37 : pg 3 1 0 12 f_35 := (by rw [hf_35]; exact pg_upd c_7 (fun j hj => by decide))
    obtain ⟨x_38, ex_38⟩ : ∃ y : Int32, y = i_2 + 1 := ⟨_, rfl⟩
    have tx_38 : x_38.toInt = i_2.toInt + 1 := t_add (x := i_2.toInt) (y := 1) ex_38 rfl rfl (by omega) (by omega)
    refine lv_iinc (v := x_38) (lv' := [(1, .int x_38), (0, .ref ym)]) hx hb dX11_clears_24 hl (k := 0) rfl (by rw [ex_38]; rfl) (by decide) rfl (fun ls hl => ?_)
    refine lv_goto (tgt := 9) hx hb dX11_clears_27 (by decide) ?_
    exact ih_8 (_, _, _, x_38, f_35) ⟨(show 0 ≤ x_38.toInt by omega), (show x_38.toInt ≤ 3 by omega), P_36, P_37, hP, hD, hS, lv_sub hl [0, 1] rfl⟩ (show (3 - x_38.toInt).toNat < (3 - i_2.toInt).toNat by omega)
