set_option maxHeartbeats 4000000 in
set_option maxRecDepth 100000 in
theorem lp_J7_fill_53178 {p : Program} {l : Launch} {e : Env} {R : Room} {s : State} {m : MethodId} {args : Array Value} {below : List Frame} {meth : Method} {c : Code} {Q : State → Prop} {A : Nat → Prop} {H0 : Heap} {cells slots : Nat} {D : va_G} {T : Nat → ClassId} (a0 nn : Nat) (vv : Int32) (hnn : nn ≤ 65536) (hx : p.tables.exec = Jvm.exec) (hb : c.code = cJ7_fill_53178) (hts : ∀ w ∈ gt, w.before args s = true) (hown : s.vm.findClass RJ7 = some m.cls) (hC : cx D T s)
    (kk : ∀ (i : Nat) (f : Nat → Int32) (H : Heap) (locs : List Loc) (ls : Array Slot), i ≤ nn → va_P D vwCl [(a0, .inl (T 0, nn, .inl f))] H → va_D A [(a0, .inl (T 0, nn, .inl f))] → va_S A H0 H locs → lv_has ls 4 [(0, .ref a0)] → W p l e R s m args below meth c H locs cells slots Q (F0 m 20 ls [])) :
    ∀ (n : Nat) (i : Nat) (f : Nat → Int32) (H : Heap) (locs : List Loc) (ls : Array Slot), i ≤ nn → nn + 1 ≤ i + n → va_P D vwCl [(a0, .inl (T 0, nn, .inl f))] H → va_D A [(a0, .inl (T 0, nn, .inl f))] → va_S A H0 H locs → lv_has ls 4 [(2, .int (nI i)), (0, .ref a0), (1, .int vv), (3, .int (nI nn))] → W p l e R s m args below meth c H locs cells slots Q (F0 m 5 ls []) := by
  have hK := hC.1
  intro n
  induction n with
  | zero =>
    intro i f H locs ls hi hn
    exact absurd hn (by omega)
  | succ n ih =>
    intro i f H locs ls hi hn hP hD hS hl
    refine lv_iload_n hx hb dJ7_fill_53178_5 rfl (lv_at hl 0 rfl) ?_
    refine lv_iload_n hx hb dJ7_fill_53178_6 rfl (lv_at hl 3 rfl) ?_
    refine lv_icmp_ge (tgt := 20) hx hb dJ7_fill_53178_7 (by decide) (fun c_1 => ?_) (fun c_1 => ?_)
    · have c_1 : nn ≤ i := (nI_leI (a := nn) (b := i) (by omega) (by omega)).mp c_1
      exact kk i f _ _ _ (by omega) hP hD hS (lv_sub hl [1] rfl)
    · have c_1 : ¬ (nn ≤ i) := fun h => c_1 ((nI_leI (a := nn) (b := i) (by omega) (by omega)).mpr h)
      refine lv_aload_n hx hb dJ7_fill_53178_10 rfl (lv_at hl 1 rfl) ?_
      refine lv_iload_n hx hb dJ7_fill_53178_11 rfl (lv_at hl 0 rfl) ?_
      refine lv_iload_n hx hb dJ7_fill_53178_12 rfl (lv_at hl 2 rfl) ?_
      refine va_iast (D := D) hx hb hK hP hD hS 0 0 rfl rfl (vp_in_nI (by omega) (by omega)) dJ7_fill_53178_13 (fun H locs hP hD hS => ?_)
      have hP : va_P D vwCl [(a0, .inl (T 0, nn, .inl (upd f (nI i).toNatClampNeg vv)))] H := hP
      have hD : va_D A [(a0, .inl (T 0, nn, .inl (upd f (nI i).toNatClampNeg vv)))] := hD
      generalize upd f (nI i).toNatClampNeg vv = f_2 at hP hD
      refine lv_iinc (v := nI (i + 1)) (lv' := [(2, .int (nI (i + 1))), (0, .ref a0), (1, .int vv), (3, .int (nI nn))]) hx hb dJ7_fill_53178_14 hl (k := 0) rfl (nI_add i 1) (by decide) rfl (fun ls hl => ?_)
      refine lv_goto (tgt := 5) hx hb dJ7_fill_53178_17 (by decide) ?_
      exact ih (i + 1) f_2 _ _ _ (by omega) (by omega) hP hD hS (lv_sub hl [0, 1, 2, 3] rfl)

set_option maxHeartbeats 4000000 in
set_option maxRecDepth 100000 in
theorem c_J7_fill_53178 (l : Launch) (D : va_G) (T : Nat → ClassId) (a0 nn : Nat) (vv : Int32) (f : Nat → Int32) (sz : Nat) (hnn : nn ≤ 65536) : Met l yJ7_fill_53178 (wM yJ7_fill_53178 cJ7_fill_53178 4 none) ({ frames := 0, cells := 0, slots := 0, locals := 0 }) (va_Pc [.ref a0, .int vv] (pwM D T [(a0, .inl (T 0, nn, .inl f))] sz)) (va_Qv (fun (u : UU) => True) (fun u t => pwE D (va_A [(a0, .inl (T 0, nn, .inl f))] sz) [(a0, .inl (T 0, nn, .inl (u.2.1 0)))] t) (va_A [(a0, .inl (T 0, nn, .inl f))] sz)) 0 0 (va_A [(a0, .inl (T 0, nn, .inl f))] sz) := by
  refine Met.ofW (cc := cJ7_fill_53178) (maxL := 4) (ret := none) (by decide) rfl ?_
  intro p e s m args below meth c s₁ B hml hv
  obtain ⟨rfl, hsz, hP, hC, hD0⟩ := hv
  have hx := B.exec
  have hb := B.bytes
  have hr := B.returns
  have hts : ∀ w ∈ gt, w.before _ s = true := fun w hw => atoms_spec (ws := (wM yJ7_fill_53178 cJ7_fill_53178 4 none)) B.pre w (List.mem_cons_of_mem _ hw)
  have hown : s.vm.findClass RJ7 = some m.cls := findClass_of_methodNamed B.named
  have hlocks := B.notSynchronized
  have hK := hC.1
  subst hsz
  have hD := hD0.self (sz := s.heap.size)
  generalize hAe : va_A [(a0, .inl (T 0, nn, .inl f))] s.heap.size = A at hD ⊢
  have hA : ∀ q : Nat, s.heap.size ≤ q → A q := fun q h => by rw [← hAe]; exact Or.inr h
  have hS : va_S A s.heap s.heap [] := va_S.rf
  have hl := lv_entry ([.ref a0, .int vv]) (n := 4) (Nat.le_of_ble_eq_true rfl)
  rw [lg_entry_eq]
  generalize (lg_sl ([.ref a0, .int vv]) ++ List.replicate (4 - (lg_sl ([.ref a0, .int vv])).length) Slot.unset).toArray = ls at hl ⊢
  have hl : lv_has ls 4 [(0, .ref a0), (1, .int vv)] := hl
  refine lv_iconst (v := 0) hx hb dJ7_fill_53178_0 (by decide) ?_
  refine lv_istore_n (lv' := [(2, .int 0), (0, .ref a0), (1, .int vv)]) hx hb dJ7_fill_53178_1 rfl hl (by decide) rfl (fun ls hl => ?_)
  refine lv_aload_n hx hb dJ7_fill_53178_2 rfl (lv_at hl 1 rfl) ?_
  refine va_alen (D := D) hx hb hK hP 0 0 rfl rfl (v := nI nn) rfl dJ7_fill_53178_3 ?_
  refine lv_istore_n (lv' := [(3, .int (nI nn)), (2, .int 0), (0, .ref a0), (1, .int vv)]) hx hb dJ7_fill_53178_4 rfl hl (by decide) rfl (fun ls hl => ?_)
  refine lp_J7_fill_53178 a0 nn vv (by omega) hx hb hts hown hC (fun i_1 f_2 H locs ls c_3 hP hD hS hl => ?_) (nn + 1) 0 f _ _ _ (by omega) (by omega) hP hD hS (lv_sub hl [1, 2, 3, 0] rfl)
  have hP9 := hP.sub (ws' := [(a0, .inl (T 0, nn, .inl f_2))]) [0] rfl
  have hD9 := hD.sub (ws' := [(a0, .inl (T 0, nn, .inl f_2))]) [0] (by decide) rfl
  exact W.vret hx hb hr (fun t ht hW => ⟨⟨(fun k => [].getD k 0, fun k => [f_2].getD k (fun _ => 0), fun k => ([] : List (Nat → Int64)).getD k (fun _ => 0), fun k => ([] : List Int32).getD k 0), rfl, trivial, by rw [ht]; exact hP9, hD9⟩, hS.F ht⟩) hS.2.2 dJ7_fill_53178_20

set_option maxHeartbeats 4000000 in
set_option maxRecDepth 100000 in
theorem lp_J7_fill_d0a16 {p : Program} {l : Launch} {e : Env} {R : Room} {s : State} {m : MethodId} {args : Array Value} {below : List Frame} {meth : Method} {c : Code} {Q : State → Prop} {A : Nat → Prop} {H0 : Heap} {cells slots : Nat} {D : va_G} {T : Nat → ClassId} (a0 nn : Nat) (vv : Int64) (hnn : nn ≤ 65536) (hx : p.tables.exec = Jvm.exec) (hb : c.code = cJ7_fill_d0a16) (hts : ∀ w ∈ gt, w.before args s = true) (hown : s.vm.findClass RJ7 = some m.cls) (hC : cx D T s)
    (kk : ∀ (i : Nat) (f : Nat → Int64) (H : Heap) (locs : List Loc) (ls : Array Slot), i ≤ nn → va_P D vwCl [(a0, .inl (T 2, nn, .inr (.inl f)))] H → va_D A [(a0, .inl (T 2, nn, .inr (.inl f)))] → va_S A H0 H locs → lv_has ls 5 [(0, .ref a0)] → W p l e R s m args below meth c H locs cells slots Q (F0 m 22 ls [])) :
    ∀ (n : Nat) (i : Nat) (f : Nat → Int64) (H : Heap) (locs : List Loc) (ls : Array Slot), i ≤ nn → nn + 1 ≤ i + n → va_P D vwCl [(a0, .inl (T 2, nn, .inr (.inl f)))] H → va_D A [(a0, .inl (T 2, nn, .inr (.inl f)))] → va_S A H0 H locs → lv_has ls 5 [(3, .int (nI i)), (0, .ref a0), (1, .long vv), (4, .int (nI nn))] → W p l e R s m args below meth c H locs cells slots Q (F0 m 6 ls []) := by
  have hK := hC.1
  intro n
  induction n with
  | zero =>
    intro i f H locs ls hi hn
    exact absurd hn (by omega)
  | succ n ih =>
    intro i f H locs ls hi hn hP hD hS hl
    refine lv_iload_n hx hb dJ7_fill_d0a16_6 rfl (lv_at hl 0 rfl) ?_
    refine lv_iload hx hb dJ7_fill_d0a16_7 (lv_at hl 3 rfl) ?_
    refine lv_icmp_ge (tgt := 22) hx hb dJ7_fill_d0a16_9 (by decide) (fun c_1 => ?_) (fun c_1 => ?_)
    · have c_1 : nn ≤ i := (nI_leI (a := nn) (b := i) (by omega) (by omega)).mp c_1
      exact kk i f _ _ _ (by omega) hP hD hS (lv_sub hl [1] rfl)
    · have c_1 : ¬ (nn ≤ i) := fun h => c_1 ((nI_leI (a := nn) (b := i) (by omega) (by omega)).mpr h)
      refine lv_aload_n hx hb dJ7_fill_d0a16_12 rfl (lv_at hl 1 rfl) ?_
      refine lv_iload_n hx hb dJ7_fill_d0a16_13 rfl (lv_at hl 0 rfl) ?_
      refine lv_lload_n hx hb dJ7_fill_d0a16_14 rfl (lv_at hl 2 rfl) ?_
      refine va_last (D := D) hx hb hK hP hD hS 0 2 rfl rfl (vp_in_nI (by omega) (by omega)) dJ7_fill_d0a16_15 (fun H locs hP hD hS => ?_)
      have hP : va_P D vwCl [(a0, .inl (T 2, nn, .inr (.inl (vp_updL f (nI i).toNatClampNeg vv))))] H := hP
      have hD : va_D A [(a0, .inl (T 2, nn, .inr (.inl (vp_updL f (nI i).toNatClampNeg vv))))] := hD
      generalize vp_updL f (nI i).toNatClampNeg vv = f_2 at hP hD
      refine lv_iinc (v := nI (i + 1)) (lv' := [(3, .int (nI (i + 1))), (0, .ref a0), (1, .long vv), (4, .int (nI nn))]) hx hb dJ7_fill_d0a16_16 hl (k := 0) rfl (nI_add i 1) (by decide) rfl (fun ls hl => ?_)
      refine lv_goto (tgt := 6) hx hb dJ7_fill_d0a16_19 (by decide) ?_
      exact ih (i + 1) f_2 _ _ _ (by omega) (by omega) hP hD hS (lv_sub hl [0, 1, 2, 3] rfl)

set_option maxHeartbeats 4000000 in
set_option maxRecDepth 100000 in
theorem c_J7_fill_d0a16 (l : Launch) (D : va_G) (T : Nat → ClassId) (a0 nn : Nat) (vv : Int64) (f : Nat → Int64) (sz : Nat) (hnn : nn ≤ 65536) : Met l yJ7_fill_d0a16 (wM yJ7_fill_d0a16 cJ7_fill_d0a16 5 none) ({ frames := 0, cells := 0, slots := 0, locals := 0 }) (va_Pc [.ref a0, .long vv] (pwM D T [(a0, .inl (T 2, nn, .inr (.inl f)))] sz)) (va_Qv (fun (u : UU) => True) (fun u t => pwE D (va_A [(a0, .inl (T 2, nn, .inr (.inl f)))] sz) [(a0, .inl (T 2, nn, .inr (.inl (u.2.2.1 0))))] t) (va_A [(a0, .inl (T 2, nn, .inr (.inl f)))] sz)) 0 0 (va_A [(a0, .inl (T 2, nn, .inr (.inl f)))] sz) := by
  refine Met.ofW (cc := cJ7_fill_d0a16) (maxL := 5) (ret := none) (by decide) rfl ?_
  intro p e s m args below meth c s₁ B hml hv
  obtain ⟨rfl, hsz, hP, hC, hD0⟩ := hv
  have hx := B.exec
  have hb := B.bytes
  have hr := B.returns
  have hts : ∀ w ∈ gt, w.before _ s = true := fun w hw => atoms_spec (ws := (wM yJ7_fill_d0a16 cJ7_fill_d0a16 5 none)) B.pre w (List.mem_cons_of_mem _ hw)
  have hown : s.vm.findClass RJ7 = some m.cls := findClass_of_methodNamed B.named
  have hlocks := B.notSynchronized
  have hK := hC.1
  subst hsz
  have hD := hD0.self (sz := s.heap.size)
  generalize hAe : va_A [(a0, .inl (T 2, nn, .inr (.inl f)))] s.heap.size = A at hD ⊢
  have hA : ∀ q : Nat, s.heap.size ≤ q → A q := fun q h => by rw [← hAe]; exact Or.inr h
  have hS : va_S A s.heap s.heap [] := va_S.rf
  have hl := lv_entry ([.ref a0, .long vv]) (n := 5) (Nat.le_of_ble_eq_true rfl)
  rw [lg_entry_eq]
  generalize (lg_sl ([.ref a0, .long vv]) ++ List.replicate (5 - (lg_sl ([.ref a0, .long vv])).length) Slot.unset).toArray = ls at hl ⊢
  have hl : lv_has ls 5 [(0, .ref a0), (1, .long vv)] := hl
  refine lv_iconst (v := 0) hx hb dJ7_fill_d0a16_0 (by decide) ?_
  refine lv_istore_n (lv' := [(3, .int 0), (0, .ref a0), (1, .long vv)]) hx hb dJ7_fill_d0a16_1 rfl hl (by decide) rfl (fun ls hl => ?_)
  refine lv_aload_n hx hb dJ7_fill_d0a16_2 rfl (lv_at hl 1 rfl) ?_
  refine va_alen (D := D) hx hb hK hP 0 2 rfl rfl (v := nI nn) rfl dJ7_fill_d0a16_3 ?_
  refine lv_istore (lv' := [(4, .int (nI nn)), (3, .int 0), (0, .ref a0), (1, .long vv)]) hx hb dJ7_fill_d0a16_4 hl (by decide) rfl (fun ls hl => ?_)
  refine lp_J7_fill_d0a16 a0 nn vv (by omega) hx hb hts hown hC (fun i_1 f_2 H locs ls c_3 hP hD hS hl => ?_) (nn + 1) 0 f _ _ _ (by omega) (by omega) hP hD hS (lv_sub hl [1, 2, 3, 0] rfl)
  have hP9 := hP.sub (ws' := [(a0, .inl (T 2, nn, .inr (.inl f_2)))]) [0] rfl
  have hD9 := hD.sub (ws' := [(a0, .inl (T 2, nn, .inr (.inl f_2)))]) [0] (by decide) rfl
  exact W.vret hx hb hr (fun t ht hW => ⟨⟨(fun k => [].getD k 0, fun k => ([] : List (Nat → Int32)).getD k (fun _ => 0), fun k => [f_2].getD k (fun _ => 0), fun k => ([] : List Int32).getD k 0), rfl, trivial, by rw [ht]; exact hP9, hD9⟩, hS.F ht⟩) hS.2.2 dJ7_fill_d0a16_22
