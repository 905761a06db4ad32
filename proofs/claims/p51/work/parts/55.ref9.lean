set_option maxHeartbeats 4000000 in
set_option maxRecDepth 100000 in
theorem c_X11_blows (l : Launch) (D : va_G) (T : Nat → ClassId) (y1 y16 y17 y18 y19 y2 y20 y21 y22 y23 y24 y25 y26 y27 y28 y29 y3 y30 y31 y32 y36 y4 y40 y41 y42 y5 ym : Nat) (w0 w10 w12 w13 w14 w15 w33 w34 w35 w37 w38 w39 w43 w6 w7 w8 w9 : Int32) (v11 v44 : Int64) (c17 c22 c24 c42 : Nat → Int32) (c41 : Nat → Int64) (sz : Nat) (h_w6 : 0 ≤ w6.toInt ∧ w6.toInt ≤ 1600) (h_w43 : 0 ≤ w43.toInt ∧ w43.toInt ≤ 16) (R_c24 : rg 0 12 c24) (R_c42 : rg 0 15 c42) (P_0 : pg 3 0 0 8 c17) (P_1 : pg 3 1 0 12 c17) : Met l yX11_blows (wM yX11_blows cX11_blows 5 none) ({ frames := 1, cells := 0, slots := 0, locals := 22 }) (va_Pc [.ref ym] (pwM D T [(ym, .inr (11, [.int w0, .ref y1, .ref y2, .ref y3, .ref y4, .ref y5, .int w6, .int w7, .int w8, .int w9, .int w10, .long v11, .int w12, .int w13, .int w14, .int w15, .ref y16, .ref y17, .ref y18, .ref y19, .ref y20, .ref y21, .ref y22, .ref y23, .ref y24, .ref y25, .ref y26, .ref y27, .ref y28, .ref y29, .ref y30, .ref y31, .ref y32, .int w33, .int w34, .int w35, .ref y36, .int w37, .int w38, .int w39, .ref y40, .ref y41, .ref y42, .int w43, .long v44])), (y17, .inl (T 0, 15, .inl c17)), (y22, .inl (T 0, 15, .inl c22)), (y24, .inl (T 0, 80, .inl c24)), (y41, .inl (T 2, 65536, .inr (.inl c41))), (y42, .inl (T 0, 16, .inl c42))] sz)) (va_Qv (fun (u : U5) => (0 ≤ (u.2.2.2.1 0).toInt ∧ (u.2.2.2.1 0).toInt ≤ 16) ∧ rg 0 15 (u.2.1 0) ∧ (cr (u.2.2.2.1 0).toInt c24 (u.2.1 0))) (fun u t => pwE D (va_A [(ym, .inr (11, [.int w0, .ref y1, .ref y2, .ref y3, .ref y4, .ref y5, .int w6, .int w7, .int w8, .int w9, .int w10, .long v11, .int w12, .int w13, .int w14, .int w15, .ref y16, .ref y17, .ref y18, .ref y19, .ref y20, .ref y21, .ref y22, .ref y23, .ref y24, .ref y25, .ref y26, .ref y27, .ref y28, .ref y29, .ref y30, .ref y31, .ref y32, .int w33, .int w34, .int w35, .ref y36, .int w37, .int w38, .int w39, .ref y40, .ref y41, .ref y42, .int w43, .long v44])), (y17, .inl (T 0, 15, .inl c17)), (y22, .inl (T 0, 15, .inl c22)), (y24, .inl (T 0, 80, .inl c24)), (y41, .inl (T 2, 65536, .inr (.inl c41))), (y42, .inl (T 0, 16, .inl c42))] sz) [(ym, .inr (11, [.int w0, .ref y1, .ref y2, .ref y3, .ref y4, .ref y5, .int w6, .int w7, .int w8, .int w9, .int w10, .long v11, .int w12, .int w13, .int w14, .int w15, .ref y16, .ref y17, .ref y18, .ref y19, .ref y20, .ref y21, .ref y22, .ref y23, .ref y24, .ref y25, .ref y26, .ref y27, .ref y28, .ref y29, .ref y30, .ref y31, .ref y32, .int w33, .int w34, .int w35, .ref y36, .int w37, .int w38, .int w39, .ref y40, .ref y41, .ref y42, .int (u.2.2.2.1 0), .long v44])), (y17, .inl (T 0, 15, .inl c17)), (y22, .inl (T 0, 15, .inl c22)), (y24, .inl (T 0, 80, .inl c24)), (y41, .inl (T 2, 65536, .inr (.inl (u.2.2.1 0)))), (y42, .inl (T 0, 16, .inl (u.2.1 0)))] t) (va_A [(ym, .inr (11, [.int w0, .ref y1, .ref y2, .ref y3, .ref y4, .ref y5, .int w6, .int w7, .int w8, .int w9, .int w10, .long v11, .int w12, .int w13, .int w14, .int w15, .ref y16, .ref y17, .ref y18, .ref y19, .ref y20, .ref y21, .ref y22, .ref y23, .ref y24, .ref y25, .ref y26, .ref y27, .ref y28, .ref y29, .ref y30, .ref y31, .ref y32, .int w33, .int w34, .int w35, .ref y36, .int w37, .int w38, .int w39, .ref y40, .ref y41, .ref y42, .int w43, .long v44])), (y17, .inl (T 0, 15, .inl c17)), (y22, .inl (T 0, 15, .inl c22)), (y24, .inl (T 0, 80, .inl c24)), (y41, .inl (T 2, 65536, .inr (.inl c41))), (y42, .inl (T 0, 16, .inl c42))] sz)) 0 0 (va_A [(ym, .inr (11, [.int w0, .ref y1, .ref y2, .ref y3, .ref y4, .ref y5, .int w6, .int w7, .int w8, .int w9, .int w10, .long v11, .int w12, .int w13, .int w14, .int w15, .ref y16, .ref y17, .ref y18, .ref y19, .ref y20, .ref y21, .ref y22, .ref y23, .ref y24, .ref y25, .ref y26, .ref y27, .ref y28, .ref y29, .ref y30, .ref y31, .ref y32, .int w33, .int w34, .int w35, .ref y36, .int w37, .int w38, .int w39, .ref y40, .ref y41, .ref y42, .int w43, .long v44])), (y17, .inl (T 0, 15, .inl c17)), (y22, .inl (T 0, 15, .inl c22)), (y24, .inl (T 0, 80, .inl c24)), (y41, .inl (T 2, 65536, .inr (.inl c41))), (y42, .inl (T 0, 16, .inl c42))] sz) := by
  refine Met.ofW (cc := cX11_blows) (maxL := 5) (ret := none) (by decide) rfl ?_
  intro p e s m args below meth c s₁ B hml hv
  obtain ⟨rfl, hsz, hP, hC, hD0⟩ := hv
  have hx := B.exec
  have hb := B.bytes
  have hr := B.returns
  have hts : ∀ w ∈ gt, w.before _ s = true := fun w hw => atoms_spec (ws := (wM yX11_blows cX11_blows 5 none)) B.pre w (List.mem_cons_of_mem _ hw)
  have hown : s.vm.findClass RX11 = some m.cls := findClass_of_methodNamed B.named
  have hlocks := B.notSynchronized
  have hK := hC.1
  subst hsz
  have hD := hD0.self (sz := s.heap.size)
  generalize hAe : va_A [(ym, .inr (11, [.int w0, .ref y1, .ref y2, .ref y3, .ref y4, .ref y5, .int w6, .int w7, .int w8, .int w9, .int w10, .long v11, .int w12, .int w13, .int w14, .int w15, .ref y16, .ref y17, .ref y18, .ref y19, .ref y20, .ref y21, .ref y22, .ref y23, .ref y24, .ref y25, .ref y26, .ref y27, .ref y28, .ref y29, .ref y30, .ref y31, .ref y32, .int w33, .int w34, .int w35, .ref y36, .int w37, .int w38, .int w39, .ref y40, .ref y41, .ref y42, .int w43, .long v44])), (y17, .inl (T 0, 15, .inl c17)), (y22, .inl (T 0, 15, .inl c22)), (y24, .inl (T 0, 80, .inl c24)), (y41, .inl (T 2, 65536, .inr (.inl c41))), (y42, .inl (T 0, 16, .inl c42))] s.heap.size = A at hD ⊢
  have hA : ∀ q : Nat, s.heap.size ≤ q → A q := fun q h => by rw [← hAe]; exact Or.inr h
  have hS : va_S A s.heap s.heap [] := va_S.rf
  have hl := lv_entry ([.ref ym]) (n := 5) (Nat.le_of_ble_eq_true rfl)
  rw [lg_entry_eq]
  generalize (lg_sl ([.ref ym]) ++ List.replicate (5 - (lg_sl ([.ref ym])).length) Slot.unset).toArray = ls at hl ⊢
  have hl : lv_has ls 5 [(0, .ref ym)] := hl
  have b_y17_0 : 0 ≤ (c17 0).toInt ∧ (c17 0).toInt ≤ 8 := P_0 0
  have b_y17_1 : 0 ≤ (c17 1).toInt ∧ (c17 1).toInt ≤ 12 := P_1 0
  refine lv_aload_n hx hb dX11_blows_0 rfl (lv_at hl 0 rfl) ?_
  refine lv_iconst (v := 0) hx hb dX11_blows_1 (by decide) ?_
  refine va_put (D := D) (ci := 11) (v := .int 0) (ty := .int) (C := RX11) (T := TX11) (N := 45) hx hb hts iX11 tyX11 tyX11_ok nmX11 hown hK hP hD hS 0 rfl rfl 43 (by decide) (hts _ m1360) (fun _ h9 => h9) rfl (by decide +kernel) rfl rfl (Nat.le_of_ble_eq_true rfl) dX11_blows_2 (fun H locs hP hD hS => ?_)
  have hP : va_P D vwCl [(ym, .inr (11, [.int w0, .ref y1, .ref y2, .ref y3, .ref y4, .ref y5, .int w6, .int w7, .int w8, .int w9, .int w10, .long v11, .int w12, .int w13, .int w14, .int w15, .ref y16, .ref y17, .ref y18, .ref y19, .ref y20, .ref y21, .ref y22, .ref y23, .ref y24, .ref y25, .ref y26, .ref y27, .ref y28, .ref y29, .ref y30, .ref y31, .ref y32, .int w33, .int w34, .int w35, .ref y36, .int w37, .int w38, .int w39, .ref y40, .ref y41, .ref y42, .int 0, .long v44])), (y17, .inl (T 0, 15, .inl c17)), (y22, .inl (T 0, 15, .inl c22)), (y24, .inl (T 0, 80, .inl c24)), (y41, .inl (T 2, 65536, .inr (.inl c41))), (y42, .inl (T 0, 16, .inl c42))] H := hP
  have hD : va_D A [(ym, .inr (11, [.int w0, .ref y1, .ref y2, .ref y3, .ref y4, .ref y5, .int w6, .int w7, .int w8, .int w9, .int w10, .long v11, .int w12, .int w13, .int w14, .int w15, .ref y16, .ref y17, .ref y18, .ref y19, .ref y20, .ref y21, .ref y22, .ref y23, .ref y24, .ref y25, .ref y26, .ref y27, .ref y28, .ref y29, .ref y30, .ref y31, .ref y32, .int w33, .int w34, .int w35, .ref y36, .int w37, .int w38, .int w39, .ref y40, .ref y41, .ref y42, .int 0, .long v44])), (y17, .inl (T 0, 15, .inl c17)), (y22, .inl (T 0, 15, .inl c22)), (y24, .inl (T 0, 80, .inl c24)), (y41, .inl (T 2, 65536, .inr (.inl c41))), (y42, .inl (T 0, 16, .inl c42))] := hD
  refine lv_iconst (v := 0) hx hb dX11_blows_5 (by decide) ?_
  refine lv_istore_n (lv' := [(1, .int 0), (0, .ref ym)]) hx hb dX11_blows_6 rfl hl (by decide) rfl (fun ls hl => ?_)
  refine lp_ind (fun (a : Heap × List Loc × Array Slot × (Int32) × (Int32) × (Nat → Int32)) => match a with | (H, locs, ls, i_1, w_2, f_3) => W p l e _ s m _ below meth c H locs 0 0 _ (F0 m 7 ls [])) (fun (a : Heap × List Loc × Array Slot × (Int32) × (Int32) × (Nat → Int32)) => match a with | (H, locs, ls, i_1, w_2, f_3) => 0 ≤ i_1.toInt ∧ i_1.toInt ≤ 2 ∧ 0 ≤ w_2.toInt ∧ w_2.toInt ≤ 16 ∧ rg 0 15 f_3 ∧ w_2.toInt ≤ 8 * i_1.toInt ∧ cr w_2.toInt c24 f_3 ∧ va_P D vwCl [(ym, .inr (11, [.int w0, .ref y1, .ref y2, .ref y3, .ref y4, .ref y5, .int w6, .int w7, .int w8, .int w9, .int w10, .long v11, .int w12, .int w13, .int w14, .int w15, .ref y16, .ref y17, .ref y18, .ref y19, .ref y20, .ref y21, .ref y22, .ref y23, .ref y24, .ref y25, .ref y26, .ref y27, .ref y28, .ref y29, .ref y30, .ref y31, .ref y32, .int w33, .int w34, .int w35, .ref y36, .int w37, .int w38, .int w39, .ref y40, .ref y41, .ref y42, .int w_2, .long v44])), (y17, .inl (T 0, 15, .inl c17)), (y22, .inl (T 0, 15, .inl c22)), (y24, .inl (T 0, 80, .inl c24)), (y41, .inl (T 2, 65536, .inr (.inl c41))), (y42, .inl (T 0, 16, .inl f_3))] H ∧ va_D A [(ym, .inr (11, [.int w0, .ref y1, .ref y2, .ref y3, .ref y4, .ref y5, .int w6, .int w7, .int w8, .int w9, .int w10, .long v11, .int w12, .int w13, .int w14, .int w15, .ref y16, .ref y17, .ref y18, .ref y19, .ref y20, .ref y21, .ref y22, .ref y23, .ref y24, .ref y25, .ref y26, .ref y27, .ref y28, .ref y29, .ref y30, .ref y31, .ref y32, .int w33, .int w34, .int w35, .ref y36, .int w37, .int w38, .int w39, .ref y40, .ref y41, .ref y42, .int w_2, .long v44])), (y17, .inl (T 0, 15, .inl c17)), (y22, .inl (T 0, 15, .inl c22)), (y24, .inl (T 0, 80, .inl c24)), (y41, .inl (T 2, 65536, .inr (.inl c41))), (y42, .inl (T 0, 16, .inl f_3))] ∧ va_S A s.heap H locs ∧ lv_has ls 5 [(1, .int i_1), (0, .ref ym)]) (fun (a : Heap × List Loc × Array Slot × (Int32) × (Int32) × (Nat → Int32)) => match a with | (H, locs, ls, i_1, w_2, f_3) => (2 - i_1.toInt).toNat) ?_ (_, _, ls, (0 : Int32), (0 : Int32), c42) ⟨(show 0 ≤ (0 : Int) by omega), (show (0 : Int) ≤ 2 by omega), (show 0 ≤ (0 : Int) by omega), (show (0 : Int) ≤ 16 by omega), R_c42, (show (0 : Int) ≤ 8 * (0 : Int) by omega), (show cr (0 : Int) c24 c42 by first | exact cr_0 | assumption), hP, hD, hS, lv_sub hl [0, 1] rfl⟩
  rintro ⟨H, locs, ls, i_1, w_2, f_3⟩ ⟨c_4, c_5, c_6, c_7, Rf_3, c_9, c_10, hP, hD, hS, hl⟩ ih_11
  refine lv_iload_n hx hb dX11_blows_7 rfl (lv_at hl 0 rfl) ?_
  refine lv_iconst (v := 2) hx hb dX11_blows_8 (by decide) ?_
  refine lv_icmp_ge (tgt := 78) hx hb dX11_blows_9 (by decide) (fun c_12 => ?_) (fun c_12 => ?_)
  · have c_12 : 2 ≤ i_1.toInt := (c_le (x := 2) (y := i_1.toInt) rfl rfl).mp c_12
    refine lv_aload_n hx hb dX11_blows_78 rfl (lv_at hl 1 rfl) ?_
    refine va_get (D := D) (ci := 11) (C := RX11) (T := TX11) (N := 45) hx hb hts iX11 hown hK hP 0 rfl rfl 41 (by decide) (hts _ m1358) (fun _ h9 => h9) rfl dX11_blows_79 ?_
    refine lv_iconst (v := 0) hx hb dX11_blows_82 (by decide) ?_
    refine lv_ldc2 (v := 1000000000000) hx hb hown (hts _ m1879) dX11_blows_83 ?_
    refine va_last (D := D) hx hb hK hP hD hS 4 2 rfl rfl (by unfold vp_in; decide) dX11_blows_86 (fun H locs hP hD hS => ?_)
    obtain ⟨f_13, hf_13⟩ : ∃ g : Nat → Int64, g = vp_updL c41 (0 : Int32).toNatClampNeg (1000000000000 : Int64) := ⟨_, rfl⟩
    have hP : va_P D vwCl [(ym, .inr (11, [.int w0, .ref y1, .ref y2, .ref y3, .ref y4, .ref y5, .int w6, .int w7, .int w8, .int w9, .int w10, .long v11, .int w12, .int w13, .int w14, .int w15, .ref y16, .ref y17, .ref y18, .ref y19, .ref y20, .ref y21, .ref y22, .ref y23, .ref y24, .ref y25, .ref y26, .ref y27, .ref y28, .ref y29, .ref y30, .ref y31, .ref y32, .int w33, .int w34, .int w35, .ref y36, .int w37, .int w38, .int w39, .ref y40, .ref y41, .ref y42, .int w_2, .long v44])), (y17, .inl (T 0, 15, .inl c17)), (y22, .inl (T 0, 15, .inl c22)), (y24, .inl (T 0, 80, .inl c24)), (y41, .inl (T 2, 65536, .inr (.inl (vp_updL c41 (0 : Int32).toNatClampNeg (1000000000000 : Int64))))), (y42, .inl (T 0, 16, .inl f_3))] H := hP
    have hD : va_D A [(ym, .inr (11, [.int w0, .ref y1, .ref y2, .ref y3, .ref y4, .ref y5, .int w6, .int w7, .int w8, .int w9, .int w10, .long v11, .int w12, .int w13, .int w14, .int w15, .ref y16, .ref y17, .ref y18, .ref y19, .ref y20, .ref y21, .ref y22, .ref y23, .ref y24, .ref y25, .ref y26, .ref y27, .ref y28, .ref y29, .ref y30, .ref y31, .ref y32, .int w33, .int w34, .int w35, .ref y36, .int w37, .int w38, .int w39, .ref y40, .ref y41, .ref y42, .int w_2, .long v44])), (y17, .inl (T 0, 15, .inl c17)), (y22, .inl (T 0, 15, .inl c22)), (y24, .inl (T 0, 80, .inl c24)), (y41, .inl (T 2, 65536, .inr (.inl (vp_updL c41 (0 : Int32).toNatClampNeg (1000000000000 : Int64))))), (y42, .inl (T 0, 16, .inl f_3))] := hD
    rw [← hf_13] at hP hD
    refine lv_iconst (v := 0) hx hb dX11_blows_87 (by decide) ?_
    refine lv_istore_n (lv' := [(1, .int 0), (0, .ref ym)]) hx hb dX11_blows_88 rfl hl (by decide) rfl (fun ls hl => ?_)
    refine lp_ind (fun (a : Heap × List Loc × Array Slot × (Int32) × (Nat → Int64)) => match a with | (H, locs, ls, i_14, f_15) => W p l e _ s m _ below meth c H locs 0 0 _ (F0 m 89 ls [])) (fun (a : Heap × List Loc × Array Slot × (Int32) × (Nat → Int64)) => match a with | (H, locs, ls, i_14, f_15) => 0 ≤ i_14.toInt ∧ i_14.toInt ≤ 16 ∧ va_P D vwCl [(ym, .inr (11, [.int w0, .ref y1, .ref y2, .ref y3, .ref y4, .ref y5, .int w6, .int w7, .int w8, .int w9, .int w10, .long v11, .int w12, .int w13, .int w14, .int w15, .ref y16, .ref y17, .ref y18, .ref y19, .ref y20, .ref y21, .ref y22, .ref y23, .ref y24, .ref y25, .ref y26, .ref y27, .ref y28, .ref y29, .ref y30, .ref y31, .ref y32, .int w33, .int w34, .int w35, .ref y36, .int w37, .int w38, .int w39, .ref y40, .ref y41, .ref y42, .int w_2, .long v44])), (y17, .inl (T 0, 15, .inl c17)), (y22, .inl (T 0, 15, .inl c22)), (y24, .inl (T 0, 80, .inl c24)), (y41, .inl (T 2, 65536, .inr (.inl f_15))), (y42, .inl (T 0, 16, .inl f_3))] H ∧ va_D A [(ym, .inr (11, [.int w0, .ref y1, .ref y2, .ref y3, .ref y4, .ref y5, .int w6, .int w7, .int w8, .int w9, .int w10, .long v11, .int w12, .int w13, .int w14, .int w15, .ref y16, .ref y17, .ref y18, .ref y19, .ref y20, .ref y21, .ref y22, .ref y23, .ref y24, .ref y25, .ref y26, .ref y27, .ref y28, .ref y29, .ref y30, .ref y31, .ref y32, .int w33, .int w34, .int w35, .ref y36, .int w37, .int w38, .int w39, .ref y40, .ref y41, .ref y42, .int w_2, .long v44])), (y17, .inl (T 0, 15, .inl c17)), (y22, .inl (T 0, 15, .inl c22)), (y24, .inl (T 0, 80, .inl c24)), (y41, .inl (T 2, 65536, .inr (.inl f_15))), (y42, .inl (T 0, 16, .inl f_3))] ∧ va_S A s.heap H locs ∧ lv_has ls 5 [(1, .int i_14), (0, .ref ym)]) (fun (a : Heap × List Loc × Array Slot × (Int32) × (Nat → Int64)) => match a with | (H, locs, ls, i_14, f_15) => (16 - i_14.toInt).toNat) ?_ (_, _, ls, (0 : Int32), f_13) ⟨(show 0 ≤ (0 : Int) by omega), (show (0 : Int) ≤ 16 by omega), hP, hD, hS, lv_sub hl [0, 1] rfl⟩
    rintro ⟨H, locs, ls, i_14, f_15⟩ ⟨c_16, c_17, hP, hD, hS, hl⟩ ih_18
    refine lv_iload_n hx hb dX11_blows_89 rfl (lv_at hl 0 rfl) ?_
    refine lv_aload_n hx hb dX11_blows_90 rfl (lv_at hl 1 rfl) ?_
    refine va_get (D := D) (ci := 11) (C := RX11) (T := TX11) (N := 45) hx hb hts iX11 hown hK hP 0 rfl rfl 43 (by decide) (hts _ m1360) (fun _ h9 => h9) rfl dX11_blows_91 ?_
    refine lv_icmp_ge (tgt := 158) hx hb dX11_blows_94 (by decide) (fun c_19 => ?_) (fun c_19 => ?_)
    · have c_19 : w_2.toInt ≤ i_14.toInt := (c_le (x := w_2.toInt) (y := i_14.toInt) rfl rfl).mp c_19
      have hP9 := hP.sub (ws' := [(ym, .inr (11, [.int w0, .ref y1, .ref y2, .ref y3, .ref y4, .ref y5, .int w6, .int w7, .int w8, .int w9, .int w10, .long v11, .int w12, .int w13, .int w14, .int w15, .ref y16, .ref y17, .ref y18, .ref y19, .ref y20, .ref y21, .ref y22, .ref y23, .ref y24, .ref y25, .ref y26, .ref y27, .ref y28, .ref y29, .ref y30, .ref y31, .ref y32, .int w33, .int w34, .int w35, .ref y36, .int w37, .int w38, .int w39, .ref y40, .ref y41, .ref y42, .int w_2, .long v44])), (y17, .inl (T 0, 15, .inl c17)), (y22, .inl (T 0, 15, .inl c22)), (y24, .inl (T 0, 80, .inl c24)), (y41, .inl (T 2, 65536, .inr (.inl f_15))), (y42, .inl (T 0, 16, .inl f_3))]) [0, 1, 2, 3, 4, 5] rfl
      have hD9 := hD.sub (ws' := [(ym, .inr (11, [.int w0, .ref y1, .ref y2, .ref y3, .ref y4, .ref y5, .int w6, .int w7, .int w8, .int w9, .int w10, .long v11, .int w12, .int w13, .int w14, .int w15, .ref y16, .ref y17, .ref y18, .ref y19, .ref y20, .ref y21, .ref y22, .ref y23, .ref y24, .ref y25, .ref y26, .ref y27, .ref y28, .ref y29, .ref y30, .ref y31, .ref y32, .int w33, .int w34, .int w35, .ref y36, .int w37, .int w38, .int w39, .ref y40, .ref y41, .ref y42, .int w_2, .long v44])), (y17, .inl (T 0, 15, .inl c17)), (y22, .inl (T 0, 15, .inl c22)), (y24, .inl (T 0, 80, .inl c24)), (y41, .inl (T 2, 65536, .inr (.inl f_15))), (y42, .inl (T 0, 16, .inl f_3))]) [0, 1, 2, 3, 4, 5] (by decide) rfl
      exact W.vret hx hb hr (fun t ht hW => ⟨⟨(fun k => ([] : List (Nat)).getD k 0, fun k => ([f_3] : List (Nat → Int32)).getD k (fun _ => 0), fun k => ([f_15] : List (Nat → Int64)).getD k (fun _ => 0), fun k => ([w_2] : List (Int32)).getD k 0, fun k => ([] : List (Int64)).getD k 0), rfl, ⟨(show 0 ≤ w_2.toInt ∧ w_2.toInt ≤ 16 by omega), (show rg 0 15 f_3 from Rf_3), (show cr w_2.toInt c24 f_3 by assumption)⟩, by rw [ht]; exact hP9, hD9⟩, hS.F ht⟩) hS.2.2 dX11_blows_158
    · have c_19 : i_14.toInt < w_2.toInt := by have h := mt (c_le (x := w_2.toInt) (y := i_14.toInt) rfl rfl).mpr c_19; omega
      refine lv_iconst (v := 0) hx hb dX11_blows_97 (by decide) ?_
      refine lv_istore_n (lv' := [(2, .int 0), (1, .int i_14), (0, .ref ym)]) hx hb dX11_blows_98 rfl hl (by decide) rfl (fun ls hl => ?_)
      refine lp_ind (fun (a : Heap × List Loc × Array Slot × (Int32) × (Nat → Int64)) => match a with | (H, locs, ls, i_20, f_21) => W p l e _ s m _ below meth c H locs 0 0 _ (F0 m 99 ls [])) (fun (a : Heap × List Loc × Array Slot × (Int32) × (Nat → Int64)) => match a with | (H, locs, ls, i_20, f_21) => 0 ≤ i_20.toInt ∧ i_20.toInt ≤ 65536 ∧ va_P D vwCl [(ym, .inr (11, [.int w0, .ref y1, .ref y2, .ref y3, .ref y4, .ref y5, .int w6, .int w7, .int w8, .int w9, .int w10, .long v11, .int w12, .int w13, .int w14, .int w15, .ref y16, .ref y17, .ref y18, .ref y19, .ref y20, .ref y21, .ref y22, .ref y23, .ref y24, .ref y25, .ref y26, .ref y27, .ref y28, .ref y29, .ref y30, .ref y31, .ref y32, .int w33, .int w34, .int w35, .ref y36, .int w37, .int w38, .int w39, .ref y40, .ref y41, .ref y42, .int w_2, .long v44])), (y17, .inl (T 0, 15, .inl c17)), (y22, .inl (T 0, 15, .inl c22)), (y24, .inl (T 0, 80, .inl c24)), (y41, .inl (T 2, 65536, .inr (.inl f_21))), (y42, .inl (T 0, 16, .inl f_3))] H ∧ va_D A [(ym, .inr (11, [.int w0, .ref y1, .ref y2, .ref y3, .ref y4, .ref y5, .int w6, .int w7, .int w8, .int w9, .int w10, .long v11, .int w12, .int w13, .int w14, .int w15, .ref y16, .ref y17, .ref y18, .ref y19, .ref y20, .ref y21, .ref y22, .ref y23, .ref y24, .ref y25, .ref y26, .ref y27, .ref y28, .ref y29, .ref y30, .ref y31, .ref y32, .int w33, .int w34, .int w35, .ref y36, .int w37, .int w38, .int w39, .ref y40, .ref y41, .ref y42, .int w_2, .long v44])), (y17, .inl (T 0, 15, .inl c17)), (y22, .inl (T 0, 15, .inl c22)), (y24, .inl (T 0, 80, .inl c24)), (y41, .inl (T 2, 65536, .inr (.inl f_21))), (y42, .inl (T 0, 16, .inl f_3))] ∧ va_S A s.heap H locs ∧ lv_has ls 5 [(2, .int i_20), (1, .int i_14), (0, .ref ym)]) (fun (a : Heap × List Loc × Array Slot × (Int32) × (Nat → Int64)) => match a with | (H, locs, ls, i_20, f_21) => (65536 - i_20.toInt).toNat) ?_ (_, _, ls, (0 : Int32), f_15) ⟨(show 0 ≤ (0 : Int) by omega), (show (0 : Int) ≤ 65536 by omega), hP, hD, hS, lv_sub hl [0, 1, 2] rfl⟩
      rintro ⟨H, locs, ls, i_20, f_21⟩ ⟨c_22, c_23, hP, hD, hS, hl⟩ ih_24
      refine lv_iload_n hx hb dX11_blows_99 rfl (lv_at hl 0 rfl) ?_
      refine lv_iconst (v := 1) hx hb dX11_blows_100 (by decide) ?_
      refine lv_iload_n hx hb dX11_blows_101 rfl (lv_at hl 1 rfl) ?_
      refine lv_ishl hx hb dX11_blows_102 ?_
      refine lv_topi (fun x_25 ex_25 => ?_)
      have tx_25 := t_shl16 ex_25 (by omega) (by omega)
      refine lv_icmp_ge (tgt := 152) hx hb dX11_blows_103 (by decide) (fun c_26 => ?_) (fun c_26 => ?_)
      · have c_26 : x_25.toInt ≤ i_20.toInt := (c_le (x := x_25.toInt) (y := i_20.toInt) rfl rfl).mp c_26
        obtain ⟨x_27, ex_27⟩ : ∃ y : Int32, y = i_14 + 1 := ⟨_, rfl⟩
        have tx_27 : x_27.toInt = i_14.toInt + 1 := t_add (x := i_14.toInt) (y := 1) ex_27 rfl rfl (by omega) (by omega)
        refine lv_iinc (v := x_27) (lv' := [(1, .int x_27), (2, .int i_20), (0, .ref ym)]) hx hb dX11_blows_152 hl (k := 1) rfl (by rw [ex_27]; rfl) (by decide) rfl (fun ls hl => ?_)
        refine lv_goto (tgt := 89) hx hb dX11_blows_155 (by decide) ?_
        exact ih_18 (_, _, _, x_27, f_21) ⟨(show 0 ≤ x_27.toInt by omega), (show x_27.toInt ≤ 16 by omega), hP, hD, hS, lv_sub hl [0, 2] rfl⟩ (show (16 - x_27.toInt).toNat < (16 - i_14.toInt).toNat by omega)
      · have c_26 : i_20.toInt < x_25.toInt := by have h := mt (c_le (x := x_25.toInt) (y := i_20.toInt) rfl rfl).mpr c_26; omega
        refine lv_aload_n hx hb dX11_blows_106 rfl (lv_at hl 2 rfl) ?_
        refine va_get (D := D) (ci := 11) (C := RX11) (T := TX11) (N := 45) hx hb hts iX11 hown hK hP 0 rfl rfl 41 (by decide) (hts _ m1358) (fun _ h9 => h9) rfl dX11_blows_107 ?_
        refine lv_iload_n hx hb dX11_blows_110 rfl (lv_at hl 0 rfl) ?_
        refine va_lald (D := D) hx hb hK hP 4 2 rfl rfl (v_in (x := i_20.toInt) rfl (by omega) (by omega)) dX11_blows_111 ?_
        refine lv_topl (fun x_28 ex_28 => ?_)
        refine lv_aload_n hx hb dX11_blows_112 rfl (lv_at hl 2 rfl) ?_
        refine va_get (D := D) (ci := 11) (C := RX11) (T := TX11) (N := 45) hx hb hts iX11 hown hK hP 0 rfl rfl 22 (by decide) (hts _ m1340) (fun _ h9 => h9) rfl dX11_blows_113 ?_
        refine lv_iconst (v := 1) hx hb dX11_blows_116 (by decide) ?_
        refine va_iald (D := D) hx hb hK hP 2 0 rfl rfl (by unfold vp_in; decide) dX11_blows_117 ?_
        refine lv_topi (fun x_29 ex_29 => ?_)
        refine lv_i2l hx hb dX11_blows_118 rfl ?_
        refine lv_lmul hx hb dX11_blows_119 ?_
        refine lv_topl (fun x_30 ex_30 => ?_)
        refine lv_ldc2 (v := 100) hx hb hown (hts _ m1880) dX11_blows_120 ?_
        refine lv_ldiv hx hb dX11_blows_123 (by decide) ?_
        refine lv_topl (fun x_31 ex_31 => ?_)
        refine lv_lstore_n (lv' := [(3, .long x_31), (2, .int i_20), (1, .int i_14), (0, .ref ym)]) hx hb dX11_blows_124 rfl hl (by decide) rfl (fun ls hl => ?_)
        refine lv_aload_n hx hb dX11_blows_125 rfl (lv_at hl 3 rfl) ?_
        refine va_get (D := D) (ci := 11) (C := RX11) (T := TX11) (N := 45) hx hb hts iX11 hown hK hP 0 rfl rfl 41 (by decide) (hts _ m1358) (fun _ h9 => h9) rfl dX11_blows_126 ?_
        refine lv_iload_n hx hb dX11_blows_129 rfl (lv_at hl 1 rfl) ?_
        refine lv_iconst (v := 1) hx hb dX11_blows_130 (by decide) ?_
        refine lv_iload_n hx hb dX11_blows_131 rfl (lv_at hl 2 rfl) ?_
        refine lv_ishl hx hb dX11_blows_132 ?_
        refine lv_topi (fun x_32 ex_32 => ?_)
        have tx_32 := t_shl16 ex_32 (by omega) (by omega)
        refine lv_ior hx hb dX11_blows_133 ?_
        refine lv_topi (fun x_33 ex_33 => ?_)
        have tx_33 := t_or16 ex_33 (by omega) (by omega) (by omega) (by omega)
        refine lv_lload_n hx hb dX11_blows_134 rfl (lv_at hl 0 rfl) ?_
        refine va_last (D := D) hx hb hK hP hD hS 4 2 rfl rfl (v_in (x := x_33.toInt) rfl (by omega) (by omega)) dX11_blows_135 (fun H locs hP hD hS => ?_)
        obtain ⟨f_34, hf_34⟩ : ∃ g : Nat → Int64, g = vp_updL f_21 x_33.toNatClampNeg x_31 := ⟨_, rfl⟩
        have hP : va_P D vwCl [(ym, .inr (11, [.int w0, .ref y1, .ref y2, .ref y3, .ref y4, .ref y5, .int w6, .int w7, .int w8, .int w9, .int w10, .long v11, .int w12, .int w13, .int w14, .int w15, .ref y16, .ref y17, .ref y18, .ref y19, .ref y20, .ref y21, .ref y22, .ref y23, .ref y24, .ref y25, .ref y26, .ref y27, .ref y28, .ref y29, .ref y30, .ref y31, .ref y32, .int w33, .int w34, .int w35, .ref y36, .int w37, .int w38, .int w39, .ref y40, .ref y41, .ref y42, .int w_2, .long v44])), (y17, .inl (T 0, 15, .inl c17)), (y22, .inl (T 0, 15, .inl c22)), (y24, .inl (T 0, 80, .inl c24)), (y41, .inl (T 2, 65536, .inr (.inl (vp_updL f_21 x_33.toNatClampNeg x_31)))), (y42, .inl (T 0, 16, .inl f_3))] H := hP
        have hD : va_D A [(ym, .inr (11, [.int w0, .ref y1, .ref y2, .ref y3, .ref y4, .ref y5, .int w6, .int w7, .int w8, .int w9, .int w10, .long v11, .int w12, .int w13, .int w14, .int w15, .ref y16, .ref y17, .ref y18, .ref y19, .ref y20, .ref y21, .ref y22, .ref y23, .ref y24, .ref y25, .ref y26, .ref y27, .ref y28, .ref y29, .ref y30, .ref y31, .ref y32, .int w33, .int w34, .int w35, .ref y36, .int w37, .int w38, .int w39, .ref y40, .ref y41, .ref y42, .int w_2, .long v44])), (y17, .inl (T 0, 15, .inl c17)), (y22, .inl (T 0, 15, .inl c22)), (y24, .inl (T 0, 80, .inl c24)), (y41, .inl (T 2, 65536, .inr (.inl (vp_updL f_21 x_33.toNatClampNeg x_31)))), (y42, .inl (T 0, 16, .inl f_3))] := hD
        rw [← hf_34] at hP hD
        refine lv_aload_n hx hb dX11_blows_136 rfl (lv_at hl 3 rfl) ?_
        refine va_get (D := D) (ci := 11) (C := RX11) (T := TX11) (N := 45) hx hb hts iX11 hown hK hP 0 rfl rfl 41 (by decide) (hts _ m1358) (fun _ h9 => h9) rfl dX11_blows_137 ?_
        refine lv_iload_n hx hb dX11_blows_140 rfl (lv_at hl 1 rfl) ?_
        refine lv_dup2_11 hx hb dX11_blows_141 rfl rfl ?_
        refine va_lald (D := D) hx hb hK hP 4 2 rfl rfl (v_in (x := i_20.toInt) rfl (by omega) (by omega)) dX11_blows_142 ?_
        refine lv_topl (fun x_35 ex_35 => ?_)
        refine lv_lload_n hx hb dX11_blows_143 rfl (lv_at hl 0 rfl) ?_
        refine lv_lsub hx hb dX11_blows_144 ?_
        refine lv_topl (fun x_36 ex_36 => ?_)
        refine va_last (D := D) hx hb hK hP hD hS 4 2 rfl rfl (v_in (x := i_20.toInt) rfl (by omega) (by omega)) dX11_blows_145 (fun H locs hP hD hS => ?_)
        obtain ⟨f_37, hf_37⟩ : ∃ g : Nat → Int64, g = vp_updL f_34 i_20.toNatClampNeg x_36 := ⟨_, rfl⟩
        have hP : va_P D vwCl [(ym, .inr (11, [.int w0, .ref y1, .ref y2, .ref y3, .ref y4, .ref y5, .int w6, .int w7, .int w8, .int w9, .int w10, .long v11, .int w12, .int w13, .int w14, .int w15, .ref y16, .ref y17, .ref y18, .ref y19, .ref y20, .ref y21, .ref y22, .ref y23, .ref y24, .ref y25, .ref y26, .ref y27, .ref y28, .ref y29, .ref y30, .ref y31, .ref y32, .int w33, .int w34, .int w35, .ref y36, .int w37, .int w38, .int w39, .ref y40, .ref y41, .ref y42, .int w_2, .long v44])), (y17, .inl (T 0, 15, .inl c17)), (y22, .inl (T 0, 15, .inl c22)), (y24, .inl (T 0, 80, .inl c24)), (y41, .inl (T 2, 65536, .inr (.inl (vp_updL f_34 i_20.toNatClampNeg x_36)))), (y42, .inl (T 0, 16, .inl f_3))] H := hP
        have hD : va_D A [(ym, .inr (11, [.int w0, .ref y1, .ref y2, .ref y3, .ref y4, .ref y5, .int w6, .int w7, .int w8, .int w9, .int w10, .long v11, .int w12, .int w13, .int w14, .int w15, .ref y16, .ref y17, .ref y18, .ref y19, .ref y20, .ref y21, .ref y22, .ref y23, .ref y24, .ref y25, .ref y26, .ref y27, .ref y28, .ref y29, .ref y30, .ref y31, .ref y32, .int w33, .int w34, .int w35, .ref y36, .int w37, .int w38, .int w39, .ref y40, .ref y41, .ref y42, .int w_2, .long v44])), (y17, .inl (T 0, 15, .inl c17)), (y22, .inl (T 0, 15, .inl c22)), (y24, .inl (T 0, 80, .inl c24)), (y41, .inl (T 2, 65536, .inr (.inl (vp_updL f_34 i_20.toNatClampNeg x_36)))), (y42, .inl (T 0, 16, .inl f_3))] := hD
        rw [← hf_37] at hP hD
        obtain ⟨x_38, ex_38⟩ : ∃ y : Int32, y = i_20 + 1 := ⟨_, rfl⟩
        have tx_38 : x_38.toInt = i_20.toInt + 1 := t_add (x := i_20.toInt) (y := 1) ex_38 rfl rfl (by omega) (by omega)
        refine lv_iinc (v := x_38) (lv' := [(2, .int x_38), (3, .long x_31), (1, .int i_14), (0, .ref ym)]) hx hb dX11_blows_146 hl (k := 1) rfl (by rw [ex_38]; rfl) (by decide) rfl (fun ls hl => ?_)
        refine lv_goto (tgt := 99) hx hb dX11_blows_149 (by decide) ?_
        exact ih_24 (_, _, _, x_38, f_37) ⟨(show 0 ≤ x_38.toInt by omega), (show x_38.toInt ≤ 65536 by omega), hP, hD, hS, lv_sub hl [0, 2, 3] rfl⟩ (show (65536 - x_38.toInt).toNat < (65536 - i_20.toInt).toNat by omega)
  · have c_12 : i_1.toInt < 2 := by have h := mt (c_le (x := 2) (y := i_1.toInt) rfl rfl).mpr c_12; omega
    refine lv_iconst (v := 0) hx hb dX11_blows_12 (by decide) ?_
    refine lv_istore_n (lv' := [(2, .int 0), (1, .int i_1), (0, .ref ym)]) hx hb dX11_blows_13 rfl hl (by decide) rfl (fun ls hl => ?_)
    refine lp_ind (fun (a : Heap × List Loc × Array Slot × (Int32) × (Int32) × (Nat → Int32)) => match a with | (H, locs, ls, i_39, w_40, f_41) => W p l e _ s m _ below meth c H locs 0 0 _ (F0 m 14 ls [])) (fun (a : Heap × List Loc × Array Slot × (Int32) × (Int32) × (Nat → Int32)) => match a with | (H, locs, ls, i_39, w_40, f_41) => 0 ≤ i_39.toInt ∧ i_39.toInt ≤ 8 ∧ 0 ≤ w_40.toInt ∧ w_40.toInt ≤ 16 ∧ rg 0 15 f_41 ∧ w_40.toInt ≤ 8 * i_1.toInt + i_39.toInt ∧ cr w_40.toInt c24 f_41 ∧ va_P D vwCl [(ym, .inr (11, [.int w0, .ref y1, .ref y2, .ref y3, .ref y4, .ref y5, .int w6, .int w7, .int w8, .int w9, .int w10, .long v11, .int w12, .int w13, .int w14, .int w15, .ref y16, .ref y17, .ref y18, .ref y19, .ref y20, .ref y21, .ref y22, .ref y23, .ref y24, .ref y25, .ref y26, .ref y27, .ref y28, .ref y29, .ref y30, .ref y31, .ref y32, .int w33, .int w34, .int w35, .ref y36, .int w37, .int w38, .int w39, .ref y40, .ref y41, .ref y42, .int w_40, .long v44])), (y17, .inl (T 0, 15, .inl c17)), (y22, .inl (T 0, 15, .inl c22)), (y24, .inl (T 0, 80, .inl c24)), (y41, .inl (T 2, 65536, .inr (.inl c41))), (y42, .inl (T 0, 16, .inl f_41))] H ∧ va_D A [(ym, .inr (11, [.int w0, .ref y1, .ref y2, .ref y3, .ref y4, .ref y5, .int w6, .int w7, .int w8, .int w9, .int w10, .long v11, .int w12, .int w13, .int w14, .int w15, .ref y16, .ref y17, .ref y18, .ref y19, .ref y20, .ref y21, .ref y22, .ref y23, .ref y24, .ref y25, .ref y26, .ref y27, .ref y28, .ref y29, .ref y30, .ref y31, .ref y32, .int w33, .int w34, .int w35, .ref y36, .int w37, .int w38, .int w39, .ref y40, .ref y41, .ref y42, .int w_40, .long v44])), (y17, .inl (T 0, 15, .inl c17)), (y22, .inl (T 0, 15, .inl c22)), (y24, .inl (T 0, 80, .inl c24)), (y41, .inl (T 2, 65536, .inr (.inl c41))), (y42, .inl (T 0, 16, .inl f_41))] ∧ va_S A s.heap H locs ∧ lv_has ls 5 [(2, .int i_39), (1, .int i_1), (0, .ref ym)]) (fun (a : Heap × List Loc × Array Slot × (Int32) × (Int32) × (Nat → Int32)) => match a with | (H, locs, ls, i_39, w_40, f_41) => (8 - i_39.toInt).toNat) ?_ (_, _, ls, (0 : Int32), w_2, f_3) ⟨(show 0 ≤ (0 : Int) by omega), (show (0 : Int) ≤ 8 by omega), (show 0 ≤ w_2.toInt by omega), (show w_2.toInt ≤ 16 by omega), Rf_3, (show w_2.toInt ≤ 8 * i_1.toInt + (0 : Int) by omega), (show cr w_2.toInt c24 f_3 by first | exact cr_0 | assumption), hP, hD, hS, lv_sub hl [0, 1, 2] rfl⟩
    rintro ⟨H, locs, ls, i_39, w_40, f_41⟩ ⟨c_42, c_43, c_44, c_45, Rf_41, c_47, c_48, hP, hD, hS, hl⟩ ih_49
    refine lv_iload_n hx hb dX11_blows_14 rfl (lv_at hl 0 rfl) ?_
    refine lv_aload_n hx hb dX11_blows_15 rfl (lv_at hl 2 rfl) ?_
    refine va_get (D := D) (ci := 11) (C := RX11) (T := TX11) (N := 45) hx hb hts iX11 hown hK hP 0 rfl rfl 17 (by decide) (hts _ m1335) (fun _ h9 => h9) rfl dX11_blows_16 ?_
    refine lv_iconst (v := 0) hx hb dX11_blows_19 (by decide) ?_
    refine va_iald (D := D) hx hb hK hP 1 0 rfl rfl (by unfold vp_in; decide) dX11_blows_20 ?_
    refine lv_topi (fun x_50 ex_50 => ?_)
    have tx_50 : 0 ≤ x_50.toInt ∧ x_50.toInt ≤ 8 := pg_at P_0 (j := 0) ex_50 rfl
    have qx_50 : x_50.toInt = (c17 0).toInt := by rw [ex_50]; rfl
    refine lv_icmp_ge (tgt := 72) hx hb dX11_blows_21 (by decide) (fun c_51 => ?_) (fun c_51 => ?_)
    · have c_51 : x_50.toInt ≤ i_39.toInt := (c_le (x := x_50.toInt) (y := i_39.toInt) rfl rfl).mp c_51
      obtain ⟨x_52, ex_52⟩ : ∃ y : Int32, y = i_1 + 1 := ⟨_, rfl⟩
      have tx_52 : x_52.toInt = i_1.toInt + 1 := t_add (x := i_1.toInt) (y := 1) ex_52 rfl rfl (by omega) (by omega)
      refine lv_iinc (v := x_52) (lv' := [(1, .int x_52), (2, .int i_39), (0, .ref ym)]) hx hb dX11_blows_72 hl (k := 1) rfl (by rw [ex_52]; rfl) (by decide) rfl (fun ls hl => ?_)
      refine lv_goto (tgt := 7) hx hb dX11_blows_75 (by decide) ?_
      exact ih_11 (_, _, _, x_52, w_40, f_41) ⟨(show 0 ≤ x_52.toInt by omega), (show x_52.toInt ≤ 2 by omega), (show 0 ≤ w_40.toInt by omega), (show w_40.toInt ≤ 16 by omega), Rf_41, (show w_40.toInt ≤ 8 * x_52.toInt by omega), (show cr w_40.toInt c24 f_41 by assumption), hP, hD, hS, lv_sub hl [0, 2] rfl⟩ (show (2 - x_52.toInt).toNat < (2 - i_1.toInt).toNat by omega)
    · have c_51 : i_39.toInt < x_50.toInt := by have h := mt (c_le (x := x_50.toInt) (y := i_39.toInt) rfl rfl).mpr c_51; omega
      refine lv_aload_n hx hb dX11_blows_24 rfl (lv_at hl 2 rfl) ?_
      refine va_get (D := D) (ci := 11) (C := RX11) (T := TX11) (N := 45) hx hb hts iX11 hown hK hP 0 rfl rfl 24 (by decide) (hts _ m1342) (fun _ h9 => h9) rfl dX11_blows_25 ?_
      refine lv_iconst (v := 0) hx hb dX11_blows_28 (by decide) ?_
      refine lv_iload_n hx hb dX11_blows_29 rfl (lv_at hl 1 rfl) ?_
      refine lv_iload_n hx hb dX11_blows_30 rfl (lv_at hl 0 rfl) ?_
      refine puI (cS (As := [.int 0, .int i_1, .int i_39]) (rest := [.ref y24]) ⟨hx, hb, hml, hown, hts⟩ (c_X11_at l D T 0 i_1 i_39 (by decide) ⟨by omega, by omega⟩ ⟨by omega, by omega⟩) k_X11_at m1635 m1634 rfl rfl ⟨(Nat.le_of_ble_eq_true rfl), (Nat.le_of_ble_eq_true rfl)⟩ (preP hC (hP.sub (ws' := []) [] rfl)) rfl hl.1 rfl (Nat.le_of_ble_eq_true rfl) dX11_blows_31 ⟨(Nat.le_of_ble_eq_true rfl), (Nat.le_of_ble_eq_true rfl)⟩) hS hP (fun r_53 H locs hw hP hS => ?_)
      have w_55 : (r_53.toInt = 16 * (0 : Int) + 8 * i_1.toInt + i_39.toInt) := hw
      obtain c_56 := w_55
      refine va_iald (D := D) hx hb hK hP 3 0 rfl rfl (v_in (x := r_53.toInt) rfl (by omega) (by omega)) dX11_blows_34 ?_
      refine lv_topi (fun x_57 ex_57 => ?_)
      have tx_57 : 0 ≤ x_57.toInt ∧ x_57.toInt ≤ 12 := rg_at R_c24 ex_57
      have qx_57 : x_57.toInt = (c24 (16 * (0 : Int) + 8 * i_1.toInt + i_39.toInt).toNat).toInt := by rw [ex_57, tn (show r_53.toInt = 16 * (0 : Int) + 8 * i_1.toInt + i_39.toInt by omega)]
      refine lv_if_ne (tgt := 41) hx hb dX11_blows_35 (by decide) (fun c_58 => ?_) (fun c_58 => ?_)
      · have c_58 : ¬ x_57.toInt = 0 := fun h => c_58 ((c_eq (x := x_57.toInt) (y := 0) rfl rfl).mpr h)
        refine lv_aload_n hx hb dX11_blows_41 rfl (lv_at hl 2 rfl) ?_
        refine va_get (D := D) (ci := 11) (C := RX11) (T := TX11) (N := 45) hx hb hts iX11 hown hK hP 0 rfl rfl 42 (by decide) (hts _ m1359) (fun _ h9 => h9) rfl dX11_blows_42 ?_
        refine lv_aload_n hx hb dX11_blows_45 rfl (lv_at hl 2 rfl) ?_
        refine va_get (D := D) (ci := 11) (C := RX11) (T := TX11) (N := 45) hx hb hts iX11 hown hK hP 0 rfl rfl 43 (by decide) (hts _ m1360) (fun _ h9 => h9) rfl dX11_blows_46 ?_
        refine lv_bipush (v := 8) hx hb dX11_blows_49 (by decide) ?_
        refine lv_iload_n hx hb dX11_blows_51 rfl (lv_at hl 1 rfl) ?_
        refine lv_imul hx hb dX11_blows_52 ?_
        refine lv_topi (fun x_59 ex_59 => ?_)
        have tx_59 : x_59.toInt = 8 * i_1.toInt := t_mul (x := 8) (y := i_1.toInt) ex_59 rfl rfl (by omega) (by omega)
        refine lv_iload_n hx hb dX11_blows_53 rfl (lv_at hl 0 rfl) ?_
        refine lv_iadd hx hb dX11_blows_54 ?_
        refine lv_topi (fun x_60 ex_60 => ?_)
        have tx_60 : x_60.toInt = x_59.toInt + i_39.toInt := t_add (x := x_59.toInt) (y := i_39.toInt) ex_60 rfl rfl (by omega) (by omega)
        refine va_iast (D := D) hx hb hK hP hD hS 5 0 rfl rfl (v_in (x := w_40.toInt) rfl (by omega) (by omega)) dX11_blows_55 (fun H locs hP hD hS => ?_)
        obtain ⟨f_61, hf_61⟩ : ∃ g : Nat → Int32, g = upd f_41 w_40.toNatClampNeg x_60 := ⟨_, rfl⟩
        have hP : va_P D vwCl [(ym, .inr (11, [.int w0, .ref y1, .ref y2, .ref y3, .ref y4, .ref y5, .int w6, .int w7, .int w8, .int w9, .int w10, .long v11, .int w12, .int w13, .int w14, .int w15, .ref y16, .ref y17, .ref y18, .ref y19, .ref y20, .ref y21, .ref y22, .ref y23, .ref y24, .ref y25, .ref y26, .ref y27, .ref y28, .ref y29, .ref y30, .ref y31, .ref y32, .int w33, .int w34, .int w35, .ref y36, .int w37, .int w38, .int w39, .ref y40, .ref y41, .ref y42, .int w_40, .long v44])), (y17, .inl (T 0, 15, .inl c17)), (y22, .inl (T 0, 15, .inl c22)), (y24, .inl (T 0, 80, .inl c24)), (y41, .inl (T 2, 65536, .inr (.inl c41))), (y42, .inl (T 0, 16, .inl (upd f_41 w_40.toNatClampNeg x_60)))] H := hP
        have hD : va_D A [(ym, .inr (11, [.int w0, .ref y1, .ref y2, .ref y3, .ref y4, .ref y5, .int w6, .int w7, .int w8, .int w9, .int w10, .long v11, .int w12, .int w13, .int w14, .int w15, .ref y16, .ref y17, .ref y18, .ref y19, .ref y20, .ref y21, .ref y22, .ref y23, .ref y24, .ref y25, .ref y26, .ref y27, .ref y28, .ref y29, .ref y30, .ref y31, .ref y32, .int w33, .int w34, .int w35, .ref y36, .int w37, .int w38, .int w39, .ref y40, .ref y41, .ref y42, .int w_40, .long v44])), (y17, .inl (T 0, 15, .inl c17)), (y22, .inl (T 0, 15, .inl c22)), (y24, .inl (T 0, 80, .inl c24)), (y41, .inl (T 2, 65536, .inr (.inl c41))), (y42, .inl (T 0, 16, .inl (upd f_41 w_40.toNatClampNeg x_60)))] := hD
        rw [← hf_61] at hP hD
        have Rf_61 : rg 0 15 f_61 := by rw [hf_61]; exact rg_upd Rf_41 (by constructor <;> omega)
        refine lv_aload_n hx hb dX11_blows_56 rfl (lv_at hl 2 rfl) ?_
        refine lv_dup hx hb dX11_blows_57 rfl ?_
        refine va_get (D := D) (ci := 11) (C := RX11) (T := TX11) (N := 45) hx hb hts iX11 hown hK hP 0 rfl rfl 43 (by decide) (hts _ m1360) (fun _ h9 => h9) rfl dX11_blows_58 ?_
        refine lv_iconst (v := 1) hx hb dX11_blows_61 (by decide) ?_
        refine lv_iadd hx hb dX11_blows_62 ?_
        refine lv_topi (fun x_62 ex_62 => ?_)
        have tx_62 : x_62.toInt = w_40.toInt + 1 := t_add (x := w_40.toInt) (y := 1) ex_62 rfl rfl (by omega) (by omega)
        refine va_put (D := D) (ci := 11) (v := .int x_62) (ty := .int) (C := RX11) (T := TX11) (N := 45) hx hb hts iX11 tyX11 tyX11_ok nmX11 hown hK hP hD hS 0 rfl rfl 43 (by decide) (hts _ m1360) (fun _ h9 => h9) rfl (by decide +kernel) rfl rfl (Nat.le_of_ble_eq_true rfl) dX11_blows_63 (fun H locs hP hD hS => ?_)
        have hP : va_P D vwCl [(ym, .inr (11, [.int w0, .ref y1, .ref y2, .ref y3, .ref y4, .ref y5, .int w6, .int w7, .int w8, .int w9, .int w10, .long v11, .int w12, .int w13, .int w14, .int w15, .ref y16, .ref y17, .ref y18, .ref y19, .ref y20, .ref y21, .ref y22, .ref y23, .ref y24, .ref y25, .ref y26, .ref y27, .ref y28, .ref y29, .ref y30, .ref y31, .ref y32, .int w33, .int w34, .int w35, .ref y36, .int w37, .int w38, .int w39, .ref y40, .ref y41, .ref y42, .int x_62, .long v44])), (y17, .inl (T 0, 15, .inl c17)), (y22, .inl (T 0, 15, .inl c22)), (y24, .inl (T 0, 80, .inl c24)), (y41, .inl (T 2, 65536, .inr (.inl c41))), (y42, .inl (T 0, 16, .inl f_61))] H := hP
        have hD : va_D A [(ym, .inr (11, [.int w0, .ref y1, .ref y2, .ref y3, .ref y4, .ref y5, .int w6, .int w7, .int w8, .int w9, .int w10, .long v11, .int w12, .int w13, .int w14, .int w15, .ref y16, .ref y17, .ref y18, .ref y19, .ref y20, .ref y21, .ref y22, .ref y23, .ref y24, .ref y25, .ref y26, .ref y27, .ref y28, .ref y29, .ref y30, .ref y31, .ref y32, .int w33, .int w34, .int w35, .ref y36, .int w37, .int w38, .int w39, .ref y40, .ref y41, .ref y42, .int x_62, .long v44])), (y17, .inl (T 0, 15, .inl c17)), (y22, .inl (T 0, 15, .inl c22)), (y24, .inl (T 0, 80, .inl c24)), (y41, .inl (T 2, 65536, .inr (.inl c41))), (y42, .inl (T 0, 16, .inl f_61))] := hD
        obtain ⟨x_63, ex_63⟩ : ∃ y : Int32, y = i_39 + 1 := ⟨_, rfl⟩
        have tx_63 : x_63.toInt = i_39.toInt + 1 := t_add (x := i_39.toInt) (y := 1) ex_63 rfl rfl (by omega) (by omega)
        refine lv_iinc (v := x_63) (lv' := [(2, .int x_63), (1, .int i_1), (0, .ref ym)]) hx hb dX11_blows_66 hl (k := 0) rfl (by rw [ex_63]; rfl) (by decide) rfl (fun ls hl => ?_)
        refine lv_goto (tgt := 14) hx hb dX11_blows_69 (by decide) ?_
        exact ih_49 (_, _, _, x_63, x_62, f_61) ⟨(show 0 ≤ x_63.toInt by omega), (show x_63.toInt ≤ 8 by omega), (show 0 ≤ x_62.toInt by omega), (show x_62.toInt ≤ 16 by omega), Rf_61, (show x_62.toInt ≤ 8 * i_1.toInt + x_63.toInt by omega), (show cr x_62.toInt c24 f_61 by rw [hf_61]; exact cr_s (a := 16 * (0 : Int) + 8 * i_1.toInt + i_39.toInt) c_48 (by omega) (by omega) (by rw [tn (x := w_40) rfl]; omega) (by omega) (by omega)), hP, hD, hS, lv_sub hl [0, 1, 2] rfl⟩ (show (8 - x_63.toInt).toNat < (8 - i_39.toInt).toNat by omega)
      · have c_58 : x_57.toInt = 0 := (c_eq (x := x_57.toInt) (y := 0) rfl rfl).mp c_58
        refine lv_goto (tgt := 66) hx hb dX11_blows_38 (by decide) ?_
        obtain ⟨x_64, ex_64⟩ : ∃ y : Int32, y = i_39 + 1 := ⟨_, rfl⟩
        have tx_64 : x_64.toInt = i_39.toInt + 1 := t_add (x := i_39.toInt) (y := 1) ex_64 rfl rfl (by omega) (by omega)
        refine lv_iinc (v := x_64) (lv' := [(2, .int x_64), (1, .int i_1), (0, .ref ym)]) hx hb dX11_blows_66 hl (k := 0) rfl (by rw [ex_64]; rfl) (by decide) rfl (fun ls hl => ?_)
        refine lv_goto (tgt := 14) hx hb dX11_blows_69 (by decide) ?_
        exact ih_49 (_, _, _, x_64, w_40, f_41) ⟨(show 0 ≤ x_64.toInt by omega), (show x_64.toInt ≤ 8 by omega), (show 0 ≤ w_40.toInt by omega), (show w_40.toInt ≤ 16 by omega), Rf_41, (show w_40.toInt ≤ 8 * i_1.toInt + x_64.toInt by omega), (show cr w_40.toInt c24 f_41 by assumption), hP, hD, hS, lv_sub hl [0, 1, 2] rfl⟩ (show (8 - x_64.toInt).toNat < (8 - i_39.toInt).toNat by omega)

set_option maxHeartbeats 4000000 in
set_option maxRecDepth 100000 in
theorem c_X11_countsWithout (l : Launch) (D : va_G) (T : Nat → ClassId) (y1 y16 y17 y18 y19 y2 y20 y21 y22 y23 y24 y25 y26 y27 y28 y29 y3 y30 y31 y32 y36 y4 y40 y41 y42 y5 ym : Nat) (i1 i2 w0 w10 w12 w13 w14 w15 w33 w34 w35 w37 w38 w39 w43 w6 w7 w8 w9 : Int32) (v11 v44 : Int64) (c17 c19 c22 c24 c25 c42 : Nat → Int32) (h_w6 : 0 ≤ w6.toInt ∧ w6.toInt ≤ 1600) (h_w43 : 0 ≤ w43.toInt ∧ w43.toInt ≤ 16) (h_i1 : 0 ≤ i1.toInt ∧ i1.toInt ≤ 1) (R_c24 : rg 0 12 c24) (R_c25 : rg 0 4 c25) (R_c42 : rg 0 15 c42) (P_0 : pg 3 0 0 8 c17) (P_1 : pg 3 1 0 12 c17) (hcr : cr w43.toInt c24 c42) : Met l yX11_countsWithout (wM yX11_countsWithout cX11_countsWithout 7 (some .int)) ({ frames := 3, cells := 0, slots := 0, locals := 72 }) (va_Pc [.ref ym, .int i1, .int i2] (pwP D T [(ym, .inr (11, [.int w0, .ref y1, .ref y2, .ref y3, .ref y4, .ref y5, .int w6, .int w7, .int w8, .int w9, .int w10, .long v11, .int w12, .int w13, .int w14, .int w15, .ref y16, .ref y17, .ref y18, .ref y19, .ref y20, .ref y21, .ref y22, .ref y23, .ref y24, .ref y25, .ref y26, .ref y27, .ref y28, .ref y29, .ref y30, .ref y31, .ref y32, .int w33, .int w34, .int w35, .ref y36, .int w37, .int w38, .int w39, .ref y40, .ref y41, .ref y42, .int w43, .long v44])), (y17, .inl (T 0, 15, .inl c17)), (y19, .inl (T 0, 75, .inl c19)), (y22, .inl (T 0, 15, .inl c22)), (y24, .inl (T 0, 80, .inl c24)), (y25, .inl (T 0, 960, .inl c25)), (y42, .inl (T 0, 16, .inl c42))])) (va_Qi (fun (r : Int32) (u : Unit) => True) (fun _ _ => True) (fun _ => False)) 0 0 (fun _ => False) := by
  refine Met.ofW (cc := cX11_countsWithout) (maxL := 7) (ret := (some .int)) (by decide) rfl ?_
  intro p e s m args below meth c s₁ B hml hv
  obtain ⟨rfl, hP, hC⟩ := hv
  have hx := B.exec
  have hb := B.bytes
  have hr := B.returns
  have hts : ∀ w ∈ gt, w.before _ s = true := fun w hw => atoms_spec (ws := (wM yX11_countsWithout cX11_countsWithout 7 (some .int))) B.pre w (List.mem_cons_of_mem _ hw)
  have hown : s.vm.findClass RX11 = some m.cls := findClass_of_methodNamed B.named
  have hlocks := B.notSynchronized
  have hK := hC.1
  have hS : va_S (fun _ => False) s.heap s.heap [] := va_S.rf
  have hl := lv_entry ([.ref ym, .int i1, .int i2]) (n := 7) (Nat.le_of_ble_eq_true rfl)
  rw [lg_entry_eq]
  generalize (lg_sl ([.ref ym, .int i1, .int i2]) ++ List.replicate (7 - (lg_sl ([.ref ym, .int i1, .int i2])).length) Slot.unset).toArray = ls at hl ⊢
  have hl : lv_has ls 7 [(0, .ref ym), (1, .int i1), (2, .int i2)] := hl
  have b_y17_0 : 0 ≤ (c17 0).toInt ∧ (c17 0).toInt ≤ 8 := P_0 0
  have b_y17_1 : 0 ≤ (c17 1).toInt ∧ (c17 1).toInt ≤ 12 := P_1 0
  refine lv_aload_n hx hb dX11_countsWithout_0 rfl (lv_at hl 0 rfl) ?_
  refine lv_iconst (v := 0) hx hb dX11_countsWithout_1 (by decide) ?_
  refine lv_iload_n hx hb dX11_countsWithout_2 rfl (lv_at hl 1 rfl) ?_
  refine lv_aload_n hx hb dX11_countsWithout_3 rfl (lv_at hl 0 rfl) ?_
  refine va_get (D := D) (ci := 11) (C := RX11) (T := TX11) (N := 45) hx hb hts iX11 hown hK hP 0 rfl rfl 22 (by decide) (hts _ m1340) (fun _ h9 => h9) rfl dX11_countsWithout_4 ?_
  refine lv_iconst (v := 0) hx hb dX11_countsWithout_7 (by decide) ?_
  refine va_iald (D := D) hx hb hK hP 3 0 rfl rfl (by unfold vp_in; decide) dX11_countsWithout_8 ?_
  refine lv_topi (fun x_1 ex_1 => ?_)
  refine puI (cV (As := [.int 0, .int i1, .int x_1]) (rest := []) ⟨hx, hb, hml, hown, hts⟩ (c_X11_countOf l D T y1 y16 y17 y18 y19 y2 y20 y21 y22 y23 y24 y25 y26 y27 y28 y29 y3 y30 y31 y32 y36 y4 y40 y41 y42 y5 ym 0 i1 x_1 w0 w10 w12 w13 w14 w15 w33 w34 w35 w37 w38 w39 w43 w6 w7 w8 w9 v11 v44 c17 c19 c24 c25 ⟨by omega, by omega⟩ ⟨by omega, by omega⟩ (by decide) ⟨by omega, by omega⟩ R_c24 R_c25 P_0 P_1) k_X11_countOf v_X11_countOf m1677 rfl rfl ⟨(Nat.le_of_ble_eq_true rfl), (Nat.le_of_ble_eq_true rfl)⟩ (preP hC (hP.sub (ws' := [(ym, .inr (11, [.int w0, .ref y1, .ref y2, .ref y3, .ref y4, .ref y5, .int w6, .int w7, .int w8, .int w9, .int w10, .long v11, .int w12, .int w13, .int w14, .int w15, .ref y16, .ref y17, .ref y18, .ref y19, .ref y20, .ref y21, .ref y22, .ref y23, .ref y24, .ref y25, .ref y26, .ref y27, .ref y28, .ref y29, .ref y30, .ref y31, .ref y32, .int w33, .int w34, .int w35, .ref y36, .int w37, .int w38, .int w39, .ref y40, .ref y41, .ref y42, .int w43, .long v44])), (y17, .inl (T 0, 15, .inl c17)), (y19, .inl (T 0, 75, .inl c19)), (y24, .inl (T 0, 80, .inl c24)), (y25, .inl (T 0, 960, .inl c25))]) [0, 1, 2, 4, 5] rfl)) (va_recv hK hP (ci := 11) (q0 := 0) rfl rfl) rfl hl.1 rfl (Nat.le_of_ble_eq_true rfl) dX11_countsWithout_9 ⟨(Nat.le_of_ble_eq_true rfl), (Nat.le_of_ble_eq_true rfl)⟩) hS hP (fun r_2 H locs hw hP hS => ?_)
  refine lv_istore_n (lv' := [(3, .int r_2), (0, .ref ym), (1, .int i1), (2, .int i2)]) hx hb dX11_countsWithout_12 rfl hl (by decide) rfl (fun ls hl => ?_)
  refine lv_aload_n hx hb dX11_countsWithout_13 rfl (lv_at hl 1 rfl) ?_
  refine va_get (D := D) (ci := 11) (C := RX11) (T := TX11) (N := 45) hx hb hts iX11 hown hK hP 0 rfl rfl 22 (by decide) (hts _ m1340) (fun _ h9 => h9) rfl dX11_countsWithout_14 ?_
  refine lv_iconst (v := 0) hx hb dX11_countsWithout_17 (by decide) ?_
  refine va_iald (D := D) hx hb hK hP 3 0 rfl rfl (by unfold vp_in; decide) dX11_countsWithout_18 ?_
  refine lv_topi (fun x_4 ex_4 => ?_)
  refine lv_iconst (v := 2) hx hb dX11_countsWithout_19 (by decide) ?_
  refine lv_icmp_ne (tgt := 25) hx hb dX11_countsWithout_20 (by decide) (fun c_5 => ?_) (fun c_5 => ?_)
  · have c_5 : ¬ x_4.toInt = 2 := fun h => c_5 ((c_eq (x := x_4.toInt) (y := 2) rfl rfl).mpr h)
    refine lv_iconst (v := 0) hx hb dX11_countsWithout_25 (by decide) ?_
    refine lv_istore (lv' := [(4, .int 0), (3, .int r_2), (0, .ref ym), (1, .int i1), (2, .int i2)]) hx hb dX11_countsWithout_26 hl (by decide) rfl (fun ls hl => ?_)
    refine lp_ind (fun (a : Heap × List Loc × Array Slot × (Int32) × (Int32)) => match a with | (H, locs, ls, i_6, i_7) => W p l e _ s m _ below meth c H locs 0 0 _ (F0 m 28 ls [])) (fun (a : Heap × List Loc × Array Slot × (Int32) × (Int32)) => match a with | (H, locs, ls, i_6, i_7) => 0 ≤ i_6.toInt ∧ i_6.toInt ≤ 16 ∧ va_P D vwCl [(ym, .inr (11, [.int w0, .ref y1, .ref y2, .ref y3, .ref y4, .ref y5, .int w6, .int w7, .int w8, .int w9, .int w10, .long v11, .int w12, .int w13, .int w14, .int w15, .ref y16, .ref y17, .ref y18, .ref y19, .ref y20, .ref y21, .ref y22, .ref y23, .ref y24, .ref y25, .ref y26, .ref y27, .ref y28, .ref y29, .ref y30, .ref y31, .ref y32, .int w33, .int w34, .int w35, .ref y36, .int w37, .int w38, .int w39, .ref y40, .ref y41, .ref y42, .int w43, .long v44])), (y17, .inl (T 0, 15, .inl c17)), (y19, .inl (T 0, 75, .inl c19)), (y22, .inl (T 0, 15, .inl c22)), (y24, .inl (T 0, 80, .inl c24)), (y25, .inl (T 0, 960, .inl c25)), (y42, .inl (T 0, 16, .inl c42))] H ∧ va_S (fun _ => False) s.heap H locs ∧ lv_has ls 7 [(4, .int i_6), (3, .int i_7), (0, .ref ym), (1, .int i1), (2, .int i2)]) (fun (a : Heap × List Loc × Array Slot × (Int32) × (Int32)) => match a with | (H, locs, ls, i_6, i_7) => (16 - i_6.toInt).toNat) ?_ (_, _, ls, (0 : Int32), r_2) ⟨(show 0 ≤ (0 : Int) by omega), (show (0 : Int) ≤ 16 by omega), hP, hS, lv_sub hl [0, 1, 2, 3, 4] rfl⟩
    rintro ⟨H, locs, ls, i_6, i_7⟩ ⟨c_8, c_9, hP, hS, hl⟩ ih_10
    refine lv_iload hx hb dX11_countsWithout_28 (lv_at hl 0 rfl) ?_
    refine lv_aload_n hx hb dX11_countsWithout_30 rfl (lv_at hl 2 rfl) ?_
    refine va_get (D := D) (ci := 11) (C := RX11) (T := TX11) (N := 45) hx hb hts iX11 hown hK hP 0 rfl rfl 43 (by decide) (hts _ m1360) (fun _ h9 => h9) rfl dX11_countsWithout_31 ?_
    refine lv_icmp_ge (tgt := 204) hx hb dX11_countsWithout_34 (by decide) (fun c_11 => ?_) (fun c_11 => ?_)
    · have c_11 : w43.toInt ≤ i_6.toInt := (c_le (x := w43.toInt) (y := i_6.toInt) rfl rfl).mp c_11
      refine lv_iload_n hx hb dX11_countsWithout_204 rfl (lv_at hl 1 rfl) ?_
      exact W.iret (v := i_7) hx hb hr (fun t ht hW => ⟨⟨i_7, (), rfl, trivial, trivial⟩, hS.F ht⟩) hS.2.2 dX11_countsWithout_205
    · have c_11 : i_6.toInt < w43.toInt := by have h := mt (c_le (x := w43.toInt) (y := i_6.toInt) rfl rfl).mpr c_11; omega
      refine lv_aload_n hx hb dX11_countsWithout_37 rfl (lv_at hl 2 rfl) ?_
      refine va_get (D := D) (ci := 11) (C := RX11) (T := TX11) (N := 45) hx hb hts iX11 hown hK hP 0 rfl rfl 42 (by decide) (hts _ m1359) (fun _ h9 => h9) rfl dX11_countsWithout_38 ?_
      refine lv_iload hx hb dX11_countsWithout_41 (lv_at hl 0 rfl) ?_
      refine va_iald (D := D) hx hb hK hP 6 0 rfl rfl (v_in (x := i_6.toInt) rfl (by omega) (by omega)) dX11_countsWithout_43 ?_
      refine lv_topi (fun x_12 ex_12 => ?_)
      have tx_12 : 0 ≤ x_12.toInt ∧ x_12.toInt ≤ 15 := rg_at R_c42 ex_12
      refine lv_bipush (v := 8) hx hb dX11_countsWithout_44 (by decide) ?_
      refine lv_idiv hx hb dX11_countsWithout_46 (by decide) ?_
      refine lv_topi (fun x_13 ex_13 => ?_)
      have tx_13 : x_13.toInt = x_12.toInt / 8 := t_div (x := x_12.toInt) (y := 8) ex_13 rfl rfl (by omega) (by omega)
      refine lv_iload_n hx hb dX11_countsWithout_47 rfl (lv_at hl 3 rfl) ?_
      refine lv_icmp_eq (tgt := 54) hx hb dX11_countsWithout_48 (by decide) (fun c_14 => ?_) (fun c_14 => ?_)
      · have c_14 : x_13.toInt = i1.toInt := (c_eq (x := x_13.toInt) (y := i1.toInt) rfl rfl).mp c_14
        refine lv_iload_n hx hb dX11_countsWithout_54 rfl (lv_at hl 4 rfl) ?_
        refine lv_iload hx hb dX11_countsWithout_55 (lv_at hl 0 rfl) ?_
        refine lv_ishr hx hb dX11_countsWithout_57 ?_
        refine lv_topi (fun x_15 ex_15 => ?_)
        refine lv_iconst (v := 1) hx hb dX11_countsWithout_58 (by decide) ?_
        refine lv_iand hx hb dX11_countsWithout_59 ?_
        refine lv_topi (fun x_16 ex_16 => ?_)
        have tx_16 : 0 ≤ x_16.toInt ∧ x_16.toInt ≤ 1 := t_and2 ex_16 (by decide)
        refine lv_iconst (v := 1) hx hb dX11_countsWithout_60 (by decide) ?_
        refine lv_icmp_ne (tgt := 68) hx hb dX11_countsWithout_61 (by decide) (fun c_17 => ?_) (fun c_17 => ?_)
        · have c_17 : ¬ x_16.toInt = 1 := fun h => c_17 ((c_eq (x := x_16.toInt) (y := 1) rfl rfl).mpr h)
          refine lv_iconst (v := 0) hx hb dX11_countsWithout_68 (by decide) ?_
          refine lv_istore (lv' := [(5, .int 0), (4, .int i_6), (3, .int i_7), (0, .ref ym), (1, .int i1), (2, .int i2)]) hx hb dX11_countsWithout_69 hl (by decide) rfl (fun ls hl => ?_)
          refine lv_aload_n hx hb dX11_countsWithout_71 rfl (lv_at hl 3 rfl) ?_
          refine va_get (D := D) (ci := 11) (C := RX11) (T := TX11) (N := 45) hx hb hts iX11 hown hK hP 0 rfl rfl 24 (by decide) (hts _ m1342) (fun _ h9 => h9) rfl dX11_countsWithout_72 ?_
          refine lv_aload_n hx hb dX11_countsWithout_75 rfl (lv_at hl 3 rfl) ?_
          refine va_get (D := D) (ci := 11) (C := RX11) (T := TX11) (N := 45) hx hb hts iX11 hown hK hP 0 rfl rfl 42 (by decide) (hts _ m1359) (fun _ h9 => h9) rfl dX11_countsWithout_76 ?_
          refine lv_iload hx hb dX11_countsWithout_79 (lv_at hl 1 rfl) ?_
          refine va_iald (D := D) hx hb hK hP 6 0 rfl rfl (v_in (x := i_6.toInt) rfl (by omega) (by omega)) dX11_countsWithout_81 ?_
          refine lv_topi (fun x_18 ex_18 => ?_)
          have tx_18 : 0 ≤ x_18.toInt ∧ x_18.toInt ≤ 15 := rg_at R_c42 ex_18
          refine va_iald (D := D) hx hb hK hP 4 0 rfl rfl (v_in (x := x_18.toInt) rfl (by omega) (by omega)) dX11_countsWithout_82 ?_
          refine lv_topi (fun x_19 ex_19 => ?_)
          have tx_19 : 0 ≤ x_19.toInt ∧ x_19.toInt ≤ 12 := rg_at R_c24 ex_19
          have qx_19 : x_19.toInt = (c24 (x_18.toInt).toNat).toInt := by rw [ex_19, tn (show x_18.toInt = x_18.toInt by omega)]
          have gx_19 : 0 < x_19.toInt := cr_at hcr ex_18 ex_19 rfl (show ((i_6.toInt.toNat : Nat) : Int) < w43.toInt by omega)
          refine lv_istore (lv' := [(6, .int x_19), (5, .int 0), (4, .int i_6), (3, .int i_7), (0, .ref ym), (1, .int i1), (2, .int i2)]) hx hb dX11_countsWithout_83 hl (by decide) rfl (fun ls hl => ?_)
          refine lv_aload_n hx hb dX11_countsWithout_85 rfl (lv_at hl 4 rfl) ?_
          refine va_get (D := D) (ci := 11) (C := RX11) (T := TX11) (N := 45) hx hb hts iX11 hown hK hP 0 rfl rfl 22 (by decide) (hts _ m1340) (fun _ h9 => h9) rfl dX11_countsWithout_86 ?_
          refine lv_iconst (v := 0) hx hb dX11_countsWithout_89 (by decide) ?_
          refine va_iald (D := D) hx hb hK hP 3 0 rfl rfl (by unfold vp_in; decide) dX11_countsWithout_90 ?_
          refine lv_topi (fun x_20 ex_20 => ?_)
          refine lv_if_ne (tgt := 107) hx hb dX11_countsWithout_91 (by decide) (fun c_21 => ?_) (fun c_21 => ?_)
          · have c_21 : ¬ x_20.toInt = 0 := fun h => c_21 ((c_eq (x := x_20.toInt) (y := 0) rfl rfl).mpr h)
            refine lv_aload_n hx hb dX11_countsWithout_107 rfl (lv_at hl 4 rfl) ?_
            refine va_get (D := D) (ci := 11) (C := RX11) (T := TX11) (N := 45) hx hb hts iX11 hown hK hP 0 rfl rfl 22 (by decide) (hts _ m1340) (fun _ h9 => h9) rfl dX11_countsWithout_108 ?_
            refine lv_iconst (v := 0) hx hb dX11_countsWithout_111 (by decide) ?_
            refine va_iald (D := D) hx hb hK hP 3 0 rfl rfl (by unfold vp_in; decide) dX11_countsWithout_112 ?_
            refine lv_topi (fun x_22 ex_22 => ?_)
            refine lv_iconst (v := 1) hx hb dX11_countsWithout_113 (by decide) ?_
            refine lv_icmp_ne (tgt := 153) hx hb dX11_countsWithout_114 (by decide) (fun c_23 => ?_) (fun c_23 => ?_)
            · have c_23 : ¬ x_22.toInt = 1 := fun h => c_23 ((c_eq (x := x_22.toInt) (y := 1) rfl rfl).mpr h)
              refine lv_aload_n hx hb dX11_countsWithout_153 rfl (lv_at hl 4 rfl) ?_
              refine va_get (D := D) (ci := 11) (C := RX11) (T := TX11) (N := 45) hx hb hts iX11 hown hK hP 0 rfl rfl 22 (by decide) (hts _ m1340) (fun _ h9 => h9) rfl dX11_countsWithout_154 ?_
              refine lv_iconst (v := 0) hx hb dX11_countsWithout_157 (by decide) ?_
              refine va_iald (D := D) hx hb hK hP 3 0 rfl rfl (by unfold vp_in; decide) dX11_countsWithout_158 ?_
              refine lv_topi (fun x_24 ex_24 => ?_)
              refine lv_iconst (v := 2) hx hb dX11_countsWithout_159 (by decide) ?_
              refine lv_icmp_ne (tgt := 198) hx hb dX11_countsWithout_160 (by decide) (fun c_25 => ?_) (fun c_25 => ?_)
              · have c_25 : ¬ x_24.toInt = 2 := fun h => c_25 ((c_eq (x := x_24.toInt) (y := 2) rfl rfl).mpr h)
                obtain ⟨x_26, ex_26⟩ : ∃ y : Int32, y = i_6 + 1 := ⟨_, rfl⟩
                have tx_26 : x_26.toInt = i_6.toInt + 1 := t_add (x := i_6.toInt) (y := 1) ex_26 rfl rfl (by omega) (by omega)
                refine lv_iinc (v := x_26) (lv' := [(4, .int x_26), (6, .int x_19), (5, .int 0), (3, .int i_7), (0, .ref ym), (1, .int i1), (2, .int i2)]) hx hb dX11_countsWithout_198 hl (k := 2) rfl (by rw [ex_26]; rfl) (by decide) rfl (fun ls hl => ?_)
                refine lv_goto (tgt := 28) hx hb dX11_countsWithout_201 (by decide) ?_
                exact ih_10 (_, _, _, x_26, i_7) ⟨(show 0 ≤ x_26.toInt by omega), (show x_26.toInt ≤ 16 by omega), hP, hS, lv_sub hl [0, 3, 4, 5, 6] rfl⟩ (show (16 - x_26.toInt).toNat < (16 - i_6.toInt).toNat by omega)
              · have c_25 : x_24.toInt = 2 := (c_eq (x := x_24.toInt) (y := 2) rfl rfl).mp c_25
                refine lv_iload hx hb dX11_countsWithout_163 (lv_at hl 0 rfl) ?_
                refine lv_iload hx hb dX11_countsWithout_165 (lv_at hl 1 rfl) ?_
                refine lv_if_eq (tgt := 174) hx hb dX11_countsWithout_167 (by decide) (fun _ => ?_) (fun c_27 => absurd (by decide) c_27)
                refine lv_iconst (v := 0) hx hb dX11_countsWithout_174 (by decide) ?_
                refine lv_isub hx hb dX11_countsWithout_175 ?_
                refine lv_topi (fun x_28 ex_28 => ?_)
                have tx_28 : x_28.toInt = x_19.toInt - 0 := t_sub (x := x_19.toInt) (y := 0) ex_28 rfl rfl (by omega) (by omega)
                refine lv_iload_n hx hb dX11_countsWithout_176 rfl (lv_at hl 3 rfl) ?_
                refine lv_icmp_le (tgt := 196) hx hb dX11_countsWithout_177 (by decide) (fun c_29 => ?_) (fun c_29 => ?_)
                · have c_29 : x_28.toInt ≤ i_7.toInt := (c_le (x := x_28.toInt) (y := i_7.toInt) rfl rfl).mp c_29
                  refine lv_iload_n hx hb dX11_countsWithout_196 rfl (lv_at hl 3 rfl) ?_
                  refine lv_istore_n (lv' := [(3, .int i_7), (6, .int x_19), (5, .int 0), (4, .int i_6), (0, .ref ym), (1, .int i1), (2, .int i2)]) hx hb dX11_countsWithout_197 rfl hl (by decide) rfl (fun ls hl => ?_)
                  obtain ⟨x_30, ex_30⟩ : ∃ y : Int32, y = i_6 + 1 := ⟨_, rfl⟩
                  have tx_30 : x_30.toInt = i_6.toInt + 1 := t_add (x := i_6.toInt) (y := 1) ex_30 rfl rfl (by omega) (by omega)
                  refine lv_iinc (v := x_30) (lv' := [(4, .int x_30), (3, .int i_7), (6, .int x_19), (5, .int 0), (0, .ref ym), (1, .int i1), (2, .int i2)]) hx hb dX11_countsWithout_198 hl (k := 3) rfl (by rw [ex_30]; rfl) (by decide) rfl (fun ls hl => ?_)
                  refine lv_goto (tgt := 28) hx hb dX11_countsWithout_201 (by decide) ?_
                  exact ih_10 (_, _, _, x_30, i_7) ⟨(show 0 ≤ x_30.toInt by omega), (show x_30.toInt ≤ 16 by omega), hP, hS, lv_sub hl [0, 1, 4, 5, 6] rfl⟩ (show (16 - x_30.toInt).toNat < (16 - i_6.toInt).toNat by omega)
                · have c_29 : i_7.toInt < x_28.toInt := by have h := mt (c_le (x := x_28.toInt) (y := i_7.toInt) rfl rfl).mpr c_29; omega
                  refine lv_iload hx hb dX11_countsWithout_180 (lv_at hl 0 rfl) ?_
                  refine lv_iload hx hb dX11_countsWithout_182 (lv_at hl 1 rfl) ?_
                  refine lv_if_eq (tgt := 191) hx hb dX11_countsWithout_184 (by decide) (fun _ => ?_) (fun c_31 => absurd (by decide) c_31)
                  refine lv_iconst (v := 0) hx hb dX11_countsWithout_191 (by decide) ?_
                  refine lv_isub hx hb dX11_countsWithout_192 ?_
                  refine lv_topi (fun x_32 ex_32 => ?_)
                  have tx_32 : x_32.toInt = x_19.toInt - 0 := t_sub (x := x_19.toInt) (y := 0) ex_32 rfl rfl (by omega) (by omega)
                  refine lv_goto (tgt := 197) hx hb dX11_countsWithout_193 (by decide) ?_
                  refine lv_istore_n (lv' := [(3, .int x_32), (6, .int x_19), (5, .int 0), (4, .int i_6), (0, .ref ym), (1, .int i1), (2, .int i2)]) hx hb dX11_countsWithout_197 rfl hl (by decide) rfl (fun ls hl => ?_)
                  obtain ⟨x_33, ex_33⟩ : ∃ y : Int32, y = i_6 + 1 := ⟨_, rfl⟩
                  have tx_33 : x_33.toInt = i_6.toInt + 1 := t_add (x := i_6.toInt) (y := 1) ex_33 rfl rfl (by omega) (by omega)
                  refine lv_iinc (v := x_33) (lv' := [(4, .int x_33), (3, .int x_32), (6, .int x_19), (5, .int 0), (0, .ref ym), (1, .int i1), (2, .int i2)]) hx hb dX11_countsWithout_198 hl (k := 3) rfl (by rw [ex_33]; rfl) (by decide) rfl (fun ls hl => ?_)
                  refine lv_goto (tgt := 28) hx hb dX11_countsWithout_201 (by decide) ?_
                  exact ih_10 (_, _, _, x_33, x_32) ⟨(show 0 ≤ x_33.toInt by omega), (show x_33.toInt ≤ 16 by omega), hP, hS, lv_sub hl [0, 1, 4, 5, 6] rfl⟩ (show (16 - x_33.toInt).toNat < (16 - i_6.toInt).toNat by omega)
            · have c_23 : x_22.toInt = 1 := (c_eq (x := x_22.toInt) (y := 1) rfl rfl).mp c_23
              refine lv_iload_n hx hb dX11_countsWithout_117 rfl (lv_at hl 3 rfl) ?_
              refine lv_iload hx hb dX11_countsWithout_118 (lv_at hl 1 rfl) ?_
              refine lv_if_eq (tgt := 150) hx hb dX11_countsWithout_120 (by decide) (fun _ => ?_) (fun c_34 => absurd (by decide) c_34)
              refine lv_iconst (v := 0) hx hb dX11_countsWithout_150 (by decide) ?_
              refine lv_isub hx hb dX11_countsWithout_151 ?_
              refine lv_topi (fun x_35 ex_35 => ?_)
              refine lv_istore_n (lv' := [(3, .int x_35), (6, .int x_19), (5, .int 0), (4, .int i_6), (0, .ref ym), (1, .int i1), (2, .int i2)]) hx hb dX11_countsWithout_152 rfl hl (by decide) rfl (fun ls hl => ?_)
              refine lv_aload_n hx hb dX11_countsWithout_153 rfl (lv_at hl 4 rfl) ?_
              refine va_get (D := D) (ci := 11) (C := RX11) (T := TX11) (N := 45) hx hb hts iX11 hown hK hP 0 rfl rfl 22 (by decide) (hts _ m1340) (fun _ h9 => h9) rfl dX11_countsWithout_154 ?_
              refine lv_iconst (v := 0) hx hb dX11_countsWithout_157 (by decide) ?_
              refine va_iald (D := D) hx hb hK hP 3 0 rfl rfl (by unfold vp_in; decide) dX11_countsWithout_158 ?_
              refine lv_topi (fun x_36 ex_36 => ?_)
              refine lv_iconst (v := 2) hx hb dX11_countsWithout_159 (by decide) ?_
              refine lv_icmp_ne (tgt := 198) hx hb dX11_countsWithout_160 (by decide) (fun c_37 => ?_) (fun c_37 => ?_)
              · have c_37 : ¬ x_36.toInt = 2 := fun h => c_37 ((c_eq (x := x_36.toInt) (y := 2) rfl rfl).mpr h)
                obtain ⟨x_38, ex_38⟩ : ∃ y : Int32, y = i_6 + 1 := ⟨_, rfl⟩
                have tx_38 : x_38.toInt = i_6.toInt + 1 := t_add (x := i_6.toInt) (y := 1) ex_38 rfl rfl (by omega) (by omega)
                refine lv_iinc (v := x_38) (lv' := [(4, .int x_38), (3, .int x_35), (6, .int x_19), (5, .int 0), (0, .ref ym), (1, .int i1), (2, .int i2)]) hx hb dX11_countsWithout_198 hl (k := 3) rfl (by rw [ex_38]; rfl) (by decide) rfl (fun ls hl => ?_)
                refine lv_goto (tgt := 28) hx hb dX11_countsWithout_201 (by decide) ?_
                exact ih_10 (_, _, _, x_38, x_35) ⟨(show 0 ≤ x_38.toInt by omega), (show x_38.toInt ≤ 16 by omega), hP, hS, lv_sub hl [0, 1, 4, 5, 6] rfl⟩ (show (16 - x_38.toInt).toNat < (16 - i_6.toInt).toNat by omega)
              · have c_37 : x_36.toInt = 2 := (c_eq (x := x_36.toInt) (y := 2) rfl rfl).mp c_37
                refine lv_iload hx hb dX11_countsWithout_163 (lv_at hl 1 rfl) ?_
                refine lv_iload hx hb dX11_countsWithout_165 (lv_at hl 2 rfl) ?_
                refine lv_if_eq (tgt := 174) hx hb dX11_countsWithout_167 (by decide) (fun _ => ?_) (fun c_39 => absurd (by decide) c_39)
                refine lv_iconst (v := 0) hx hb dX11_countsWithout_174 (by decide) ?_
                refine lv_isub hx hb dX11_countsWithout_175 ?_
                refine lv_topi (fun x_40 ex_40 => ?_)
                have tx_40 : x_40.toInt = x_19.toInt - 0 := t_sub (x := x_19.toInt) (y := 0) ex_40 rfl rfl (by omega) (by omega)
                refine lv_iload_n hx hb dX11_countsWithout_176 rfl (lv_at hl 0 rfl) ?_
                refine lv_icmp_le (tgt := 196) hx hb dX11_countsWithout_177 (by decide) (fun c_41 => ?_) (fun c_41 => ?_)
                · have c_41 : x_40.toInt ≤ x_35.toInt := (c_le (x := x_40.toInt) (y := x_35.toInt) rfl rfl).mp c_41
                  refine lv_iload_n hx hb dX11_countsWithout_196 rfl (lv_at hl 0 rfl) ?_
                  refine lv_istore_n (lv' := [(3, .int x_35), (6, .int x_19), (5, .int 0), (4, .int i_6), (0, .ref ym), (1, .int i1), (2, .int i2)]) hx hb dX11_countsWithout_197 rfl hl (by decide) rfl (fun ls hl => ?_)
                  obtain ⟨x_42, ex_42⟩ : ∃ y : Int32, y = i_6 + 1 := ⟨_, rfl⟩
                  have tx_42 : x_42.toInt = i_6.toInt + 1 := t_add (x := i_6.toInt) (y := 1) ex_42 rfl rfl (by omega) (by omega)
                  refine lv_iinc (v := x_42) (lv' := [(4, .int x_42), (3, .int x_35), (6, .int x_19), (5, .int 0), (0, .ref ym), (1, .int i1), (2, .int i2)]) hx hb dX11_countsWithout_198 hl (k := 3) rfl (by rw [ex_42]; rfl) (by decide) rfl (fun ls hl => ?_)
                  refine lv_goto (tgt := 28) hx hb dX11_countsWithout_201 (by decide) ?_
                  exact ih_10 (_, _, _, x_42, x_35) ⟨(show 0 ≤ x_42.toInt by omega), (show x_42.toInt ≤ 16 by omega), hP, hS, lv_sub hl [0, 1, 4, 5, 6] rfl⟩ (show (16 - x_42.toInt).toNat < (16 - i_6.toInt).toNat by omega)
                · have c_41 : x_35.toInt < x_40.toInt := by have h := mt (c_le (x := x_40.toInt) (y := x_35.toInt) rfl rfl).mpr c_41; omega
                  refine lv_iload hx hb dX11_countsWithout_180 (lv_at hl 1 rfl) ?_
                  refine lv_iload hx hb dX11_countsWithout_182 (lv_at hl 2 rfl) ?_
                  refine lv_if_eq (tgt := 191) hx hb dX11_countsWithout_184 (by decide) (fun _ => ?_) (fun c_43 => absurd (by decide) c_43)
                  refine lv_iconst (v := 0) hx hb dX11_countsWithout_191 (by decide) ?_
                  refine lv_isub hx hb dX11_countsWithout_192 ?_
                  refine lv_topi (fun x_44 ex_44 => ?_)
                  have tx_44 : x_44.toInt = x_19.toInt - 0 := t_sub (x := x_19.toInt) (y := 0) ex_44 rfl rfl (by omega) (by omega)
                  refine lv_goto (tgt := 197) hx hb dX11_countsWithout_193 (by decide) ?_
                  refine lv_istore_n (lv' := [(3, .int x_44), (6, .int x_19), (5, .int 0), (4, .int i_6), (0, .ref ym), (1, .int i1), (2, .int i2)]) hx hb dX11_countsWithout_197 rfl hl (by decide) rfl (fun ls hl => ?_)
                  obtain ⟨x_45, ex_45⟩ : ∃ y : Int32, y = i_6 + 1 := ⟨_, rfl⟩
                  have tx_45 : x_45.toInt = i_6.toInt + 1 := t_add (x := i_6.toInt) (y := 1) ex_45 rfl rfl (by omega) (by omega)
                  refine lv_iinc (v := x_45) (lv' := [(4, .int x_45), (3, .int x_44), (6, .int x_19), (5, .int 0), (0, .ref ym), (1, .int i1), (2, .int i2)]) hx hb dX11_countsWithout_198 hl (k := 3) rfl (by rw [ex_45]; rfl) (by decide) rfl (fun ls hl => ?_)
                  refine lv_goto (tgt := 28) hx hb dX11_countsWithout_201 (by decide) ?_
                  exact ih_10 (_, _, _, x_45, x_44) ⟨(show 0 ≤ x_45.toInt by omega), (show x_45.toInt ≤ 16 by omega), hP, hS, lv_sub hl [0, 1, 4, 5, 6] rfl⟩ (show (16 - x_45.toInt).toNat < (16 - i_6.toInt).toNat by omega)
          · have c_21 : x_20.toInt = 0 := (c_eq (x := x_20.toInt) (y := 0) rfl rfl).mp c_21
            refine lv_iload_n hx hb dX11_countsWithout_94 rfl (lv_at hl 3 rfl) ?_
            refine lv_iload hx hb dX11_countsWithout_95 (lv_at hl 1 rfl) ?_
            refine lv_if_eq (tgt := 104) hx hb dX11_countsWithout_97 (by decide) (fun _ => ?_) (fun c_46 => absurd (by decide) c_46)
            refine lv_iconst (v := 0) hx hb dX11_countsWithout_104 (by decide) ?_
            refine lv_isub hx hb dX11_countsWithout_105 ?_
            refine lv_topi (fun x_47 ex_47 => ?_)
            refine lv_istore_n (lv' := [(3, .int x_47), (6, .int x_19), (5, .int 0), (4, .int i_6), (0, .ref ym), (1, .int i1), (2, .int i2)]) hx hb dX11_countsWithout_106 rfl hl (by decide) rfl (fun ls hl => ?_)
            refine lv_aload_n hx hb dX11_countsWithout_107 rfl (lv_at hl 4 rfl) ?_
            refine va_get (D := D) (ci := 11) (C := RX11) (T := TX11) (N := 45) hx hb hts iX11 hown hK hP 0 rfl rfl 22 (by decide) (hts _ m1340) (fun _ h9 => h9) rfl dX11_countsWithout_108 ?_
            refine lv_iconst (v := 0) hx hb dX11_countsWithout_111 (by decide) ?_
            refine va_iald (D := D) hx hb hK hP 3 0 rfl rfl (by unfold vp_in; decide) dX11_countsWithout_112 ?_
            refine lv_topi (fun x_48 ex_48 => ?_)
            refine lv_iconst (v := 1) hx hb dX11_countsWithout_113 (by decide) ?_
            refine lv_icmp_ne (tgt := 153) hx hb dX11_countsWithout_114 (by decide) (fun c_49 => ?_) (fun c_49 => ?_)
            · have c_49 : ¬ x_48.toInt = 1 := fun h => c_49 ((c_eq (x := x_48.toInt) (y := 1) rfl rfl).mpr h)
              refine lv_aload_n hx hb dX11_countsWithout_153 rfl (lv_at hl 4 rfl) ?_
              refine va_get (D := D) (ci := 11) (C := RX11) (T := TX11) (N := 45) hx hb hts iX11 hown hK hP 0 rfl rfl 22 (by decide) (hts _ m1340) (fun _ h9 => h9) rfl dX11_countsWithout_154 ?_
              refine lv_iconst (v := 0) hx hb dX11_countsWithout_157 (by decide) ?_
              refine va_iald (D := D) hx hb hK hP 3 0 rfl rfl (by unfold vp_in; decide) dX11_countsWithout_158 ?_
              refine lv_topi (fun x_50 ex_50 => ?_)
              refine lv_iconst (v := 2) hx hb dX11_countsWithout_159 (by decide) ?_
              refine lv_icmp_ne (tgt := 198) hx hb dX11_countsWithout_160 (by decide) (fun c_51 => ?_) (fun c_51 => ?_)
              · have c_51 : ¬ x_50.toInt = 2 := fun h => c_51 ((c_eq (x := x_50.toInt) (y := 2) rfl rfl).mpr h)
                obtain ⟨x_52, ex_52⟩ : ∃ y : Int32, y = i_6 + 1 := ⟨_, rfl⟩
                have tx_52 : x_52.toInt = i_6.toInt + 1 := t_add (x := i_6.toInt) (y := 1) ex_52 rfl rfl (by omega) (by omega)
                refine lv_iinc (v := x_52) (lv' := [(4, .int x_52), (3, .int x_47), (6, .int x_19), (5, .int 0), (0, .ref ym), (1, .int i1), (2, .int i2)]) hx hb dX11_countsWithout_198 hl (k := 3) rfl (by rw [ex_52]; rfl) (by decide) rfl (fun ls hl => ?_)
                refine lv_goto (tgt := 28) hx hb dX11_countsWithout_201 (by decide) ?_
                exact ih_10 (_, _, _, x_52, x_47) ⟨(show 0 ≤ x_52.toInt by omega), (show x_52.toInt ≤ 16 by omega), hP, hS, lv_sub hl [0, 1, 4, 5, 6] rfl⟩ (show (16 - x_52.toInt).toNat < (16 - i_6.toInt).toNat by omega)
              · have c_51 : x_50.toInt = 2 := (c_eq (x := x_50.toInt) (y := 2) rfl rfl).mp c_51
                refine lv_iload hx hb dX11_countsWithout_163 (lv_at hl 1 rfl) ?_
                refine lv_iload hx hb dX11_countsWithout_165 (lv_at hl 2 rfl) ?_
                refine lv_if_eq (tgt := 174) hx hb dX11_countsWithout_167 (by decide) (fun _ => ?_) (fun c_53 => absurd (by decide) c_53)
                refine lv_iconst (v := 0) hx hb dX11_countsWithout_174 (by decide) ?_
                refine lv_isub hx hb dX11_countsWithout_175 ?_
                refine lv_topi (fun x_54 ex_54 => ?_)
                have tx_54 : x_54.toInt = x_19.toInt - 0 := t_sub (x := x_19.toInt) (y := 0) ex_54 rfl rfl (by omega) (by omega)
                refine lv_iload_n hx hb dX11_countsWithout_176 rfl (lv_at hl 0 rfl) ?_
                refine lv_icmp_le (tgt := 196) hx hb dX11_countsWithout_177 (by decide) (fun c_55 => ?_) (fun c_55 => ?_)
                · have c_55 : x_54.toInt ≤ x_47.toInt := (c_le (x := x_54.toInt) (y := x_47.toInt) rfl rfl).mp c_55
                  refine lv_iload_n hx hb dX11_countsWithout_196 rfl (lv_at hl 0 rfl) ?_
                  refine lv_istore_n (lv' := [(3, .int x_47), (6, .int x_19), (5, .int 0), (4, .int i_6), (0, .ref ym), (1, .int i1), (2, .int i2)]) hx hb dX11_countsWithout_197 rfl hl (by decide) rfl (fun ls hl => ?_)
                  obtain ⟨x_56, ex_56⟩ : ∃ y : Int32, y = i_6 + 1 := ⟨_, rfl⟩
                  have tx_56 : x_56.toInt = i_6.toInt + 1 := t_add (x := i_6.toInt) (y := 1) ex_56 rfl rfl (by omega) (by omega)
                  refine lv_iinc (v := x_56) (lv' := [(4, .int x_56), (3, .int x_47), (6, .int x_19), (5, .int 0), (0, .ref ym), (1, .int i1), (2, .int i2)]) hx hb dX11_countsWithout_198 hl (k := 3) rfl (by rw [ex_56]; rfl) (by decide) rfl (fun ls hl => ?_)
                  refine lv_goto (tgt := 28) hx hb dX11_countsWithout_201 (by decide) ?_
                  exact ih_10 (_, _, _, x_56, x_47) ⟨(show 0 ≤ x_56.toInt by omega), (show x_56.toInt ≤ 16 by omega), hP, hS, lv_sub hl [0, 1, 4, 5, 6] rfl⟩ (show (16 - x_56.toInt).toNat < (16 - i_6.toInt).toNat by omega)
                · have c_55 : x_47.toInt < x_54.toInt := by have h := mt (c_le (x := x_54.toInt) (y := x_47.toInt) rfl rfl).mpr c_55; omega
                  refine lv_iload hx hb dX11_countsWithout_180 (lv_at hl 1 rfl) ?_
                  refine lv_iload hx hb dX11_countsWithout_182 (lv_at hl 2 rfl) ?_
                  refine lv_if_eq (tgt := 191) hx hb dX11_countsWithout_184 (by decide) (fun _ => ?_) (fun c_57 => absurd (by decide) c_57)
                  refine lv_iconst (v := 0) hx hb dX11_countsWithout_191 (by decide) ?_
                  refine lv_isub hx hb dX11_countsWithout_192 ?_
                  refine lv_topi (fun x_58 ex_58 => ?_)
                  have tx_58 : x_58.toInt = x_19.toInt - 0 := t_sub (x := x_19.toInt) (y := 0) ex_58 rfl rfl (by omega) (by omega)
                  refine lv_goto (tgt := 197) hx hb dX11_countsWithout_193 (by decide) ?_
                  refine lv_istore_n (lv' := [(3, .int x_58), (6, .int x_19), (5, .int 0), (4, .int i_6), (0, .ref ym), (1, .int i1), (2, .int i2)]) hx hb dX11_countsWithout_197 rfl hl (by decide) rfl (fun ls hl => ?_)
                  obtain ⟨x_59, ex_59⟩ : ∃ y : Int32, y = i_6 + 1 := ⟨_, rfl⟩
                  have tx_59 : x_59.toInt = i_6.toInt + 1 := t_add (x := i_6.toInt) (y := 1) ex_59 rfl rfl (by omega) (by omega)
                  refine lv_iinc (v := x_59) (lv' := [(4, .int x_59), (3, .int x_58), (6, .int x_19), (5, .int 0), (0, .ref ym), (1, .int i1), (2, .int i2)]) hx hb dX11_countsWithout_198 hl (k := 3) rfl (by rw [ex_59]; rfl) (by decide) rfl (fun ls hl => ?_)
                  refine lv_goto (tgt := 28) hx hb dX11_countsWithout_201 (by decide) ?_
                  exact ih_10 (_, _, _, x_59, x_58) ⟨(show 0 ≤ x_59.toInt by omega), (show x_59.toInt ≤ 16 by omega), hP, hS, lv_sub hl [0, 1, 4, 5, 6] rfl⟩ (show (16 - x_59.toInt).toNat < (16 - i_6.toInt).toNat by omega)
            · have c_49 : x_48.toInt = 1 := (c_eq (x := x_48.toInt) (y := 1) rfl rfl).mp c_49
              refine lv_iload_n hx hb dX11_countsWithout_117 rfl (lv_at hl 0 rfl) ?_
              refine lv_iload hx hb dX11_countsWithout_118 (lv_at hl 2 rfl) ?_
              refine lv_if_eq (tgt := 150) hx hb dX11_countsWithout_120 (by decide) (fun _ => ?_) (fun c_60 => absurd (by decide) c_60)
              refine lv_iconst (v := 0) hx hb dX11_countsWithout_150 (by decide) ?_
              refine lv_isub hx hb dX11_countsWithout_151 ?_
              refine lv_topi (fun x_61 ex_61 => ?_)
              refine lv_istore_n (lv' := [(3, .int x_61), (6, .int x_19), (5, .int 0), (4, .int i_6), (0, .ref ym), (1, .int i1), (2, .int i2)]) hx hb dX11_countsWithout_152 rfl hl (by decide) rfl (fun ls hl => ?_)
              refine lv_aload_n hx hb dX11_countsWithout_153 rfl (lv_at hl 4 rfl) ?_
              refine va_get (D := D) (ci := 11) (C := RX11) (T := TX11) (N := 45) hx hb hts iX11 hown hK hP 0 rfl rfl 22 (by decide) (hts _ m1340) (fun _ h9 => h9) rfl dX11_countsWithout_154 ?_
              refine lv_iconst (v := 0) hx hb dX11_countsWithout_157 (by decide) ?_
              refine va_iald (D := D) hx hb hK hP 3 0 rfl rfl (by unfold vp_in; decide) dX11_countsWithout_158 ?_
              refine lv_topi (fun x_62 ex_62 => ?_)
              refine lv_iconst (v := 2) hx hb dX11_countsWithout_159 (by decide) ?_
              refine lv_icmp_ne (tgt := 198) hx hb dX11_countsWithout_160 (by decide) (fun c_63 => ?_) (fun c_63 => ?_)
              · have c_63 : ¬ x_62.toInt = 2 := fun h => c_63 ((c_eq (x := x_62.toInt) (y := 2) rfl rfl).mpr h)
                obtain ⟨x_64, ex_64⟩ : ∃ y : Int32, y = i_6 + 1 := ⟨_, rfl⟩
                have tx_64 : x_64.toInt = i_6.toInt + 1 := t_add (x := i_6.toInt) (y := 1) ex_64 rfl rfl (by omega) (by omega)
                refine lv_iinc (v := x_64) (lv' := [(4, .int x_64), (3, .int x_61), (6, .int x_19), (5, .int 0), (0, .ref ym), (1, .int i1), (2, .int i2)]) hx hb dX11_countsWithout_198 hl (k := 3) rfl (by rw [ex_64]; rfl) (by decide) rfl (fun ls hl => ?_)
                refine lv_goto (tgt := 28) hx hb dX11_countsWithout_201 (by decide) ?_
                exact ih_10 (_, _, _, x_64, x_61) ⟨(show 0 ≤ x_64.toInt by omega), (show x_64.toInt ≤ 16 by omega), hP, hS, lv_sub hl [0, 1, 4, 5, 6] rfl⟩ (show (16 - x_64.toInt).toNat < (16 - i_6.toInt).toNat by omega)
              · have c_63 : x_62.toInt = 2 := (c_eq (x := x_62.toInt) (y := 2) rfl rfl).mp c_63
                refine lv_iload hx hb dX11_countsWithout_163 (lv_at hl 1 rfl) ?_
                refine lv_iload hx hb dX11_countsWithout_165 (lv_at hl 2 rfl) ?_
                refine lv_if_eq (tgt := 174) hx hb dX11_countsWithout_167 (by decide) (fun _ => ?_) (fun c_65 => absurd (by decide) c_65)
                refine lv_iconst (v := 0) hx hb dX11_countsWithout_174 (by decide) ?_
                refine lv_isub hx hb dX11_countsWithout_175 ?_
                refine lv_topi (fun x_66 ex_66 => ?_)
                have tx_66 : x_66.toInt = x_19.toInt - 0 := t_sub (x := x_19.toInt) (y := 0) ex_66 rfl rfl (by omega) (by omega)
                refine lv_iload_n hx hb dX11_countsWithout_176 rfl (lv_at hl 0 rfl) ?_
                refine lv_icmp_le (tgt := 196) hx hb dX11_countsWithout_177 (by decide) (fun c_67 => ?_) (fun c_67 => ?_)
                · have c_67 : x_66.toInt ≤ x_61.toInt := (c_le (x := x_66.toInt) (y := x_61.toInt) rfl rfl).mp c_67
                  refine lv_iload_n hx hb dX11_countsWithout_196 rfl (lv_at hl 0 rfl) ?_
                  refine lv_istore_n (lv' := [(3, .int x_61), (6, .int x_19), (5, .int 0), (4, .int i_6), (0, .ref ym), (1, .int i1), (2, .int i2)]) hx hb dX11_countsWithout_197 rfl hl (by decide) rfl (fun ls hl => ?_)
                  obtain ⟨x_68, ex_68⟩ : ∃ y : Int32, y = i_6 + 1 := ⟨_, rfl⟩
                  have tx_68 : x_68.toInt = i_6.toInt + 1 := t_add (x := i_6.toInt) (y := 1) ex_68 rfl rfl (by omega) (by omega)
                  refine lv_iinc (v := x_68) (lv' := [(4, .int x_68), (3, .int x_61), (6, .int x_19), (5, .int 0), (0, .ref ym), (1, .int i1), (2, .int i2)]) hx hb dX11_countsWithout_198 hl (k := 3) rfl (by rw [ex_68]; rfl) (by decide) rfl (fun ls hl => ?_)
                  refine lv_goto (tgt := 28) hx hb dX11_countsWithout_201 (by decide) ?_
                  exact ih_10 (_, _, _, x_68, x_61) ⟨(show 0 ≤ x_68.toInt by omega), (show x_68.toInt ≤ 16 by omega), hP, hS, lv_sub hl [0, 1, 4, 5, 6] rfl⟩ (show (16 - x_68.toInt).toNat < (16 - i_6.toInt).toNat by omega)
                · have c_67 : x_61.toInt < x_66.toInt := by have h := mt (c_le (x := x_66.toInt) (y := x_61.toInt) rfl rfl).mpr c_67; omega
                  refine lv_iload hx hb dX11_countsWithout_180 (lv_at hl 1 rfl) ?_
                  refine lv_iload hx hb dX11_countsWithout_182 (lv_at hl 2 rfl) ?_
                  refine lv_if_eq (tgt := 191) hx hb dX11_countsWithout_184 (by decide) (fun _ => ?_) (fun c_69 => absurd (by decide) c_69)
                  refine lv_iconst (v := 0) hx hb dX11_countsWithout_191 (by decide) ?_
                  refine lv_isub hx hb dX11_countsWithout_192 ?_
                  refine lv_topi (fun x_70 ex_70 => ?_)
                  have tx_70 : x_70.toInt = x_19.toInt - 0 := t_sub (x := x_19.toInt) (y := 0) ex_70 rfl rfl (by omega) (by omega)
                  refine lv_goto (tgt := 197) hx hb dX11_countsWithout_193 (by decide) ?_
                  refine lv_istore_n (lv' := [(3, .int x_70), (6, .int x_19), (5, .int 0), (4, .int i_6), (0, .ref ym), (1, .int i1), (2, .int i2)]) hx hb dX11_countsWithout_197 rfl hl (by decide) rfl (fun ls hl => ?_)
                  obtain ⟨x_71, ex_71⟩ : ∃ y : Int32, y = i_6 + 1 := ⟨_, rfl⟩
                  have tx_71 : x_71.toInt = i_6.toInt + 1 := t_add (x := i_6.toInt) (y := 1) ex_71 rfl rfl (by omega) (by omega)
                  refine lv_iinc (v := x_71) (lv' := [(4, .int x_71), (3, .int x_70), (6, .int x_19), (5, .int 0), (0, .ref ym), (1, .int i1), (2, .int i2)]) hx hb dX11_countsWithout_198 hl (k := 3) rfl (by rw [ex_71]; rfl) (by decide) rfl (fun ls hl => ?_)
                  refine lv_goto (tgt := 28) hx hb dX11_countsWithout_201 (by decide) ?_
                  exact ih_10 (_, _, _, x_71, x_70) ⟨(show 0 ≤ x_71.toInt by omega), (show x_71.toInt ≤ 16 by omega), hP, hS, lv_sub hl [0, 1, 4, 5, 6] rfl⟩ (show (16 - x_71.toInt).toNat < (16 - i_6.toInt).toNat by omega)
        · have c_17 : x_16.toInt = 1 := (c_eq (x := x_16.toInt) (y := 1) rfl rfl).mp c_17
          refine lv_iconst (v := 1) hx hb dX11_countsWithout_64 (by decide) ?_
          refine lv_goto (tgt := 69) hx hb dX11_countsWithout_65 (by decide) ?_
          refine lv_istore (lv' := [(5, .int 1), (4, .int i_6), (3, .int i_7), (0, .ref ym), (1, .int i1), (2, .int i2)]) hx hb dX11_countsWithout_69 hl (by decide) rfl (fun ls hl => ?_)
          refine lv_aload_n hx hb dX11_countsWithout_71 rfl (lv_at hl 3 rfl) ?_
          refine va_get (D := D) (ci := 11) (C := RX11) (T := TX11) (N := 45) hx hb hts iX11 hown hK hP 0 rfl rfl 24 (by decide) (hts _ m1342) (fun _ h9 => h9) rfl dX11_countsWithout_72 ?_
          refine lv_aload_n hx hb dX11_countsWithout_75 rfl (lv_at hl 3 rfl) ?_
          refine va_get (D := D) (ci := 11) (C := RX11) (T := TX11) (N := 45) hx hb hts iX11 hown hK hP 0 rfl rfl 42 (by decide) (hts _ m1359) (fun _ h9 => h9) rfl dX11_countsWithout_76 ?_
          refine lv_iload hx hb dX11_countsWithout_79 (lv_at hl 1 rfl) ?_
          refine va_iald (D := D) hx hb hK hP 6 0 rfl rfl (v_in (x := i_6.toInt) rfl (by omega) (by omega)) dX11_countsWithout_81 ?_
          refine lv_topi (fun x_72 ex_72 => ?_)
          have tx_72 : 0 ≤ x_72.toInt ∧ x_72.toInt ≤ 15 := rg_at R_c42 ex_72
          refine va_iald (D := D) hx hb hK hP 4 0 rfl rfl (v_in (x := x_72.toInt) rfl (by omega) (by omega)) dX11_countsWithout_82 ?_
          refine lv_topi (fun x_73 ex_73 => ?_)
          have tx_73 : 0 ≤ x_73.toInt ∧ x_73.toInt ≤ 12 := rg_at R_c24 ex_73
          have qx_73 : x_73.toInt = (c24 (x_72.toInt).toNat).toInt := by rw [ex_73, tn (show x_72.toInt = x_72.toInt by omega)]
          have gx_73 : 0 < x_73.toInt := cr_at hcr ex_72 ex_73 rfl (show ((i_6.toInt.toNat : Nat) : Int) < w43.toInt by omega)
          refine lv_istore (lv' := [(6, .int x_73), (5, .int 1), (4, .int i_6), (3, .int i_7), (0, .ref ym), (1, .int i1), (2, .int i2)]) hx hb dX11_countsWithout_83 hl (by decide) rfl (fun ls hl => ?_)
          refine lv_aload_n hx hb dX11_countsWithout_85 rfl (lv_at hl 4 rfl) ?_
          refine va_get (D := D) (ci := 11) (C := RX11) (T := TX11) (N := 45) hx hb hts iX11 hown hK hP 0 rfl rfl 22 (by decide) (hts _ m1340) (fun _ h9 => h9) rfl dX11_countsWithout_86 ?_
          refine lv_iconst (v := 0) hx hb dX11_countsWithout_89 (by decide) ?_
          refine va_iald (D := D) hx hb hK hP 3 0 rfl rfl (by unfold vp_in; decide) dX11_countsWithout_90 ?_
          refine lv_topi (fun x_74 ex_74 => ?_)
          refine lv_if_ne (tgt := 107) hx hb dX11_countsWithout_91 (by decide) (fun c_75 => ?_) (fun c_75 => ?_)
          · have c_75 : ¬ x_74.toInt = 0 := fun h => c_75 ((c_eq (x := x_74.toInt) (y := 0) rfl rfl).mpr h)
            refine lv_aload_n hx hb dX11_countsWithout_107 rfl (lv_at hl 4 rfl) ?_
            refine va_get (D := D) (ci := 11) (C := RX11) (T := TX11) (N := 45) hx hb hts iX11 hown hK hP 0 rfl rfl 22 (by decide) (hts _ m1340) (fun _ h9 => h9) rfl dX11_countsWithout_108 ?_
            refine lv_iconst (v := 0) hx hb dX11_countsWithout_111 (by decide) ?_
            refine va_iald (D := D) hx hb hK hP 3 0 rfl rfl (by unfold vp_in; decide) dX11_countsWithout_112 ?_
            refine lv_topi (fun x_76 ex_76 => ?_)
            refine lv_iconst (v := 1) hx hb dX11_countsWithout_113 (by decide) ?_
            refine lv_icmp_ne (tgt := 153) hx hb dX11_countsWithout_114 (by decide) (fun c_77 => ?_) (fun c_77 => ?_)
            · have c_77 : ¬ x_76.toInt = 1 := fun h => c_77 ((c_eq (x := x_76.toInt) (y := 1) rfl rfl).mpr h)
              refine lv_aload_n hx hb dX11_countsWithout_153 rfl (lv_at hl 4 rfl) ?_
              refine va_get (D := D) (ci := 11) (C := RX11) (T := TX11) (N := 45) hx hb hts iX11 hown hK hP 0 rfl rfl 22 (by decide) (hts _ m1340) (fun _ h9 => h9) rfl dX11_countsWithout_154 ?_
              refine lv_iconst (v := 0) hx hb dX11_countsWithout_157 (by decide) ?_
              refine va_iald (D := D) hx hb hK hP 3 0 rfl rfl (by unfold vp_in; decide) dX11_countsWithout_158 ?_
              refine lv_topi (fun x_78 ex_78 => ?_)
              refine lv_iconst (v := 2) hx hb dX11_countsWithout_159 (by decide) ?_
              refine lv_icmp_ne (tgt := 198) hx hb dX11_countsWithout_160 (by decide) (fun c_79 => ?_) (fun c_79 => ?_)
              · have c_79 : ¬ x_78.toInt = 2 := fun h => c_79 ((c_eq (x := x_78.toInt) (y := 2) rfl rfl).mpr h)
                obtain ⟨x_80, ex_80⟩ : ∃ y : Int32, y = i_6 + 1 := ⟨_, rfl⟩
                have tx_80 : x_80.toInt = i_6.toInt + 1 := t_add (x := i_6.toInt) (y := 1) ex_80 rfl rfl (by omega) (by omega)
                refine lv_iinc (v := x_80) (lv' := [(4, .int x_80), (6, .int x_73), (5, .int 1), (3, .int i_7), (0, .ref ym), (1, .int i1), (2, .int i2)]) hx hb dX11_countsWithout_198 hl (k := 2) rfl (by rw [ex_80]; rfl) (by decide) rfl (fun ls hl => ?_)
                refine lv_goto (tgt := 28) hx hb dX11_countsWithout_201 (by decide) ?_
                exact ih_10 (_, _, _, x_80, i_7) ⟨(show 0 ≤ x_80.toInt by omega), (show x_80.toInt ≤ 16 by omega), hP, hS, lv_sub hl [0, 3, 4, 5, 6] rfl⟩ (show (16 - x_80.toInt).toNat < (16 - i_6.toInt).toNat by omega)
              · have c_79 : x_78.toInt = 2 := (c_eq (x := x_78.toInt) (y := 2) rfl rfl).mp c_79
                refine lv_iload hx hb dX11_countsWithout_163 (lv_at hl 0 rfl) ?_
                refine lv_iload hx hb dX11_countsWithout_165 (lv_at hl 1 rfl) ?_
                refine lv_if_eq (tgt := 174) hx hb dX11_countsWithout_167 (by decide) (fun c_81 => absurd c_81 (by decide)) (fun _ => ?_)
                refine lv_iconst (v := 1) hx hb dX11_countsWithout_170 (by decide) ?_
                refine lv_goto (tgt := 175) hx hb dX11_countsWithout_171 (by decide) ?_
                refine lv_isub hx hb dX11_countsWithout_175 ?_
                refine lv_topi (fun x_82 ex_82 => ?_)
                have tx_82 : x_82.toInt = x_73.toInt - 1 := t_sub (x := x_73.toInt) (y := 1) ex_82 rfl rfl (by omega) (by omega)
                refine lv_iload_n hx hb dX11_countsWithout_176 rfl (lv_at hl 3 rfl) ?_
                refine lv_icmp_le (tgt := 196) hx hb dX11_countsWithout_177 (by decide) (fun c_83 => ?_) (fun c_83 => ?_)
                · have c_83 : x_82.toInt ≤ i_7.toInt := (c_le (x := x_82.toInt) (y := i_7.toInt) rfl rfl).mp c_83
                  refine lv_iload_n hx hb dX11_countsWithout_196 rfl (lv_at hl 3 rfl) ?_
                  refine lv_istore_n (lv' := [(3, .int i_7), (6, .int x_73), (5, .int 1), (4, .int i_6), (0, .ref ym), (1, .int i1), (2, .int i2)]) hx hb dX11_countsWithout_197 rfl hl (by decide) rfl (fun ls hl => ?_)
                  obtain ⟨x_84, ex_84⟩ : ∃ y : Int32, y = i_6 + 1 := ⟨_, rfl⟩
                  have tx_84 : x_84.toInt = i_6.toInt + 1 := t_add (x := i_6.toInt) (y := 1) ex_84 rfl rfl (by omega) (by omega)
                  refine lv_iinc (v := x_84) (lv' := [(4, .int x_84), (3, .int i_7), (6, .int x_73), (5, .int 1), (0, .ref ym), (1, .int i1), (2, .int i2)]) hx hb dX11_countsWithout_198 hl (k := 3) rfl (by rw [ex_84]; rfl) (by decide) rfl (fun ls hl => ?_)
                  refine lv_goto (tgt := 28) hx hb dX11_countsWithout_201 (by decide) ?_
                  exact ih_10 (_, _, _, x_84, i_7) ⟨(show 0 ≤ x_84.toInt by omega), (show x_84.toInt ≤ 16 by omega), hP, hS, lv_sub hl [0, 1, 4, 5, 6] rfl⟩ (show (16 - x_84.toInt).toNat < (16 - i_6.toInt).toNat by omega)
                · have c_83 : i_7.toInt < x_82.toInt := by have h := mt (c_le (x := x_82.toInt) (y := i_7.toInt) rfl rfl).mpr c_83; omega
                  refine lv_iload hx hb dX11_countsWithout_180 (lv_at hl 0 rfl) ?_
                  refine lv_iload hx hb dX11_countsWithout_182 (lv_at hl 1 rfl) ?_
                  refine lv_if_eq (tgt := 191) hx hb dX11_countsWithout_184 (by decide) (fun c_85 => absurd c_85 (by decide)) (fun _ => ?_)
                  refine lv_iconst (v := 1) hx hb dX11_countsWithout_187 (by decide) ?_
                  refine lv_goto (tgt := 192) hx hb dX11_countsWithout_188 (by decide) ?_
                  refine lv_isub hx hb dX11_countsWithout_192 ?_
                  refine lv_topi (fun x_86 ex_86 => ?_)
                  have tx_86 : x_86.toInt = x_73.toInt - 1 := t_sub (x := x_73.toInt) (y := 1) ex_86 rfl rfl (by omega) (by omega)
                  refine lv_goto (tgt := 197) hx hb dX11_countsWithout_193 (by decide) ?_
                  refine lv_istore_n (lv' := [(3, .int x_86), (6, .int x_73), (5, .int 1), (4, .int i_6), (0, .ref ym), (1, .int i1), (2, .int i2)]) hx hb dX11_countsWithout_197 rfl hl (by decide) rfl (fun ls hl => ?_)
                  obtain ⟨x_87, ex_87⟩ : ∃ y : Int32, y = i_6 + 1 := ⟨_, rfl⟩
                  have tx_87 : x_87.toInt = i_6.toInt + 1 := t_add (x := i_6.toInt) (y := 1) ex_87 rfl rfl (by omega) (by omega)
                  refine lv_iinc (v := x_87) (lv' := [(4, .int x_87), (3, .int x_86), (6, .int x_73), (5, .int 1), (0, .ref ym), (1, .int i1), (2, .int i2)]) hx hb dX11_countsWithout_198 hl (k := 3) rfl (by rw [ex_87]; rfl) (by decide) rfl (fun ls hl => ?_)
                  refine lv_goto (tgt := 28) hx hb dX11_countsWithout_201 (by decide) ?_
                  exact ih_10 (_, _, _, x_87, x_86) ⟨(show 0 ≤ x_87.toInt by omega), (show x_87.toInt ≤ 16 by omega), hP, hS, lv_sub hl [0, 1, 4, 5, 6] rfl⟩ (show (16 - x_87.toInt).toNat < (16 - i_6.toInt).toNat by omega)
            · have c_77 : x_76.toInt = 1 := (c_eq (x := x_76.toInt) (y := 1) rfl rfl).mp c_77
              refine lv_iload_n hx hb dX11_countsWithout_117 rfl (lv_at hl 3 rfl) ?_
              refine lv_iload hx hb dX11_countsWithout_118 (lv_at hl 1 rfl) ?_
              refine lv_if_eq (tgt := 150) hx hb dX11_countsWithout_120 (by decide) (fun c_88 => absurd c_88 (by decide)) (fun _ => ?_)
              refine lv_aload_n hx hb dX11_countsWithout_123 rfl (lv_at hl 4 rfl) ?_
              refine lv_aload_n hx hb dX11_countsWithout_124 rfl (lv_at hl 4 rfl) ?_
              refine va_get (D := D) (ci := 11) (C := RX11) (T := TX11) (N := 45) hx hb hts iX11 hown hK hP 0 rfl rfl 25 (by decide) (hts _ m1343) (fun _ h9 => h9) rfl dX11_countsWithout_125 ?_
              refine lv_bipush (v := 12) hx hb dX11_countsWithout_128 (by decide) ?_
              refine lv_aload_n hx hb dX11_countsWithout_130 rfl (lv_at hl 4 rfl) ?_
              refine va_get (D := D) (ci := 11) (C := RX11) (T := TX11) (N := 45) hx hb hts iX11 hown hK hP 0 rfl rfl 42 (by decide) (hts _ m1359) (fun _ h9 => h9) rfl dX11_countsWithout_131 ?_
              refine lv_iload hx hb dX11_countsWithout_134 (lv_at hl 2 rfl) ?_
              refine va_iald (D := D) hx hb hK hP 6 0 rfl rfl (v_in (x := i_6.toInt) rfl (by omega) (by omega)) dX11_countsWithout_136 ?_
              refine lv_topi (fun x_89 ex_89 => ?_)
              have tx_89 : 0 ≤ x_89.toInt ∧ x_89.toInt ≤ 15 := rg_at R_c42 ex_89
              refine lv_imul hx hb dX11_countsWithout_137 ?_
              refine lv_topi (fun x_90 ex_90 => ?_)
              have tx_90 : x_90.toInt = 12 * x_89.toInt := t_mul (x := 12) (y := x_89.toInt) ex_90 rfl rfl (by omega) (by omega)
              refine lv_iload hx hb dX11_countsWithout_138 (lv_at hl 0 rfl) ?_
              refine lv_iadd hx hb dX11_countsWithout_140 ?_
              refine lv_topi (fun x_91 ex_91 => ?_)
              have tx_91 : x_91.toInt = x_90.toInt + x_73.toInt := t_add (x := x_90.toInt) (y := x_73.toInt) ex_91 rfl rfl (by omega) (by omega)
              refine lv_iconst (v := 1) hx hb dX11_countsWithout_141 (by decide) ?_
              refine lv_isub hx hb dX11_countsWithout_142 ?_
              refine lv_topi (fun x_92 ex_92 => ?_)
              have tx_92 : x_92.toInt = x_91.toInt - 1 := t_sub (x := x_91.toInt) (y := 1) ex_92 rfl rfl (by omega) (by omega)
              refine va_iald (D := D) hx hb hK hP 5 0 rfl rfl (v_in (x := x_92.toInt) rfl (by omega) (by omega)) dX11_countsWithout_143 ?_
              refine lv_topi (fun x_93 ex_93 => ?_)
              have tx_93 : 0 ≤ x_93.toInt ∧ x_93.toInt ≤ 4 := rg_at R_c25 ex_93
              refine puI (cV (As := [.int x_93]) (rest := [.int i_7]) ⟨hx, hb, hml, hown, hts⟩ (c_X11_weightOf2 l D T y1 y16 y17 y18 y19 y2 y20 y21 y22 y23 y24 y25 y26 y27 y28 y29 y3 y30 y31 y32 y36 y4 y40 y41 y42 y5 ym x_93 w0 w10 w12 w13 w14 w15 w33 w34 w35 w37 w38 w39 w43 w6 w7 w8 w9 v11 v44 c19 ⟨by omega, by omega⟩ ⟨by omega, by omega⟩ ⟨by omega, by omega⟩) k_X11_weightOf v_X11_weightOf m1626 rfl rfl ⟨(Nat.le_of_ble_eq_true rfl), (Nat.le_of_ble_eq_true rfl)⟩ (preP hC (hP.sub (ws' := [(ym, .inr (11, [.int w0, .ref y1, .ref y2, .ref y3, .ref y4, .ref y5, .int w6, .int w7, .int w8, .int w9, .int w10, .long v11, .int w12, .int w13, .int w14, .int w15, .ref y16, .ref y17, .ref y18, .ref y19, .ref y20, .ref y21, .ref y22, .ref y23, .ref y24, .ref y25, .ref y26, .ref y27, .ref y28, .ref y29, .ref y30, .ref y31, .ref y32, .int w33, .int w34, .int w35, .ref y36, .int w37, .int w38, .int w39, .ref y40, .ref y41, .ref y42, .int w43, .long v44])), (y19, .inl (T 0, 75, .inl c19))]) [0, 2] rfl)) (va_recv hK hP (ci := 11) (q0 := 0) rfl rfl) rfl hl.1 rfl (Nat.le_of_ble_eq_true rfl) dX11_countsWithout_144 ⟨(Nat.le_of_ble_eq_true rfl), (Nat.le_of_ble_eq_true rfl)⟩) hS hP (fun r_94 H locs hw hP hS => ?_)
              have w_96 : (r_94 = c19 (3 * x_93.toInt).toNat) := hw
              obtain c_97 := w_96
              refine lv_goto (tgt := 151) hx hb dX11_countsWithout_147 (by decide) ?_
              refine lv_isub hx hb dX11_countsWithout_151 ?_
              refine lv_topi (fun x_98 ex_98 => ?_)
              refine lv_istore_n (lv' := [(3, .int x_98), (6, .int x_73), (5, .int 1), (4, .int i_6), (0, .ref ym), (1, .int i1), (2, .int i2)]) hx hb dX11_countsWithout_152 rfl hl (by decide) rfl (fun ls hl => ?_)
              refine lv_aload_n hx hb dX11_countsWithout_153 rfl (lv_at hl 4 rfl) ?_
              refine va_get (D := D) (ci := 11) (C := RX11) (T := TX11) (N := 45) hx hb hts iX11 hown hK hP 0 rfl rfl 22 (by decide) (hts _ m1340) (fun _ h9 => h9) rfl dX11_countsWithout_154 ?_
              refine lv_iconst (v := 0) hx hb dX11_countsWithout_157 (by decide) ?_
              refine va_iald (D := D) hx hb hK hP 3 0 rfl rfl (by unfold vp_in; decide) dX11_countsWithout_158 ?_
              refine lv_topi (fun x_99 ex_99 => ?_)
              refine lv_iconst (v := 2) hx hb dX11_countsWithout_159 (by decide) ?_
              refine lv_icmp_ne (tgt := 198) hx hb dX11_countsWithout_160 (by decide) (fun c_100 => ?_) (fun c_100 => ?_)
              · have c_100 : ¬ x_99.toInt = 2 := fun h => c_100 ((c_eq (x := x_99.toInt) (y := 2) rfl rfl).mpr h)
                obtain ⟨x_101, ex_101⟩ : ∃ y : Int32, y = i_6 + 1 := ⟨_, rfl⟩
                have tx_101 : x_101.toInt = i_6.toInt + 1 := t_add (x := i_6.toInt) (y := 1) ex_101 rfl rfl (by omega) (by omega)
                refine lv_iinc (v := x_101) (lv' := [(4, .int x_101), (3, .int x_98), (6, .int x_73), (5, .int 1), (0, .ref ym), (1, .int i1), (2, .int i2)]) hx hb dX11_countsWithout_198 hl (k := 3) rfl (by rw [ex_101]; rfl) (by decide) rfl (fun ls hl => ?_)
                refine lv_goto (tgt := 28) hx hb dX11_countsWithout_201 (by decide) ?_
                exact ih_10 (_, _, _, x_101, x_98) ⟨(show 0 ≤ x_101.toInt by omega), (show x_101.toInt ≤ 16 by omega), hP, hS, lv_sub hl [0, 1, 4, 5, 6] rfl⟩ (show (16 - x_101.toInt).toNat < (16 - i_6.toInt).toNat by omega)
              · have c_100 : x_99.toInt = 2 := (c_eq (x := x_99.toInt) (y := 2) rfl rfl).mp c_100
                refine lv_iload hx hb dX11_countsWithout_163 (lv_at hl 1 rfl) ?_
                refine lv_iload hx hb dX11_countsWithout_165 (lv_at hl 2 rfl) ?_
                refine lv_if_eq (tgt := 174) hx hb dX11_countsWithout_167 (by decide) (fun c_102 => absurd c_102 (by decide)) (fun _ => ?_)
                refine lv_iconst (v := 1) hx hb dX11_countsWithout_170 (by decide) ?_
                refine lv_goto (tgt := 175) hx hb dX11_countsWithout_171 (by decide) ?_
                refine lv_isub hx hb dX11_countsWithout_175 ?_
                refine lv_topi (fun x_103 ex_103 => ?_)
                have tx_103 : x_103.toInt = x_73.toInt - 1 := t_sub (x := x_73.toInt) (y := 1) ex_103 rfl rfl (by omega) (by omega)
                refine lv_iload_n hx hb dX11_countsWithout_176 rfl (lv_at hl 0 rfl) ?_
                refine lv_icmp_le (tgt := 196) hx hb dX11_countsWithout_177 (by decide) (fun c_104 => ?_) (fun c_104 => ?_)
                · have c_104 : x_103.toInt ≤ x_98.toInt := (c_le (x := x_103.toInt) (y := x_98.toInt) rfl rfl).mp c_104
                  refine lv_iload_n hx hb dX11_countsWithout_196 rfl (lv_at hl 0 rfl) ?_
                  refine lv_istore_n (lv' := [(3, .int x_98), (6, .int x_73), (5, .int 1), (4, .int i_6), (0, .ref ym), (1, .int i1), (2, .int i2)]) hx hb dX11_countsWithout_197 rfl hl (by decide) rfl (fun ls hl => ?_)
                  obtain ⟨x_105, ex_105⟩ : ∃ y : Int32, y = i_6 + 1 := ⟨_, rfl⟩
                  have tx_105 : x_105.toInt = i_6.toInt + 1 := t_add (x := i_6.toInt) (y := 1) ex_105 rfl rfl (by omega) (by omega)
                  refine lv_iinc (v := x_105) (lv' := [(4, .int x_105), (3, .int x_98), (6, .int x_73), (5, .int 1), (0, .ref ym), (1, .int i1), (2, .int i2)]) hx hb dX11_countsWithout_198 hl (k := 3) rfl (by rw [ex_105]; rfl) (by decide) rfl (fun ls hl => ?_)
                  refine lv_goto (tgt := 28) hx hb dX11_countsWithout_201 (by decide) ?_
                  exact ih_10 (_, _, _, x_105, x_98) ⟨(show 0 ≤ x_105.toInt by omega), (show x_105.toInt ≤ 16 by omega), hP, hS, lv_sub hl [0, 1, 4, 5, 6] rfl⟩ (show (16 - x_105.toInt).toNat < (16 - i_6.toInt).toNat by omega)
                · have c_104 : x_98.toInt < x_103.toInt := by have h := mt (c_le (x := x_103.toInt) (y := x_98.toInt) rfl rfl).mpr c_104; omega
                  refine lv_iload hx hb dX11_countsWithout_180 (lv_at hl 1 rfl) ?_
                  refine lv_iload hx hb dX11_countsWithout_182 (lv_at hl 2 rfl) ?_
                  refine lv_if_eq (tgt := 191) hx hb dX11_countsWithout_184 (by decide) (fun c_106 => absurd c_106 (by decide)) (fun _ => ?_)
                  refine lv_iconst (v := 1) hx hb dX11_countsWithout_187 (by decide) ?_
                  refine lv_goto (tgt := 192) hx hb dX11_countsWithout_188 (by decide) ?_
                  refine lv_isub hx hb dX11_countsWithout_192 ?_
                  refine lv_topi (fun x_107 ex_107 => ?_)
                  have tx_107 : x_107.toInt = x_73.toInt - 1 := t_sub (x := x_73.toInt) (y := 1) ex_107 rfl rfl (by omega) (by omega)
                  refine lv_goto (tgt := 197) hx hb dX11_countsWithout_193 (by decide) ?_
                  refine lv_istore_n (lv' := [(3, .int x_107), (6, .int x_73), (5, .int 1), (4, .int i_6), (0, .ref ym), (1, .int i1), (2, .int i2)]) hx hb dX11_countsWithout_197 rfl hl (by decide) rfl (fun ls hl => ?_)
                  obtain ⟨x_108, ex_108⟩ : ∃ y : Int32, y = i_6 + 1 := ⟨_, rfl⟩
                  have tx_108 : x_108.toInt = i_6.toInt + 1 := t_add (x := i_6.toInt) (y := 1) ex_108 rfl rfl (by omega) (by omega)
                  refine lv_iinc (v := x_108) (lv' := [(4, .int x_108), (3, .int x_107), (6, .int x_73), (5, .int 1), (0, .ref ym), (1, .int i1), (2, .int i2)]) hx hb dX11_countsWithout_198 hl (k := 3) rfl (by rw [ex_108]; rfl) (by decide) rfl (fun ls hl => ?_)
                  refine lv_goto (tgt := 28) hx hb dX11_countsWithout_201 (by decide) ?_
                  exact ih_10 (_, _, _, x_108, x_107) ⟨(show 0 ≤ x_108.toInt by omega), (show x_108.toInt ≤ 16 by omega), hP, hS, lv_sub hl [0, 1, 4, 5, 6] rfl⟩ (show (16 - x_108.toInt).toNat < (16 - i_6.toInt).toNat by omega)
          · have c_75 : x_74.toInt = 0 := (c_eq (x := x_74.toInt) (y := 0) rfl rfl).mp c_75
            refine lv_iload_n hx hb dX11_countsWithout_94 rfl (lv_at hl 3 rfl) ?_
            refine lv_iload hx hb dX11_countsWithout_95 (lv_at hl 1 rfl) ?_
            refine lv_if_eq (tgt := 104) hx hb dX11_countsWithout_97 (by decide) (fun c_109 => absurd c_109 (by decide)) (fun _ => ?_)
            refine lv_iconst (v := 1) hx hb dX11_countsWithout_100 (by decide) ?_
            refine lv_goto (tgt := 105) hx hb dX11_countsWithout_101 (by decide) ?_
            refine lv_isub hx hb dX11_countsWithout_105 ?_
            refine lv_topi (fun x_110 ex_110 => ?_)
            refine lv_istore_n (lv' := [(3, .int x_110), (6, .int x_73), (5, .int 1), (4, .int i_6), (0, .ref ym), (1, .int i1), (2, .int i2)]) hx hb dX11_countsWithout_106 rfl hl (by decide) rfl (fun ls hl => ?_)
            refine lv_aload_n hx hb dX11_countsWithout_107 rfl (lv_at hl 4 rfl) ?_
            refine va_get (D := D) (ci := 11) (C := RX11) (T := TX11) (N := 45) hx hb hts iX11 hown hK hP 0 rfl rfl 22 (by decide) (hts _ m1340) (fun _ h9 => h9) rfl dX11_countsWithout_108 ?_
            refine lv_iconst (v := 0) hx hb dX11_countsWithout_111 (by decide) ?_
            refine va_iald (D := D) hx hb hK hP 3 0 rfl rfl (by unfold vp_in; decide) dX11_countsWithout_112 ?_
            refine lv_topi (fun x_111 ex_111 => ?_)
            refine lv_iconst (v := 1) hx hb dX11_countsWithout_113 (by decide) ?_
            refine lv_icmp_ne (tgt := 153) hx hb dX11_countsWithout_114 (by decide) (fun c_112 => ?_) (fun c_112 => ?_)
            · have c_112 : ¬ x_111.toInt = 1 := fun h => c_112 ((c_eq (x := x_111.toInt) (y := 1) rfl rfl).mpr h)
              refine lv_aload_n hx hb dX11_countsWithout_153 rfl (lv_at hl 4 rfl) ?_
              refine va_get (D := D) (ci := 11) (C := RX11) (T := TX11) (N := 45) hx hb hts iX11 hown hK hP 0 rfl rfl 22 (by decide) (hts _ m1340) (fun _ h9 => h9) rfl dX11_countsWithout_154 ?_
              refine lv_iconst (v := 0) hx hb dX11_countsWithout_157 (by decide) ?_
              refine va_iald (D := D) hx hb hK hP 3 0 rfl rfl (by unfold vp_in; decide) dX11_countsWithout_158 ?_
              refine lv_topi (fun x_113 ex_113 => ?_)
              refine lv_iconst (v := 2) hx hb dX11_countsWithout_159 (by decide) ?_
              refine lv_icmp_ne (tgt := 198) hx hb dX11_countsWithout_160 (by decide) (fun c_114 => ?_) (fun c_114 => ?_)
              · have c_114 : ¬ x_113.toInt = 2 := fun h => c_114 ((c_eq (x := x_113.toInt) (y := 2) rfl rfl).mpr h)
                obtain ⟨x_115, ex_115⟩ : ∃ y : Int32, y = i_6 + 1 := ⟨_, rfl⟩
                have tx_115 : x_115.toInt = i_6.toInt + 1 := t_add (x := i_6.toInt) (y := 1) ex_115 rfl rfl (by omega) (by omega)
                refine lv_iinc (v := x_115) (lv' := [(4, .int x_115), (3, .int x_110), (6, .int x_73), (5, .int 1), (0, .ref ym), (1, .int i1), (2, .int i2)]) hx hb dX11_countsWithout_198 hl (k := 3) rfl (by rw [ex_115]; rfl) (by decide) rfl (fun ls hl => ?_)
                refine lv_goto (tgt := 28) hx hb dX11_countsWithout_201 (by decide) ?_
                exact ih_10 (_, _, _, x_115, x_110) ⟨(show 0 ≤ x_115.toInt by omega), (show x_115.toInt ≤ 16 by omega), hP, hS, lv_sub hl [0, 1, 4, 5, 6] rfl⟩ (show (16 - x_115.toInt).toNat < (16 - i_6.toInt).toNat by omega)
              · have c_114 : x_113.toInt = 2 := (c_eq (x := x_113.toInt) (y := 2) rfl rfl).mp c_114
                refine lv_iload hx hb dX11_countsWithout_163 (lv_at hl 1 rfl) ?_
                refine lv_iload hx hb dX11_countsWithout_165 (lv_at hl 2 rfl) ?_
                refine lv_if_eq (tgt := 174) hx hb dX11_countsWithout_167 (by decide) (fun c_116 => absurd c_116 (by decide)) (fun _ => ?_)
                refine lv_iconst (v := 1) hx hb dX11_countsWithout_170 (by decide) ?_
                refine lv_goto (tgt := 175) hx hb dX11_countsWithout_171 (by decide) ?_
                refine lv_isub hx hb dX11_countsWithout_175 ?_
                refine lv_topi (fun x_117 ex_117 => ?_)
                have tx_117 : x_117.toInt = x_73.toInt - 1 := t_sub (x := x_73.toInt) (y := 1) ex_117 rfl rfl (by omega) (by omega)
                refine lv_iload_n hx hb dX11_countsWithout_176 rfl (lv_at hl 0 rfl) ?_
                refine lv_icmp_le (tgt := 196) hx hb dX11_countsWithout_177 (by decide) (fun c_118 => ?_) (fun c_118 => ?_)
                · have c_118 : x_117.toInt ≤ x_110.toInt := (c_le (x := x_117.toInt) (y := x_110.toInt) rfl rfl).mp c_118
                  refine lv_iload_n hx hb dX11_countsWithout_196 rfl (lv_at hl 0 rfl) ?_
                  refine lv_istore_n (lv' := [(3, .int x_110), (6, .int x_73), (5, .int 1), (4, .int i_6), (0, .ref ym), (1, .int i1), (2, .int i2)]) hx hb dX11_countsWithout_197 rfl hl (by decide) rfl (fun ls hl => ?_)
                  obtain ⟨x_119, ex_119⟩ : ∃ y : Int32, y = i_6 + 1 := ⟨_, rfl⟩
                  have tx_119 : x_119.toInt = i_6.toInt + 1 := t_add (x := i_6.toInt) (y := 1) ex_119 rfl rfl (by omega) (by omega)
                  refine lv_iinc (v := x_119) (lv' := [(4, .int x_119), (3, .int x_110), (6, .int x_73), (5, .int 1), (0, .ref ym), (1, .int i1), (2, .int i2)]) hx hb dX11_countsWithout_198 hl (k := 3) rfl (by rw [ex_119]; rfl) (by decide) rfl (fun ls hl => ?_)
                  refine lv_goto (tgt := 28) hx hb dX11_countsWithout_201 (by decide) ?_
                  exact ih_10 (_, _, _, x_119, x_110) ⟨(show 0 ≤ x_119.toInt by omega), (show x_119.toInt ≤ 16 by omega), hP, hS, lv_sub hl [0, 1, 4, 5, 6] rfl⟩ (show (16 - x_119.toInt).toNat < (16 - i_6.toInt).toNat by omega)
                · have c_118 : x_110.toInt < x_117.toInt := by have h := mt (c_le (x := x_117.toInt) (y := x_110.toInt) rfl rfl).mpr c_118; omega
                  refine lv_iload hx hb dX11_countsWithout_180 (lv_at hl 1 rfl) ?_
                  refine lv_iload hx hb dX11_countsWithout_182 (lv_at hl 2 rfl) ?_
                  refine lv_if_eq (tgt := 191) hx hb dX11_countsWithout_184 (by decide) (fun c_120 => absurd c_120 (by decide)) (fun _ => ?_)
                  refine lv_iconst (v := 1) hx hb dX11_countsWithout_187 (by decide) ?_
                  refine lv_goto (tgt := 192) hx hb dX11_countsWithout_188 (by decide) ?_
                  refine lv_isub hx hb dX11_countsWithout_192 ?_
                  refine lv_topi (fun x_121 ex_121 => ?_)
                  have tx_121 : x_121.toInt = x_73.toInt - 1 := t_sub (x := x_73.toInt) (y := 1) ex_121 rfl rfl (by omega) (by omega)
                  refine lv_goto (tgt := 197) hx hb dX11_countsWithout_193 (by decide) ?_
                  refine lv_istore_n (lv' := [(3, .int x_121), (6, .int x_73), (5, .int 1), (4, .int i_6), (0, .ref ym), (1, .int i1), (2, .int i2)]) hx hb dX11_countsWithout_197 rfl hl (by decide) rfl (fun ls hl => ?_)
                  obtain ⟨x_122, ex_122⟩ : ∃ y : Int32, y = i_6 + 1 := ⟨_, rfl⟩
                  have tx_122 : x_122.toInt = i_6.toInt + 1 := t_add (x := i_6.toInt) (y := 1) ex_122 rfl rfl (by omega) (by omega)
                  refine lv_iinc (v := x_122) (lv' := [(4, .int x_122), (3, .int x_121), (6, .int x_73), (5, .int 1), (0, .ref ym), (1, .int i1), (2, .int i2)]) hx hb dX11_countsWithout_198 hl (k := 3) rfl (by rw [ex_122]; rfl) (by decide) rfl (fun ls hl => ?_)
                  refine lv_goto (tgt := 28) hx hb dX11_countsWithout_201 (by decide) ?_
                  exact ih_10 (_, _, _, x_122, x_121) ⟨(show 0 ≤ x_122.toInt by omega), (show x_122.toInt ≤ 16 by omega), hP, hS, lv_sub hl [0, 1, 4, 5, 6] rfl⟩ (show (16 - x_122.toInt).toNat < (16 - i_6.toInt).toNat by omega)
            · have c_112 : x_111.toInt = 1 := (c_eq (x := x_111.toInt) (y := 1) rfl rfl).mp c_112
              refine lv_iload_n hx hb dX11_countsWithout_117 rfl (lv_at hl 0 rfl) ?_
              refine lv_iload hx hb dX11_countsWithout_118 (lv_at hl 2 rfl) ?_
              refine lv_if_eq (tgt := 150) hx hb dX11_countsWithout_120 (by decide) (fun c_123 => absurd c_123 (by decide)) (fun _ => ?_)
              refine lv_aload_n hx hb dX11_countsWithout_123 rfl (lv_at hl 4 rfl) ?_
              refine lv_aload_n hx hb dX11_countsWithout_124 rfl (lv_at hl 4 rfl) ?_
              refine va_get (D := D) (ci := 11) (C := RX11) (T := TX11) (N := 45) hx hb hts iX11 hown hK hP 0 rfl rfl 25 (by decide) (hts _ m1343) (fun _ h9 => h9) rfl dX11_countsWithout_125 ?_
              refine lv_bipush (v := 12) hx hb dX11_countsWithout_128 (by decide) ?_
              refine lv_aload_n hx hb dX11_countsWithout_130 rfl (lv_at hl 4 rfl) ?_
              refine va_get (D := D) (ci := 11) (C := RX11) (T := TX11) (N := 45) hx hb hts iX11 hown hK hP 0 rfl rfl 42 (by decide) (hts _ m1359) (fun _ h9 => h9) rfl dX11_countsWithout_131 ?_
              refine lv_iload hx hb dX11_countsWithout_134 (lv_at hl 3 rfl) ?_
              refine va_iald (D := D) hx hb hK hP 6 0 rfl rfl (v_in (x := i_6.toInt) rfl (by omega) (by omega)) dX11_countsWithout_136 ?_
              refine lv_topi (fun x_124 ex_124 => ?_)
              have tx_124 : 0 ≤ x_124.toInt ∧ x_124.toInt ≤ 15 := rg_at R_c42 ex_124
              refine lv_imul hx hb dX11_countsWithout_137 ?_
              refine lv_topi (fun x_125 ex_125 => ?_)
              have tx_125 : x_125.toInt = 12 * x_124.toInt := t_mul (x := 12) (y := x_124.toInt) ex_125 rfl rfl (by omega) (by omega)
              refine lv_iload hx hb dX11_countsWithout_138 (lv_at hl 1 rfl) ?_
              refine lv_iadd hx hb dX11_countsWithout_140 ?_
              refine lv_topi (fun x_126 ex_126 => ?_)
              have tx_126 : x_126.toInt = x_125.toInt + x_73.toInt := t_add (x := x_125.toInt) (y := x_73.toInt) ex_126 rfl rfl (by omega) (by omega)
              refine lv_iconst (v := 1) hx hb dX11_countsWithout_141 (by decide) ?_
              refine lv_isub hx hb dX11_countsWithout_142 ?_
              refine lv_topi (fun x_127 ex_127 => ?_)
              have tx_127 : x_127.toInt = x_126.toInt - 1 := t_sub (x := x_126.toInt) (y := 1) ex_127 rfl rfl (by omega) (by omega)
              refine va_iald (D := D) hx hb hK hP 5 0 rfl rfl (v_in (x := x_127.toInt) rfl (by omega) (by omega)) dX11_countsWithout_143 ?_
              refine lv_topi (fun x_128 ex_128 => ?_)
              have tx_128 : 0 ≤ x_128.toInt ∧ x_128.toInt ≤ 4 := rg_at R_c25 ex_128
              refine puI (cV (As := [.int x_128]) (rest := [.int x_110]) ⟨hx, hb, hml, hown, hts⟩ (c_X11_weightOf2 l D T y1 y16 y17 y18 y19 y2 y20 y21 y22 y23 y24 y25 y26 y27 y28 y29 y3 y30 y31 y32 y36 y4 y40 y41 y42 y5 ym x_128 w0 w10 w12 w13 w14 w15 w33 w34 w35 w37 w38 w39 w43 w6 w7 w8 w9 v11 v44 c19 ⟨by omega, by omega⟩ ⟨by omega, by omega⟩ ⟨by omega, by omega⟩) k_X11_weightOf v_X11_weightOf m1626 rfl rfl ⟨(Nat.le_of_ble_eq_true rfl), (Nat.le_of_ble_eq_true rfl)⟩ (preP hC (hP.sub (ws' := [(ym, .inr (11, [.int w0, .ref y1, .ref y2, .ref y3, .ref y4, .ref y5, .int w6, .int w7, .int w8, .int w9, .int w10, .long v11, .int w12, .int w13, .int w14, .int w15, .ref y16, .ref y17, .ref y18, .ref y19, .ref y20, .ref y21, .ref y22, .ref y23, .ref y24, .ref y25, .ref y26, .ref y27, .ref y28, .ref y29, .ref y30, .ref y31, .ref y32, .int w33, .int w34, .int w35, .ref y36, .int w37, .int w38, .int w39, .ref y40, .ref y41, .ref y42, .int w43, .long v44])), (y19, .inl (T 0, 75, .inl c19))]) [0, 2] rfl)) (va_recv hK hP (ci := 11) (q0 := 0) rfl rfl) rfl hl.1 rfl (Nat.le_of_ble_eq_true rfl) dX11_countsWithout_144 ⟨(Nat.le_of_ble_eq_true rfl), (Nat.le_of_ble_eq_true rfl)⟩) hS hP (fun r_129 H locs hw hP hS => ?_)
              have w_131 : (r_129 = c19 (3 * x_128.toInt).toNat) := hw
              obtain c_132 := w_131
              refine lv_goto (tgt := 151) hx hb dX11_countsWithout_147 (by decide) ?_
              refine lv_isub hx hb dX11_countsWithout_151 ?_
              refine lv_topi (fun x_133 ex_133 => ?_)
              refine lv_istore_n (lv' := [(3, .int x_133), (6, .int x_73), (5, .int 1), (4, .int i_6), (0, .ref ym), (1, .int i1), (2, .int i2)]) hx hb dX11_countsWithout_152 rfl hl (by decide) rfl (fun ls hl => ?_)
              refine lv_aload_n hx hb dX11_countsWithout_153 rfl (lv_at hl 4 rfl) ?_
              refine va_get (D := D) (ci := 11) (C := RX11) (T := TX11) (N := 45) hx hb hts iX11 hown hK hP 0 rfl rfl 22 (by decide) (hts _ m1340) (fun _ h9 => h9) rfl dX11_countsWithout_154 ?_
              refine lv_iconst (v := 0) hx hb dX11_countsWithout_157 (by decide) ?_
              refine va_iald (D := D) hx hb hK hP 3 0 rfl rfl (by unfold vp_in; decide) dX11_countsWithout_158 ?_
              refine lv_topi (fun x_134 ex_134 => ?_)
              refine lv_iconst (v := 2) hx hb dX11_countsWithout_159 (by decide) ?_
              refine lv_icmp_ne (tgt := 198) hx hb dX11_countsWithout_160 (by decide) (fun c_135 => ?_) (fun c_135 => ?_)
              · have c_135 : ¬ x_134.toInt = 2 := fun h => c_135 ((c_eq (x := x_134.toInt) (y := 2) rfl rfl).mpr h)
                obtain ⟨x_136, ex_136⟩ : ∃ y : Int32, y = i_6 + 1 := ⟨_, rfl⟩
                have tx_136 : x_136.toInt = i_6.toInt + 1 := t_add (x := i_6.toInt) (y := 1) ex_136 rfl rfl (by omega) (by omega)
                refine lv_iinc (v := x_136) (lv' := [(4, .int x_136), (3, .int x_133), (6, .int x_73), (5, .int 1), (0, .ref ym), (1, .int i1), (2, .int i2)]) hx hb dX11_countsWithout_198 hl (k := 3) rfl (by rw [ex_136]; rfl) (by decide) rfl (fun ls hl => ?_)
                refine lv_goto (tgt := 28) hx hb dX11_countsWithout_201 (by decide) ?_
                exact ih_10 (_, _, _, x_136, x_133) ⟨(show 0 ≤ x_136.toInt by omega), (show x_136.toInt ≤ 16 by omega), hP, hS, lv_sub hl [0, 1, 4, 5, 6] rfl⟩ (show (16 - x_136.toInt).toNat < (16 - i_6.toInt).toNat by omega)
              · have c_135 : x_134.toInt = 2 := (c_eq (x := x_134.toInt) (y := 2) rfl rfl).mp c_135
                refine lv_iload hx hb dX11_countsWithout_163 (lv_at hl 1 rfl) ?_
                refine lv_iload hx hb dX11_countsWithout_165 (lv_at hl 2 rfl) ?_
                refine lv_if_eq (tgt := 174) hx hb dX11_countsWithout_167 (by decide) (fun c_137 => absurd c_137 (by decide)) (fun _ => ?_)
                refine lv_iconst (v := 1) hx hb dX11_countsWithout_170 (by decide) ?_
                refine lv_goto (tgt := 175) hx hb dX11_countsWithout_171 (by decide) ?_
                refine lv_isub hx hb dX11_countsWithout_175 ?_
                refine lv_topi (fun x_138 ex_138 => ?_)
                have tx_138 : x_138.toInt = x_73.toInt - 1 := t_sub (x := x_73.toInt) (y := 1) ex_138 rfl rfl (by omega) (by omega)
                refine lv_iload_n hx hb dX11_countsWithout_176 rfl (lv_at hl 0 rfl) ?_
                refine lv_icmp_le (tgt := 196) hx hb dX11_countsWithout_177 (by decide) (fun c_139 => ?_) (fun c_139 => ?_)
                · have c_139 : x_138.toInt ≤ x_133.toInt := (c_le (x := x_138.toInt) (y := x_133.toInt) rfl rfl).mp c_139
                  refine lv_iload_n hx hb dX11_countsWithout_196 rfl (lv_at hl 0 rfl) ?_
                  refine lv_istore_n (lv' := [(3, .int x_133), (6, .int x_73), (5, .int 1), (4, .int i_6), (0, .ref ym), (1, .int i1), (2, .int i2)]) hx hb dX11_countsWithout_197 rfl hl (by decide) rfl (fun ls hl => ?_)
                  obtain ⟨x_140, ex_140⟩ : ∃ y : Int32, y = i_6 + 1 := ⟨_, rfl⟩
                  have tx_140 : x_140.toInt = i_6.toInt + 1 := t_add (x := i_6.toInt) (y := 1) ex_140 rfl rfl (by omega) (by omega)
                  refine lv_iinc (v := x_140) (lv' := [(4, .int x_140), (3, .int x_133), (6, .int x_73), (5, .int 1), (0, .ref ym), (1, .int i1), (2, .int i2)]) hx hb dX11_countsWithout_198 hl (k := 3) rfl (by rw [ex_140]; rfl) (by decide) rfl (fun ls hl => ?_)
                  refine lv_goto (tgt := 28) hx hb dX11_countsWithout_201 (by decide) ?_
                  exact ih_10 (_, _, _, x_140, x_133) ⟨(show 0 ≤ x_140.toInt by omega), (show x_140.toInt ≤ 16 by omega), hP, hS, lv_sub hl [0, 1, 4, 5, 6] rfl⟩ (show (16 - x_140.toInt).toNat < (16 - i_6.toInt).toNat by omega)
                · have c_139 : x_133.toInt < x_138.toInt := by have h := mt (c_le (x := x_138.toInt) (y := x_133.toInt) rfl rfl).mpr c_139; omega
                  refine lv_iload hx hb dX11_countsWithout_180 (lv_at hl 1 rfl) ?_
                  refine lv_iload hx hb dX11_countsWithout_182 (lv_at hl 2 rfl) ?_
                  refine lv_if_eq (tgt := 191) hx hb dX11_countsWithout_184 (by decide) (fun c_141 => absurd c_141 (by decide)) (fun _ => ?_)
                  refine lv_iconst (v := 1) hx hb dX11_countsWithout_187 (by decide) ?_
                  refine lv_goto (tgt := 192) hx hb dX11_countsWithout_188 (by decide) ?_
                  refine lv_isub hx hb dX11_countsWithout_192 ?_
                  refine lv_topi (fun x_142 ex_142 => ?_)
                  have tx_142 : x_142.toInt = x_73.toInt - 1 := t_sub (x := x_73.toInt) (y := 1) ex_142 rfl rfl (by omega) (by omega)
                  refine lv_goto (tgt := 197) hx hb dX11_countsWithout_193 (by decide) ?_
                  refine lv_istore_n (lv' := [(3, .int x_142), (6, .int x_73), (5, .int 1), (4, .int i_6), (0, .ref ym), (1, .int i1), (2, .int i2)]) hx hb dX11_countsWithout_197 rfl hl (by decide) rfl (fun ls hl => ?_)
                  obtain ⟨x_143, ex_143⟩ : ∃ y : Int32, y = i_6 + 1 := ⟨_, rfl⟩
                  have tx_143 : x_143.toInt = i_6.toInt + 1 := t_add (x := i_6.toInt) (y := 1) ex_143 rfl rfl (by omega) (by omega)
                  refine lv_iinc (v := x_143) (lv' := [(4, .int x_143), (3, .int x_142), (6, .int x_73), (5, .int 1), (0, .ref ym), (1, .int i1), (2, .int i2)]) hx hb dX11_countsWithout_198 hl (k := 3) rfl (by rw [ex_143]; rfl) (by decide) rfl (fun ls hl => ?_)
                  refine lv_goto (tgt := 28) hx hb dX11_countsWithout_201 (by decide) ?_
                  exact ih_10 (_, _, _, x_143, x_142) ⟨(show 0 ≤ x_143.toInt by omega), (show x_143.toInt ≤ 16 by omega), hP, hS, lv_sub hl [0, 1, 4, 5, 6] rfl⟩ (show (16 - x_143.toInt).toNat < (16 - i_6.toInt).toNat by omega)
      · have c_14 : ¬ x_13.toInt = i1.toInt := fun h => c_14 ((c_eq (x := x_13.toInt) (y := i1.toInt) rfl rfl).mpr h)
        refine lv_goto (tgt := 198) hx hb dX11_countsWithout_51 (by decide) ?_
        obtain ⟨x_144, ex_144⟩ : ∃ y : Int32, y = i_6 + 1 := ⟨_, rfl⟩
        have tx_144 : x_144.toInt = i_6.toInt + 1 := t_add (x := i_6.toInt) (y := 1) ex_144 rfl rfl (by omega) (by omega)
        refine lv_iinc (v := x_144) (lv' := [(4, .int x_144), (3, .int i_7), (0, .ref ym), (1, .int i1), (2, .int i2)]) hx hb dX11_countsWithout_198 hl (k := 0) rfl (by rw [ex_144]; rfl) (by decide) rfl (fun ls hl => ?_)
        refine lv_goto (tgt := 28) hx hb dX11_countsWithout_201 (by decide) ?_
        exact ih_10 (_, _, _, x_144, i_7) ⟨(show 0 ≤ x_144.toInt by omega), (show x_144.toInt ≤ 16 by omega), hP, hS, lv_sub hl [0, 1, 2, 3, 4] rfl⟩ (show (16 - x_144.toInt).toNat < (16 - i_6.toInt).toNat by omega)
  · have c_5 : x_4.toInt = 2 := (c_eq (x := x_4.toInt) (y := 2) rfl rfl).mp c_5
    refine lv_iconst (v := 0) hx hb dX11_countsWithout_23 (by decide) ?_
    refine lv_istore_n (lv' := [(3, .int 0), (0, .ref ym), (1, .int i1), (2, .int i2)]) hx hb dX11_countsWithout_24 rfl hl (by decide) rfl (fun ls hl => ?_)
    refine lv_iconst (v := 0) hx hb dX11_countsWithout_25 (by decide) ?_
    refine lv_istore (lv' := [(4, .int 0), (3, .int 0), (0, .ref ym), (1, .int i1), (2, .int i2)]) hx hb dX11_countsWithout_26 hl (by decide) rfl (fun ls hl => ?_)
    refine lp_ind (fun (a : Heap × List Loc × Array Slot × (Int32) × (Int32)) => match a with | (H, locs, ls, i_145, i_146) => W p l e _ s m _ below meth c H locs 0 0 _ (F0 m 28 ls [])) (fun (a : Heap × List Loc × Array Slot × (Int32) × (Int32)) => match a with | (H, locs, ls, i_145, i_146) => 0 ≤ i_145.toInt ∧ i_145.toInt ≤ 16 ∧ va_P D vwCl [(ym, .inr (11, [.int w0, .ref y1, .ref y2, .ref y3, .ref y4, .ref y5, .int w6, .int w7, .int w8, .int w9, .int w10, .long v11, .int w12, .int w13, .int w14, .int w15, .ref y16, .ref y17, .ref y18, .ref y19, .ref y20, .ref y21, .ref y22, .ref y23, .ref y24, .ref y25, .ref y26, .ref y27, .ref y28, .ref y29, .ref y30, .ref y31, .ref y32, .int w33, .int w34, .int w35, .ref y36, .int w37, .int w38, .int w39, .ref y40, .ref y41, .ref y42, .int w43, .long v44])), (y17, .inl (T 0, 15, .inl c17)), (y19, .inl (T 0, 75, .inl c19)), (y22, .inl (T 0, 15, .inl c22)), (y24, .inl (T 0, 80, .inl c24)), (y25, .inl (T 0, 960, .inl c25)), (y42, .inl (T 0, 16, .inl c42))] H ∧ va_S (fun _ => False) s.heap H locs ∧ lv_has ls 7 [(4, .int i_145), (3, .int i_146), (0, .ref ym), (1, .int i1), (2, .int i2)]) (fun (a : Heap × List Loc × Array Slot × (Int32) × (Int32)) => match a with | (H, locs, ls, i_145, i_146) => (16 - i_145.toInt).toNat) ?_ (_, _, ls, (0 : Int32), (0 : Int32)) ⟨(show 0 ≤ (0 : Int) by omega), (show (0 : Int) ≤ 16 by omega), hP, hS, lv_sub hl [0, 1, 2, 3, 4] rfl⟩
    rintro ⟨H, locs, ls, i_145, i_146⟩ ⟨c_147, c_148, hP, hS, hl⟩ ih_149
    refine lv_iload hx hb dX11_countsWithout_28 (lv_at hl 0 rfl) ?_
    refine lv_aload_n hx hb dX11_countsWithout_30 rfl (lv_at hl 2 rfl) ?_
    refine va_get (D := D) (ci := 11) (C := RX11) (T := TX11) (N := 45) hx hb hts iX11 hown hK hP 0 rfl rfl 43 (by decide) (hts _ m1360) (fun _ h9 => h9) rfl dX11_countsWithout_31 ?_
    refine lv_icmp_ge (tgt := 204) hx hb dX11_countsWithout_34 (by decide) (fun c_150 => ?_) (fun c_150 => ?_)
    · have c_150 : w43.toInt ≤ i_145.toInt := (c_le (x := w43.toInt) (y := i_145.toInt) rfl rfl).mp c_150
      refine lv_iload_n hx hb dX11_countsWithout_204 rfl (lv_at hl 1 rfl) ?_
      exact W.iret (v := i_146) hx hb hr (fun t ht hW => ⟨⟨i_146, (), rfl, trivial, trivial⟩, hS.F ht⟩) hS.2.2 dX11_countsWithout_205
    · have c_150 : i_145.toInt < w43.toInt := by have h := mt (c_le (x := w43.toInt) (y := i_145.toInt) rfl rfl).mpr c_150; omega
      refine lv_aload_n hx hb dX11_countsWithout_37 rfl (lv_at hl 2 rfl) ?_
      refine va_get (D := D) (ci := 11) (C := RX11) (T := TX11) (N := 45) hx hb hts iX11 hown hK hP 0 rfl rfl 42 (by decide) (hts _ m1359) (fun _ h9 => h9) rfl dX11_countsWithout_38 ?_
      refine lv_iload hx hb dX11_countsWithout_41 (lv_at hl 0 rfl) ?_
      refine va_iald (D := D) hx hb hK hP 6 0 rfl rfl (v_in (x := i_145.toInt) rfl (by omega) (by omega)) dX11_countsWithout_43 ?_
      refine lv_topi (fun x_151 ex_151 => ?_)
      have tx_151 : 0 ≤ x_151.toInt ∧ x_151.toInt ≤ 15 := rg_at R_c42 ex_151
      refine lv_bipush (v := 8) hx hb dX11_countsWithout_44 (by decide) ?_
      refine lv_idiv hx hb dX11_countsWithout_46 (by decide) ?_
      refine lv_topi (fun x_152 ex_152 => ?_)
      have tx_152 : x_152.toInt = x_151.toInt / 8 := t_div (x := x_151.toInt) (y := 8) ex_152 rfl rfl (by omega) (by omega)
      refine lv_iload_n hx hb dX11_countsWithout_47 rfl (lv_at hl 3 rfl) ?_
      refine lv_icmp_eq (tgt := 54) hx hb dX11_countsWithout_48 (by decide) (fun c_153 => ?_) (fun c_153 => ?_)
      · have c_153 : x_152.toInt = i1.toInt := (c_eq (x := x_152.toInt) (y := i1.toInt) rfl rfl).mp c_153
        refine lv_iload_n hx hb dX11_countsWithout_54 rfl (lv_at hl 4 rfl) ?_
        refine lv_iload hx hb dX11_countsWithout_55 (lv_at hl 0 rfl) ?_
        refine lv_ishr hx hb dX11_countsWithout_57 ?_
        refine lv_topi (fun x_154 ex_154 => ?_)
        refine lv_iconst (v := 1) hx hb dX11_countsWithout_58 (by decide) ?_
        refine lv_iand hx hb dX11_countsWithout_59 ?_
        refine lv_topi (fun x_155 ex_155 => ?_)
        have tx_155 : 0 ≤ x_155.toInt ∧ x_155.toInt ≤ 1 := t_and2 ex_155 (by decide)
        refine lv_iconst (v := 1) hx hb dX11_countsWithout_60 (by decide) ?_
        refine lv_icmp_ne (tgt := 68) hx hb dX11_countsWithout_61 (by decide) (fun c_156 => ?_) (fun c_156 => ?_)
        · have c_156 : ¬ x_155.toInt = 1 := fun h => c_156 ((c_eq (x := x_155.toInt) (y := 1) rfl rfl).mpr h)
          refine lv_iconst (v := 0) hx hb dX11_countsWithout_68 (by decide) ?_
          refine lv_istore (lv' := [(5, .int 0), (4, .int i_145), (3, .int i_146), (0, .ref ym), (1, .int i1), (2, .int i2)]) hx hb dX11_countsWithout_69 hl (by decide) rfl (fun ls hl => ?_)
          refine lv_aload_n hx hb dX11_countsWithout_71 rfl (lv_at hl 3 rfl) ?_
          refine va_get (D := D) (ci := 11) (C := RX11) (T := TX11) (N := 45) hx hb hts iX11 hown hK hP 0 rfl rfl 24 (by decide) (hts _ m1342) (fun _ h9 => h9) rfl dX11_countsWithout_72 ?_
          refine lv_aload_n hx hb dX11_countsWithout_75 rfl (lv_at hl 3 rfl) ?_
          refine va_get (D := D) (ci := 11) (C := RX11) (T := TX11) (N := 45) hx hb hts iX11 hown hK hP 0 rfl rfl 42 (by decide) (hts _ m1359) (fun _ h9 => h9) rfl dX11_countsWithout_76 ?_
          refine lv_iload hx hb dX11_countsWithout_79 (lv_at hl 1 rfl) ?_
          refine va_iald (D := D) hx hb hK hP 6 0 rfl rfl (v_in (x := i_145.toInt) rfl (by omega) (by omega)) dX11_countsWithout_81 ?_
          refine lv_topi (fun x_157 ex_157 => ?_)
          have tx_157 : 0 ≤ x_157.toInt ∧ x_157.toInt ≤ 15 := rg_at R_c42 ex_157
          refine va_iald (D := D) hx hb hK hP 4 0 rfl rfl (v_in (x := x_157.toInt) rfl (by omega) (by omega)) dX11_countsWithout_82 ?_
          refine lv_topi (fun x_158 ex_158 => ?_)
          have tx_158 : 0 ≤ x_158.toInt ∧ x_158.toInt ≤ 12 := rg_at R_c24 ex_158
          have qx_158 : x_158.toInt = (c24 (x_157.toInt).toNat).toInt := by rw [ex_158, tn (show x_157.toInt = x_157.toInt by omega)]
          have gx_158 : 0 < x_158.toInt := cr_at hcr ex_157 ex_158 rfl (show ((i_145.toInt.toNat : Nat) : Int) < w43.toInt by omega)
          refine lv_istore (lv' := [(6, .int x_158), (5, .int 0), (4, .int i_145), (3, .int i_146), (0, .ref ym), (1, .int i1), (2, .int i2)]) hx hb dX11_countsWithout_83 hl (by decide) rfl (fun ls hl => ?_)
          refine lv_aload_n hx hb dX11_countsWithout_85 rfl (lv_at hl 4 rfl) ?_
          refine va_get (D := D) (ci := 11) (C := RX11) (T := TX11) (N := 45) hx hb hts iX11 hown hK hP 0 rfl rfl 22 (by decide) (hts _ m1340) (fun _ h9 => h9) rfl dX11_countsWithout_86 ?_
          refine lv_iconst (v := 0) hx hb dX11_countsWithout_89 (by decide) ?_
          refine va_iald (D := D) hx hb hK hP 3 0 rfl rfl (by unfold vp_in; decide) dX11_countsWithout_90 ?_
          refine lv_topi (fun x_159 ex_159 => ?_)
          refine lv_if_ne (tgt := 107) hx hb dX11_countsWithout_91 (by decide) (fun c_160 => ?_) (fun c_160 => ?_)
          · have c_160 : ¬ x_159.toInt = 0 := fun h => c_160 ((c_eq (x := x_159.toInt) (y := 0) rfl rfl).mpr h)
            refine lv_aload_n hx hb dX11_countsWithout_107 rfl (lv_at hl 4 rfl) ?_
            refine va_get (D := D) (ci := 11) (C := RX11) (T := TX11) (N := 45) hx hb hts iX11 hown hK hP 0 rfl rfl 22 (by decide) (hts _ m1340) (fun _ h9 => h9) rfl dX11_countsWithout_108 ?_
            refine lv_iconst (v := 0) hx hb dX11_countsWithout_111 (by decide) ?_
            refine va_iald (D := D) hx hb hK hP 3 0 rfl rfl (by unfold vp_in; decide) dX11_countsWithout_112 ?_
            refine lv_topi (fun x_161 ex_161 => ?_)
            refine lv_iconst (v := 1) hx hb dX11_countsWithout_113 (by decide) ?_
            refine lv_icmp_ne (tgt := 153) hx hb dX11_countsWithout_114 (by decide) (fun c_162 => ?_) (fun c_162 => ?_)
            · have c_162 : ¬ x_161.toInt = 1 := fun h => c_162 ((c_eq (x := x_161.toInt) (y := 1) rfl rfl).mpr h)
              refine lv_aload_n hx hb dX11_countsWithout_153 rfl (lv_at hl 4 rfl) ?_
              refine va_get (D := D) (ci := 11) (C := RX11) (T := TX11) (N := 45) hx hb hts iX11 hown hK hP 0 rfl rfl 22 (by decide) (hts _ m1340) (fun _ h9 => h9) rfl dX11_countsWithout_154 ?_
              refine lv_iconst (v := 0) hx hb dX11_countsWithout_157 (by decide) ?_
              refine va_iald (D := D) hx hb hK hP 3 0 rfl rfl (by unfold vp_in; decide) dX11_countsWithout_158 ?_
              refine lv_topi (fun x_163 ex_163 => ?_)
              refine lv_iconst (v := 2) hx hb dX11_countsWithout_159 (by decide) ?_
              refine lv_icmp_ne (tgt := 198) hx hb dX11_countsWithout_160 (by decide) (fun c_164 => ?_) (fun c_164 => ?_)
              · have c_164 : ¬ x_163.toInt = 2 := fun h => c_164 ((c_eq (x := x_163.toInt) (y := 2) rfl rfl).mpr h)
                obtain ⟨x_165, ex_165⟩ : ∃ y : Int32, y = i_145 + 1 := ⟨_, rfl⟩
                have tx_165 : x_165.toInt = i_145.toInt + 1 := t_add (x := i_145.toInt) (y := 1) ex_165 rfl rfl (by omega) (by omega)
                refine lv_iinc (v := x_165) (lv' := [(4, .int x_165), (6, .int x_158), (5, .int 0), (3, .int i_146), (0, .ref ym), (1, .int i1), (2, .int i2)]) hx hb dX11_countsWithout_198 hl (k := 2) rfl (by rw [ex_165]; rfl) (by decide) rfl (fun ls hl => ?_)
                refine lv_goto (tgt := 28) hx hb dX11_countsWithout_201 (by decide) ?_
                exact ih_149 (_, _, _, x_165, i_146) ⟨(show 0 ≤ x_165.toInt by omega), (show x_165.toInt ≤ 16 by omega), hP, hS, lv_sub hl [0, 3, 4, 5, 6] rfl⟩ (show (16 - x_165.toInt).toNat < (16 - i_145.toInt).toNat by omega)
              · have c_164 : x_163.toInt = 2 := (c_eq (x := x_163.toInt) (y := 2) rfl rfl).mp c_164
                refine lv_iload hx hb dX11_countsWithout_163 (lv_at hl 0 rfl) ?_
                refine lv_iload hx hb dX11_countsWithout_165 (lv_at hl 1 rfl) ?_
                refine lv_if_eq (tgt := 174) hx hb dX11_countsWithout_167 (by decide) (fun _ => ?_) (fun c_166 => absurd (by decide) c_166)
                refine lv_iconst (v := 0) hx hb dX11_countsWithout_174 (by decide) ?_
                refine lv_isub hx hb dX11_countsWithout_175 ?_
                refine lv_topi (fun x_167 ex_167 => ?_)
                have tx_167 : x_167.toInt = x_158.toInt - 0 := t_sub (x := x_158.toInt) (y := 0) ex_167 rfl rfl (by omega) (by omega)
                refine lv_iload_n hx hb dX11_countsWithout_176 rfl (lv_at hl 3 rfl) ?_
                refine lv_icmp_le (tgt := 196) hx hb dX11_countsWithout_177 (by decide) (fun c_168 => ?_) (fun c_168 => ?_)
                · have c_168 : x_167.toInt ≤ i_146.toInt := (c_le (x := x_167.toInt) (y := i_146.toInt) rfl rfl).mp c_168
                  refine lv_iload_n hx hb dX11_countsWithout_196 rfl (lv_at hl 3 rfl) ?_
                  refine lv_istore_n (lv' := [(3, .int i_146), (6, .int x_158), (5, .int 0), (4, .int i_145), (0, .ref ym), (1, .int i1), (2, .int i2)]) hx hb dX11_countsWithout_197 rfl hl (by decide) rfl (fun ls hl => ?_)
                  obtain ⟨x_169, ex_169⟩ : ∃ y : Int32, y = i_145 + 1 := ⟨_, rfl⟩
                  have tx_169 : x_169.toInt = i_145.toInt + 1 := t_add (x := i_145.toInt) (y := 1) ex_169 rfl rfl (by omega) (by omega)
                  refine lv_iinc (v := x_169) (lv' := [(4, .int x_169), (3, .int i_146), (6, .int x_158), (5, .int 0), (0, .ref ym), (1, .int i1), (2, .int i2)]) hx hb dX11_countsWithout_198 hl (k := 3) rfl (by rw [ex_169]; rfl) (by decide) rfl (fun ls hl => ?_)
                  refine lv_goto (tgt := 28) hx hb dX11_countsWithout_201 (by decide) ?_
                  exact ih_149 (_, _, _, x_169, i_146) ⟨(show 0 ≤ x_169.toInt by omega), (show x_169.toInt ≤ 16 by omega), hP, hS, lv_sub hl [0, 1, 4, 5, 6] rfl⟩ (show (16 - x_169.toInt).toNat < (16 - i_145.toInt).toNat by omega)
                · have c_168 : i_146.toInt < x_167.toInt := by have h := mt (c_le (x := x_167.toInt) (y := i_146.toInt) rfl rfl).mpr c_168; omega
                  refine lv_iload hx hb dX11_countsWithout_180 (lv_at hl 0 rfl) ?_
                  refine lv_iload hx hb dX11_countsWithout_182 (lv_at hl 1 rfl) ?_
                  refine lv_if_eq (tgt := 191) hx hb dX11_countsWithout_184 (by decide) (fun _ => ?_) (fun c_170 => absurd (by decide) c_170)
                  refine lv_iconst (v := 0) hx hb dX11_countsWithout_191 (by decide) ?_
                  refine lv_isub hx hb dX11_countsWithout_192 ?_
                  refine lv_topi (fun x_171 ex_171 => ?_)
                  have tx_171 : x_171.toInt = x_158.toInt - 0 := t_sub (x := x_158.toInt) (y := 0) ex_171 rfl rfl (by omega) (by omega)
                  refine lv_goto (tgt := 197) hx hb dX11_countsWithout_193 (by decide) ?_
                  refine lv_istore_n (lv' := [(3, .int x_171), (6, .int x_158), (5, .int 0), (4, .int i_145), (0, .ref ym), (1, .int i1), (2, .int i2)]) hx hb dX11_countsWithout_197 rfl hl (by decide) rfl (fun ls hl => ?_)
                  obtain ⟨x_172, ex_172⟩ : ∃ y : Int32, y = i_145 + 1 := ⟨_, rfl⟩
                  have tx_172 : x_172.toInt = i_145.toInt + 1 := t_add (x := i_145.toInt) (y := 1) ex_172 rfl rfl (by omega) (by omega)
                  refine lv_iinc (v := x_172) (lv' := [(4, .int x_172), (3, .int x_171), (6, .int x_158), (5, .int 0), (0, .ref ym), (1, .int i1), (2, .int i2)]) hx hb dX11_countsWithout_198 hl (k := 3) rfl (by rw [ex_172]; rfl) (by decide) rfl (fun ls hl => ?_)
                  refine lv_goto (tgt := 28) hx hb dX11_countsWithout_201 (by decide) ?_
                  exact ih_149 (_, _, _, x_172, x_171) ⟨(show 0 ≤ x_172.toInt by omega), (show x_172.toInt ≤ 16 by omega), hP, hS, lv_sub hl [0, 1, 4, 5, 6] rfl⟩ (show (16 - x_172.toInt).toNat < (16 - i_145.toInt).toNat by omega)
            · have c_162 : x_161.toInt = 1 := (c_eq (x := x_161.toInt) (y := 1) rfl rfl).mp c_162
              refine lv_iload_n hx hb dX11_countsWithout_117 rfl (lv_at hl 3 rfl) ?_
              refine lv_iload hx hb dX11_countsWithout_118 (lv_at hl 1 rfl) ?_
              refine lv_if_eq (tgt := 150) hx hb dX11_countsWithout_120 (by decide) (fun _ => ?_) (fun c_173 => absurd (by decide) c_173)
              refine lv_iconst (v := 0) hx hb dX11_countsWithout_150 (by decide) ?_
              refine lv_isub hx hb dX11_countsWithout_151 ?_
              refine lv_topi (fun x_174 ex_174 => ?_)
              refine lv_istore_n (lv' := [(3, .int x_174), (6, .int x_158), (5, .int 0), (4, .int i_145), (0, .ref ym), (1, .int i1), (2, .int i2)]) hx hb dX11_countsWithout_152 rfl hl (by decide) rfl (fun ls hl => ?_)
              refine lv_aload_n hx hb dX11_countsWithout_153 rfl (lv_at hl 4 rfl) ?_
              refine va_get (D := D) (ci := 11) (C := RX11) (T := TX11) (N := 45) hx hb hts iX11 hown hK hP 0 rfl rfl 22 (by decide) (hts _ m1340) (fun _ h9 => h9) rfl dX11_countsWithout_154 ?_
              refine lv_iconst (v := 0) hx hb dX11_countsWithout_157 (by decide) ?_
              refine va_iald (D := D) hx hb hK hP 3 0 rfl rfl (by unfold vp_in; decide) dX11_countsWithout_158 ?_
              refine lv_topi (fun x_175 ex_175 => ?_)
              refine lv_iconst (v := 2) hx hb dX11_countsWithout_159 (by decide) ?_
              refine lv_icmp_ne (tgt := 198) hx hb dX11_countsWithout_160 (by decide) (fun c_176 => ?_) (fun c_176 => ?_)
              · have c_176 : ¬ x_175.toInt = 2 := fun h => c_176 ((c_eq (x := x_175.toInt) (y := 2) rfl rfl).mpr h)
                obtain ⟨x_177, ex_177⟩ : ∃ y : Int32, y = i_145 + 1 := ⟨_, rfl⟩
                have tx_177 : x_177.toInt = i_145.toInt + 1 := t_add (x := i_145.toInt) (y := 1) ex_177 rfl rfl (by omega) (by omega)
                refine lv_iinc (v := x_177) (lv' := [(4, .int x_177), (3, .int x_174), (6, .int x_158), (5, .int 0), (0, .ref ym), (1, .int i1), (2, .int i2)]) hx hb dX11_countsWithout_198 hl (k := 3) rfl (by rw [ex_177]; rfl) (by decide) rfl (fun ls hl => ?_)
                refine lv_goto (tgt := 28) hx hb dX11_countsWithout_201 (by decide) ?_
                exact ih_149 (_, _, _, x_177, x_174) ⟨(show 0 ≤ x_177.toInt by omega), (show x_177.toInt ≤ 16 by omega), hP, hS, lv_sub hl [0, 1, 4, 5, 6] rfl⟩ (show (16 - x_177.toInt).toNat < (16 - i_145.toInt).toNat by omega)
              · have c_176 : x_175.toInt = 2 := (c_eq (x := x_175.toInt) (y := 2) rfl rfl).mp c_176
                refine lv_iload hx hb dX11_countsWithout_163 (lv_at hl 1 rfl) ?_
                refine lv_iload hx hb dX11_countsWithout_165 (lv_at hl 2 rfl) ?_
                refine lv_if_eq (tgt := 174) hx hb dX11_countsWithout_167 (by decide) (fun _ => ?_) (fun c_178 => absurd (by decide) c_178)
                refine lv_iconst (v := 0) hx hb dX11_countsWithout_174 (by decide) ?_
                refine lv_isub hx hb dX11_countsWithout_175 ?_
                refine lv_topi (fun x_179 ex_179 => ?_)
                have tx_179 : x_179.toInt = x_158.toInt - 0 := t_sub (x := x_158.toInt) (y := 0) ex_179 rfl rfl (by omega) (by omega)
                refine lv_iload_n hx hb dX11_countsWithout_176 rfl (lv_at hl 0 rfl) ?_
                refine lv_icmp_le (tgt := 196) hx hb dX11_countsWithout_177 (by decide) (fun c_180 => ?_) (fun c_180 => ?_)
                · have c_180 : x_179.toInt ≤ x_174.toInt := (c_le (x := x_179.toInt) (y := x_174.toInt) rfl rfl).mp c_180
                  refine lv_iload_n hx hb dX11_countsWithout_196 rfl (lv_at hl 0 rfl) ?_
                  refine lv_istore_n (lv' := [(3, .int x_174), (6, .int x_158), (5, .int 0), (4, .int i_145), (0, .ref ym), (1, .int i1), (2, .int i2)]) hx hb dX11_countsWithout_197 rfl hl (by decide) rfl (fun ls hl => ?_)
                  obtain ⟨x_181, ex_181⟩ : ∃ y : Int32, y = i_145 + 1 := ⟨_, rfl⟩
                  have tx_181 : x_181.toInt = i_145.toInt + 1 := t_add (x := i_145.toInt) (y := 1) ex_181 rfl rfl (by omega) (by omega)
                  refine lv_iinc (v := x_181) (lv' := [(4, .int x_181), (3, .int x_174), (6, .int x_158), (5, .int 0), (0, .ref ym), (1, .int i1), (2, .int i2)]) hx hb dX11_countsWithout_198 hl (k := 3) rfl (by rw [ex_181]; rfl) (by decide) rfl (fun ls hl => ?_)
                  refine lv_goto (tgt := 28) hx hb dX11_countsWithout_201 (by decide) ?_
                  exact ih_149 (_, _, _, x_181, x_174) ⟨(show 0 ≤ x_181.toInt by omega), (show x_181.toInt ≤ 16 by omega), hP, hS, lv_sub hl [0, 1, 4, 5, 6] rfl⟩ (show (16 - x_181.toInt).toNat < (16 - i_145.toInt).toNat by omega)
                · have c_180 : x_174.toInt < x_179.toInt := by have h := mt (c_le (x := x_179.toInt) (y := x_174.toInt) rfl rfl).mpr c_180; omega
                  refine lv_iload hx hb dX11_countsWithout_180 (lv_at hl 1 rfl) ?_
                  refine lv_iload hx hb dX11_countsWithout_182 (lv_at hl 2 rfl) ?_
                  refine lv_if_eq (tgt := 191) hx hb dX11_countsWithout_184 (by decide) (fun _ => ?_) (fun c_182 => absurd (by decide) c_182)
                  refine lv_iconst (v := 0) hx hb dX11_countsWithout_191 (by decide) ?_
                  refine lv_isub hx hb dX11_countsWithout_192 ?_
                  refine lv_topi (fun x_183 ex_183 => ?_)
                  have tx_183 : x_183.toInt = x_158.toInt - 0 := t_sub (x := x_158.toInt) (y := 0) ex_183 rfl rfl (by omega) (by omega)
                  refine lv_goto (tgt := 197) hx hb dX11_countsWithout_193 (by decide) ?_
                  refine lv_istore_n (lv' := [(3, .int x_183), (6, .int x_158), (5, .int 0), (4, .int i_145), (0, .ref ym), (1, .int i1), (2, .int i2)]) hx hb dX11_countsWithout_197 rfl hl (by decide) rfl (fun ls hl => ?_)
                  obtain ⟨x_184, ex_184⟩ : ∃ y : Int32, y = i_145 + 1 := ⟨_, rfl⟩
                  have tx_184 : x_184.toInt = i_145.toInt + 1 := t_add (x := i_145.toInt) (y := 1) ex_184 rfl rfl (by omega) (by omega)
                  refine lv_iinc (v := x_184) (lv' := [(4, .int x_184), (3, .int x_183), (6, .int x_158), (5, .int 0), (0, .ref ym), (1, .int i1), (2, .int i2)]) hx hb dX11_countsWithout_198 hl (k := 3) rfl (by rw [ex_184]; rfl) (by decide) rfl (fun ls hl => ?_)
                  refine lv_goto (tgt := 28) hx hb dX11_countsWithout_201 (by decide) ?_
                  exact ih_149 (_, _, _, x_184, x_183) ⟨(show 0 ≤ x_184.toInt by omega), (show x_184.toInt ≤ 16 by omega), hP, hS, lv_sub hl [0, 1, 4, 5, 6] rfl⟩ (show (16 - x_184.toInt).toNat < (16 - i_145.toInt).toNat by omega)
          · have c_160 : x_159.toInt = 0 := (c_eq (x := x_159.toInt) (y := 0) rfl rfl).mp c_160
            refine lv_iload_n hx hb dX11_countsWithout_94 rfl (lv_at hl 3 rfl) ?_
            refine lv_iload hx hb dX11_countsWithout_95 (lv_at hl 1 rfl) ?_
            refine lv_if_eq (tgt := 104) hx hb dX11_countsWithout_97 (by decide) (fun _ => ?_) (fun c_185 => absurd (by decide) c_185)
            refine lv_iconst (v := 0) hx hb dX11_countsWithout_104 (by decide) ?_
            refine lv_isub hx hb dX11_countsWithout_105 ?_
            refine lv_topi (fun x_186 ex_186 => ?_)
            refine lv_istore_n (lv' := [(3, .int x_186), (6, .int x_158), (5, .int 0), (4, .int i_145), (0, .ref ym), (1, .int i1), (2, .int i2)]) hx hb dX11_countsWithout_106 rfl hl (by decide) rfl (fun ls hl => ?_)
            refine lv_aload_n hx hb dX11_countsWithout_107 rfl (lv_at hl 4 rfl) ?_
            refine va_get (D := D) (ci := 11) (C := RX11) (T := TX11) (N := 45) hx hb hts iX11 hown hK hP 0 rfl rfl 22 (by decide) (hts _ m1340) (fun _ h9 => h9) rfl dX11_countsWithout_108 ?_
            refine lv_iconst (v := 0) hx hb dX11_countsWithout_111 (by decide) ?_
            refine va_iald (D := D) hx hb hK hP 3 0 rfl rfl (by unfold vp_in; decide) dX11_countsWithout_112 ?_
            refine lv_topi (fun x_187 ex_187 => ?_)
            refine lv_iconst (v := 1) hx hb dX11_countsWithout_113 (by decide) ?_
            refine lv_icmp_ne (tgt := 153) hx hb dX11_countsWithout_114 (by decide) (fun c_188 => ?_) (fun c_188 => ?_)
            · have c_188 : ¬ x_187.toInt = 1 := fun h => c_188 ((c_eq (x := x_187.toInt) (y := 1) rfl rfl).mpr h)
              refine lv_aload_n hx hb dX11_countsWithout_153 rfl (lv_at hl 4 rfl) ?_
              refine va_get (D := D) (ci := 11) (C := RX11) (T := TX11) (N := 45) hx hb hts iX11 hown hK hP 0 rfl rfl 22 (by decide) (hts _ m1340) (fun _ h9 => h9) rfl dX11_countsWithout_154 ?_
              refine lv_iconst (v := 0) hx hb dX11_countsWithout_157 (by decide) ?_
              refine va_iald (D := D) hx hb hK hP 3 0 rfl rfl (by unfold vp_in; decide) dX11_countsWithout_158 ?_
              refine lv_topi (fun x_189 ex_189 => ?_)
              refine lv_iconst (v := 2) hx hb dX11_countsWithout_159 (by decide) ?_
              refine lv_icmp_ne (tgt := 198) hx hb dX11_countsWithout_160 (by decide) (fun c_190 => ?_) (fun c_190 => ?_)
              · have c_190 : ¬ x_189.toInt = 2 := fun h => c_190 ((c_eq (x := x_189.toInt) (y := 2) rfl rfl).mpr h)
                obtain ⟨x_191, ex_191⟩ : ∃ y : Int32, y = i_145 + 1 := ⟨_, rfl⟩
                have tx_191 : x_191.toInt = i_145.toInt + 1 := t_add (x := i_145.toInt) (y := 1) ex_191 rfl rfl (by omega) (by omega)
                refine lv_iinc (v := x_191) (lv' := [(4, .int x_191), (3, .int x_186), (6, .int x_158), (5, .int 0), (0, .ref ym), (1, .int i1), (2, .int i2)]) hx hb dX11_countsWithout_198 hl (k := 3) rfl (by rw [ex_191]; rfl) (by decide) rfl (fun ls hl => ?_)
                refine lv_goto (tgt := 28) hx hb dX11_countsWithout_201 (by decide) ?_
                exact ih_149 (_, _, _, x_191, x_186) ⟨(show 0 ≤ x_191.toInt by omega), (show x_191.toInt ≤ 16 by omega), hP, hS, lv_sub hl [0, 1, 4, 5, 6] rfl⟩ (show (16 - x_191.toInt).toNat < (16 - i_145.toInt).toNat by omega)
              · have c_190 : x_189.toInt = 2 := (c_eq (x := x_189.toInt) (y := 2) rfl rfl).mp c_190
                refine lv_iload hx hb dX11_countsWithout_163 (lv_at hl 1 rfl) ?_
                refine lv_iload hx hb dX11_countsWithout_165 (lv_at hl 2 rfl) ?_
                refine lv_if_eq (tgt := 174) hx hb dX11_countsWithout_167 (by decide) (fun _ => ?_) (fun c_192 => absurd (by decide) c_192)
                refine lv_iconst (v := 0) hx hb dX11_countsWithout_174 (by decide) ?_
                refine lv_isub hx hb dX11_countsWithout_175 ?_
                refine lv_topi (fun x_193 ex_193 => ?_)
                have tx_193 : x_193.toInt = x_158.toInt - 0 := t_sub (x := x_158.toInt) (y := 0) ex_193 rfl rfl (by omega) (by omega)
                refine lv_iload_n hx hb dX11_countsWithout_176 rfl (lv_at hl 0 rfl) ?_
                refine lv_icmp_le (tgt := 196) hx hb dX11_countsWithout_177 (by decide) (fun c_194 => ?_) (fun c_194 => ?_)
                · have c_194 : x_193.toInt ≤ x_186.toInt := (c_le (x := x_193.toInt) (y := x_186.toInt) rfl rfl).mp c_194
                  refine lv_iload_n hx hb dX11_countsWithout_196 rfl (lv_at hl 0 rfl) ?_
                  refine lv_istore_n (lv' := [(3, .int x_186), (6, .int x_158), (5, .int 0), (4, .int i_145), (0, .ref ym), (1, .int i1), (2, .int i2)]) hx hb dX11_countsWithout_197 rfl hl (by decide) rfl (fun ls hl => ?_)
                  obtain ⟨x_195, ex_195⟩ : ∃ y : Int32, y = i_145 + 1 := ⟨_, rfl⟩
                  have tx_195 : x_195.toInt = i_145.toInt + 1 := t_add (x := i_145.toInt) (y := 1) ex_195 rfl rfl (by omega) (by omega)
                  refine lv_iinc (v := x_195) (lv' := [(4, .int x_195), (3, .int x_186), (6, .int x_158), (5, .int 0), (0, .ref ym), (1, .int i1), (2, .int i2)]) hx hb dX11_countsWithout_198 hl (k := 3) rfl (by rw [ex_195]; rfl) (by decide) rfl (fun ls hl => ?_)
                  refine lv_goto (tgt := 28) hx hb dX11_countsWithout_201 (by decide) ?_
                  exact ih_149 (_, _, _, x_195, x_186) ⟨(show 0 ≤ x_195.toInt by omega), (show x_195.toInt ≤ 16 by omega), hP, hS, lv_sub hl [0, 1, 4, 5, 6] rfl⟩ (show (16 - x_195.toInt).toNat < (16 - i_145.toInt).toNat by omega)
                · have c_194 : x_186.toInt < x_193.toInt := by have h := mt (c_le (x := x_193.toInt) (y := x_186.toInt) rfl rfl).mpr c_194; omega
                  refine lv_iload hx hb dX11_countsWithout_180 (lv_at hl 1 rfl) ?_
                  refine lv_iload hx hb dX11_countsWithout_182 (lv_at hl 2 rfl) ?_
                  refine lv_if_eq (tgt := 191) hx hb dX11_countsWithout_184 (by decide) (fun _ => ?_) (fun c_196 => absurd (by decide) c_196)
                  refine lv_iconst (v := 0) hx hb dX11_countsWithout_191 (by decide) ?_
                  refine lv_isub hx hb dX11_countsWithout_192 ?_
                  refine lv_topi (fun x_197 ex_197 => ?_)
                  have tx_197 : x_197.toInt = x_158.toInt - 0 := t_sub (x := x_158.toInt) (y := 0) ex_197 rfl rfl (by omega) (by omega)
                  refine lv_goto (tgt := 197) hx hb dX11_countsWithout_193 (by decide) ?_
                  refine lv_istore_n (lv' := [(3, .int x_197), (6, .int x_158), (5, .int 0), (4, .int i_145), (0, .ref ym), (1, .int i1), (2, .int i2)]) hx hb dX11_countsWithout_197 rfl hl (by decide) rfl (fun ls hl => ?_)
                  obtain ⟨x_198, ex_198⟩ : ∃ y : Int32, y = i_145 + 1 := ⟨_, rfl⟩
                  have tx_198 : x_198.toInt = i_145.toInt + 1 := t_add (x := i_145.toInt) (y := 1) ex_198 rfl rfl (by omega) (by omega)
                  refine lv_iinc (v := x_198) (lv' := [(4, .int x_198), (3, .int x_197), (6, .int x_158), (5, .int 0), (0, .ref ym), (1, .int i1), (2, .int i2)]) hx hb dX11_countsWithout_198 hl (k := 3) rfl (by rw [ex_198]; rfl) (by decide) rfl (fun ls hl => ?_)
                  refine lv_goto (tgt := 28) hx hb dX11_countsWithout_201 (by decide) ?_
                  exact ih_149 (_, _, _, x_198, x_197) ⟨(show 0 ≤ x_198.toInt by omega), (show x_198.toInt ≤ 16 by omega), hP, hS, lv_sub hl [0, 1, 4, 5, 6] rfl⟩ (show (16 - x_198.toInt).toNat < (16 - i_145.toInt).toNat by omega)
            · have c_188 : x_187.toInt = 1 := (c_eq (x := x_187.toInt) (y := 1) rfl rfl).mp c_188
              refine lv_iload_n hx hb dX11_countsWithout_117 rfl (lv_at hl 0 rfl) ?_
              refine lv_iload hx hb dX11_countsWithout_118 (lv_at hl 2 rfl) ?_
              refine lv_if_eq (tgt := 150) hx hb dX11_countsWithout_120 (by decide) (fun _ => ?_) (fun c_199 => absurd (by decide) c_199)
              refine lv_iconst (v := 0) hx hb dX11_countsWithout_150 (by decide) ?_
              refine lv_isub hx hb dX11_countsWithout_151 ?_
              refine lv_topi (fun x_200 ex_200 => ?_)
              refine lv_istore_n (lv' := [(3, .int x_200), (6, .int x_158), (5, .int 0), (4, .int i_145), (0, .ref ym), (1, .int i1), (2, .int i2)]) hx hb dX11_countsWithout_152 rfl hl (by decide) rfl (fun ls hl => ?_)
              refine lv_aload_n hx hb dX11_countsWithout_153 rfl (lv_at hl 4 rfl) ?_
              refine va_get (D := D) (ci := 11) (C := RX11) (T := TX11) (N := 45) hx hb hts iX11 hown hK hP 0 rfl rfl 22 (by decide) (hts _ m1340) (fun _ h9 => h9) rfl dX11_countsWithout_154 ?_
              refine lv_iconst (v := 0) hx hb dX11_countsWithout_157 (by decide) ?_
              refine va_iald (D := D) hx hb hK hP 3 0 rfl rfl (by unfold vp_in; decide) dX11_countsWithout_158 ?_
              refine lv_topi (fun x_201 ex_201 => ?_)
              refine lv_iconst (v := 2) hx hb dX11_countsWithout_159 (by decide) ?_
              refine lv_icmp_ne (tgt := 198) hx hb dX11_countsWithout_160 (by decide) (fun c_202 => ?_) (fun c_202 => ?_)
              · have c_202 : ¬ x_201.toInt = 2 := fun h => c_202 ((c_eq (x := x_201.toInt) (y := 2) rfl rfl).mpr h)
                obtain ⟨x_203, ex_203⟩ : ∃ y : Int32, y = i_145 + 1 := ⟨_, rfl⟩
                have tx_203 : x_203.toInt = i_145.toInt + 1 := t_add (x := i_145.toInt) (y := 1) ex_203 rfl rfl (by omega) (by omega)
                refine lv_iinc (v := x_203) (lv' := [(4, .int x_203), (3, .int x_200), (6, .int x_158), (5, .int 0), (0, .ref ym), (1, .int i1), (2, .int i2)]) hx hb dX11_countsWithout_198 hl (k := 3) rfl (by rw [ex_203]; rfl) (by decide) rfl (fun ls hl => ?_)
                refine lv_goto (tgt := 28) hx hb dX11_countsWithout_201 (by decide) ?_
                exact ih_149 (_, _, _, x_203, x_200) ⟨(show 0 ≤ x_203.toInt by omega), (show x_203.toInt ≤ 16 by omega), hP, hS, lv_sub hl [0, 1, 4, 5, 6] rfl⟩ (show (16 - x_203.toInt).toNat < (16 - i_145.toInt).toNat by omega)
              · have c_202 : x_201.toInt = 2 := (c_eq (x := x_201.toInt) (y := 2) rfl rfl).mp c_202
                refine lv_iload hx hb dX11_countsWithout_163 (lv_at hl 1 rfl) ?_
                refine lv_iload hx hb dX11_countsWithout_165 (lv_at hl 2 rfl) ?_
                refine lv_if_eq (tgt := 174) hx hb dX11_countsWithout_167 (by decide) (fun _ => ?_) (fun c_204 => absurd (by decide) c_204)
                refine lv_iconst (v := 0) hx hb dX11_countsWithout_174 (by decide) ?_
                refine lv_isub hx hb dX11_countsWithout_175 ?_
                refine lv_topi (fun x_205 ex_205 => ?_)
                have tx_205 : x_205.toInt = x_158.toInt - 0 := t_sub (x := x_158.toInt) (y := 0) ex_205 rfl rfl (by omega) (by omega)
                refine lv_iload_n hx hb dX11_countsWithout_176 rfl (lv_at hl 0 rfl) ?_
                refine lv_icmp_le (tgt := 196) hx hb dX11_countsWithout_177 (by decide) (fun c_206 => ?_) (fun c_206 => ?_)
                · have c_206 : x_205.toInt ≤ x_200.toInt := (c_le (x := x_205.toInt) (y := x_200.toInt) rfl rfl).mp c_206
                  refine lv_iload_n hx hb dX11_countsWithout_196 rfl (lv_at hl 0 rfl) ?_
                  refine lv_istore_n (lv' := [(3, .int x_200), (6, .int x_158), (5, .int 0), (4, .int i_145), (0, .ref ym), (1, .int i1), (2, .int i2)]) hx hb dX11_countsWithout_197 rfl hl (by decide) rfl (fun ls hl => ?_)
                  obtain ⟨x_207, ex_207⟩ : ∃ y : Int32, y = i_145 + 1 := ⟨_, rfl⟩
                  have tx_207 : x_207.toInt = i_145.toInt + 1 := t_add (x := i_145.toInt) (y := 1) ex_207 rfl rfl (by omega) (by omega)
                  refine lv_iinc (v := x_207) (lv' := [(4, .int x_207), (3, .int x_200), (6, .int x_158), (5, .int 0), (0, .ref ym), (1, .int i1), (2, .int i2)]) hx hb dX11_countsWithout_198 hl (k := 3) rfl (by rw [ex_207]; rfl) (by decide) rfl (fun ls hl => ?_)
                  refine lv_goto (tgt := 28) hx hb dX11_countsWithout_201 (by decide) ?_
                  exact ih_149 (_, _, _, x_207, x_200) ⟨(show 0 ≤ x_207.toInt by omega), (show x_207.toInt ≤ 16 by omega), hP, hS, lv_sub hl [0, 1, 4, 5, 6] rfl⟩ (show (16 - x_207.toInt).toNat < (16 - i_145.toInt).toNat by omega)
                · have c_206 : x_200.toInt < x_205.toInt := by have h := mt (c_le (x := x_205.toInt) (y := x_200.toInt) rfl rfl).mpr c_206; omega
                  refine lv_iload hx hb dX11_countsWithout_180 (lv_at hl 1 rfl) ?_
                  refine lv_iload hx hb dX11_countsWithout_182 (lv_at hl 2 rfl) ?_
                  refine lv_if_eq (tgt := 191) hx hb dX11_countsWithout_184 (by decide) (fun _ => ?_) (fun c_208 => absurd (by decide) c_208)
                  refine lv_iconst (v := 0) hx hb dX11_countsWithout_191 (by decide) ?_
                  refine lv_isub hx hb dX11_countsWithout_192 ?_
                  refine lv_topi (fun x_209 ex_209 => ?_)
                  have tx_209 : x_209.toInt = x_158.toInt - 0 := t_sub (x := x_158.toInt) (y := 0) ex_209 rfl rfl (by omega) (by omega)
                  refine lv_goto (tgt := 197) hx hb dX11_countsWithout_193 (by decide) ?_
                  refine lv_istore_n (lv' := [(3, .int x_209), (6, .int x_158), (5, .int 0), (4, .int i_145), (0, .ref ym), (1, .int i1), (2, .int i2)]) hx hb dX11_countsWithout_197 rfl hl (by decide) rfl (fun ls hl => ?_)
                  obtain ⟨x_210, ex_210⟩ : ∃ y : Int32, y = i_145 + 1 := ⟨_, rfl⟩
                  have tx_210 : x_210.toInt = i_145.toInt + 1 := t_add (x := i_145.toInt) (y := 1) ex_210 rfl rfl (by omega) (by omega)
                  refine lv_iinc (v := x_210) (lv' := [(4, .int x_210), (3, .int x_209), (6, .int x_158), (5, .int 0), (0, .ref ym), (1, .int i1), (2, .int i2)]) hx hb dX11_countsWithout_198 hl (k := 3) rfl (by rw [ex_210]; rfl) (by decide) rfl (fun ls hl => ?_)
                  refine lv_goto (tgt := 28) hx hb dX11_countsWithout_201 (by decide) ?_
                  exact ih_149 (_, _, _, x_210, x_209) ⟨(show 0 ≤ x_210.toInt by omega), (show x_210.toInt ≤ 16 by omega), hP, hS, lv_sub hl [0, 1, 4, 5, 6] rfl⟩ (show (16 - x_210.toInt).toNat < (16 - i_145.toInt).toNat by omega)
        · have c_156 : x_155.toInt = 1 := (c_eq (x := x_155.toInt) (y := 1) rfl rfl).mp c_156
          refine lv_iconst (v := 1) hx hb dX11_countsWithout_64 (by decide) ?_
          refine lv_goto (tgt := 69) hx hb dX11_countsWithout_65 (by decide) ?_
          refine lv_istore (lv' := [(5, .int 1), (4, .int i_145), (3, .int i_146), (0, .ref ym), (1, .int i1), (2, .int i2)]) hx hb dX11_countsWithout_69 hl (by decide) rfl (fun ls hl => ?_)
          refine lv_aload_n hx hb dX11_countsWithout_71 rfl (lv_at hl 3 rfl) ?_
          refine va_get (D := D) (ci := 11) (C := RX11) (T := TX11) (N := 45) hx hb hts iX11 hown hK hP 0 rfl rfl 24 (by decide) (hts _ m1342) (fun _ h9 => h9) rfl dX11_countsWithout_72 ?_
          refine lv_aload_n hx hb dX11_countsWithout_75 rfl (lv_at hl 3 rfl) ?_
          refine va_get (D := D) (ci := 11) (C := RX11) (T := TX11) (N := 45) hx hb hts iX11 hown hK hP 0 rfl rfl 42 (by decide) (hts _ m1359) (fun _ h9 => h9) rfl dX11_countsWithout_76 ?_
          refine lv_iload hx hb dX11_countsWithout_79 (lv_at hl 1 rfl) ?_
          refine va_iald (D := D) hx hb hK hP 6 0 rfl rfl (v_in (x := i_145.toInt) rfl (by omega) (by omega)) dX11_countsWithout_81 ?_
          refine lv_topi (fun x_211 ex_211 => ?_)
          have tx_211 : 0 ≤ x_211.toInt ∧ x_211.toInt ≤ 15 := rg_at R_c42 ex_211
          refine va_iald (D := D) hx hb hK hP 4 0 rfl rfl (v_in (x := x_211.toInt) rfl (by omega) (by omega)) dX11_countsWithout_82 ?_
          refine lv_topi (fun x_212 ex_212 => ?_)
          have tx_212 : 0 ≤ x_212.toInt ∧ x_212.toInt ≤ 12 := rg_at R_c24 ex_212
          have qx_212 : x_212.toInt = (c24 (x_211.toInt).toNat).toInt := by rw [ex_212, tn (show x_211.toInt = x_211.toInt by omega)]
          have gx_212 : 0 < x_212.toInt := cr_at hcr ex_211 ex_212 rfl (show ((i_145.toInt.toNat : Nat) : Int) < w43.toInt by omega)
          refine lv_istore (lv' := [(6, .int x_212), (5, .int 1), (4, .int i_145), (3, .int i_146), (0, .ref ym), (1, .int i1), (2, .int i2)]) hx hb dX11_countsWithout_83 hl (by decide) rfl (fun ls hl => ?_)
          refine lv_aload_n hx hb dX11_countsWithout_85 rfl (lv_at hl 4 rfl) ?_
          refine va_get (D := D) (ci := 11) (C := RX11) (T := TX11) (N := 45) hx hb hts iX11 hown hK hP 0 rfl rfl 22 (by decide) (hts _ m1340) (fun _ h9 => h9) rfl dX11_countsWithout_86 ?_
          refine lv_iconst (v := 0) hx hb dX11_countsWithout_89 (by decide) ?_
          refine va_iald (D := D) hx hb hK hP 3 0 rfl rfl (by unfold vp_in; decide) dX11_countsWithout_90 ?_
          refine lv_topi (fun x_213 ex_213 => ?_)
          refine lv_if_ne (tgt := 107) hx hb dX11_countsWithout_91 (by decide) (fun c_214 => ?_) (fun c_214 => ?_)
          · have c_214 : ¬ x_213.toInt = 0 := fun h => c_214 ((c_eq (x := x_213.toInt) (y := 0) rfl rfl).mpr h)
            refine lv_aload_n hx hb dX11_countsWithout_107 rfl (lv_at hl 4 rfl) ?_
            refine va_get (D := D) (ci := 11) (C := RX11) (T := TX11) (N := 45) hx hb hts iX11 hown hK hP 0 rfl rfl 22 (by decide) (hts _ m1340) (fun _ h9 => h9) rfl dX11_countsWithout_108 ?_
            refine lv_iconst (v := 0) hx hb dX11_countsWithout_111 (by decide) ?_
            refine va_iald (D := D) hx hb hK hP 3 0 rfl rfl (by unfold vp_in; decide) dX11_countsWithout_112 ?_
            refine lv_topi (fun x_215 ex_215 => ?_)
            refine lv_iconst (v := 1) hx hb dX11_countsWithout_113 (by decide) ?_
            refine lv_icmp_ne (tgt := 153) hx hb dX11_countsWithout_114 (by decide) (fun c_216 => ?_) (fun c_216 => ?_)
            · have c_216 : ¬ x_215.toInt = 1 := fun h => c_216 ((c_eq (x := x_215.toInt) (y := 1) rfl rfl).mpr h)
              refine lv_aload_n hx hb dX11_countsWithout_153 rfl (lv_at hl 4 rfl) ?_
              refine va_get (D := D) (ci := 11) (C := RX11) (T := TX11) (N := 45) hx hb hts iX11 hown hK hP 0 rfl rfl 22 (by decide) (hts _ m1340) (fun _ h9 => h9) rfl dX11_countsWithout_154 ?_
              refine lv_iconst (v := 0) hx hb dX11_countsWithout_157 (by decide) ?_
              refine va_iald (D := D) hx hb hK hP 3 0 rfl rfl (by unfold vp_in; decide) dX11_countsWithout_158 ?_
              refine lv_topi (fun x_217 ex_217 => ?_)
              refine lv_iconst (v := 2) hx hb dX11_countsWithout_159 (by decide) ?_
              refine lv_icmp_ne (tgt := 198) hx hb dX11_countsWithout_160 (by decide) (fun c_218 => ?_) (fun c_218 => ?_)
              · have c_218 : ¬ x_217.toInt = 2 := fun h => c_218 ((c_eq (x := x_217.toInt) (y := 2) rfl rfl).mpr h)
                obtain ⟨x_219, ex_219⟩ : ∃ y : Int32, y = i_145 + 1 := ⟨_, rfl⟩
                have tx_219 : x_219.toInt = i_145.toInt + 1 := t_add (x := i_145.toInt) (y := 1) ex_219 rfl rfl (by omega) (by omega)
                refine lv_iinc (v := x_219) (lv' := [(4, .int x_219), (6, .int x_212), (5, .int 1), (3, .int i_146), (0, .ref ym), (1, .int i1), (2, .int i2)]) hx hb dX11_countsWithout_198 hl (k := 2) rfl (by rw [ex_219]; rfl) (by decide) rfl (fun ls hl => ?_)
                refine lv_goto (tgt := 28) hx hb dX11_countsWithout_201 (by decide) ?_
                exact ih_149 (_, _, _, x_219, i_146) ⟨(show 0 ≤ x_219.toInt by omega), (show x_219.toInt ≤ 16 by omega), hP, hS, lv_sub hl [0, 3, 4, 5, 6] rfl⟩ (show (16 - x_219.toInt).toNat < (16 - i_145.toInt).toNat by omega)
              · have c_218 : x_217.toInt = 2 := (c_eq (x := x_217.toInt) (y := 2) rfl rfl).mp c_218
                refine lv_iload hx hb dX11_countsWithout_163 (lv_at hl 0 rfl) ?_
                refine lv_iload hx hb dX11_countsWithout_165 (lv_at hl 1 rfl) ?_
                refine lv_if_eq (tgt := 174) hx hb dX11_countsWithout_167 (by decide) (fun c_220 => absurd c_220 (by decide)) (fun _ => ?_)
                refine lv_iconst (v := 1) hx hb dX11_countsWithout_170 (by decide) ?_
                refine lv_goto (tgt := 175) hx hb dX11_countsWithout_171 (by decide) ?_
                refine lv_isub hx hb dX11_countsWithout_175 ?_
                refine lv_topi (fun x_221 ex_221 => ?_)
                have tx_221 : x_221.toInt = x_212.toInt - 1 := t_sub (x := x_212.toInt) (y := 1) ex_221 rfl rfl (by omega) (by omega)
                refine lv_iload_n hx hb dX11_countsWithout_176 rfl (lv_at hl 3 rfl) ?_
                refine lv_icmp_le (tgt := 196) hx hb dX11_countsWithout_177 (by decide) (fun c_222 => ?_) (fun c_222 => ?_)
                · have c_222 : x_221.toInt ≤ i_146.toInt := (c_le (x := x_221.toInt) (y := i_146.toInt) rfl rfl).mp c_222
                  refine lv_iload_n hx hb dX11_countsWithout_196 rfl (lv_at hl 3 rfl) ?_
                  refine lv_istore_n (lv' := [(3, .int i_146), (6, .int x_212), (5, .int 1), (4, .int i_145), (0, .ref ym), (1, .int i1), (2, .int i2)]) hx hb dX11_countsWithout_197 rfl hl (by decide) rfl (fun ls hl => ?_)
                  obtain ⟨x_223, ex_223⟩ : ∃ y : Int32, y = i_145 + 1 := ⟨_, rfl⟩
                  have tx_223 : x_223.toInt = i_145.toInt + 1 := t_add (x := i_145.toInt) (y := 1) ex_223 rfl rfl (by omega) (by omega)
                  refine lv_iinc (v := x_223) (lv' := [(4, .int x_223), (3, .int i_146), (6, .int x_212), (5, .int 1), (0, .ref ym), (1, .int i1), (2, .int i2)]) hx hb dX11_countsWithout_198 hl (k := 3) rfl (by rw [ex_223]; rfl) (by decide) rfl (fun ls hl => ?_)
                  refine lv_goto (tgt := 28) hx hb dX11_countsWithout_201 (by decide) ?_
                  exact ih_149 (_, _, _, x_223, i_146) ⟨(show 0 ≤ x_223.toInt by omega), (show x_223.toInt ≤ 16 by omega), hP, hS, lv_sub hl [0, 1, 4, 5, 6] rfl⟩ (show (16 - x_223.toInt).toNat < (16 - i_145.toInt).toNat by omega)
                · have c_222 : i_146.toInt < x_221.toInt := by have h := mt (c_le (x := x_221.toInt) (y := i_146.toInt) rfl rfl).mpr c_222; omega
                  refine lv_iload hx hb dX11_countsWithout_180 (lv_at hl 0 rfl) ?_
                  refine lv_iload hx hb dX11_countsWithout_182 (lv_at hl 1 rfl) ?_
                  refine lv_if_eq (tgt := 191) hx hb dX11_countsWithout_184 (by decide) (fun c_224 => absurd c_224 (by decide)) (fun _ => ?_)
                  refine lv_iconst (v := 1) hx hb dX11_countsWithout_187 (by decide) ?_
                  refine lv_goto (tgt := 192) hx hb dX11_countsWithout_188 (by decide) ?_
                  refine lv_isub hx hb dX11_countsWithout_192 ?_
                  refine lv_topi (fun x_225 ex_225 => ?_)
                  have tx_225 : x_225.toInt = x_212.toInt - 1 := t_sub (x := x_212.toInt) (y := 1) ex_225 rfl rfl (by omega) (by omega)
                  refine lv_goto (tgt := 197) hx hb dX11_countsWithout_193 (by decide) ?_
                  refine lv_istore_n (lv' := [(3, .int x_225), (6, .int x_212), (5, .int 1), (4, .int i_145), (0, .ref ym), (1, .int i1), (2, .int i2)]) hx hb dX11_countsWithout_197 rfl hl (by decide) rfl (fun ls hl => ?_)
                  obtain ⟨x_226, ex_226⟩ : ∃ y : Int32, y = i_145 + 1 := ⟨_, rfl⟩
                  have tx_226 : x_226.toInt = i_145.toInt + 1 := t_add (x := i_145.toInt) (y := 1) ex_226 rfl rfl (by omega) (by omega)
                  refine lv_iinc (v := x_226) (lv' := [(4, .int x_226), (3, .int x_225), (6, .int x_212), (5, .int 1), (0, .ref ym), (1, .int i1), (2, .int i2)]) hx hb dX11_countsWithout_198 hl (k := 3) rfl (by rw [ex_226]; rfl) (by decide) rfl (fun ls hl => ?_)
                  refine lv_goto (tgt := 28) hx hb dX11_countsWithout_201 (by decide) ?_
                  exact ih_149 (_, _, _, x_226, x_225) ⟨(show 0 ≤ x_226.toInt by omega), (show x_226.toInt ≤ 16 by omega), hP, hS, lv_sub hl [0, 1, 4, 5, 6] rfl⟩ (show (16 - x_226.toInt).toNat < (16 - i_145.toInt).toNat by omega)
            · have c_216 : x_215.toInt = 1 := (c_eq (x := x_215.toInt) (y := 1) rfl rfl).mp c_216
              refine lv_iload_n hx hb dX11_countsWithout_117 rfl (lv_at hl 3 rfl) ?_
              refine lv_iload hx hb dX11_countsWithout_118 (lv_at hl 1 rfl) ?_
              refine lv_if_eq (tgt := 150) hx hb dX11_countsWithout_120 (by decide) (fun c_227 => absurd c_227 (by decide)) (fun _ => ?_)
              refine lv_aload_n hx hb dX11_countsWithout_123 rfl (lv_at hl 4 rfl) ?_
              refine lv_aload_n hx hb dX11_countsWithout_124 rfl (lv_at hl 4 rfl) ?_
              refine va_get (D := D) (ci := 11) (C := RX11) (T := TX11) (N := 45) hx hb hts iX11 hown hK hP 0 rfl rfl 25 (by decide) (hts _ m1343) (fun _ h9 => h9) rfl dX11_countsWithout_125 ?_
              refine lv_bipush (v := 12) hx hb dX11_countsWithout_128 (by decide) ?_
              refine lv_aload_n hx hb dX11_countsWithout_130 rfl (lv_at hl 4 rfl) ?_
              refine va_get (D := D) (ci := 11) (C := RX11) (T := TX11) (N := 45) hx hb hts iX11 hown hK hP 0 rfl rfl 42 (by decide) (hts _ m1359) (fun _ h9 => h9) rfl dX11_countsWithout_131 ?_
              refine lv_iload hx hb dX11_countsWithout_134 (lv_at hl 2 rfl) ?_
              refine va_iald (D := D) hx hb hK hP 6 0 rfl rfl (v_in (x := i_145.toInt) rfl (by omega) (by omega)) dX11_countsWithout_136 ?_
              refine lv_topi (fun x_228 ex_228 => ?_)
              have tx_228 : 0 ≤ x_228.toInt ∧ x_228.toInt ≤ 15 := rg_at R_c42 ex_228
              refine lv_imul hx hb dX11_countsWithout_137 ?_
              refine lv_topi (fun x_229 ex_229 => ?_)
              have tx_229 : x_229.toInt = 12 * x_228.toInt := t_mul (x := 12) (y := x_228.toInt) ex_229 rfl rfl (by omega) (by omega)
              refine lv_iload hx hb dX11_countsWithout_138 (lv_at hl 0 rfl) ?_
              refine lv_iadd hx hb dX11_countsWithout_140 ?_
              refine lv_topi (fun x_230 ex_230 => ?_)
              have tx_230 : x_230.toInt = x_229.toInt + x_212.toInt := t_add (x := x_229.toInt) (y := x_212.toInt) ex_230 rfl rfl (by omega) (by omega)
              refine lv_iconst (v := 1) hx hb dX11_countsWithout_141 (by decide) ?_
              refine lv_isub hx hb dX11_countsWithout_142 ?_
              refine lv_topi (fun x_231 ex_231 => ?_)
              have tx_231 : x_231.toInt = x_230.toInt - 1 := t_sub (x := x_230.toInt) (y := 1) ex_231 rfl rfl (by omega) (by omega)
              refine va_iald (D := D) hx hb hK hP 5 0 rfl rfl (v_in (x := x_231.toInt) rfl (by omega) (by omega)) dX11_countsWithout_143 ?_
              refine lv_topi (fun x_232 ex_232 => ?_)
              have tx_232 : 0 ≤ x_232.toInt ∧ x_232.toInt ≤ 4 := rg_at R_c25 ex_232
              refine puI (cV (As := [.int x_232]) (rest := [.int i_146]) ⟨hx, hb, hml, hown, hts⟩ (c_X11_weightOf2 l D T y1 y16 y17 y18 y19 y2 y20 y21 y22 y23 y24 y25 y26 y27 y28 y29 y3 y30 y31 y32 y36 y4 y40 y41 y42 y5 ym x_232 w0 w10 w12 w13 w14 w15 w33 w34 w35 w37 w38 w39 w43 w6 w7 w8 w9 v11 v44 c19 ⟨by omega, by omega⟩ ⟨by omega, by omega⟩ ⟨by omega, by omega⟩) k_X11_weightOf v_X11_weightOf m1626 rfl rfl ⟨(Nat.le_of_ble_eq_true rfl), (Nat.le_of_ble_eq_true rfl)⟩ (preP hC (hP.sub (ws' := [(ym, .inr (11, [.int w0, .ref y1, .ref y2, .ref y3, .ref y4, .ref y5, .int w6, .int w7, .int w8, .int w9, .int w10, .long v11, .int w12, .int w13, .int w14, .int w15, .ref y16, .ref y17, .ref y18, .ref y19, .ref y20, .ref y21, .ref y22, .ref y23, .ref y24, .ref y25, .ref y26, .ref y27, .ref y28, .ref y29, .ref y30, .ref y31, .ref y32, .int w33, .int w34, .int w35, .ref y36, .int w37, .int w38, .int w39, .ref y40, .ref y41, .ref y42, .int w43, .long v44])), (y19, .inl (T 0, 75, .inl c19))]) [0, 2] rfl)) (va_recv hK hP (ci := 11) (q0 := 0) rfl rfl) rfl hl.1 rfl (Nat.le_of_ble_eq_true rfl) dX11_countsWithout_144 ⟨(Nat.le_of_ble_eq_true rfl), (Nat.le_of_ble_eq_true rfl)⟩) hS hP (fun r_233 H locs hw hP hS => ?_)
              have w_235 : (r_233 = c19 (3 * x_232.toInt).toNat) := hw
              obtain c_236 := w_235
              refine lv_goto (tgt := 151) hx hb dX11_countsWithout_147 (by decide) ?_
              refine lv_isub hx hb dX11_countsWithout_151 ?_
              refine lv_topi (fun x_237 ex_237 => ?_)
              refine lv_istore_n (lv' := [(3, .int x_237), (6, .int x_212), (5, .int 1), (4, .int i_145), (0, .ref ym), (1, .int i1), (2, .int i2)]) hx hb dX11_countsWithout_152 rfl hl (by decide) rfl (fun ls hl => ?_)
              refine lv_aload_n hx hb dX11_countsWithout_153 rfl (lv_at hl 4 rfl) ?_
              refine va_get (D := D) (ci := 11) (C := RX11) (T := TX11) (N := 45) hx hb hts iX11 hown hK hP 0 rfl rfl 22 (by decide) (hts _ m1340) (fun _ h9 => h9) rfl dX11_countsWithout_154 ?_
              refine lv_iconst (v := 0) hx hb dX11_countsWithout_157 (by decide) ?_
              refine va_iald (D := D) hx hb hK hP 3 0 rfl rfl (by unfold vp_in; decide) dX11_countsWithout_158 ?_
              refine lv_topi (fun x_238 ex_238 => ?_)
              refine lv_iconst (v := 2) hx hb dX11_countsWithout_159 (by decide) ?_
              refine lv_icmp_ne (tgt := 198) hx hb dX11_countsWithout_160 (by decide) (fun c_239 => ?_) (fun c_239 => ?_)
              · have c_239 : ¬ x_238.toInt = 2 := fun h => c_239 ((c_eq (x := x_238.toInt) (y := 2) rfl rfl).mpr h)
                obtain ⟨x_240, ex_240⟩ : ∃ y : Int32, y = i_145 + 1 := ⟨_, rfl⟩
                have tx_240 : x_240.toInt = i_145.toInt + 1 := t_add (x := i_145.toInt) (y := 1) ex_240 rfl rfl (by omega) (by omega)
                refine lv_iinc (v := x_240) (lv' := [(4, .int x_240), (3, .int x_237), (6, .int x_212), (5, .int 1), (0, .ref ym), (1, .int i1), (2, .int i2)]) hx hb dX11_countsWithout_198 hl (k := 3) rfl (by rw [ex_240]; rfl) (by decide) rfl (fun ls hl => ?_)
                refine lv_goto (tgt := 28) hx hb dX11_countsWithout_201 (by decide) ?_
                exact ih_149 (_, _, _, x_240, x_237) ⟨(show 0 ≤ x_240.toInt by omega), (show x_240.toInt ≤ 16 by omega), hP, hS, lv_sub hl [0, 1, 4, 5, 6] rfl⟩ (show (16 - x_240.toInt).toNat < (16 - i_145.toInt).toNat by omega)
              · have c_239 : x_238.toInt = 2 := (c_eq (x := x_238.toInt) (y := 2) rfl rfl).mp c_239
                refine lv_iload hx hb dX11_countsWithout_163 (lv_at hl 1 rfl) ?_
                refine lv_iload hx hb dX11_countsWithout_165 (lv_at hl 2 rfl) ?_
                refine lv_if_eq (tgt := 174) hx hb dX11_countsWithout_167 (by decide) (fun c_241 => absurd c_241 (by decide)) (fun _ => ?_)
                refine lv_iconst (v := 1) hx hb dX11_countsWithout_170 (by decide) ?_
                refine lv_goto (tgt := 175) hx hb dX11_countsWithout_171 (by decide) ?_
                refine lv_isub hx hb dX11_countsWithout_175 ?_
                refine lv_topi (fun x_242 ex_242 => ?_)
                have tx_242 : x_242.toInt = x_212.toInt - 1 := t_sub (x := x_212.toInt) (y := 1) ex_242 rfl rfl (by omega) (by omega)
                refine lv_iload_n hx hb dX11_countsWithout_176 rfl (lv_at hl 0 rfl) ?_
                refine lv_icmp_le (tgt := 196) hx hb dX11_countsWithout_177 (by decide) (fun c_243 => ?_) (fun c_243 => ?_)
                · have c_243 : x_242.toInt ≤ x_237.toInt := (c_le (x := x_242.toInt) (y := x_237.toInt) rfl rfl).mp c_243
                  refine lv_iload_n hx hb dX11_countsWithout_196 rfl (lv_at hl 0 rfl) ?_
                  refine lv_istore_n (lv' := [(3, .int x_237), (6, .int x_212), (5, .int 1), (4, .int i_145), (0, .ref ym), (1, .int i1), (2, .int i2)]) hx hb dX11_countsWithout_197 rfl hl (by decide) rfl (fun ls hl => ?_)
                  obtain ⟨x_244, ex_244⟩ : ∃ y : Int32, y = i_145 + 1 := ⟨_, rfl⟩
                  have tx_244 : x_244.toInt = i_145.toInt + 1 := t_add (x := i_145.toInt) (y := 1) ex_244 rfl rfl (by omega) (by omega)
                  refine lv_iinc (v := x_244) (lv' := [(4, .int x_244), (3, .int x_237), (6, .int x_212), (5, .int 1), (0, .ref ym), (1, .int i1), (2, .int i2)]) hx hb dX11_countsWithout_198 hl (k := 3) rfl (by rw [ex_244]; rfl) (by decide) rfl (fun ls hl => ?_)
                  refine lv_goto (tgt := 28) hx hb dX11_countsWithout_201 (by decide) ?_
                  exact ih_149 (_, _, _, x_244, x_237) ⟨(show 0 ≤ x_244.toInt by omega), (show x_244.toInt ≤ 16 by omega), hP, hS, lv_sub hl [0, 1, 4, 5, 6] rfl⟩ (show (16 - x_244.toInt).toNat < (16 - i_145.toInt).toNat by omega)
                · have c_243 : x_237.toInt < x_242.toInt := by have h := mt (c_le (x := x_242.toInt) (y := x_237.toInt) rfl rfl).mpr c_243; omega
                  refine lv_iload hx hb dX11_countsWithout_180 (lv_at hl 1 rfl) ?_
                  refine lv_iload hx hb dX11_countsWithout_182 (lv_at hl 2 rfl) ?_
                  refine lv_if_eq (tgt := 191) hx hb dX11_countsWithout_184 (by decide) (fun c_245 => absurd c_245 (by decide)) (fun _ => ?_)
                  refine lv_iconst (v := 1) hx hb dX11_countsWithout_187 (by decide) ?_
                  refine lv_goto (tgt := 192) hx hb dX11_countsWithout_188 (by decide) ?_
                  refine lv_isub hx hb dX11_countsWithout_192 ?_
                  refine lv_topi (fun x_246 ex_246 => ?_)
                  have tx_246 : x_246.toInt = x_212.toInt - 1 := t_sub (x := x_212.toInt) (y := 1) ex_246 rfl rfl (by omega) (by omega)
                  refine lv_goto (tgt := 197) hx hb dX11_countsWithout_193 (by decide) ?_
                  refine lv_istore_n (lv' := [(3, .int x_246), (6, .int x_212), (5, .int 1), (4, .int i_145), (0, .ref ym), (1, .int i1), (2, .int i2)]) hx hb dX11_countsWithout_197 rfl hl (by decide) rfl (fun ls hl => ?_)
                  obtain ⟨x_247, ex_247⟩ : ∃ y : Int32, y = i_145 + 1 := ⟨_, rfl⟩
                  have tx_247 : x_247.toInt = i_145.toInt + 1 := t_add (x := i_145.toInt) (y := 1) ex_247 rfl rfl (by omega) (by omega)
                  refine lv_iinc (v := x_247) (lv' := [(4, .int x_247), (3, .int x_246), (6, .int x_212), (5, .int 1), (0, .ref ym), (1, .int i1), (2, .int i2)]) hx hb dX11_countsWithout_198 hl (k := 3) rfl (by rw [ex_247]; rfl) (by decide) rfl (fun ls hl => ?_)
                  refine lv_goto (tgt := 28) hx hb dX11_countsWithout_201 (by decide) ?_
                  exact ih_149 (_, _, _, x_247, x_246) ⟨(show 0 ≤ x_247.toInt by omega), (show x_247.toInt ≤ 16 by omega), hP, hS, lv_sub hl [0, 1, 4, 5, 6] rfl⟩ (show (16 - x_247.toInt).toNat < (16 - i_145.toInt).toNat by omega)
          · have c_214 : x_213.toInt = 0 := (c_eq (x := x_213.toInt) (y := 0) rfl rfl).mp c_214
            refine lv_iload_n hx hb dX11_countsWithout_94 rfl (lv_at hl 3 rfl) ?_
            refine lv_iload hx hb dX11_countsWithout_95 (lv_at hl 1 rfl) ?_
            refine lv_if_eq (tgt := 104) hx hb dX11_countsWithout_97 (by decide) (fun c_248 => absurd c_248 (by decide)) (fun _ => ?_)
            refine lv_iconst (v := 1) hx hb dX11_countsWithout_100 (by decide) ?_
            refine lv_goto (tgt := 105) hx hb dX11_countsWithout_101 (by decide) ?_
            refine lv_isub hx hb dX11_countsWithout_105 ?_
            refine lv_topi (fun x_249 ex_249 => ?_)
            refine lv_istore_n (lv' := [(3, .int x_249), (6, .int x_212), (5, .int 1), (4, .int i_145), (0, .ref ym), (1, .int i1), (2, .int i2)]) hx hb dX11_countsWithout_106 rfl hl (by decide) rfl (fun ls hl => ?_)
            refine lv_aload_n hx hb dX11_countsWithout_107 rfl (lv_at hl 4 rfl) ?_
            refine va_get (D := D) (ci := 11) (C := RX11) (T := TX11) (N := 45) hx hb hts iX11 hown hK hP 0 rfl rfl 22 (by decide) (hts _ m1340) (fun _ h9 => h9) rfl dX11_countsWithout_108 ?_
            refine lv_iconst (v := 0) hx hb dX11_countsWithout_111 (by decide) ?_
            refine va_iald (D := D) hx hb hK hP 3 0 rfl rfl (by unfold vp_in; decide) dX11_countsWithout_112 ?_
            refine lv_topi (fun x_250 ex_250 => ?_)
            refine lv_iconst (v := 1) hx hb dX11_countsWithout_113 (by decide) ?_
            refine lv_icmp_ne (tgt := 153) hx hb dX11_countsWithout_114 (by decide) (fun c_251 => ?_) (fun c_251 => ?_)
            · have c_251 : ¬ x_250.toInt = 1 := fun h => c_251 ((c_eq (x := x_250.toInt) (y := 1) rfl rfl).mpr h)
              refine lv_aload_n hx hb dX11_countsWithout_153 rfl (lv_at hl 4 rfl) ?_
              refine va_get (D := D) (ci := 11) (C := RX11) (T := TX11) (N := 45) hx hb hts iX11 hown hK hP 0 rfl rfl 22 (by decide) (hts _ m1340) (fun _ h9 => h9) rfl dX11_countsWithout_154 ?_
              refine lv_iconst (v := 0) hx hb dX11_countsWithout_157 (by decide) ?_
              refine va_iald (D := D) hx hb hK hP 3 0 rfl rfl (by unfold vp_in; decide) dX11_countsWithout_158 ?_
              refine lv_topi (fun x_252 ex_252 => ?_)
              refine lv_iconst (v := 2) hx hb dX11_countsWithout_159 (by decide) ?_
              refine lv_icmp_ne (tgt := 198) hx hb dX11_countsWithout_160 (by decide) (fun c_253 => ?_) (fun c_253 => ?_)
              · have c_253 : ¬ x_252.toInt = 2 := fun h => c_253 ((c_eq (x := x_252.toInt) (y := 2) rfl rfl).mpr h)
                obtain ⟨x_254, ex_254⟩ : ∃ y : Int32, y = i_145 + 1 := ⟨_, rfl⟩
                have tx_254 : x_254.toInt = i_145.toInt + 1 := t_add (x := i_145.toInt) (y := 1) ex_254 rfl rfl (by omega) (by omega)
                refine lv_iinc (v := x_254) (lv' := [(4, .int x_254), (3, .int x_249), (6, .int x_212), (5, .int 1), (0, .ref ym), (1, .int i1), (2, .int i2)]) hx hb dX11_countsWithout_198 hl (k := 3) rfl (by rw [ex_254]; rfl) (by decide) rfl (fun ls hl => ?_)
                refine lv_goto (tgt := 28) hx hb dX11_countsWithout_201 (by decide) ?_
                exact ih_149 (_, _, _, x_254, x_249) ⟨(show 0 ≤ x_254.toInt by omega), (show x_254.toInt ≤ 16 by omega), hP, hS, lv_sub hl [0, 1, 4, 5, 6] rfl⟩ (show (16 - x_254.toInt).toNat < (16 - i_145.toInt).toNat by omega)
              · have c_253 : x_252.toInt = 2 := (c_eq (x := x_252.toInt) (y := 2) rfl rfl).mp c_253
                refine lv_iload hx hb dX11_countsWithout_163 (lv_at hl 1 rfl) ?_
                refine lv_iload hx hb dX11_countsWithout_165 (lv_at hl 2 rfl) ?_
                refine lv_if_eq (tgt := 174) hx hb dX11_countsWithout_167 (by decide) (fun c_255 => absurd c_255 (by decide)) (fun _ => ?_)
                refine lv_iconst (v := 1) hx hb dX11_countsWithout_170 (by decide) ?_
                refine lv_goto (tgt := 175) hx hb dX11_countsWithout_171 (by decide) ?_
                refine lv_isub hx hb dX11_countsWithout_175 ?_
                refine lv_topi (fun x_256 ex_256 => ?_)
                have tx_256 : x_256.toInt = x_212.toInt - 1 := t_sub (x := x_212.toInt) (y := 1) ex_256 rfl rfl (by omega) (by omega)
                refine lv_iload_n hx hb dX11_countsWithout_176 rfl (lv_at hl 0 rfl) ?_
                refine lv_icmp_le (tgt := 196) hx hb dX11_countsWithout_177 (by decide) (fun c_257 => ?_) (fun c_257 => ?_)
                · have c_257 : x_256.toInt ≤ x_249.toInt := (c_le (x := x_256.toInt) (y := x_249.toInt) rfl rfl).mp c_257
                  refine lv_iload_n hx hb dX11_countsWithout_196 rfl (lv_at hl 0 rfl) ?_
                  refine lv_istore_n (lv' := [(3, .int x_249), (6, .int x_212), (5, .int 1), (4, .int i_145), (0, .ref ym), (1, .int i1), (2, .int i2)]) hx hb dX11_countsWithout_197 rfl hl (by decide) rfl (fun ls hl => ?_)
                  obtain ⟨x_258, ex_258⟩ : ∃ y : Int32, y = i_145 + 1 := ⟨_, rfl⟩
                  have tx_258 : x_258.toInt = i_145.toInt + 1 := t_add (x := i_145.toInt) (y := 1) ex_258 rfl rfl (by omega) (by omega)
                  refine lv_iinc (v := x_258) (lv' := [(4, .int x_258), (3, .int x_249), (6, .int x_212), (5, .int 1), (0, .ref ym), (1, .int i1), (2, .int i2)]) hx hb dX11_countsWithout_198 hl (k := 3) rfl (by rw [ex_258]; rfl) (by decide) rfl (fun ls hl => ?_)
                  refine lv_goto (tgt := 28) hx hb dX11_countsWithout_201 (by decide) ?_
                  exact ih_149 (_, _, _, x_258, x_249) ⟨(show 0 ≤ x_258.toInt by omega), (show x_258.toInt ≤ 16 by omega), hP, hS, lv_sub hl [0, 1, 4, 5, 6] rfl⟩ (show (16 - x_258.toInt).toNat < (16 - i_145.toInt).toNat by omega)
                · have c_257 : x_249.toInt < x_256.toInt := by have h := mt (c_le (x := x_256.toInt) (y := x_249.toInt) rfl rfl).mpr c_257; omega
                  refine lv_iload hx hb dX11_countsWithout_180 (lv_at hl 1 rfl) ?_
                  refine lv_iload hx hb dX11_countsWithout_182 (lv_at hl 2 rfl) ?_
                  refine lv_if_eq (tgt := 191) hx hb dX11_countsWithout_184 (by decide) (fun c_259 => absurd c_259 (by decide)) (fun _ => ?_)
                  refine lv_iconst (v := 1) hx hb dX11_countsWithout_187 (by decide) ?_
                  refine lv_goto (tgt := 192) hx hb dX11_countsWithout_188 (by decide) ?_
                  refine lv_isub hx hb dX11_countsWithout_192 ?_
                  refine lv_topi (fun x_260 ex_260 => ?_)
                  have tx_260 : x_260.toInt = x_212.toInt - 1 := t_sub (x := x_212.toInt) (y := 1) ex_260 rfl rfl (by omega) (by omega)
                  refine lv_goto (tgt := 197) hx hb dX11_countsWithout_193 (by decide) ?_
                  refine lv_istore_n (lv' := [(3, .int x_260), (6, .int x_212), (5, .int 1), (4, .int i_145), (0, .ref ym), (1, .int i1), (2, .int i2)]) hx hb dX11_countsWithout_197 rfl hl (by decide) rfl (fun ls hl => ?_)
                  obtain ⟨x_261, ex_261⟩ : ∃ y : Int32, y = i_145 + 1 := ⟨_, rfl⟩
                  have tx_261 : x_261.toInt = i_145.toInt + 1 := t_add (x := i_145.toInt) (y := 1) ex_261 rfl rfl (by omega) (by omega)
                  refine lv_iinc (v := x_261) (lv' := [(4, .int x_261), (3, .int x_260), (6, .int x_212), (5, .int 1), (0, .ref ym), (1, .int i1), (2, .int i2)]) hx hb dX11_countsWithout_198 hl (k := 3) rfl (by rw [ex_261]; rfl) (by decide) rfl (fun ls hl => ?_)
                  refine lv_goto (tgt := 28) hx hb dX11_countsWithout_201 (by decide) ?_
                  exact ih_149 (_, _, _, x_261, x_260) ⟨(show 0 ≤ x_261.toInt by omega), (show x_261.toInt ≤ 16 by omega), hP, hS, lv_sub hl [0, 1, 4, 5, 6] rfl⟩ (show (16 - x_261.toInt).toNat < (16 - i_145.toInt).toNat by omega)
            · have c_251 : x_250.toInt = 1 := (c_eq (x := x_250.toInt) (y := 1) rfl rfl).mp c_251
              refine lv_iload_n hx hb dX11_countsWithout_117 rfl (lv_at hl 0 rfl) ?_
              refine lv_iload hx hb dX11_countsWithout_118 (lv_at hl 2 rfl) ?_
              refine lv_if_eq (tgt := 150) hx hb dX11_countsWithout_120 (by decide) (fun c_262 => absurd c_262 (by decide)) (fun _ => ?_)
              refine lv_aload_n hx hb dX11_countsWithout_123 rfl (lv_at hl 4 rfl) ?_
              refine lv_aload_n hx hb dX11_countsWithout_124 rfl (lv_at hl 4 rfl) ?_
              refine va_get (D := D) (ci := 11) (C := RX11) (T := TX11) (N := 45) hx hb hts iX11 hown hK hP 0 rfl rfl 25 (by decide) (hts _ m1343) (fun _ h9 => h9) rfl dX11_countsWithout_125 ?_
              refine lv_bipush (v := 12) hx hb dX11_countsWithout_128 (by decide) ?_
              refine lv_aload_n hx hb dX11_countsWithout_130 rfl (lv_at hl 4 rfl) ?_
              refine va_get (D := D) (ci := 11) (C := RX11) (T := TX11) (N := 45) hx hb hts iX11 hown hK hP 0 rfl rfl 42 (by decide) (hts _ m1359) (fun _ h9 => h9) rfl dX11_countsWithout_131 ?_
              refine lv_iload hx hb dX11_countsWithout_134 (lv_at hl 3 rfl) ?_
              refine va_iald (D := D) hx hb hK hP 6 0 rfl rfl (v_in (x := i_145.toInt) rfl (by omega) (by omega)) dX11_countsWithout_136 ?_
              refine lv_topi (fun x_263 ex_263 => ?_)
              have tx_263 : 0 ≤ x_263.toInt ∧ x_263.toInt ≤ 15 := rg_at R_c42 ex_263
              refine lv_imul hx hb dX11_countsWithout_137 ?_
              refine lv_topi (fun x_264 ex_264 => ?_)
              have tx_264 : x_264.toInt = 12 * x_263.toInt := t_mul (x := 12) (y := x_263.toInt) ex_264 rfl rfl (by omega) (by omega)
              refine lv_iload hx hb dX11_countsWithout_138 (lv_at hl 1 rfl) ?_
              refine lv_iadd hx hb dX11_countsWithout_140 ?_
              refine lv_topi (fun x_265 ex_265 => ?_)
              have tx_265 : x_265.toInt = x_264.toInt + x_212.toInt := t_add (x := x_264.toInt) (y := x_212.toInt) ex_265 rfl rfl (by omega) (by omega)
              refine lv_iconst (v := 1) hx hb dX11_countsWithout_141 (by decide) ?_
              refine lv_isub hx hb dX11_countsWithout_142 ?_
              refine lv_topi (fun x_266 ex_266 => ?_)
              have tx_266 : x_266.toInt = x_265.toInt - 1 := t_sub (x := x_265.toInt) (y := 1) ex_266 rfl rfl (by omega) (by omega)
              refine va_iald (D := D) hx hb hK hP 5 0 rfl rfl (v_in (x := x_266.toInt) rfl (by omega) (by omega)) dX11_countsWithout_143 ?_
              refine lv_topi (fun x_267 ex_267 => ?_)
              have tx_267 : 0 ≤ x_267.toInt ∧ x_267.toInt ≤ 4 := rg_at R_c25 ex_267
              refine puI (cV (As := [.int x_267]) (rest := [.int x_249]) ⟨hx, hb, hml, hown, hts⟩ (c_X11_weightOf2 l D T y1 y16 y17 y18 y19 y2 y20 y21 y22 y23 y24 y25 y26 y27 y28 y29 y3 y30 y31 y32 y36 y4 y40 y41 y42 y5 ym x_267 w0 w10 w12 w13 w14 w15 w33 w34 w35 w37 w38 w39 w43 w6 w7 w8 w9 v11 v44 c19 ⟨by omega, by omega⟩ ⟨by omega, by omega⟩ ⟨by omega, by omega⟩) k_X11_weightOf v_X11_weightOf m1626 rfl rfl ⟨(Nat.le_of_ble_eq_true rfl), (Nat.le_of_ble_eq_true rfl)⟩ (preP hC (hP.sub (ws' := [(ym, .inr (11, [.int w0, .ref y1, .ref y2, .ref y3, .ref y4, .ref y5, .int w6, .int w7, .int w8, .int w9, .int w10, .long v11, .int w12, .int w13, .int w14, .int w15, .ref y16, .ref y17, .ref y18, .ref y19, .ref y20, .ref y21, .ref y22, .ref y23, .ref y24, .ref y25, .ref y26, .ref y27, .ref y28, .ref y29, .ref y30, .ref y31, .ref y32, .int w33, .int w34, .int w35, .ref y36, .int w37, .int w38, .int w39, .ref y40, .ref y41, .ref y42, .int w43, .long v44])), (y19, .inl (T 0, 75, .inl c19))]) [0, 2] rfl)) (va_recv hK hP (ci := 11) (q0 := 0) rfl rfl) rfl hl.1 rfl (Nat.le_of_ble_eq_true rfl) dX11_countsWithout_144 ⟨(Nat.le_of_ble_eq_true rfl), (Nat.le_of_ble_eq_true rfl)⟩) hS hP (fun r_268 H locs hw hP hS => ?_)
              have w_270 : (r_268 = c19 (3 * x_267.toInt).toNat) := hw
              obtain c_271 := w_270
              refine lv_goto (tgt := 151) hx hb dX11_countsWithout_147 (by decide) ?_
              refine lv_isub hx hb dX11_countsWithout_151 ?_
              refine lv_topi (fun x_272 ex_272 => ?_)
              refine lv_istore_n (lv' := [(3, .int x_272), (6, .int x_212), (5, .int 1), (4, .int i_145), (0, .ref ym), (1, .int i1), (2, .int i2)]) hx hb dX11_countsWithout_152 rfl hl (by decide) rfl (fun ls hl => ?_)
              refine lv_aload_n hx hb dX11_countsWithout_153 rfl (lv_at hl 4 rfl) ?_
              refine va_get (D := D) (ci := 11) (C := RX11) (T := TX11) (N := 45) hx hb hts iX11 hown hK hP 0 rfl rfl 22 (by decide) (hts _ m1340) (fun _ h9 => h9) rfl dX11_countsWithout_154 ?_
              refine lv_iconst (v := 0) hx hb dX11_countsWithout_157 (by decide) ?_
              refine va_iald (D := D) hx hb hK hP 3 0 rfl rfl (by unfold vp_in; decide) dX11_countsWithout_158 ?_
              refine lv_topi (fun x_273 ex_273 => ?_)
              refine lv_iconst (v := 2) hx hb dX11_countsWithout_159 (by decide) ?_
              refine lv_icmp_ne (tgt := 198) hx hb dX11_countsWithout_160 (by decide) (fun c_274 => ?_) (fun c_274 => ?_)
              · have c_274 : ¬ x_273.toInt = 2 := fun h => c_274 ((c_eq (x := x_273.toInt) (y := 2) rfl rfl).mpr h)
                obtain ⟨x_275, ex_275⟩ : ∃ y : Int32, y = i_145 + 1 := ⟨_, rfl⟩
                have tx_275 : x_275.toInt = i_145.toInt + 1 := t_add (x := i_145.toInt) (y := 1) ex_275 rfl rfl (by omega) (by omega)
                refine lv_iinc (v := x_275) (lv' := [(4, .int x_275), (3, .int x_272), (6, .int x_212), (5, .int 1), (0, .ref ym), (1, .int i1), (2, .int i2)]) hx hb dX11_countsWithout_198 hl (k := 3) rfl (by rw [ex_275]; rfl) (by decide) rfl (fun ls hl => ?_)
                refine lv_goto (tgt := 28) hx hb dX11_countsWithout_201 (by decide) ?_
                exact ih_149 (_, _, _, x_275, x_272) ⟨(show 0 ≤ x_275.toInt by omega), (show x_275.toInt ≤ 16 by omega), hP, hS, lv_sub hl [0, 1, 4, 5, 6] rfl⟩ (show (16 - x_275.toInt).toNat < (16 - i_145.toInt).toNat by omega)
              · have c_274 : x_273.toInt = 2 := (c_eq (x := x_273.toInt) (y := 2) rfl rfl).mp c_274
                refine lv_iload hx hb dX11_countsWithout_163 (lv_at hl 1 rfl) ?_
                refine lv_iload hx hb dX11_countsWithout_165 (lv_at hl 2 rfl) ?_
                refine lv_if_eq (tgt := 174) hx hb dX11_countsWithout_167 (by decide) (fun c_276 => absurd c_276 (by decide)) (fun _ => ?_)
                refine lv_iconst (v := 1) hx hb dX11_countsWithout_170 (by decide) ?_
                refine lv_goto (tgt := 175) hx hb dX11_countsWithout_171 (by decide) ?_
                refine lv_isub hx hb dX11_countsWithout_175 ?_
                refine lv_topi (fun x_277 ex_277 => ?_)
                have tx_277 : x_277.toInt = x_212.toInt - 1 := t_sub (x := x_212.toInt) (y := 1) ex_277 rfl rfl (by omega) (by omega)
                refine lv_iload_n hx hb dX11_countsWithout_176 rfl (lv_at hl 0 rfl) ?_
                refine lv_icmp_le (tgt := 196) hx hb dX11_countsWithout_177 (by decide) (fun c_278 => ?_) (fun c_278 => ?_)
                · have c_278 : x_277.toInt ≤ x_272.toInt := (c_le (x := x_277.toInt) (y := x_272.toInt) rfl rfl).mp c_278
                  refine lv_iload_n hx hb dX11_countsWithout_196 rfl (lv_at hl 0 rfl) ?_
                  refine lv_istore_n (lv' := [(3, .int x_272), (6, .int x_212), (5, .int 1), (4, .int i_145), (0, .ref ym), (1, .int i1), (2, .int i2)]) hx hb dX11_countsWithout_197 rfl hl (by decide) rfl (fun ls hl => ?_)
                  obtain ⟨x_279, ex_279⟩ : ∃ y : Int32, y = i_145 + 1 := ⟨_, rfl⟩
                  have tx_279 : x_279.toInt = i_145.toInt + 1 := t_add (x := i_145.toInt) (y := 1) ex_279 rfl rfl (by omega) (by omega)
                  refine lv_iinc (v := x_279) (lv' := [(4, .int x_279), (3, .int x_272), (6, .int x_212), (5, .int 1), (0, .ref ym), (1, .int i1), (2, .int i2)]) hx hb dX11_countsWithout_198 hl (k := 3) rfl (by rw [ex_279]; rfl) (by decide) rfl (fun ls hl => ?_)
                  refine lv_goto (tgt := 28) hx hb dX11_countsWithout_201 (by decide) ?_
                  exact ih_149 (_, _, _, x_279, x_272) ⟨(show 0 ≤ x_279.toInt by omega), (show x_279.toInt ≤ 16 by omega), hP, hS, lv_sub hl [0, 1, 4, 5, 6] rfl⟩ (show (16 - x_279.toInt).toNat < (16 - i_145.toInt).toNat by omega)
                · have c_278 : x_272.toInt < x_277.toInt := by have h := mt (c_le (x := x_277.toInt) (y := x_272.toInt) rfl rfl).mpr c_278; omega
                  refine lv_iload hx hb dX11_countsWithout_180 (lv_at hl 1 rfl) ?_
                  refine lv_iload hx hb dX11_countsWithout_182 (lv_at hl 2 rfl) ?_
                  refine lv_if_eq (tgt := 191) hx hb dX11_countsWithout_184 (by decide) (fun c_280 => absurd c_280 (by decide)) (fun _ => ?_)
                  refine lv_iconst (v := 1) hx hb dX11_countsWithout_187 (by decide) ?_
                  refine lv_goto (tgt := 192) hx hb dX11_countsWithout_188 (by decide) ?_
                  refine lv_isub hx hb dX11_countsWithout_192 ?_
                  refine lv_topi (fun x_281 ex_281 => ?_)
                  have tx_281 : x_281.toInt = x_212.toInt - 1 := t_sub (x := x_212.toInt) (y := 1) ex_281 rfl rfl (by omega) (by omega)
                  refine lv_goto (tgt := 197) hx hb dX11_countsWithout_193 (by decide) ?_
                  refine lv_istore_n (lv' := [(3, .int x_281), (6, .int x_212), (5, .int 1), (4, .int i_145), (0, .ref ym), (1, .int i1), (2, .int i2)]) hx hb dX11_countsWithout_197 rfl hl (by decide) rfl (fun ls hl => ?_)
                  obtain ⟨x_282, ex_282⟩ : ∃ y : Int32, y = i_145 + 1 := ⟨_, rfl⟩
                  have tx_282 : x_282.toInt = i_145.toInt + 1 := t_add (x := i_145.toInt) (y := 1) ex_282 rfl rfl (by omega) (by omega)
                  refine lv_iinc (v := x_282) (lv' := [(4, .int x_282), (3, .int x_281), (6, .int x_212), (5, .int 1), (0, .ref ym), (1, .int i1), (2, .int i2)]) hx hb dX11_countsWithout_198 hl (k := 3) rfl (by rw [ex_282]; rfl) (by decide) rfl (fun ls hl => ?_)
                  refine lv_goto (tgt := 28) hx hb dX11_countsWithout_201 (by decide) ?_
                  exact ih_149 (_, _, _, x_282, x_281) ⟨(show 0 ≤ x_282.toInt by omega), (show x_282.toInt ≤ 16 by omega), hP, hS, lv_sub hl [0, 1, 4, 5, 6] rfl⟩ (show (16 - x_282.toInt).toNat < (16 - i_145.toInt).toNat by omega)
      · have c_153 : ¬ x_152.toInt = i1.toInt := fun h => c_153 ((c_eq (x := x_152.toInt) (y := i1.toInt) rfl rfl).mpr h)
        refine lv_goto (tgt := 198) hx hb dX11_countsWithout_51 (by decide) ?_
        obtain ⟨x_283, ex_283⟩ : ∃ y : Int32, y = i_145 + 1 := ⟨_, rfl⟩
        have tx_283 : x_283.toInt = i_145.toInt + 1 := t_add (x := i_145.toInt) (y := 1) ex_283 rfl rfl (by omega) (by omega)
        refine lv_iinc (v := x_283) (lv' := [(4, .int x_283), (3, .int i_146), (0, .ref ym), (1, .int i1), (2, .int i2)]) hx hb dX11_countsWithout_198 hl (k := 0) rfl (by rw [ex_283]; rfl) (by decide) rfl (fun ls hl => ?_)
        refine lv_goto (tgt := 28) hx hb dX11_countsWithout_201 (by decide) ?_
        exact ih_149 (_, _, _, x_283, i_146) ⟨(show 0 ≤ x_283.toInt by omega), (show x_283.toInt ≤ 16 by omega), hP, hS, lv_sub hl [0, 1, 2, 3, 4] rfl⟩ (show (16 - x_283.toInt).toNat < (16 - i_145.toInt).toNat by omega)

set_option maxHeartbeats 4000000 in
set_option maxRecDepth 100000 in
theorem c_X11_gale (l : Launch) (D : va_G) (T : Nat → ClassId) (y1 y16 y17 y18 y19 y2 y20 y21 y22 y23 y24 y25 y26 y27 y28 y29 y3 y30 y31 y32 y36 y4 y40 y41 y42 y5 ym : Nat) (i1 w0 w10 w12 w13 w14 w15 w33 w34 w35 w37 w38 w39 w43 w6 w7 w8 w9 : Int32) (v11 v44 : Int64) (c17 c19 c22 c24 c25 c42 : Nat → Int32) (c41 : Nat → Int64) (sz : Nat) (h_w6 : 0 ≤ w6.toInt ∧ w6.toInt ≤ 1600) (h_w43 : 0 ≤ w43.toInt ∧ w43.toInt ≤ 16) (R_c24 : rg 0 12 c24) (R_c25 : rg 0 4 c25) (R_c42 : rg 0 15 c42) (P_0 : pg 3 0 0 8 c17) (P_1 : pg 3 1 0 12 c17) : Met l yX11_gale (wM yX11_gale cX11_gale 6 (some .long)) ({ frames := 4, cells := 0, slots := 0, locals := 98 }) (va_Pc [.ref ym, .int i1] (pwM D T [(ym, .inr (11, [.int w0, .ref y1, .ref y2, .ref y3, .ref y4, .ref y5, .int w6, .int w7, .int w8, .int w9, .int w10, .long v11, .int w12, .int w13, .int w14, .int w15, .ref y16, .ref y17, .ref y18, .ref y19, .ref y20, .ref y21, .ref y22, .ref y23, .ref y24, .ref y25, .ref y26, .ref y27, .ref y28, .ref y29, .ref y30, .ref y31, .ref y32, .int w33, .int w34, .int w35, .ref y36, .int w37, .int w38, .int w39, .ref y40, .ref y41, .ref y42, .int w43, .long v44])), (y17, .inl (T 0, 15, .inl c17)), (y19, .inl (T 0, 75, .inl c19)), (y22, .inl (T 0, 15, .inl c22)), (y24, .inl (T 0, 80, .inl c24)), (y25, .inl (T 0, 960, .inl c25)), (y41, .inl (T 2, 65536, .inr (.inl c41))), (y42, .inl (T 0, 16, .inl c42))] sz)) (va_Ql (fun (r : Int64) (u : U5) => (0 ≤ (u.2.2.2.1 0).toInt ∧ (u.2.2.2.1 0).toInt ≤ 16) ∧ rg 0 15 (u.2.1 0)) (fun u t => pwE D (va_A [(ym, .inr (11, [.int w0, .ref y1, .ref y2, .ref y3, .ref y4, .ref y5, .int w6, .int w7, .int w8, .int w9, .int w10, .long v11, .int w12, .int w13, .int w14, .int w15, .ref y16, .ref y17, .ref y18, .ref y19, .ref y20, .ref y21, .ref y22, .ref y23, .ref y24, .ref y25, .ref y26, .ref y27, .ref y28, .ref y29, .ref y30, .ref y31, .ref y32, .int w33, .int w34, .int w35, .ref y36, .int w37, .int w38, .int w39, .ref y40, .ref y41, .ref y42, .int w43, .long v44])), (y17, .inl (T 0, 15, .inl c17)), (y19, .inl (T 0, 75, .inl c19)), (y22, .inl (T 0, 15, .inl c22)), (y24, .inl (T 0, 80, .inl c24)), (y25, .inl (T 0, 960, .inl c25)), (y41, .inl (T 2, 65536, .inr (.inl c41))), (y42, .inl (T 0, 16, .inl c42))] sz) [(ym, .inr (11, [.int 0, .ref y1, .ref y2, .ref y3, .ref y4, .ref y5, .int w6, .int w7, .int w8, .int w9, .int w10, .long v11, .int w12, .int w13, .int w14, .int w15, .ref y16, .ref y17, .ref y18, .ref y19, .ref y20, .ref y21, .ref y22, .ref y23, .ref y24, .ref y25, .ref y26, .ref y27, .ref y28, .ref y29, .ref y30, .ref y31, .ref y32, .int w33, .int w34, .int w35, .ref y36, .int w37, .int w38, .int w39, .ref y40, .ref y41, .ref y42, .int (u.2.2.2.1 0), .long v44])), (y17, .inl (T 0, 15, .inl c17)), (y19, .inl (T 0, 75, .inl c19)), (y22, .inl (T 0, 15, .inl c22)), (y24, .inl (T 0, 80, .inl c24)), (y25, .inl (T 0, 960, .inl c25)), (y41, .inl (T 2, 65536, .inr (.inl (u.2.2.1 0)))), (y42, .inl (T 0, 16, .inl (u.2.1 0)))] t) (va_A [(ym, .inr (11, [.int w0, .ref y1, .ref y2, .ref y3, .ref y4, .ref y5, .int w6, .int w7, .int w8, .int w9, .int w10, .long v11, .int w12, .int w13, .int w14, .int w15, .ref y16, .ref y17, .ref y18, .ref y19, .ref y20, .ref y21, .ref y22, .ref y23, .ref y24, .ref y25, .ref y26, .ref y27, .ref y28, .ref y29, .ref y30, .ref y31, .ref y32, .int w33, .int w34, .int w35, .ref y36, .int w37, .int w38, .int w39, .ref y40, .ref y41, .ref y42, .int w43, .long v44])), (y17, .inl (T 0, 15, .inl c17)), (y19, .inl (T 0, 75, .inl c19)), (y22, .inl (T 0, 15, .inl c22)), (y24, .inl (T 0, 80, .inl c24)), (y25, .inl (T 0, 960, .inl c25)), (y41, .inl (T 2, 65536, .inr (.inl c41))), (y42, .inl (T 0, 16, .inl c42))] sz)) 0 0 (va_A [(ym, .inr (11, [.int w0, .ref y1, .ref y2, .ref y3, .ref y4, .ref y5, .int w6, .int w7, .int w8, .int w9, .int w10, .long v11, .int w12, .int w13, .int w14, .int w15, .ref y16, .ref y17, .ref y18, .ref y19, .ref y20, .ref y21, .ref y22, .ref y23, .ref y24, .ref y25, .ref y26, .ref y27, .ref y28, .ref y29, .ref y30, .ref y31, .ref y32, .int w33, .int w34, .int w35, .ref y36, .int w37, .int w38, .int w39, .ref y40, .ref y41, .ref y42, .int w43, .long v44])), (y17, .inl (T 0, 15, .inl c17)), (y19, .inl (T 0, 75, .inl c19)), (y22, .inl (T 0, 15, .inl c22)), (y24, .inl (T 0, 80, .inl c24)), (y25, .inl (T 0, 960, .inl c25)), (y41, .inl (T 2, 65536, .inr (.inl c41))), (y42, .inl (T 0, 16, .inl c42))] sz) := by
  refine Met.ofW (cc := cX11_gale) (maxL := 6) (ret := (some .long)) (by decide) rfl ?_
  intro p e s m args below meth c s₁ B hml hv
  obtain ⟨rfl, hsz, hP, hC, hD0⟩ := hv
  have hx := B.exec
  have hb := B.bytes
  have hr := B.returns
  have hts : ∀ w ∈ gt, w.before _ s = true := fun w hw => atoms_spec (ws := (wM yX11_gale cX11_gale 6 (some .long))) B.pre w (List.mem_cons_of_mem _ hw)
  have hown : s.vm.findClass RX11 = some m.cls := findClass_of_methodNamed B.named
  have hlocks := B.notSynchronized
  have hK := hC.1
  subst hsz
  have hD := hD0.self (sz := s.heap.size)
  generalize hAe : va_A [(ym, .inr (11, [.int w0, .ref y1, .ref y2, .ref y3, .ref y4, .ref y5, .int w6, .int w7, .int w8, .int w9, .int w10, .long v11, .int w12, .int w13, .int w14, .int w15, .ref y16, .ref y17, .ref y18, .ref y19, .ref y20, .ref y21, .ref y22, .ref y23, .ref y24, .ref y25, .ref y26, .ref y27, .ref y28, .ref y29, .ref y30, .ref y31, .ref y32, .int w33, .int w34, .int w35, .ref y36, .int w37, .int w38, .int w39, .ref y40, .ref y41, .ref y42, .int w43, .long v44])), (y17, .inl (T 0, 15, .inl c17)), (y19, .inl (T 0, 75, .inl c19)), (y22, .inl (T 0, 15, .inl c22)), (y24, .inl (T 0, 80, .inl c24)), (y25, .inl (T 0, 960, .inl c25)), (y41, .inl (T 2, 65536, .inr (.inl c41))), (y42, .inl (T 0, 16, .inl c42))] s.heap.size = A at hD ⊢
  have hA : ∀ q : Nat, s.heap.size ≤ q → A q := fun q h => by rw [← hAe]; exact Or.inr h
  have hS : va_S A s.heap s.heap [] := va_S.rf
  have hl := lv_entry ([.ref ym, .int i1]) (n := 6) (Nat.le_of_ble_eq_true rfl)
  rw [lg_entry_eq]
  generalize (lg_sl ([.ref ym, .int i1]) ++ List.replicate (6 - (lg_sl ([.ref ym, .int i1])).length) Slot.unset).toArray = ls at hl ⊢
  have hl : lv_has ls 6 [(0, .ref ym), (1, .int i1)] := hl
  have b_y17_0 : 0 ≤ (c17 0).toInt ∧ (c17 0).toInt ≤ 8 := P_0 0
  have b_y17_1 : 0 ≤ (c17 1).toInt ∧ (c17 1).toInt ≤ 12 := P_1 0
  refine lv_aload_n hx hb dX11_gale_0 rfl (lv_at hl 0 rfl) ?_
  refine lv_iconst (v := 0) hx hb dX11_gale_1 (by decide) ?_
  refine va_put (D := D) (ci := 11) (v := .int 0) (ty := .int) (C := RX11) (T := TX11) (N := 45) hx hb hts iX11 tyX11 tyX11_ok nmX11 hown hK hP hD hS 0 rfl rfl 0 (by decide) (hts _ m1318) (fun _ h9 => h9) rfl (by decide +kernel) rfl rfl (Nat.le_of_ble_eq_true rfl) dX11_gale_2 (fun H locs hP hD hS => ?_)
  have hP : va_P D vwCl [(ym, .inr (11, [.int 0, .ref y1, .ref y2, .ref y3, .ref y4, .ref y5, .int w6, .int w7, .int w8, .int w9, .int w10, .long v11, .int w12, .int w13, .int w14, .int w15, .ref y16, .ref y17, .ref y18, .ref y19, .ref y20, .ref y21, .ref y22, .ref y23, .ref y24, .ref y25, .ref y26, .ref y27, .ref y28, .ref y29, .ref y30, .ref y31, .ref y32, .int w33, .int w34, .int w35, .ref y36, .int w37, .int w38, .int w39, .ref y40, .ref y41, .ref y42, .int w43, .long v44])), (y17, .inl (T 0, 15, .inl c17)), (y19, .inl (T 0, 75, .inl c19)), (y22, .inl (T 0, 15, .inl c22)), (y24, .inl (T 0, 80, .inl c24)), (y25, .inl (T 0, 960, .inl c25)), (y41, .inl (T 2, 65536, .inr (.inl c41))), (y42, .inl (T 0, 16, .inl c42))] H := hP
  have hD : va_D A [(ym, .inr (11, [.int 0, .ref y1, .ref y2, .ref y3, .ref y4, .ref y5, .int w6, .int w7, .int w8, .int w9, .int w10, .long v11, .int w12, .int w13, .int w14, .int w15, .ref y16, .ref y17, .ref y18, .ref y19, .ref y20, .ref y21, .ref y22, .ref y23, .ref y24, .ref y25, .ref y26, .ref y27, .ref y28, .ref y29, .ref y30, .ref y31, .ref y32, .int w33, .int w34, .int w35, .ref y36, .int w37, .int w38, .int w39, .ref y40, .ref y41, .ref y42, .int w43, .long v44])), (y17, .inl (T 0, 15, .inl c17)), (y19, .inl (T 0, 75, .inl c19)), (y22, .inl (T 0, 15, .inl c22)), (y24, .inl (T 0, 80, .inl c24)), (y25, .inl (T 0, 960, .inl c25)), (y41, .inl (T 2, 65536, .inr (.inl c41))), (y42, .inl (T 0, 16, .inl c42))] := hD
  refine lv_aload_n hx hb dX11_gale_5 rfl (lv_at hl 0 rfl) ?_
  refine puI (cV (As := []) (rest := []) ⟨hx, hb, hml, hown, hts⟩ (c_X11_isTown l D T y1 y16 y17 y18 y19 y2 y20 y21 y22 y23 y24 y25 y26 y27 y28 y29 y3 y30 y31 y32 y36 y4 y40 y41 y42 y5 ym 0 w10 w12 w13 w14 w15 w33 w34 w35 w37 w38 w39 w43 w6 w7 w8 w9 v11 v44 c17 ⟨by omega, by omega⟩ ⟨by omega, by omega⟩ P_0 P_1) k_X11_isTown v_X11_isTown m1668 rfl rfl ⟨(Nat.le_of_ble_eq_true rfl), (Nat.le_of_ble_eq_true rfl)⟩ (preP hC (hP.sub (ws' := [(ym, .inr (11, [.int 0, .ref y1, .ref y2, .ref y3, .ref y4, .ref y5, .int w6, .int w7, .int w8, .int w9, .int w10, .long v11, .int w12, .int w13, .int w14, .int w15, .ref y16, .ref y17, .ref y18, .ref y19, .ref y20, .ref y21, .ref y22, .ref y23, .ref y24, .ref y25, .ref y26, .ref y27, .ref y28, .ref y29, .ref y30, .ref y31, .ref y32, .int w33, .int w34, .int w35, .ref y36, .int w37, .int w38, .int w39, .ref y40, .ref y41, .ref y42, .int w43, .long v44])), (y17, .inl (T 0, 15, .inl c17))]) [0, 1] rfl)) (va_recv hK hP (ci := 11) (q0 := 0) rfl rfl) rfl hl.1 rfl (Nat.le_of_ble_eq_true rfl) dX11_gale_6 ⟨(Nat.le_of_ble_eq_true rfl), (Nat.le_of_ble_eq_true rfl)⟩) hS hP (fun r_1 H locs hw hP hS => ?_)
  have w_3 : (r_1 = 1 ∧ 0 < (c17 0).toInt) ∨ (r_1 = 0 ∧ (c17 0).toInt ≤ 0) := hw
  rcases w_3 with ⟨rfl, c_4⟩ | ⟨rfl, c_5⟩
  · refine lv_if_eq (tgt := 24) hx hb dX11_gale_9 (by decide) (fun c_6 => absurd c_6 (by decide)) (fun _ => ?_)
    refine lv_iload_n hx hb dX11_gale_12 rfl (lv_at hl 1 rfl) ?_
    refine lv_i2l hx hb dX11_gale_13 rfl ?_
    refine lv_lconst (v := 0) hx hb dX11_gale_14 (by decide) ?_
    refine lv_ldc2 (v := 2) hx hb hown (hts _ m1721) dX11_gale_15 ?_
    refine puI (cS (As := [.long i1.toInt64, .long 0, .long 2]) (rest := []) ⟨hx, hb, hml, hown, hts⟩ (c_X11_in l D T i1.toInt64 0 2) k_X11_in m1462 m1461 rfl rfl ⟨(Nat.le_of_ble_eq_true rfl), (Nat.le_of_ble_eq_true rfl)⟩ (preP hC (hP.sub (ws' := []) [] rfl)) rfl hl.1 rfl (Nat.le_of_ble_eq_true rfl) dX11_gale_18 ⟨(Nat.le_of_ble_eq_true rfl), (Nat.le_of_ble_eq_true rfl)⟩) hS hP (fun r_7 H locs hw hP hS => ?_)
    have w_9 : (r_7 = 1 ∧ (0 : Int64).toInt ≤ i1.toInt64.toInt ∧ i1.toInt64.toInt ≤ (2 : Int64).toInt) ∨ (r_7 = 0 ∧ (i1.toInt64.toInt < (0 : Int64).toInt ∨ (2 : Int64).toInt < i1.toInt64.toInt)) := hw
    rcases w_9 with ⟨rfl, c_10, c_11⟩ | ⟨rfl, c_12⟩
    · have c_10 : 0 ≤ i1.toInt := kle (by decide) (i_64 _) c_10
      have c_11 : i1.toInt ≤ 2 := kle (i_64 _) (by decide) c_11
      refine lv_if_ne (tgt := 28) hx hb dX11_gale_21 (by decide) (fun _ => ?_) (fun c_13 => absurd c_13 (by decide))
      refine lv_aload_n hx hb dX11_gale_28 rfl (lv_at hl 0 rfl) ?_
      refine mtV (wr := [(y19, .inl (T 0, 75, .inl c19)), (y25, .inl (T 0, 960, .inl c25))]) (cV (As := []) (rest := []) ⟨hx, hb, hml, hown, hts⟩ (c_X11_blows l D T y1 y16 y17 y18 y19 y2 y20 y21 y22 y23 y24 y25 y26 y27 y28 y29 y3 y30 y31 y32 y36 y4 y40 y41 y42 y5 ym 0 w10 w12 w13 w14 w15 w33 w34 w35 w37 w38 w39 w43 w6 w7 w8 w9 v11 v44 c17 c22 c24 c42 c41 _ ⟨by omega, by omega⟩ ⟨by omega, by omega⟩ R_c24 R_c42 P_0 P_1) k_X11_blows v_X11_blows m1875 rfl rfl ⟨(Nat.le_of_ble_eq_true rfl), (Nat.le_of_ble_eq_true rfl)⟩ (preM hC (hP.sub (ws' := [(ym, .inr (11, [.int 0, .ref y1, .ref y2, .ref y3, .ref y4, .ref y5, .int w6, .int w7, .int w8, .int w9, .int w10, .long v11, .int w12, .int w13, .int w14, .int w15, .ref y16, .ref y17, .ref y18, .ref y19, .ref y20, .ref y21, .ref y22, .ref y23, .ref y24, .ref y25, .ref y26, .ref y27, .ref y28, .ref y29, .ref y30, .ref y31, .ref y32, .int w33, .int w34, .int w35, .ref y36, .int w37, .int w38, .int w39, .ref y40, .ref y41, .ref y42, .int w43, .long v44])), (y17, .inl (T 0, 15, .inl c17)), (y22, .inl (T 0, 15, .inl c22)), (y24, .inl (T 0, 80, .inl c24)), (y41, .inl (T 2, 65536, .inr (.inl c41))), (y42, .inl (T 0, 16, .inl c42))]) [0, 1, 3, 4, 6, 7] rfl) (hD.sub (ws' := [(ym, .inr (11, [.int 0, .ref y1, .ref y2, .ref y3, .ref y4, .ref y5, .int w6, .int w7, .int w8, .int w9, .int w10, .long v11, .int w12, .int w13, .int w14, .int w15, .ref y16, .ref y17, .ref y18, .ref y19, .ref y20, .ref y21, .ref y22, .ref y23, .ref y24, .ref y25, .ref y26, .ref y27, .ref y28, .ref y29, .ref y30, .ref y31, .ref y32, .int w33, .int w34, .int w35, .ref y36, .int w37, .int w38, .int w39, .ref y40, .ref y41, .ref y42, .int w43, .long v44])), (y17, .inl (T 0, 15, .inl c17)), (y22, .inl (T 0, 15, .inl c22)), (y24, .inl (T 0, 80, .inl c24)), (y41, .inl (T 2, 65536, .inr (.inl c41))), (y42, .inl (T 0, 16, .inl c42))]) [0, 1, 3, 4, 6, 7] (by decide) rfl)) (va_recv hK hP (ci := 11) (q0 := 0) rfl rfl) rfl hl.1 rfl (Nat.le_of_ble_eq_true rfl) dX11_gale_29 ⟨(Nat.le_of_ble_eq_true rfl), (Nat.le_of_ble_eq_true rfl)⟩) hS hA hP hD [0, 1, 3, 4, 6, 7] [2, 5] rfl rfl (by decide) (by decide) (fun u_15 H locs hw hP hD hS => ?_)
      have hP : va_P D vwCl [(ym, .inr (11, [.int 0, .ref y1, .ref y2, .ref y3, .ref y4, .ref y5, .int w6, .int w7, .int w8, .int w9, .int w10, .long v11, .int w12, .int w13, .int w14, .int w15, .ref y16, .ref y17, .ref y18, .ref y19, .ref y20, .ref y21, .ref y22, .ref y23, .ref y24, .ref y25, .ref y26, .ref y27, .ref y28, .ref y29, .ref y30, .ref y31, .ref y32, .int w33, .int w34, .int w35, .ref y36, .int w37, .int w38, .int w39, .ref y40, .ref y41, .ref y42, .int (u_15.2.2.2.1 0), .long v44])), (y17, .inl (T 0, 15, .inl c17)), (y19, .inl (T 0, 75, .inl c19)), (y22, .inl (T 0, 15, .inl c22)), (y24, .inl (T 0, 80, .inl c24)), (y25, .inl (T 0, 960, .inl c25)), (y41, .inl (T 2, 65536, .inr (.inl (u_15.2.2.1 0)))), (y42, .inl (T 0, 16, .inl (u_15.2.1 0)))] H := hP.sub [2, 3, 0, 4, 5, 1, 6, 7] rfl
      have hD : va_D A [(ym, .inr (11, [.int 0, .ref y1, .ref y2, .ref y3, .ref y4, .ref y5, .int w6, .int w7, .int w8, .int w9, .int w10, .long v11, .int w12, .int w13, .int w14, .int w15, .ref y16, .ref y17, .ref y18, .ref y19, .ref y20, .ref y21, .ref y22, .ref y23, .ref y24, .ref y25, .ref y26, .ref y27, .ref y28, .ref y29, .ref y30, .ref y31, .ref y32, .int w33, .int w34, .int w35, .ref y36, .int w37, .int w38, .int w39, .ref y40, .ref y41, .ref y42, .int (u_15.2.2.2.1 0), .long v44])), (y17, .inl (T 0, 15, .inl c17)), (y19, .inl (T 0, 75, .inl c19)), (y22, .inl (T 0, 15, .inl c22)), (y24, .inl (T 0, 80, .inl c24)), (y25, .inl (T 0, 960, .inl c25)), (y41, .inl (T 2, 65536, .inr (.inl (u_15.2.2.1 0)))), (y42, .inl (T 0, 16, .inl (u_15.2.1 0)))] := hD.sub [2, 3, 0, 4, 5, 1, 6, 7] (by decide) rfl
      obtain ⟨w_16, w_17, w_18⟩ : (0 ≤ (u_15.2.2.2.1 0).toInt ∧ (u_15.2.2.2.1 0).toInt ≤ 16) ∧ rg 0 15 (u_15.2.1 0) ∧ (cr (u_15.2.2.2.1 0).toInt c24 (u_15.2.1 0)) := hw
      refine lv_lconst (v := 0) hx hb dX11_gale_32 (by decide) ?_
      refine lv_lstore_n (lv' := [(2, .long 0), (0, .ref ym), (1, .int i1)]) hx hb dX11_gale_33 rfl hl (by decide) rfl (fun ls hl => ?_)
      refine lv_iconst (v := 0) hx hb dX11_gale_34 (by decide) ?_
      refine lv_istore (lv' := [(4, .int 0), (2, .long 0), (0, .ref ym), (1, .int i1)]) hx hb dX11_gale_35 hl (by decide) rfl (fun ls hl => ?_)
      refine lp_ind (fun (a : Heap × List Loc × Array Slot × (Int32) × (Int64)) => match a with | (H, locs, ls, i_19, i_20) => W p l e _ s m _ below meth c H locs 0 0 _ (F0 m 37 ls [])) (fun (a : Heap × List Loc × Array Slot × (Int32) × (Int64)) => match a with | (H, locs, ls, i_19, i_20) => 0 ≤ i_19.toInt ∧ i_19.toInt ≤ 65536 ∧ va_P D vwCl [(ym, .inr (11, [.int 0, .ref y1, .ref y2, .ref y3, .ref y4, .ref y5, .int w6, .int w7, .int w8, .int w9, .int w10, .long v11, .int w12, .int w13, .int w14, .int w15, .ref y16, .ref y17, .ref y18, .ref y19, .ref y20, .ref y21, .ref y22, .ref y23, .ref y24, .ref y25, .ref y26, .ref y27, .ref y28, .ref y29, .ref y30, .ref y31, .ref y32, .int w33, .int w34, .int w35, .ref y36, .int w37, .int w38, .int w39, .ref y40, .ref y41, .ref y42, .int (u_15.2.2.2.1 0), .long v44])), (y17, .inl (T 0, 15, .inl c17)), (y19, .inl (T 0, 75, .inl c19)), (y22, .inl (T 0, 15, .inl c22)), (y24, .inl (T 0, 80, .inl c24)), (y25, .inl (T 0, 960, .inl c25)), (y41, .inl (T 2, 65536, .inr (.inl (u_15.2.2.1 0)))), (y42, .inl (T 0, 16, .inl (u_15.2.1 0)))] H ∧ va_D A [(ym, .inr (11, [.int 0, .ref y1, .ref y2, .ref y3, .ref y4, .ref y5, .int w6, .int w7, .int w8, .int w9, .int w10, .long v11, .int w12, .int w13, .int w14, .int w15, .ref y16, .ref y17, .ref y18, .ref y19, .ref y20, .ref y21, .ref y22, .ref y23, .ref y24, .ref y25, .ref y26, .ref y27, .ref y28, .ref y29, .ref y30, .ref y31, .ref y32, .int w33, .int w34, .int w35, .ref y36, .int w37, .int w38, .int w39, .ref y40, .ref y41, .ref y42, .int (u_15.2.2.2.1 0), .long v44])), (y17, .inl (T 0, 15, .inl c17)), (y19, .inl (T 0, 75, .inl c19)), (y22, .inl (T 0, 15, .inl c22)), (y24, .inl (T 0, 80, .inl c24)), (y25, .inl (T 0, 960, .inl c25)), (y41, .inl (T 2, 65536, .inr (.inl (u_15.2.2.1 0)))), (y42, .inl (T 0, 16, .inl (u_15.2.1 0)))] ∧ va_S A s.heap H locs ∧ lv_has ls 6 [(4, .int i_19), (2, .long i_20), (0, .ref ym), (1, .int i1)]) (fun (a : Heap × List Loc × Array Slot × (Int32) × (Int64)) => match a with | (H, locs, ls, i_19, i_20) => (65536 - i_19.toInt).toNat) ?_ (_, _, ls, (0 : Int32), (0 : Int64)) ⟨(show 0 ≤ (0 : Int) by omega), (show (0 : Int) ≤ 65536 by omega), hP, hD, hS, lv_sub hl [0, 1, 2, 3] rfl⟩
      rintro ⟨H, locs, ls, i_19, i_20⟩ ⟨c_21, c_22, hP, hD, hS, hl⟩ ih_23
      refine lv_iload hx hb dX11_gale_37 (lv_at hl 0 rfl) ?_
      refine lv_iconst (v := 1) hx hb dX11_gale_39 (by decide) ?_
      refine lv_aload_n hx hb dX11_gale_40 rfl (lv_at hl 2 rfl) ?_
      refine va_get (D := D) (ci := 11) (C := RX11) (T := TX11) (N := 45) hx hb hts iX11 hown hK hP 0 rfl rfl 43 (by decide) (hts _ m1360) (fun _ h9 => h9) rfl dX11_gale_41 ?_
      refine lv_ishl hx hb dX11_gale_44 ?_
      refine lv_topi (fun x_24 ex_24 => ?_)
      have tx_24 := t_shl16 ex_24 (by omega) (by omega)
      refine lv_icmp_ge (tgt := 123) hx hb dX11_gale_45 (by decide) (fun c_25 => ?_) (fun c_25 => ?_)
      · have c_25 : x_24.toInt ≤ i_19.toInt := (c_le (x := x_24.toInt) (y := i_19.toInt) rfl rfl).mp c_25
        refine lv_lload_n hx hb dX11_gale_123 rfl (lv_at hl 1 rfl) ?_
        have hP9 := hP.sub (ws' := [(ym, .inr (11, [.int 0, .ref y1, .ref y2, .ref y3, .ref y4, .ref y5, .int w6, .int w7, .int w8, .int w9, .int w10, .long v11, .int w12, .int w13, .int w14, .int w15, .ref y16, .ref y17, .ref y18, .ref y19, .ref y20, .ref y21, .ref y22, .ref y23, .ref y24, .ref y25, .ref y26, .ref y27, .ref y28, .ref y29, .ref y30, .ref y31, .ref y32, .int w33, .int w34, .int w35, .ref y36, .int w37, .int w38, .int w39, .ref y40, .ref y41, .ref y42, .int (u_15.2.2.2.1 0), .long v44])), (y17, .inl (T 0, 15, .inl c17)), (y19, .inl (T 0, 75, .inl c19)), (y22, .inl (T 0, 15, .inl c22)), (y24, .inl (T 0, 80, .inl c24)), (y25, .inl (T 0, 960, .inl c25)), (y41, .inl (T 2, 65536, .inr (.inl (u_15.2.2.1 0)))), (y42, .inl (T 0, 16, .inl (u_15.2.1 0)))]) [0, 1, 2, 3, 4, 5, 6, 7] rfl
        have hD9 := hD.sub (ws' := [(ym, .inr (11, [.int 0, .ref y1, .ref y2, .ref y3, .ref y4, .ref y5, .int w6, .int w7, .int w8, .int w9, .int w10, .long v11, .int w12, .int w13, .int w14, .int w15, .ref y16, .ref y17, .ref y18, .ref y19, .ref y20, .ref y21, .ref y22, .ref y23, .ref y24, .ref y25, .ref y26, .ref y27, .ref y28, .ref y29, .ref y30, .ref y31, .ref y32, .int w33, .int w34, .int w35, .ref y36, .int w37, .int w38, .int w39, .ref y40, .ref y41, .ref y42, .int (u_15.2.2.2.1 0), .long v44])), (y17, .inl (T 0, 15, .inl c17)), (y19, .inl (T 0, 75, .inl c19)), (y22, .inl (T 0, 15, .inl c22)), (y24, .inl (T 0, 80, .inl c24)), (y25, .inl (T 0, 960, .inl c25)), (y41, .inl (T 2, 65536, .inr (.inl (u_15.2.2.1 0)))), (y42, .inl (T 0, 16, .inl (u_15.2.1 0)))]) [0, 1, 2, 3, 4, 5, 6, 7] (by decide) rfl
        exact W.lret (v := i_20) hx hb hr (fun t ht hW => ⟨⟨i_20, (fun k => ([] : List (Nat)).getD k 0, fun k => ([u_15.2.1 0] : List (Nat → Int32)).getD k (fun _ => 0), fun k => ([u_15.2.2.1 0] : List (Nat → Int64)).getD k (fun _ => 0), fun k => ([u_15.2.2.2.1 0] : List (Int32)).getD k 0, fun k => ([] : List (Int64)).getD k 0), rfl, ⟨(show 0 ≤ (u_15.2.2.2.1 0).toInt ∧ (u_15.2.2.2.1 0).toInt ≤ 16 by omega), (show rg 0 15 (u_15.2.1 0) from w_17)⟩, by rw [ht]; exact hP9, hD9⟩, hS.F ht⟩) hS.2.2 dX11_gale_124
      · have c_25 : i_19.toInt < x_24.toInt := by have h := mt (c_le (x := x_24.toInt) (y := i_19.toInt) rfl rfl).mpr c_25; omega
        refine lv_aload_n hx hb dX11_gale_48 rfl (lv_at hl 2 rfl) ?_
        refine va_get (D := D) (ci := 11) (C := RX11) (T := TX11) (N := 45) hx hb hts iX11 hown hK hP 0 rfl rfl 41 (by decide) (hts _ m1358) (fun _ h9 => h9) rfl dX11_gale_49 ?_
        refine lv_iload hx hb dX11_gale_52 (lv_at hl 0 rfl) ?_
        refine va_lald (D := D) hx hb hK hP 6 2 rfl rfl (v_in (x := i_19.toInt) rfl (by omega) (by omega)) dX11_gale_54 ?_
        refine lv_topl (fun x_26 ex_26 => ?_)
        refine lv_lconst (v := 0) hx hb dX11_gale_55 (by decide) ?_
        refine W.lcmp hx hb dX11_gale_56 ?_
        refine lv_if_ne (tgt := 63) hx hb dX11_gale_57 (by decide) (fun c_27 => ?_) (fun c_27 => ?_)
        · have c_27 : ¬ x_26.toInt = 0 := fun h => c_27 ((kl_eq (a := x_26) (b := (0 : Int64)) (x := x_26.toInt) (y := 0) rfl (by decide)).mpr h)
          refine lv_aload_n hx hb dX11_gale_63 rfl (lv_at hl 2 rfl) ?_
          refine lv_iconst (v := 0) hx hb dX11_gale_64 (by decide) ?_
          refine lv_iload hx hb dX11_gale_65 (lv_at hl 0 rfl) ?_
          refine puI (cV (As := [.int 0, .int i_19]) (rest := []) ⟨hx, hb, hml, hown, hts⟩ (c_X11_countsWithout l D T y1 y16 y17 y18 y19 y2 y20 y21 y22 y23 y24 y25 y26 y27 y28 y29 y3 y30 y31 y32 y36 y4 y40 y41 y42 y5 ym 0 i_19 0 w10 w12 w13 w14 w15 w33 w34 w35 w37 w38 w39 (u_15.2.2.2.1 0) w6 w7 w8 w9 v11 v44 c17 c19 c22 c24 c25 (u_15.2.1 0) ⟨by omega, by omega⟩ ⟨by omega, by omega⟩ (by decide) R_c24 R_c25 w_17 P_0 P_1 (by omega)) k_X11_countsWithout v_X11_countsWithout m1881 rfl rfl ⟨(Nat.le_of_ble_eq_true rfl), (Nat.le_of_ble_eq_true rfl)⟩ (preP hC (hP.sub (ws' := [(ym, .inr (11, [.int 0, .ref y1, .ref y2, .ref y3, .ref y4, .ref y5, .int w6, .int w7, .int w8, .int w9, .int w10, .long v11, .int w12, .int w13, .int w14, .int w15, .ref y16, .ref y17, .ref y18, .ref y19, .ref y20, .ref y21, .ref y22, .ref y23, .ref y24, .ref y25, .ref y26, .ref y27, .ref y28, .ref y29, .ref y30, .ref y31, .ref y32, .int w33, .int w34, .int w35, .ref y36, .int w37, .int w38, .int w39, .ref y40, .ref y41, .ref y42, .int (u_15.2.2.2.1 0), .long v44])), (y17, .inl (T 0, 15, .inl c17)), (y19, .inl (T 0, 75, .inl c19)), (y22, .inl (T 0, 15, .inl c22)), (y24, .inl (T 0, 80, .inl c24)), (y25, .inl (T 0, 960, .inl c25)), (y42, .inl (T 0, 16, .inl (u_15.2.1 0)))]) [0, 1, 2, 3, 4, 5, 7] rfl)) (va_recv hK hP (ci := 11) (q0 := 0) rfl rfl) rfl hl.1 rfl (Nat.le_of_ble_eq_true rfl) dX11_gale_67 ⟨(Nat.le_of_ble_eq_true rfl), (Nat.le_of_ble_eq_true rfl)⟩) hS hP (fun r_28 H locs hw hP hS => ?_)
          refine lv_aload_n hx hb dX11_gale_70 rfl (lv_at hl 2 rfl) ?_
          refine lv_iconst (v := 1) hx hb dX11_gale_71 (by decide) ?_
          refine lv_iload hx hb dX11_gale_72 (lv_at hl 0 rfl) ?_
          refine puI (cV (As := [.int 1, .int i_19]) (rest := [.int r_28]) ⟨hx, hb, hml, hown, hts⟩ (c_X11_countsWithout l D T y1 y16 y17 y18 y19 y2 y20 y21 y22 y23 y24 y25 y26 y27 y28 y29 y3 y30 y31 y32 y36 y4 y40 y41 y42 y5 ym 1 i_19 0 w10 w12 w13 w14 w15 w33 w34 w35 w37 w38 w39 (u_15.2.2.2.1 0) w6 w7 w8 w9 v11 v44 c17 c19 c22 c24 c25 (u_15.2.1 0) ⟨by omega, by omega⟩ ⟨by omega, by omega⟩ (by decide) R_c24 R_c25 w_17 P_0 P_1 (by omega)) k_X11_countsWithout v_X11_countsWithout m1881 rfl rfl ⟨(Nat.le_of_ble_eq_true rfl), (Nat.le_of_ble_eq_true rfl)⟩ (preP hC (hP.sub (ws' := [(ym, .inr (11, [.int 0, .ref y1, .ref y2, .ref y3, .ref y4, .ref y5, .int w6, .int w7, .int w8, .int w9, .int w10, .long v11, .int w12, .int w13, .int w14, .int w15, .ref y16, .ref y17, .ref y18, .ref y19, .ref y20, .ref y21, .ref y22, .ref y23, .ref y24, .ref y25, .ref y26, .ref y27, .ref y28, .ref y29, .ref y30, .ref y31, .ref y32, .int w33, .int w34, .int w35, .ref y36, .int w37, .int w38, .int w39, .ref y40, .ref y41, .ref y42, .int (u_15.2.2.2.1 0), .long v44])), (y17, .inl (T 0, 15, .inl c17)), (y19, .inl (T 0, 75, .inl c19)), (y22, .inl (T 0, 15, .inl c22)), (y24, .inl (T 0, 80, .inl c24)), (y25, .inl (T 0, 960, .inl c25)), (y42, .inl (T 0, 16, .inl (u_15.2.1 0)))]) [0, 1, 2, 3, 4, 5, 7] rfl)) (va_recv hK hP (ci := 11) (q0 := 0) rfl rfl) rfl hl.1 rfl (Nat.le_of_ble_eq_true rfl) dX11_gale_74 ⟨(Nat.le_of_ble_eq_true rfl), (Nat.le_of_ble_eq_true rfl)⟩) hS hP (fun r_30 H locs hw hP hS => ?_)
          refine lv_isub hx hb dX11_gale_77 ?_
          refine lv_topi (fun x_32 ex_32 => ?_)
          refine lv_istore (lv' := [(5, .int x_32), (4, .int i_19), (2, .long i_20), (0, .ref ym), (1, .int i1)]) hx hb dX11_gale_78 hl (by decide) rfl (fun ls hl => ?_)
          refine lv_lload_n hx hb dX11_gale_80 rfl (lv_at hl 2 rfl) ?_
          refine lv_iload hx hb dX11_gale_81 (lv_at hl 0 rfl) ?_
          refine lv_if_le (tgt := 90) hx hb dX11_gale_83 (by decide) (fun c_33 => ?_) (fun c_33 => ?_)
          · have c_33 : x_32.toInt ≤ 0 := (c_le (x := x_32.toInt) (y := 0) rfl rfl).mp c_33
            refine lv_iload hx hb dX11_gale_90 (lv_at hl 0 rfl) ?_
            refine lv_if_ge (tgt := 99) hx hb dX11_gale_92 (by decide) (fun c_34 => ?_) (fun c_34 => ?_)
            · have c_34 : 0 ≤ x_32.toInt := (c_le (x := 0) (y := x_32.toInt) rfl rfl).mp c_34
              refine lv_iconst (v := 2) hx hb dX11_gale_99 (by decide) ?_
              refine lv_iload_n hx hb dX11_gale_100 rfl (lv_at hl 4 rfl) ?_
              refine lv_icmp_ne (tgt := 114) hx hb dX11_gale_101 (by decide) (fun c_35 => ?_) (fun c_35 => ?_)
              · have c_35 : ¬ 2 = i1.toInt := fun h => c_35 ((c_eq (x := 2) (y := i1.toInt) rfl rfl).mpr h)
                refine lv_lconst (v := 0) hx hb dX11_gale_114 (by decide) ?_
                refine lv_ladd hx hb dX11_gale_115 ?_
                refine lv_topl (fun x_36 ex_36 => ?_)
                refine lv_lstore_n (lv' := [(2, .long x_36), (5, .int x_32), (4, .int i_19), (0, .ref ym), (1, .int i1)]) hx hb dX11_gale_116 rfl hl (by decide) rfl (fun ls hl => ?_)
                obtain ⟨x_37, ex_37⟩ : ∃ y : Int32, y = i_19 + 1 := ⟨_, rfl⟩
                have tx_37 : x_37.toInt = i_19.toInt + 1 := t_add (x := i_19.toInt) (y := 1) ex_37 rfl rfl (by omega) (by omega)
                refine lv_iinc (v := x_37) (lv' := [(4, .int x_37), (2, .long x_36), (5, .int x_32), (0, .ref ym), (1, .int i1)]) hx hb dX11_gale_117 hl (k := 2) rfl (by rw [ex_37]; rfl) (by decide) rfl (fun ls hl => ?_)
                refine lv_goto (tgt := 37) hx hb dX11_gale_120 (by decide) ?_
                exact ih_23 (_, _, _, x_37, x_36) ⟨(show 0 ≤ x_37.toInt by omega), (show x_37.toInt ≤ 65536 by omega), hP, hD, hS, lv_sub hl [0, 1, 3, 4] rfl⟩ (show (65536 - x_37.toInt).toNat < (65536 - i_19.toInt).toNat by omega)
              · have c_35 : 2 = i1.toInt := (c_eq (x := 2) (y := i1.toInt) rfl rfl).mp c_35
                refine lv_aload_n hx hb dX11_gale_104 rfl (lv_at hl 3 rfl) ?_
                refine va_get (D := D) (ci := 11) (C := RX11) (T := TX11) (N := 45) hx hb hts iX11 hown hK hP 0 rfl rfl 41 (by decide) (hts _ m1358) (fun _ h9 => h9) rfl dX11_gale_105 ?_
                refine lv_iload hx hb dX11_gale_108 (lv_at hl 1 rfl) ?_
                refine va_lald (D := D) hx hb hK hP 6 2 rfl rfl (v_in (x := i_19.toInt) rfl (by omega) (by omega)) dX11_gale_110 ?_
                refine lv_topl (fun x_38 ex_38 => ?_)
                refine lv_goto (tgt := 115) hx hb dX11_gale_111 (by decide) ?_
                refine lv_ladd hx hb dX11_gale_115 ?_
                refine lv_topl (fun x_39 ex_39 => ?_)
                refine lv_lstore_n (lv' := [(2, .long x_39), (5, .int x_32), (4, .int i_19), (0, .ref ym), (1, .int i1)]) hx hb dX11_gale_116 rfl hl (by decide) rfl (fun ls hl => ?_)
                obtain ⟨x_40, ex_40⟩ : ∃ y : Int32, y = i_19 + 1 := ⟨_, rfl⟩
                have tx_40 : x_40.toInt = i_19.toInt + 1 := t_add (x := i_19.toInt) (y := 1) ex_40 rfl rfl (by omega) (by omega)
                refine lv_iinc (v := x_40) (lv' := [(4, .int x_40), (2, .long x_39), (5, .int x_32), (0, .ref ym), (1, .int i1)]) hx hb dX11_gale_117 hl (k := 2) rfl (by rw [ex_40]; rfl) (by decide) rfl (fun ls hl => ?_)
                refine lv_goto (tgt := 37) hx hb dX11_gale_120 (by decide) ?_
                exact ih_23 (_, _, _, x_40, x_39) ⟨(show 0 ≤ x_40.toInt by omega), (show x_40.toInt ≤ 65536 by omega), hP, hD, hS, lv_sub hl [0, 1, 3, 4] rfl⟩ (show (65536 - x_40.toInt).toNat < (65536 - i_19.toInt).toNat by omega)
            · have c_34 : x_32.toInt < 0 := by have h := mt (c_le (x := 0) (y := x_32.toInt) rfl rfl).mpr c_34; omega
              refine lv_iconst (v := 1) hx hb dX11_gale_95 (by decide) ?_
              refine lv_goto (tgt := 100) hx hb dX11_gale_96 (by decide) ?_
              refine lv_iload_n hx hb dX11_gale_100 rfl (lv_at hl 4 rfl) ?_
              refine lv_icmp_ne (tgt := 114) hx hb dX11_gale_101 (by decide) (fun c_41 => ?_) (fun c_41 => ?_)
              · have c_41 : ¬ 1 = i1.toInt := fun h => c_41 ((c_eq (x := 1) (y := i1.toInt) rfl rfl).mpr h)
                refine lv_lconst (v := 0) hx hb dX11_gale_114 (by decide) ?_
                refine lv_ladd hx hb dX11_gale_115 ?_
                refine lv_topl (fun x_42 ex_42 => ?_)
                refine lv_lstore_n (lv' := [(2, .long x_42), (5, .int x_32), (4, .int i_19), (0, .ref ym), (1, .int i1)]) hx hb dX11_gale_116 rfl hl (by decide) rfl (fun ls hl => ?_)
                obtain ⟨x_43, ex_43⟩ : ∃ y : Int32, y = i_19 + 1 := ⟨_, rfl⟩
                have tx_43 : x_43.toInt = i_19.toInt + 1 := t_add (x := i_19.toInt) (y := 1) ex_43 rfl rfl (by omega) (by omega)
                refine lv_iinc (v := x_43) (lv' := [(4, .int x_43), (2, .long x_42), (5, .int x_32), (0, .ref ym), (1, .int i1)]) hx hb dX11_gale_117 hl (k := 2) rfl (by rw [ex_43]; rfl) (by decide) rfl (fun ls hl => ?_)
                refine lv_goto (tgt := 37) hx hb dX11_gale_120 (by decide) ?_
                exact ih_23 (_, _, _, x_43, x_42) ⟨(show 0 ≤ x_43.toInt by omega), (show x_43.toInt ≤ 65536 by omega), hP, hD, hS, lv_sub hl [0, 1, 3, 4] rfl⟩ (show (65536 - x_43.toInt).toNat < (65536 - i_19.toInt).toNat by omega)
              · have c_41 : 1 = i1.toInt := (c_eq (x := 1) (y := i1.toInt) rfl rfl).mp c_41
                refine lv_aload_n hx hb dX11_gale_104 rfl (lv_at hl 3 rfl) ?_
                refine va_get (D := D) (ci := 11) (C := RX11) (T := TX11) (N := 45) hx hb hts iX11 hown hK hP 0 rfl rfl 41 (by decide) (hts _ m1358) (fun _ h9 => h9) rfl dX11_gale_105 ?_
                refine lv_iload hx hb dX11_gale_108 (lv_at hl 1 rfl) ?_
                refine va_lald (D := D) hx hb hK hP 6 2 rfl rfl (v_in (x := i_19.toInt) rfl (by omega) (by omega)) dX11_gale_110 ?_
                refine lv_topl (fun x_44 ex_44 => ?_)
                refine lv_goto (tgt := 115) hx hb dX11_gale_111 (by decide) ?_
                refine lv_ladd hx hb dX11_gale_115 ?_
                refine lv_topl (fun x_45 ex_45 => ?_)
                refine lv_lstore_n (lv' := [(2, .long x_45), (5, .int x_32), (4, .int i_19), (0, .ref ym), (1, .int i1)]) hx hb dX11_gale_116 rfl hl (by decide) rfl (fun ls hl => ?_)
                obtain ⟨x_46, ex_46⟩ : ∃ y : Int32, y = i_19 + 1 := ⟨_, rfl⟩
                have tx_46 : x_46.toInt = i_19.toInt + 1 := t_add (x := i_19.toInt) (y := 1) ex_46 rfl rfl (by omega) (by omega)
                refine lv_iinc (v := x_46) (lv' := [(4, .int x_46), (2, .long x_45), (5, .int x_32), (0, .ref ym), (1, .int i1)]) hx hb dX11_gale_117 hl (k := 2) rfl (by rw [ex_46]; rfl) (by decide) rfl (fun ls hl => ?_)
                refine lv_goto (tgt := 37) hx hb dX11_gale_120 (by decide) ?_
                exact ih_23 (_, _, _, x_46, x_45) ⟨(show 0 ≤ x_46.toInt by omega), (show x_46.toInt ≤ 65536 by omega), hP, hD, hS, lv_sub hl [0, 1, 3, 4] rfl⟩ (show (65536 - x_46.toInt).toNat < (65536 - i_19.toInt).toNat by omega)
          · have c_33 : 0 < x_32.toInt := by have h := mt (c_le (x := x_32.toInt) (y := 0) rfl rfl).mpr c_33; omega
            refine lv_iconst (v := 0) hx hb dX11_gale_86 (by decide) ?_
            refine lv_goto (tgt := 100) hx hb dX11_gale_87 (by decide) ?_
            refine lv_iload_n hx hb dX11_gale_100 rfl (lv_at hl 4 rfl) ?_
            refine lv_icmp_ne (tgt := 114) hx hb dX11_gale_101 (by decide) (fun c_47 => ?_) (fun c_47 => ?_)
            · have c_47 : ¬ 0 = i1.toInt := fun h => c_47 ((c_eq (x := 0) (y := i1.toInt) rfl rfl).mpr h)
              refine lv_lconst (v := 0) hx hb dX11_gale_114 (by decide) ?_
              refine lv_ladd hx hb dX11_gale_115 ?_
              refine lv_topl (fun x_48 ex_48 => ?_)
              refine lv_lstore_n (lv' := [(2, .long x_48), (5, .int x_32), (4, .int i_19), (0, .ref ym), (1, .int i1)]) hx hb dX11_gale_116 rfl hl (by decide) rfl (fun ls hl => ?_)
              obtain ⟨x_49, ex_49⟩ : ∃ y : Int32, y = i_19 + 1 := ⟨_, rfl⟩
              have tx_49 : x_49.toInt = i_19.toInt + 1 := t_add (x := i_19.toInt) (y := 1) ex_49 rfl rfl (by omega) (by omega)
              refine lv_iinc (v := x_49) (lv' := [(4, .int x_49), (2, .long x_48), (5, .int x_32), (0, .ref ym), (1, .int i1)]) hx hb dX11_gale_117 hl (k := 2) rfl (by rw [ex_49]; rfl) (by decide) rfl (fun ls hl => ?_)
              refine lv_goto (tgt := 37) hx hb dX11_gale_120 (by decide) ?_
              exact ih_23 (_, _, _, x_49, x_48) ⟨(show 0 ≤ x_49.toInt by omega), (show x_49.toInt ≤ 65536 by omega), hP, hD, hS, lv_sub hl [0, 1, 3, 4] rfl⟩ (show (65536 - x_49.toInt).toNat < (65536 - i_19.toInt).toNat by omega)
            · have c_47 : 0 = i1.toInt := (c_eq (x := 0) (y := i1.toInt) rfl rfl).mp c_47
              refine lv_aload_n hx hb dX11_gale_104 rfl (lv_at hl 3 rfl) ?_
              refine va_get (D := D) (ci := 11) (C := RX11) (T := TX11) (N := 45) hx hb hts iX11 hown hK hP 0 rfl rfl 41 (by decide) (hts _ m1358) (fun _ h9 => h9) rfl dX11_gale_105 ?_
              refine lv_iload hx hb dX11_gale_108 (lv_at hl 1 rfl) ?_
              refine va_lald (D := D) hx hb hK hP 6 2 rfl rfl (v_in (x := i_19.toInt) rfl (by omega) (by omega)) dX11_gale_110 ?_
              refine lv_topl (fun x_50 ex_50 => ?_)
              refine lv_goto (tgt := 115) hx hb dX11_gale_111 (by decide) ?_
              refine lv_ladd hx hb dX11_gale_115 ?_
              refine lv_topl (fun x_51 ex_51 => ?_)
              refine lv_lstore_n (lv' := [(2, .long x_51), (5, .int x_32), (4, .int i_19), (0, .ref ym), (1, .int i1)]) hx hb dX11_gale_116 rfl hl (by decide) rfl (fun ls hl => ?_)
              obtain ⟨x_52, ex_52⟩ : ∃ y : Int32, y = i_19 + 1 := ⟨_, rfl⟩
              have tx_52 : x_52.toInt = i_19.toInt + 1 := t_add (x := i_19.toInt) (y := 1) ex_52 rfl rfl (by omega) (by omega)
              refine lv_iinc (v := x_52) (lv' := [(4, .int x_52), (2, .long x_51), (5, .int x_32), (0, .ref ym), (1, .int i1)]) hx hb dX11_gale_117 hl (k := 2) rfl (by rw [ex_52]; rfl) (by decide) rfl (fun ls hl => ?_)
              refine lv_goto (tgt := 37) hx hb dX11_gale_120 (by decide) ?_
              exact ih_23 (_, _, _, x_52, x_51) ⟨(show 0 ≤ x_52.toInt by omega), (show x_52.toInt ≤ 65536 by omega), hP, hD, hS, lv_sub hl [0, 1, 3, 4] rfl⟩ (show (65536 - x_52.toInt).toNat < (65536 - i_19.toInt).toNat by omega)
        · have c_27 : x_26.toInt = 0 := (kl_eq (a := x_26) (b := (0 : Int64)) (x := x_26.toInt) (y := 0) rfl (by decide)).mp c_27
          refine lv_goto (tgt := 117) hx hb dX11_gale_60 (by decide) ?_
          obtain ⟨x_53, ex_53⟩ : ∃ y : Int32, y = i_19 + 1 := ⟨_, rfl⟩
          have tx_53 : x_53.toInt = i_19.toInt + 1 := t_add (x := i_19.toInt) (y := 1) ex_53 rfl rfl (by omega) (by omega)
          refine lv_iinc (v := x_53) (lv' := [(4, .int x_53), (2, .long i_20), (0, .ref ym), (1, .int i1)]) hx hb dX11_gale_117 hl (k := 0) rfl (by rw [ex_53]; rfl) (by decide) rfl (fun ls hl => ?_)
          refine lv_goto (tgt := 37) hx hb dX11_gale_120 (by decide) ?_
          exact ih_23 (_, _, _, x_53, i_20) ⟨(show 0 ≤ x_53.toInt by omega), (show x_53.toInt ≤ 65536 by omega), hP, hD, hS, lv_sub hl [0, 1, 2, 3] rfl⟩ (show (65536 - x_53.toInt).toNat < (65536 - i_19.toInt).toNat by omega)
    · have c_12 : i1.toInt < 0 ∨ 2 < i1.toInt := klo (i_64 _) (by decide) (by decide) c_12
      refine lv_if_ne (tgt := 28) hx hb dX11_gale_21 (by decide) (fun c_54 => absurd c_54 (by decide)) (fun _ => ?_)
      refine lv_ldc2 (v := (-2)) hx hb hown (hts _ m1562) dX11_gale_24 ?_
      have hP9 := hP.sub (ws' := [(ym, .inr (11, [.int 0, .ref y1, .ref y2, .ref y3, .ref y4, .ref y5, .int w6, .int w7, .int w8, .int w9, .int w10, .long v11, .int w12, .int w13, .int w14, .int w15, .ref y16, .ref y17, .ref y18, .ref y19, .ref y20, .ref y21, .ref y22, .ref y23, .ref y24, .ref y25, .ref y26, .ref y27, .ref y28, .ref y29, .ref y30, .ref y31, .ref y32, .int w33, .int w34, .int w35, .ref y36, .int w37, .int w38, .int w39, .ref y40, .ref y41, .ref y42, .int w43, .long v44])), (y17, .inl (T 0, 15, .inl c17)), (y19, .inl (T 0, 75, .inl c19)), (y22, .inl (T 0, 15, .inl c22)), (y24, .inl (T 0, 80, .inl c24)), (y25, .inl (T 0, 960, .inl c25)), (y41, .inl (T 2, 65536, .inr (.inl c41))), (y42, .inl (T 0, 16, .inl c42))]) [0, 1, 2, 3, 4, 5, 6, 7] rfl
      have hD9 := hD.sub (ws' := [(ym, .inr (11, [.int 0, .ref y1, .ref y2, .ref y3, .ref y4, .ref y5, .int w6, .int w7, .int w8, .int w9, .int w10, .long v11, .int w12, .int w13, .int w14, .int w15, .ref y16, .ref y17, .ref y18, .ref y19, .ref y20, .ref y21, .ref y22, .ref y23, .ref y24, .ref y25, .ref y26, .ref y27, .ref y28, .ref y29, .ref y30, .ref y31, .ref y32, .int w33, .int w34, .int w35, .ref y36, .int w37, .int w38, .int w39, .ref y40, .ref y41, .ref y42, .int w43, .long v44])), (y17, .inl (T 0, 15, .inl c17)), (y19, .inl (T 0, 75, .inl c19)), (y22, .inl (T 0, 15, .inl c22)), (y24, .inl (T 0, 80, .inl c24)), (y25, .inl (T 0, 960, .inl c25)), (y41, .inl (T 2, 65536, .inr (.inl c41))), (y42, .inl (T 0, 16, .inl c42))]) [0, 1, 2, 3, 4, 5, 6, 7] (by decide) rfl
      exact W.lret (v := (-2)) hx hb hr (fun t ht hW => ⟨⟨(-2), (fun k => ([] : List (Nat)).getD k 0, fun k => ([c42] : List (Nat → Int32)).getD k (fun _ => 0), fun k => ([c41] : List (Nat → Int64)).getD k (fun _ => 0), fun k => ([w43] : List (Int32)).getD k 0, fun k => ([] : List (Int64)).getD k 0), rfl, ⟨(show 0 ≤ w43.toInt ∧ w43.toInt ≤ 16 by omega), (show rg 0 15 c42 from R_c42)⟩, by rw [ht]; exact hP9, hD9⟩, hS.F ht⟩) hS.2.2 dX11_gale_27
  · refine lv_if_eq (tgt := 24) hx hb dX11_gale_9 (by decide) (fun _ => ?_) (fun c_55 => absurd (by decide) c_55)
    refine lv_ldc2 (v := (-2)) hx hb hown (hts _ m1562) dX11_gale_24 ?_
    have hP9 := hP.sub (ws' := [(ym, .inr (11, [.int 0, .ref y1, .ref y2, .ref y3, .ref y4, .ref y5, .int w6, .int w7, .int w8, .int w9, .int w10, .long v11, .int w12, .int w13, .int w14, .int w15, .ref y16, .ref y17, .ref y18, .ref y19, .ref y20, .ref y21, .ref y22, .ref y23, .ref y24, .ref y25, .ref y26, .ref y27, .ref y28, .ref y29, .ref y30, .ref y31, .ref y32, .int w33, .int w34, .int w35, .ref y36, .int w37, .int w38, .int w39, .ref y40, .ref y41, .ref y42, .int w43, .long v44])), (y17, .inl (T 0, 15, .inl c17)), (y19, .inl (T 0, 75, .inl c19)), (y22, .inl (T 0, 15, .inl c22)), (y24, .inl (T 0, 80, .inl c24)), (y25, .inl (T 0, 960, .inl c25)), (y41, .inl (T 2, 65536, .inr (.inl c41))), (y42, .inl (T 0, 16, .inl c42))]) [0, 1, 2, 3, 4, 5, 6, 7] rfl
    have hD9 := hD.sub (ws' := [(ym, .inr (11, [.int 0, .ref y1, .ref y2, .ref y3, .ref y4, .ref y5, .int w6, .int w7, .int w8, .int w9, .int w10, .long v11, .int w12, .int w13, .int w14, .int w15, .ref y16, .ref y17, .ref y18, .ref y19, .ref y20, .ref y21, .ref y22, .ref y23, .ref y24, .ref y25, .ref y26, .ref y27, .ref y28, .ref y29, .ref y30, .ref y31, .ref y32, .int w33, .int w34, .int w35, .ref y36, .int w37, .int w38, .int w39, .ref y40, .ref y41, .ref y42, .int w43, .long v44])), (y17, .inl (T 0, 15, .inl c17)), (y19, .inl (T 0, 75, .inl c19)), (y22, .inl (T 0, 15, .inl c22)), (y24, .inl (T 0, 80, .inl c24)), (y25, .inl (T 0, 960, .inl c25)), (y41, .inl (T 2, 65536, .inr (.inl c41))), (y42, .inl (T 0, 16, .inl c42))]) [0, 1, 2, 3, 4, 5, 6, 7] (by decide) rfl
    exact W.lret (v := (-2)) hx hb hr (fun t ht hW => ⟨⟨(-2), (fun k => ([] : List (Nat)).getD k 0, fun k => ([c42] : List (Nat → Int32)).getD k (fun _ => 0), fun k => ([c41] : List (Nat → Int64)).getD k (fun _ => 0), fun k => ([w43] : List (Int32)).getD k 0, fun k => ([] : List (Int64)).getD k 0), rfl, ⟨(show 0 ≤ w43.toInt ∧ w43.toInt ≤ 16 by omega), (show rg 0 15 c42 from R_c42)⟩, by rw [ht]; exact hP9, hD9⟩, hS.F ht⟩) hS.2.2 dX11_gale_27

set_option maxHeartbeats 4000000 in
set_option maxRecDepth 100000 in
theorem c_X11_falls (l : Launch) (D : va_G) (T : Nat → ClassId) (y1 y16 y17 y18 y19 y2 y20 y21 y22 y23 y24 y25 y26 y27 y28 y29 y3 y30 y31 y32 y36 y4 y40 y41 y42 y5 ym : Nat) (i1 w0 w10 w12 w13 w14 w15 w33 w34 w35 w37 w38 w39 w43 w6 w7 w8 w9 : Int32) (v11 v44 : Int64) (c17 c22 c24 c42 : Nat → Int32) (c41 : Nat → Int64) (sz : Nat) (h_w6 : 0 ≤ w6.toInt ∧ w6.toInt ≤ 1600) (h_w43 : 0 ≤ w43.toInt ∧ w43.toInt ≤ 16) (R_c24 : rg 0 12 c24) (R_c42 : rg 0 15 c42) (P_0 : pg 3 0 0 8 c17) (P_1 : pg 3 1 0 12 c17) : Met l yX11_falls (wM yX11_falls cX11_falls 5 (some .long)) ({ frames := 2, cells := 0, slots := 0, locals := 46 }) (va_Pc [.ref ym, .int i1] (pwM D T [(ym, .inr (11, [.int w0, .ref y1, .ref y2, .ref y3, .ref y4, .ref y5, .int w6, .int w7, .int w8, .int w9, .int w10, .long v11, .int w12, .int w13, .int w14, .int w15, .ref y16, .ref y17, .ref y18, .ref y19, .ref y20, .ref y21, .ref y22, .ref y23, .ref y24, .ref y25, .ref y26, .ref y27, .ref y28, .ref y29, .ref y30, .ref y31, .ref y32, .int w33, .int w34, .int w35, .ref y36, .int w37, .int w38, .int w39, .ref y40, .ref y41, .ref y42, .int w43, .long v44])), (y17, .inl (T 0, 15, .inl c17)), (y22, .inl (T 0, 15, .inl c22)), (y24, .inl (T 0, 80, .inl c24)), (y41, .inl (T 2, 65536, .inr (.inl c41))), (y42, .inl (T 0, 16, .inl c42))] sz)) (va_Ql (fun (r : Int64) (u : U5) => (0 ≤ (u.2.2.2.1 0).toInt ∧ (u.2.2.2.1 0).toInt ≤ 16) ∧ rg 0 15 (u.2.1 0)) (fun u t => pwE D (va_A [(ym, .inr (11, [.int w0, .ref y1, .ref y2, .ref y3, .ref y4, .ref y5, .int w6, .int w7, .int w8, .int w9, .int w10, .long v11, .int w12, .int w13, .int w14, .int w15, .ref y16, .ref y17, .ref y18, .ref y19, .ref y20, .ref y21, .ref y22, .ref y23, .ref y24, .ref y25, .ref y26, .ref y27, .ref y28, .ref y29, .ref y30, .ref y31, .ref y32, .int w33, .int w34, .int w35, .ref y36, .int w37, .int w38, .int w39, .ref y40, .ref y41, .ref y42, .int w43, .long v44])), (y17, .inl (T 0, 15, .inl c17)), (y22, .inl (T 0, 15, .inl c22)), (y24, .inl (T 0, 80, .inl c24)), (y41, .inl (T 2, 65536, .inr (.inl c41))), (y42, .inl (T 0, 16, .inl c42))] sz) [(ym, .inr (11, [.int 0, .ref y1, .ref y2, .ref y3, .ref y4, .ref y5, .int w6, .int w7, .int w8, .int w9, .int w10, .long v11, .int w12, .int w13, .int w14, .int w15, .ref y16, .ref y17, .ref y18, .ref y19, .ref y20, .ref y21, .ref y22, .ref y23, .ref y24, .ref y25, .ref y26, .ref y27, .ref y28, .ref y29, .ref y30, .ref y31, .ref y32, .int w33, .int w34, .int w35, .ref y36, .int w37, .int w38, .int w39, .ref y40, .ref y41, .ref y42, .int (u.2.2.2.1 0), .long v44])), (y17, .inl (T 0, 15, .inl c17)), (y22, .inl (T 0, 15, .inl c22)), (y24, .inl (T 0, 80, .inl c24)), (y41, .inl (T 2, 65536, .inr (.inl (u.2.2.1 0)))), (y42, .inl (T 0, 16, .inl (u.2.1 0)))] t) (va_A [(ym, .inr (11, [.int w0, .ref y1, .ref y2, .ref y3, .ref y4, .ref y5, .int w6, .int w7, .int w8, .int w9, .int w10, .long v11, .int w12, .int w13, .int w14, .int w15, .ref y16, .ref y17, .ref y18, .ref y19, .ref y20, .ref y21, .ref y22, .ref y23, .ref y24, .ref y25, .ref y26, .ref y27, .ref y28, .ref y29, .ref y30, .ref y31, .ref y32, .int w33, .int w34, .int w35, .ref y36, .int w37, .int w38, .int w39, .ref y40, .ref y41, .ref y42, .int w43, .long v44])), (y17, .inl (T 0, 15, .inl c17)), (y22, .inl (T 0, 15, .inl c22)), (y24, .inl (T 0, 80, .inl c24)), (y41, .inl (T 2, 65536, .inr (.inl c41))), (y42, .inl (T 0, 16, .inl c42))] sz)) 0 0 (va_A [(ym, .inr (11, [.int w0, .ref y1, .ref y2, .ref y3, .ref y4, .ref y5, .int w6, .int w7, .int w8, .int w9, .int w10, .long v11, .int w12, .int w13, .int w14, .int w15, .ref y16, .ref y17, .ref y18, .ref y19, .ref y20, .ref y21, .ref y22, .ref y23, .ref y24, .ref y25, .ref y26, .ref y27, .ref y28, .ref y29, .ref y30, .ref y31, .ref y32, .int w33, .int w34, .int w35, .ref y36, .int w37, .int w38, .int w39, .ref y40, .ref y41, .ref y42, .int w43, .long v44])), (y17, .inl (T 0, 15, .inl c17)), (y22, .inl (T 0, 15, .inl c22)), (y24, .inl (T 0, 80, .inl c24)), (y41, .inl (T 2, 65536, .inr (.inl c41))), (y42, .inl (T 0, 16, .inl c42))] sz) := by
  refine Met.ofW (cc := cX11_falls) (maxL := 5) (ret := (some .long)) (by decide) rfl ?_
  intro p e s m args below meth c s₁ B hml hv
  obtain ⟨rfl, hsz, hP, hC, hD0⟩ := hv
  have hx := B.exec
  have hb := B.bytes
  have hr := B.returns
  have hts : ∀ w ∈ gt, w.before _ s = true := fun w hw => atoms_spec (ws := (wM yX11_falls cX11_falls 5 (some .long))) B.pre w (List.mem_cons_of_mem _ hw)
  have hown : s.vm.findClass RX11 = some m.cls := findClass_of_methodNamed B.named
  have hlocks := B.notSynchronized
  have hK := hC.1
  subst hsz
  have hD := hD0.self (sz := s.heap.size)
  generalize hAe : va_A [(ym, .inr (11, [.int w0, .ref y1, .ref y2, .ref y3, .ref y4, .ref y5, .int w6, .int w7, .int w8, .int w9, .int w10, .long v11, .int w12, .int w13, .int w14, .int w15, .ref y16, .ref y17, .ref y18, .ref y19, .ref y20, .ref y21, .ref y22, .ref y23, .ref y24, .ref y25, .ref y26, .ref y27, .ref y28, .ref y29, .ref y30, .ref y31, .ref y32, .int w33, .int w34, .int w35, .ref y36, .int w37, .int w38, .int w39, .ref y40, .ref y41, .ref y42, .int w43, .long v44])), (y17, .inl (T 0, 15, .inl c17)), (y22, .inl (T 0, 15, .inl c22)), (y24, .inl (T 0, 80, .inl c24)), (y41, .inl (T 2, 65536, .inr (.inl c41))), (y42, .inl (T 0, 16, .inl c42))] s.heap.size = A at hD ⊢
  have hA : ∀ q : Nat, s.heap.size ≤ q → A q := fun q h => by rw [← hAe]; exact Or.inr h
  have hS : va_S A s.heap s.heap [] := va_S.rf
  have hl := lv_entry ([.ref ym, .int i1]) (n := 5) (Nat.le_of_ble_eq_true rfl)
  rw [lg_entry_eq]
  generalize (lg_sl ([.ref ym, .int i1]) ++ List.replicate (5 - (lg_sl ([.ref ym, .int i1])).length) Slot.unset).toArray = ls at hl ⊢
  have hl : lv_has ls 5 [(0, .ref ym), (1, .int i1)] := hl
  have b_y17_0 : 0 ≤ (c17 0).toInt ∧ (c17 0).toInt ≤ 8 := P_0 0
  have b_y17_1 : 0 ≤ (c17 1).toInt ∧ (c17 1).toInt ≤ 12 := P_1 0
  refine lv_aload_n hx hb dX11_falls_0 rfl (lv_at hl 0 rfl) ?_
  refine lv_iconst (v := 0) hx hb dX11_falls_1 (by decide) ?_
  refine va_put (D := D) (ci := 11) (v := .int 0) (ty := .int) (C := RX11) (T := TX11) (N := 45) hx hb hts iX11 tyX11 tyX11_ok nmX11 hown hK hP hD hS 0 rfl rfl 0 (by decide) (hts _ m1318) (fun _ h9 => h9) rfl (by decide +kernel) rfl rfl (Nat.le_of_ble_eq_true rfl) dX11_falls_2 (fun H locs hP hD hS => ?_)
  have hP : va_P D vwCl [(ym, .inr (11, [.int 0, .ref y1, .ref y2, .ref y3, .ref y4, .ref y5, .int w6, .int w7, .int w8, .int w9, .int w10, .long v11, .int w12, .int w13, .int w14, .int w15, .ref y16, .ref y17, .ref y18, .ref y19, .ref y20, .ref y21, .ref y22, .ref y23, .ref y24, .ref y25, .ref y26, .ref y27, .ref y28, .ref y29, .ref y30, .ref y31, .ref y32, .int w33, .int w34, .int w35, .ref y36, .int w37, .int w38, .int w39, .ref y40, .ref y41, .ref y42, .int w43, .long v44])), (y17, .inl (T 0, 15, .inl c17)), (y22, .inl (T 0, 15, .inl c22)), (y24, .inl (T 0, 80, .inl c24)), (y41, .inl (T 2, 65536, .inr (.inl c41))), (y42, .inl (T 0, 16, .inl c42))] H := hP
  have hD : va_D A [(ym, .inr (11, [.int 0, .ref y1, .ref y2, .ref y3, .ref y4, .ref y5, .int w6, .int w7, .int w8, .int w9, .int w10, .long v11, .int w12, .int w13, .int w14, .int w15, .ref y16, .ref y17, .ref y18, .ref y19, .ref y20, .ref y21, .ref y22, .ref y23, .ref y24, .ref y25, .ref y26, .ref y27, .ref y28, .ref y29, .ref y30, .ref y31, .ref y32, .int w33, .int w34, .int w35, .ref y36, .int w37, .int w38, .int w39, .ref y40, .ref y41, .ref y42, .int w43, .long v44])), (y17, .inl (T 0, 15, .inl c17)), (y22, .inl (T 0, 15, .inl c22)), (y24, .inl (T 0, 80, .inl c24)), (y41, .inl (T 2, 65536, .inr (.inl c41))), (y42, .inl (T 0, 16, .inl c42))] := hD
  refine lv_aload_n hx hb dX11_falls_5 rfl (lv_at hl 0 rfl) ?_
  refine puI (cV (As := []) (rest := []) ⟨hx, hb, hml, hown, hts⟩ (c_X11_isTown l D T y1 y16 y17 y18 y19 y2 y20 y21 y22 y23 y24 y25 y26 y27 y28 y29 y3 y30 y31 y32 y36 y4 y40 y41 y42 y5 ym 0 w10 w12 w13 w14 w15 w33 w34 w35 w37 w38 w39 w43 w6 w7 w8 w9 v11 v44 c17 ⟨by omega, by omega⟩ ⟨by omega, by omega⟩ P_0 P_1) k_X11_isTown v_X11_isTown m1668 rfl rfl ⟨(Nat.le_of_ble_eq_true rfl), (Nat.le_of_ble_eq_true rfl)⟩ (preP hC (hP.sub (ws' := [(ym, .inr (11, [.int 0, .ref y1, .ref y2, .ref y3, .ref y4, .ref y5, .int w6, .int w7, .int w8, .int w9, .int w10, .long v11, .int w12, .int w13, .int w14, .int w15, .ref y16, .ref y17, .ref y18, .ref y19, .ref y20, .ref y21, .ref y22, .ref y23, .ref y24, .ref y25, .ref y26, .ref y27, .ref y28, .ref y29, .ref y30, .ref y31, .ref y32, .int w33, .int w34, .int w35, .ref y36, .int w37, .int w38, .int w39, .ref y40, .ref y41, .ref y42, .int w43, .long v44])), (y17, .inl (T 0, 15, .inl c17))]) [0, 1] rfl)) (va_recv hK hP (ci := 11) (q0 := 0) rfl rfl) rfl hl.1 rfl (Nat.le_of_ble_eq_true rfl) dX11_falls_6 ⟨(Nat.le_of_ble_eq_true rfl), (Nat.le_of_ble_eq_true rfl)⟩) hS hP (fun r_1 H locs hw hP hS => ?_)
  have w_3 : (r_1 = 1 ∧ 0 < (c17 0).toInt) ∨ (r_1 = 0 ∧ (c17 0).toInt ≤ 0) := hw
  rcases w_3 with ⟨rfl, c_4⟩ | ⟨rfl, c_5⟩
  · refine lv_if_eq (tgt := 24) hx hb dX11_falls_9 (by decide) (fun c_6 => absurd c_6 (by decide)) (fun _ => ?_)
    refine lv_iload_n hx hb dX11_falls_12 rfl (lv_at hl 1 rfl) ?_
    refine lv_i2l hx hb dX11_falls_13 rfl ?_
    refine lv_lconst (v := 0) hx hb dX11_falls_14 (by decide) ?_
    refine lv_ldc2 (v := 16) hx hb hown (hts _ m1889) dX11_falls_15 ?_
    refine puI (cS (As := [.long i1.toInt64, .long 0, .long 16]) (rest := []) ⟨hx, hb, hml, hown, hts⟩ (c_X11_in l D T i1.toInt64 0 16) k_X11_in m1462 m1461 rfl rfl ⟨(Nat.le_of_ble_eq_true rfl), (Nat.le_of_ble_eq_true rfl)⟩ (preP hC (hP.sub (ws' := []) [] rfl)) rfl hl.1 rfl (Nat.le_of_ble_eq_true rfl) dX11_falls_18 ⟨(Nat.le_of_ble_eq_true rfl), (Nat.le_of_ble_eq_true rfl)⟩) hS hP (fun r_7 H locs hw hP hS => ?_)
    have w_9 : (r_7 = 1 ∧ (0 : Int64).toInt ≤ i1.toInt64.toInt ∧ i1.toInt64.toInt ≤ (16 : Int64).toInt) ∨ (r_7 = 0 ∧ (i1.toInt64.toInt < (0 : Int64).toInt ∨ (16 : Int64).toInt < i1.toInt64.toInt)) := hw
    rcases w_9 with ⟨rfl, c_10, c_11⟩ | ⟨rfl, c_12⟩
    · have c_10 : 0 ≤ i1.toInt := kle (by decide) (i_64 _) c_10
      have c_11 : i1.toInt ≤ 16 := kle (i_64 _) (by decide) c_11
      refine lv_if_ne (tgt := 28) hx hb dX11_falls_21 (by decide) (fun _ => ?_) (fun c_13 => absurd c_13 (by decide))
      refine lv_aload_n hx hb dX11_falls_28 rfl (lv_at hl 0 rfl) ?_
      refine mtV (wr := []) (cV (As := []) (rest := []) ⟨hx, hb, hml, hown, hts⟩ (c_X11_blows l D T y1 y16 y17 y18 y19 y2 y20 y21 y22 y23 y24 y25 y26 y27 y28 y29 y3 y30 y31 y32 y36 y4 y40 y41 y42 y5 ym 0 w10 w12 w13 w14 w15 w33 w34 w35 w37 w38 w39 w43 w6 w7 w8 w9 v11 v44 c17 c22 c24 c42 c41 _ ⟨by omega, by omega⟩ ⟨by omega, by omega⟩ R_c24 R_c42 P_0 P_1) k_X11_blows v_X11_blows m1875 rfl rfl ⟨(Nat.le_of_ble_eq_true rfl), (Nat.le_of_ble_eq_true rfl)⟩ (preM hC (hP.sub (ws' := [(ym, .inr (11, [.int 0, .ref y1, .ref y2, .ref y3, .ref y4, .ref y5, .int w6, .int w7, .int w8, .int w9, .int w10, .long v11, .int w12, .int w13, .int w14, .int w15, .ref y16, .ref y17, .ref y18, .ref y19, .ref y20, .ref y21, .ref y22, .ref y23, .ref y24, .ref y25, .ref y26, .ref y27, .ref y28, .ref y29, .ref y30, .ref y31, .ref y32, .int w33, .int w34, .int w35, .ref y36, .int w37, .int w38, .int w39, .ref y40, .ref y41, .ref y42, .int w43, .long v44])), (y17, .inl (T 0, 15, .inl c17)), (y22, .inl (T 0, 15, .inl c22)), (y24, .inl (T 0, 80, .inl c24)), (y41, .inl (T 2, 65536, .inr (.inl c41))), (y42, .inl (T 0, 16, .inl c42))]) [0, 1, 2, 3, 4, 5] rfl) (hD.sub (ws' := [(ym, .inr (11, [.int 0, .ref y1, .ref y2, .ref y3, .ref y4, .ref y5, .int w6, .int w7, .int w8, .int w9, .int w10, .long v11, .int w12, .int w13, .int w14, .int w15, .ref y16, .ref y17, .ref y18, .ref y19, .ref y20, .ref y21, .ref y22, .ref y23, .ref y24, .ref y25, .ref y26, .ref y27, .ref y28, .ref y29, .ref y30, .ref y31, .ref y32, .int w33, .int w34, .int w35, .ref y36, .int w37, .int w38, .int w39, .ref y40, .ref y41, .ref y42, .int w43, .long v44])), (y17, .inl (T 0, 15, .inl c17)), (y22, .inl (T 0, 15, .inl c22)), (y24, .inl (T 0, 80, .inl c24)), (y41, .inl (T 2, 65536, .inr (.inl c41))), (y42, .inl (T 0, 16, .inl c42))]) [0, 1, 2, 3, 4, 5] (by decide) rfl)) (va_recv hK hP (ci := 11) (q0 := 0) rfl rfl) rfl hl.1 rfl (Nat.le_of_ble_eq_true rfl) dX11_falls_29 ⟨(Nat.le_of_ble_eq_true rfl), (Nat.le_of_ble_eq_true rfl)⟩) hS hA hP hD [0, 1, 2, 3, 4, 5] [] rfl rfl (by decide) (by decide) (fun u_15 H locs hw hP hD hS => ?_)
      have hP : va_P D vwCl [(ym, .inr (11, [.int 0, .ref y1, .ref y2, .ref y3, .ref y4, .ref y5, .int w6, .int w7, .int w8, .int w9, .int w10, .long v11, .int w12, .int w13, .int w14, .int w15, .ref y16, .ref y17, .ref y18, .ref y19, .ref y20, .ref y21, .ref y22, .ref y23, .ref y24, .ref y25, .ref y26, .ref y27, .ref y28, .ref y29, .ref y30, .ref y31, .ref y32, .int w33, .int w34, .int w35, .ref y36, .int w37, .int w38, .int w39, .ref y40, .ref y41, .ref y42, .int (u_15.2.2.2.1 0), .long v44])), (y17, .inl (T 0, 15, .inl c17)), (y22, .inl (T 0, 15, .inl c22)), (y24, .inl (T 0, 80, .inl c24)), (y41, .inl (T 2, 65536, .inr (.inl (u_15.2.2.1 0)))), (y42, .inl (T 0, 16, .inl (u_15.2.1 0)))] H := hP.sub [0, 1, 2, 3, 4, 5] rfl
      have hD : va_D A [(ym, .inr (11, [.int 0, .ref y1, .ref y2, .ref y3, .ref y4, .ref y5, .int w6, .int w7, .int w8, .int w9, .int w10, .long v11, .int w12, .int w13, .int w14, .int w15, .ref y16, .ref y17, .ref y18, .ref y19, .ref y20, .ref y21, .ref y22, .ref y23, .ref y24, .ref y25, .ref y26, .ref y27, .ref y28, .ref y29, .ref y30, .ref y31, .ref y32, .int w33, .int w34, .int w35, .ref y36, .int w37, .int w38, .int w39, .ref y40, .ref y41, .ref y42, .int (u_15.2.2.2.1 0), .long v44])), (y17, .inl (T 0, 15, .inl c17)), (y22, .inl (T 0, 15, .inl c22)), (y24, .inl (T 0, 80, .inl c24)), (y41, .inl (T 2, 65536, .inr (.inl (u_15.2.2.1 0)))), (y42, .inl (T 0, 16, .inl (u_15.2.1 0)))] := hD.sub [0, 1, 2, 3, 4, 5] (by decide) rfl
      obtain ⟨w_16, w_17, w_18⟩ : (0 ≤ (u_15.2.2.2.1 0).toInt ∧ (u_15.2.2.2.1 0).toInt ≤ 16) ∧ rg 0 15 (u_15.2.1 0) ∧ (cr (u_15.2.2.2.1 0).toInt c24 (u_15.2.1 0)) := hw
      refine lv_lconst (v := 0) hx hb dX11_falls_32 (by decide) ?_
      refine lv_lstore_n (lv' := [(2, .long 0), (0, .ref ym), (1, .int i1)]) hx hb dX11_falls_33 rfl hl (by decide) rfl (fun ls hl => ?_)
      refine lv_iconst (v := 0) hx hb dX11_falls_34 (by decide) ?_
      refine lv_istore (lv' := [(4, .int 0), (2, .long 0), (0, .ref ym), (1, .int i1)]) hx hb dX11_falls_35 hl (by decide) rfl (fun ls hl => ?_)
      refine lp_ind (fun (a : Heap × List Loc × Array Slot × (Int32) × (Int64)) => match a with | (H, locs, ls, i_19, i_20) => W p l e _ s m _ below meth c H locs 0 0 _ (F0 m 37 ls [])) (fun (a : Heap × List Loc × Array Slot × (Int32) × (Int64)) => match a with | (H, locs, ls, i_19, i_20) => 0 ≤ i_19.toInt ∧ i_19.toInt ≤ 65536 ∧ va_P D vwCl [(ym, .inr (11, [.int 0, .ref y1, .ref y2, .ref y3, .ref y4, .ref y5, .int w6, .int w7, .int w8, .int w9, .int w10, .long v11, .int w12, .int w13, .int w14, .int w15, .ref y16, .ref y17, .ref y18, .ref y19, .ref y20, .ref y21, .ref y22, .ref y23, .ref y24, .ref y25, .ref y26, .ref y27, .ref y28, .ref y29, .ref y30, .ref y31, .ref y32, .int w33, .int w34, .int w35, .ref y36, .int w37, .int w38, .int w39, .ref y40, .ref y41, .ref y42, .int (u_15.2.2.2.1 0), .long v44])), (y17, .inl (T 0, 15, .inl c17)), (y22, .inl (T 0, 15, .inl c22)), (y24, .inl (T 0, 80, .inl c24)), (y41, .inl (T 2, 65536, .inr (.inl (u_15.2.2.1 0)))), (y42, .inl (T 0, 16, .inl (u_15.2.1 0)))] H ∧ va_D A [(ym, .inr (11, [.int 0, .ref y1, .ref y2, .ref y3, .ref y4, .ref y5, .int w6, .int w7, .int w8, .int w9, .int w10, .long v11, .int w12, .int w13, .int w14, .int w15, .ref y16, .ref y17, .ref y18, .ref y19, .ref y20, .ref y21, .ref y22, .ref y23, .ref y24, .ref y25, .ref y26, .ref y27, .ref y28, .ref y29, .ref y30, .ref y31, .ref y32, .int w33, .int w34, .int w35, .ref y36, .int w37, .int w38, .int w39, .ref y40, .ref y41, .ref y42, .int (u_15.2.2.2.1 0), .long v44])), (y17, .inl (T 0, 15, .inl c17)), (y22, .inl (T 0, 15, .inl c22)), (y24, .inl (T 0, 80, .inl c24)), (y41, .inl (T 2, 65536, .inr (.inl (u_15.2.2.1 0)))), (y42, .inl (T 0, 16, .inl (u_15.2.1 0)))] ∧ va_S A s.heap H locs ∧ lv_has ls 5 [(4, .int i_19), (2, .long i_20), (0, .ref ym), (1, .int i1)]) (fun (a : Heap × List Loc × Array Slot × (Int32) × (Int64)) => match a with | (H, locs, ls, i_19, i_20) => (65536 - i_19.toInt).toNat) ?_ (_, _, ls, (0 : Int32), (0 : Int64)) ⟨(show 0 ≤ (0 : Int) by omega), (show (0 : Int) ≤ 65536 by omega), hP, hD, hS, lv_sub hl [0, 1, 2, 3] rfl⟩
      rintro ⟨H, locs, ls, i_19, i_20⟩ ⟨c_21, c_22, hP, hD, hS, hl⟩ ih_23
      refine lv_iload hx hb dX11_falls_37 (lv_at hl 0 rfl) ?_
      refine lv_iconst (v := 1) hx hb dX11_falls_39 (by decide) ?_
      refine lv_aload_n hx hb dX11_falls_40 rfl (lv_at hl 2 rfl) ?_
      refine va_get (D := D) (ci := 11) (C := RX11) (T := TX11) (N := 45) hx hb hts iX11 hown hK hP 0 rfl rfl 43 (by decide) (hts _ m1360) (fun _ h9 => h9) rfl dX11_falls_41 ?_
      refine lv_ishl hx hb dX11_falls_44 ?_
      refine lv_topi (fun x_24 ex_24 => ?_)
      have tx_24 := t_shl16 ex_24 (by omega) (by omega)
      refine lv_icmp_ge (tgt := 77) hx hb dX11_falls_45 (by decide) (fun c_25 => ?_) (fun c_25 => ?_)
      · have c_25 : x_24.toInt ≤ i_19.toInt := (c_le (x := x_24.toInt) (y := i_19.toInt) rfl rfl).mp c_25
        refine lv_lload_n hx hb dX11_falls_77 rfl (lv_at hl 1 rfl) ?_
        have hP9 := hP.sub (ws' := [(ym, .inr (11, [.int 0, .ref y1, .ref y2, .ref y3, .ref y4, .ref y5, .int w6, .int w7, .int w8, .int w9, .int w10, .long v11, .int w12, .int w13, .int w14, .int w15, .ref y16, .ref y17, .ref y18, .ref y19, .ref y20, .ref y21, .ref y22, .ref y23, .ref y24, .ref y25, .ref y26, .ref y27, .ref y28, .ref y29, .ref y30, .ref y31, .ref y32, .int w33, .int w34, .int w35, .ref y36, .int w37, .int w38, .int w39, .ref y40, .ref y41, .ref y42, .int (u_15.2.2.2.1 0), .long v44])), (y17, .inl (T 0, 15, .inl c17)), (y22, .inl (T 0, 15, .inl c22)), (y24, .inl (T 0, 80, .inl c24)), (y41, .inl (T 2, 65536, .inr (.inl (u_15.2.2.1 0)))), (y42, .inl (T 0, 16, .inl (u_15.2.1 0)))]) [0, 1, 2, 3, 4, 5] rfl
        have hD9 := hD.sub (ws' := [(ym, .inr (11, [.int 0, .ref y1, .ref y2, .ref y3, .ref y4, .ref y5, .int w6, .int w7, .int w8, .int w9, .int w10, .long v11, .int w12, .int w13, .int w14, .int w15, .ref y16, .ref y17, .ref y18, .ref y19, .ref y20, .ref y21, .ref y22, .ref y23, .ref y24, .ref y25, .ref y26, .ref y27, .ref y28, .ref y29, .ref y30, .ref y31, .ref y32, .int w33, .int w34, .int w35, .ref y36, .int w37, .int w38, .int w39, .ref y40, .ref y41, .ref y42, .int (u_15.2.2.2.1 0), .long v44])), (y17, .inl (T 0, 15, .inl c17)), (y22, .inl (T 0, 15, .inl c22)), (y24, .inl (T 0, 80, .inl c24)), (y41, .inl (T 2, 65536, .inr (.inl (u_15.2.2.1 0)))), (y42, .inl (T 0, 16, .inl (u_15.2.1 0)))]) [0, 1, 2, 3, 4, 5] (by decide) rfl
        exact W.lret (v := i_20) hx hb hr (fun t ht hW => ⟨⟨i_20, (fun k => ([] : List (Nat)).getD k 0, fun k => ([u_15.2.1 0] : List (Nat → Int32)).getD k (fun _ => 0), fun k => ([u_15.2.2.1 0] : List (Nat → Int64)).getD k (fun _ => 0), fun k => ([u_15.2.2.2.1 0] : List (Int32)).getD k 0, fun k => ([] : List (Int64)).getD k 0), rfl, ⟨(show 0 ≤ (u_15.2.2.2.1 0).toInt ∧ (u_15.2.2.2.1 0).toInt ≤ 16 by omega), (show rg 0 15 (u_15.2.1 0) from w_17)⟩, by rw [ht]; exact hP9, hD9⟩, hS.F ht⟩) hS.2.2 dX11_falls_78
      · have c_25 : i_19.toInt < x_24.toInt := by have h := mt (c_le (x := x_24.toInt) (y := i_19.toInt) rfl rfl).mpr c_25; omega
        refine lv_lload_n hx hb dX11_falls_48 rfl (lv_at hl 1 rfl) ?_
        refine lv_iload hx hb dX11_falls_49 (lv_at hl 0 rfl) ?_
        refine puI (cS (As := [.int i_19]) (rest := [.long i_20]) ⟨hx, hb, hml, hown, hts⟩ (c_X11_sizeOf l D T i_19 ⟨by omega, by omega⟩) k_X11_sizeOf m1815 m1814 rfl rfl ⟨(Nat.le_of_ble_eq_true rfl), (Nat.le_of_ble_eq_true rfl)⟩ (preP hC (hP.sub (ws' := []) [] rfl)) rfl hl.1 rfl (Nat.le_of_ble_eq_true rfl) dX11_falls_51 ⟨(Nat.le_of_ble_eq_true rfl), (Nat.le_of_ble_eq_true rfl)⟩) hS hP (fun r_26 H locs hw hP hS => ?_)
        refine lv_iload_n hx hb dX11_falls_54 rfl (lv_at hl 3 rfl) ?_
        refine lv_icmp_ne (tgt := 68) hx hb dX11_falls_55 (by decide) (fun c_28 => ?_) (fun c_28 => ?_)
        · have c_28 : ¬ r_26.toInt = i1.toInt := fun h => c_28 ((c_eq (x := r_26.toInt) (y := i1.toInt) rfl rfl).mpr h)
          refine lv_lconst (v := 0) hx hb dX11_falls_68 (by decide) ?_
          refine lv_ladd hx hb dX11_falls_69 ?_
          refine lv_topl (fun x_29 ex_29 => ?_)
          refine lv_lstore_n (lv' := [(2, .long x_29), (4, .int i_19), (0, .ref ym), (1, .int i1)]) hx hb dX11_falls_70 rfl hl (by decide) rfl (fun ls hl => ?_)
          obtain ⟨x_30, ex_30⟩ : ∃ y : Int32, y = i_19 + 1 := ⟨_, rfl⟩
          have tx_30 : x_30.toInt = i_19.toInt + 1 := t_add (x := i_19.toInt) (y := 1) ex_30 rfl rfl (by omega) (by omega)
          refine lv_iinc (v := x_30) (lv' := [(4, .int x_30), (2, .long x_29), (0, .ref ym), (1, .int i1)]) hx hb dX11_falls_71 hl (k := 1) rfl (by rw [ex_30]; rfl) (by decide) rfl (fun ls hl => ?_)
          refine lv_goto (tgt := 37) hx hb dX11_falls_74 (by decide) ?_
          exact ih_23 (_, _, _, x_30, x_29) ⟨(show 0 ≤ x_30.toInt by omega), (show x_30.toInt ≤ 65536 by omega), hP, hD, hS, lv_sub hl [0, 1, 2, 3] rfl⟩ (show (65536 - x_30.toInt).toNat < (65536 - i_19.toInt).toNat by omega)
        · have c_28 : r_26.toInt = i1.toInt := (c_eq (x := r_26.toInt) (y := i1.toInt) rfl rfl).mp c_28
          refine lv_aload_n hx hb dX11_falls_58 rfl (lv_at hl 2 rfl) ?_
          refine va_get (D := D) (ci := 11) (C := RX11) (T := TX11) (N := 45) hx hb hts iX11 hown hK hP 0 rfl rfl 41 (by decide) (hts _ m1358) (fun _ h9 => h9) rfl dX11_falls_59 ?_
          refine lv_iload hx hb dX11_falls_62 (lv_at hl 0 rfl) ?_
          refine va_lald (D := D) hx hb hK hP 4 2 rfl rfl (v_in (x := i_19.toInt) rfl (by omega) (by omega)) dX11_falls_64 ?_
          refine lv_topl (fun x_31 ex_31 => ?_)
          refine lv_goto (tgt := 69) hx hb dX11_falls_65 (by decide) ?_
          refine lv_ladd hx hb dX11_falls_69 ?_
          refine lv_topl (fun x_32 ex_32 => ?_)
          refine lv_lstore_n (lv' := [(2, .long x_32), (4, .int i_19), (0, .ref ym), (1, .int i1)]) hx hb dX11_falls_70 rfl hl (by decide) rfl (fun ls hl => ?_)
          obtain ⟨x_33, ex_33⟩ : ∃ y : Int32, y = i_19 + 1 := ⟨_, rfl⟩
          have tx_33 : x_33.toInt = i_19.toInt + 1 := t_add (x := i_19.toInt) (y := 1) ex_33 rfl rfl (by omega) (by omega)
          refine lv_iinc (v := x_33) (lv' := [(4, .int x_33), (2, .long x_32), (0, .ref ym), (1, .int i1)]) hx hb dX11_falls_71 hl (k := 1) rfl (by rw [ex_33]; rfl) (by decide) rfl (fun ls hl => ?_)
          refine lv_goto (tgt := 37) hx hb dX11_falls_74 (by decide) ?_
          exact ih_23 (_, _, _, x_33, x_32) ⟨(show 0 ≤ x_33.toInt by omega), (show x_33.toInt ≤ 65536 by omega), hP, hD, hS, lv_sub hl [0, 1, 2, 3] rfl⟩ (show (65536 - x_33.toInt).toNat < (65536 - i_19.toInt).toNat by omega)
    · have c_12 : i1.toInt < 0 ∨ 16 < i1.toInt := klo (i_64 _) (by decide) (by decide) c_12
      refine lv_if_ne (tgt := 28) hx hb dX11_falls_21 (by decide) (fun c_34 => absurd c_34 (by decide)) (fun _ => ?_)
      refine lv_ldc2 (v := (-2)) hx hb hown (hts _ m1562) dX11_falls_24 ?_
      have hP9 := hP.sub (ws' := [(ym, .inr (11, [.int 0, .ref y1, .ref y2, .ref y3, .ref y4, .ref y5, .int w6, .int w7, .int w8, .int w9, .int w10, .long v11, .int w12, .int w13, .int w14, .int w15, .ref y16, .ref y17, .ref y18, .ref y19, .ref y20, .ref y21, .ref y22, .ref y23, .ref y24, .ref y25, .ref y26, .ref y27, .ref y28, .ref y29, .ref y30, .ref y31, .ref y32, .int w33, .int w34, .int w35, .ref y36, .int w37, .int w38, .int w39, .ref y40, .ref y41, .ref y42, .int w43, .long v44])), (y17, .inl (T 0, 15, .inl c17)), (y22, .inl (T 0, 15, .inl c22)), (y24, .inl (T 0, 80, .inl c24)), (y41, .inl (T 2, 65536, .inr (.inl c41))), (y42, .inl (T 0, 16, .inl c42))]) [0, 1, 2, 3, 4, 5] rfl
      have hD9 := hD.sub (ws' := [(ym, .inr (11, [.int 0, .ref y1, .ref y2, .ref y3, .ref y4, .ref y5, .int w6, .int w7, .int w8, .int w9, .int w10, .long v11, .int w12, .int w13, .int w14, .int w15, .ref y16, .ref y17, .ref y18, .ref y19, .ref y20, .ref y21, .ref y22, .ref y23, .ref y24, .ref y25, .ref y26, .ref y27, .ref y28, .ref y29, .ref y30, .ref y31, .ref y32, .int w33, .int w34, .int w35, .ref y36, .int w37, .int w38, .int w39, .ref y40, .ref y41, .ref y42, .int w43, .long v44])), (y17, .inl (T 0, 15, .inl c17)), (y22, .inl (T 0, 15, .inl c22)), (y24, .inl (T 0, 80, .inl c24)), (y41, .inl (T 2, 65536, .inr (.inl c41))), (y42, .inl (T 0, 16, .inl c42))]) [0, 1, 2, 3, 4, 5] (by decide) rfl
      exact W.lret (v := (-2)) hx hb hr (fun t ht hW => ⟨⟨(-2), (fun k => ([] : List (Nat)).getD k 0, fun k => ([c42] : List (Nat → Int32)).getD k (fun _ => 0), fun k => ([c41] : List (Nat → Int64)).getD k (fun _ => 0), fun k => ([w43] : List (Int32)).getD k 0, fun k => ([] : List (Int64)).getD k 0), rfl, ⟨(show 0 ≤ w43.toInt ∧ w43.toInt ≤ 16 by omega), (show rg 0 15 c42 from R_c42)⟩, by rw [ht]; exact hP9, hD9⟩, hS.F ht⟩) hS.2.2 dX11_falls_27
  · refine lv_if_eq (tgt := 24) hx hb dX11_falls_9 (by decide) (fun _ => ?_) (fun c_35 => absurd (by decide) c_35)
    refine lv_ldc2 (v := (-2)) hx hb hown (hts _ m1562) dX11_falls_24 ?_
    have hP9 := hP.sub (ws' := [(ym, .inr (11, [.int 0, .ref y1, .ref y2, .ref y3, .ref y4, .ref y5, .int w6, .int w7, .int w8, .int w9, .int w10, .long v11, .int w12, .int w13, .int w14, .int w15, .ref y16, .ref y17, .ref y18, .ref y19, .ref y20, .ref y21, .ref y22, .ref y23, .ref y24, .ref y25, .ref y26, .ref y27, .ref y28, .ref y29, .ref y30, .ref y31, .ref y32, .int w33, .int w34, .int w35, .ref y36, .int w37, .int w38, .int w39, .ref y40, .ref y41, .ref y42, .int w43, .long v44])), (y17, .inl (T 0, 15, .inl c17)), (y22, .inl (T 0, 15, .inl c22)), (y24, .inl (T 0, 80, .inl c24)), (y41, .inl (T 2, 65536, .inr (.inl c41))), (y42, .inl (T 0, 16, .inl c42))]) [0, 1, 2, 3, 4, 5] rfl
    have hD9 := hD.sub (ws' := [(ym, .inr (11, [.int 0, .ref y1, .ref y2, .ref y3, .ref y4, .ref y5, .int w6, .int w7, .int w8, .int w9, .int w10, .long v11, .int w12, .int w13, .int w14, .int w15, .ref y16, .ref y17, .ref y18, .ref y19, .ref y20, .ref y21, .ref y22, .ref y23, .ref y24, .ref y25, .ref y26, .ref y27, .ref y28, .ref y29, .ref y30, .ref y31, .ref y32, .int w33, .int w34, .int w35, .ref y36, .int w37, .int w38, .int w39, .ref y40, .ref y41, .ref y42, .int w43, .long v44])), (y17, .inl (T 0, 15, .inl c17)), (y22, .inl (T 0, 15, .inl c22)), (y24, .inl (T 0, 80, .inl c24)), (y41, .inl (T 2, 65536, .inr (.inl c41))), (y42, .inl (T 0, 16, .inl c42))]) [0, 1, 2, 3, 4, 5] (by decide) rfl
    exact W.lret (v := (-2)) hx hb hr (fun t ht hW => ⟨⟨(-2), (fun k => ([] : List (Nat)).getD k 0, fun k => ([c42] : List (Nat → Int32)).getD k (fun _ => 0), fun k => ([c41] : List (Nat → Int64)).getD k (fun _ => 0), fun k => ([w43] : List (Int32)).getD k 0, fun k => ([] : List (Int64)).getD k 0), rfl, ⟨(show 0 ≤ w43.toInt ∧ w43.toInt ≤ 16 by omega), (show rg 0 15 c42 from R_c42)⟩, by rw [ht]; exact hP9, hD9⟩, hS.F ht⟩) hS.2.2 dX11_falls_27

set_option maxHeartbeats 4000000 in
set_option maxRecDepth 100000 in
theorem c_X11_mean (l : Launch) (D : va_G) (T : Nat → ClassId) (y1 y16 y17 y18 y19 y2 y20 y21 y22 y23 y24 y25 y26 y27 y28 y29 y3 y30 y31 y32 y36 y4 y40 y41 y42 y5 ym : Nat) (i1 w0 w10 w12 w13 w14 w15 w33 w34 w35 w37 w38 w39 w43 w6 w7 w8 w9 : Int32) (v11 v44 : Int64) (c17 c19 c22 c24 c25 c42 : Nat → Int32) (c41 : Nat → Int64) (sz : Nat) (h_w6 : 0 ≤ w6.toInt ∧ w6.toInt ≤ 1600) (h_w43 : 0 ≤ w43.toInt ∧ w43.toInt ≤ 16) (R_c24 : rg 0 12 c24) (R_c25 : rg 0 4 c25) (R_c42 : rg 0 15 c42) (P_0 : pg 3 0 0 8 c17) (P_1 : pg 3 1 0 12 c17) : Met l yX11_mean (wM yX11_mean cX11_mean 5 (some .long)) ({ frames := 4, cells := 0, slots := 0, locals := 98 }) (va_Pc [.ref ym, .int i1] (pwM D T [(ym, .inr (11, [.int w0, .ref y1, .ref y2, .ref y3, .ref y4, .ref y5, .int w6, .int w7, .int w8, .int w9, .int w10, .long v11, .int w12, .int w13, .int w14, .int w15, .ref y16, .ref y17, .ref y18, .ref y19, .ref y20, .ref y21, .ref y22, .ref y23, .ref y24, .ref y25, .ref y26, .ref y27, .ref y28, .ref y29, .ref y30, .ref y31, .ref y32, .int w33, .int w34, .int w35, .ref y36, .int w37, .int w38, .int w39, .ref y40, .ref y41, .ref y42, .int w43, .long v44])), (y17, .inl (T 0, 15, .inl c17)), (y19, .inl (T 0, 75, .inl c19)), (y22, .inl (T 0, 15, .inl c22)), (y24, .inl (T 0, 80, .inl c24)), (y25, .inl (T 0, 960, .inl c25)), (y41, .inl (T 2, 65536, .inr (.inl c41))), (y42, .inl (T 0, 16, .inl c42))] sz)) (va_Ql (fun (r : Int64) (u : U5) => (0 ≤ (u.2.2.2.1 0).toInt ∧ (u.2.2.2.1 0).toInt ≤ 16) ∧ rg 0 15 (u.2.1 0)) (fun u t => pwE D (va_A [(ym, .inr (11, [.int w0, .ref y1, .ref y2, .ref y3, .ref y4, .ref y5, .int w6, .int w7, .int w8, .int w9, .int w10, .long v11, .int w12, .int w13, .int w14, .int w15, .ref y16, .ref y17, .ref y18, .ref y19, .ref y20, .ref y21, .ref y22, .ref y23, .ref y24, .ref y25, .ref y26, .ref y27, .ref y28, .ref y29, .ref y30, .ref y31, .ref y32, .int w33, .int w34, .int w35, .ref y36, .int w37, .int w38, .int w39, .ref y40, .ref y41, .ref y42, .int w43, .long v44])), (y17, .inl (T 0, 15, .inl c17)), (y19, .inl (T 0, 75, .inl c19)), (y22, .inl (T 0, 15, .inl c22)), (y24, .inl (T 0, 80, .inl c24)), (y25, .inl (T 0, 960, .inl c25)), (y41, .inl (T 2, 65536, .inr (.inl c41))), (y42, .inl (T 0, 16, .inl c42))] sz) [(ym, .inr (11, [.int 0, .ref y1, .ref y2, .ref y3, .ref y4, .ref y5, .int w6, .int w7, .int w8, .int w9, .int w10, .long v11, .int w12, .int w13, .int w14, .int w15, .ref y16, .ref y17, .ref y18, .ref y19, .ref y20, .ref y21, .ref y22, .ref y23, .ref y24, .ref y25, .ref y26, .ref y27, .ref y28, .ref y29, .ref y30, .ref y31, .ref y32, .int w33, .int w34, .int w35, .ref y36, .int w37, .int w38, .int w39, .ref y40, .ref y41, .ref y42, .int (u.2.2.2.1 0), .long v44])), (y17, .inl (T 0, 15, .inl c17)), (y19, .inl (T 0, 75, .inl c19)), (y22, .inl (T 0, 15, .inl c22)), (y24, .inl (T 0, 80, .inl c24)), (y25, .inl (T 0, 960, .inl c25)), (y41, .inl (T 2, 65536, .inr (.inl (u.2.2.1 0)))), (y42, .inl (T 0, 16, .inl (u.2.1 0)))] t) (va_A [(ym, .inr (11, [.int w0, .ref y1, .ref y2, .ref y3, .ref y4, .ref y5, .int w6, .int w7, .int w8, .int w9, .int w10, .long v11, .int w12, .int w13, .int w14, .int w15, .ref y16, .ref y17, .ref y18, .ref y19, .ref y20, .ref y21, .ref y22, .ref y23, .ref y24, .ref y25, .ref y26, .ref y27, .ref y28, .ref y29, .ref y30, .ref y31, .ref y32, .int w33, .int w34, .int w35, .ref y36, .int w37, .int w38, .int w39, .ref y40, .ref y41, .ref y42, .int w43, .long v44])), (y17, .inl (T 0, 15, .inl c17)), (y19, .inl (T 0, 75, .inl c19)), (y22, .inl (T 0, 15, .inl c22)), (y24, .inl (T 0, 80, .inl c24)), (y25, .inl (T 0, 960, .inl c25)), (y41, .inl (T 2, 65536, .inr (.inl c41))), (y42, .inl (T 0, 16, .inl c42))] sz)) 0 0 (va_A [(ym, .inr (11, [.int w0, .ref y1, .ref y2, .ref y3, .ref y4, .ref y5, .int w6, .int w7, .int w8, .int w9, .int w10, .long v11, .int w12, .int w13, .int w14, .int w15, .ref y16, .ref y17, .ref y18, .ref y19, .ref y20, .ref y21, .ref y22, .ref y23, .ref y24, .ref y25, .ref y26, .ref y27, .ref y28, .ref y29, .ref y30, .ref y31, .ref y32, .int w33, .int w34, .int w35, .ref y36, .int w37, .int w38, .int w39, .ref y40, .ref y41, .ref y42, .int w43, .long v44])), (y17, .inl (T 0, 15, .inl c17)), (y19, .inl (T 0, 75, .inl c19)), (y22, .inl (T 0, 15, .inl c22)), (y24, .inl (T 0, 80, .inl c24)), (y25, .inl (T 0, 960, .inl c25)), (y41, .inl (T 2, 65536, .inr (.inl c41))), (y42, .inl (T 0, 16, .inl c42))] sz) := by
  refine Met.ofW (cc := cX11_mean) (maxL := 5) (ret := (some .long)) (by decide) rfl ?_
  intro p e s m args below meth c s₁ B hml hv
  obtain ⟨rfl, hsz, hP, hC, hD0⟩ := hv
  have hx := B.exec
  have hb := B.bytes
  have hr := B.returns
  have hts : ∀ w ∈ gt, w.before _ s = true := fun w hw => atoms_spec (ws := (wM yX11_mean cX11_mean 5 (some .long))) B.pre w (List.mem_cons_of_mem _ hw)
  have hown : s.vm.findClass RX11 = some m.cls := findClass_of_methodNamed B.named
  have hlocks := B.notSynchronized
  have hK := hC.1
  subst hsz
  have hD := hD0.self (sz := s.heap.size)
  generalize hAe : va_A [(ym, .inr (11, [.int w0, .ref y1, .ref y2, .ref y3, .ref y4, .ref y5, .int w6, .int w7, .int w8, .int w9, .int w10, .long v11, .int w12, .int w13, .int w14, .int w15, .ref y16, .ref y17, .ref y18, .ref y19, .ref y20, .ref y21, .ref y22, .ref y23, .ref y24, .ref y25, .ref y26, .ref y27, .ref y28, .ref y29, .ref y30, .ref y31, .ref y32, .int w33, .int w34, .int w35, .ref y36, .int w37, .int w38, .int w39, .ref y40, .ref y41, .ref y42, .int w43, .long v44])), (y17, .inl (T 0, 15, .inl c17)), (y19, .inl (T 0, 75, .inl c19)), (y22, .inl (T 0, 15, .inl c22)), (y24, .inl (T 0, 80, .inl c24)), (y25, .inl (T 0, 960, .inl c25)), (y41, .inl (T 2, 65536, .inr (.inl c41))), (y42, .inl (T 0, 16, .inl c42))] s.heap.size = A at hD ⊢
  have hA : ∀ q : Nat, s.heap.size ≤ q → A q := fun q h => by rw [← hAe]; exact Or.inr h
  have hS : va_S A s.heap s.heap [] := va_S.rf
  have hl := lv_entry ([.ref ym, .int i1]) (n := 5) (Nat.le_of_ble_eq_true rfl)
  rw [lg_entry_eq]
  generalize (lg_sl ([.ref ym, .int i1]) ++ List.replicate (5 - (lg_sl ([.ref ym, .int i1])).length) Slot.unset).toArray = ls at hl ⊢
  have hl : lv_has ls 5 [(0, .ref ym), (1, .int i1)] := hl
  have b_y17_0 : 0 ≤ (c17 0).toInt ∧ (c17 0).toInt ≤ 8 := P_0 0
  have b_y17_1 : 0 ≤ (c17 1).toInt ∧ (c17 1).toInt ≤ 12 := P_1 0
  refine lv_aload_n hx hb dX11_mean_0 rfl (lv_at hl 0 rfl) ?_
  refine lv_iconst (v := 0) hx hb dX11_mean_1 (by decide) ?_
  refine va_put (D := D) (ci := 11) (v := .int 0) (ty := .int) (C := RX11) (T := TX11) (N := 45) hx hb hts iX11 tyX11 tyX11_ok nmX11 hown hK hP hD hS 0 rfl rfl 0 (by decide) (hts _ m1318) (fun _ h9 => h9) rfl (by decide +kernel) rfl rfl (Nat.le_of_ble_eq_true rfl) dX11_mean_2 (fun H locs hP hD hS => ?_)
  have hP : va_P D vwCl [(ym, .inr (11, [.int 0, .ref y1, .ref y2, .ref y3, .ref y4, .ref y5, .int w6, .int w7, .int w8, .int w9, .int w10, .long v11, .int w12, .int w13, .int w14, .int w15, .ref y16, .ref y17, .ref y18, .ref y19, .ref y20, .ref y21, .ref y22, .ref y23, .ref y24, .ref y25, .ref y26, .ref y27, .ref y28, .ref y29, .ref y30, .ref y31, .ref y32, .int w33, .int w34, .int w35, .ref y36, .int w37, .int w38, .int w39, .ref y40, .ref y41, .ref y42, .int w43, .long v44])), (y17, .inl (T 0, 15, .inl c17)), (y19, .inl (T 0, 75, .inl c19)), (y22, .inl (T 0, 15, .inl c22)), (y24, .inl (T 0, 80, .inl c24)), (y25, .inl (T 0, 960, .inl c25)), (y41, .inl (T 2, 65536, .inr (.inl c41))), (y42, .inl (T 0, 16, .inl c42))] H := hP
  have hD : va_D A [(ym, .inr (11, [.int 0, .ref y1, .ref y2, .ref y3, .ref y4, .ref y5, .int w6, .int w7, .int w8, .int w9, .int w10, .long v11, .int w12, .int w13, .int w14, .int w15, .ref y16, .ref y17, .ref y18, .ref y19, .ref y20, .ref y21, .ref y22, .ref y23, .ref y24, .ref y25, .ref y26, .ref y27, .ref y28, .ref y29, .ref y30, .ref y31, .ref y32, .int w33, .int w34, .int w35, .ref y36, .int w37, .int w38, .int w39, .ref y40, .ref y41, .ref y42, .int w43, .long v44])), (y17, .inl (T 0, 15, .inl c17)), (y19, .inl (T 0, 75, .inl c19)), (y22, .inl (T 0, 15, .inl c22)), (y24, .inl (T 0, 80, .inl c24)), (y25, .inl (T 0, 960, .inl c25)), (y41, .inl (T 2, 65536, .inr (.inl c41))), (y42, .inl (T 0, 16, .inl c42))] := hD
  refine lv_aload_n hx hb dX11_mean_5 rfl (lv_at hl 0 rfl) ?_
  refine puI (cV (As := []) (rest := []) ⟨hx, hb, hml, hown, hts⟩ (c_X11_isTown l D T y1 y16 y17 y18 y19 y2 y20 y21 y22 y23 y24 y25 y26 y27 y28 y29 y3 y30 y31 y32 y36 y4 y40 y41 y42 y5 ym 0 w10 w12 w13 w14 w15 w33 w34 w35 w37 w38 w39 w43 w6 w7 w8 w9 v11 v44 c17 ⟨by omega, by omega⟩ ⟨by omega, by omega⟩ P_0 P_1) k_X11_isTown v_X11_isTown m1668 rfl rfl ⟨(Nat.le_of_ble_eq_true rfl), (Nat.le_of_ble_eq_true rfl)⟩ (preP hC (hP.sub (ws' := [(ym, .inr (11, [.int 0, .ref y1, .ref y2, .ref y3, .ref y4, .ref y5, .int w6, .int w7, .int w8, .int w9, .int w10, .long v11, .int w12, .int w13, .int w14, .int w15, .ref y16, .ref y17, .ref y18, .ref y19, .ref y20, .ref y21, .ref y22, .ref y23, .ref y24, .ref y25, .ref y26, .ref y27, .ref y28, .ref y29, .ref y30, .ref y31, .ref y32, .int w33, .int w34, .int w35, .ref y36, .int w37, .int w38, .int w39, .ref y40, .ref y41, .ref y42, .int w43, .long v44])), (y17, .inl (T 0, 15, .inl c17))]) [0, 1] rfl)) (va_recv hK hP (ci := 11) (q0 := 0) rfl rfl) rfl hl.1 rfl (Nat.le_of_ble_eq_true rfl) dX11_mean_6 ⟨(Nat.le_of_ble_eq_true rfl), (Nat.le_of_ble_eq_true rfl)⟩) hS hP (fun r_1 H locs hw hP hS => ?_)
  have w_3 : (r_1 = 1 ∧ 0 < (c17 0).toInt) ∨ (r_1 = 0 ∧ (c17 0).toInt ≤ 0) := hw
  rcases w_3 with ⟨rfl, c_4⟩ | ⟨rfl, c_5⟩
  · refine lv_if_eq (tgt := 19) hx hb dX11_mean_9 (by decide) (fun c_6 => absurd c_6 (by decide)) (fun _ => ?_)
    refine lv_iload_n hx hb dX11_mean_12 rfl (lv_at hl 1 rfl) ?_
    refine puI (cS (As := [.int i1]) (rest := []) ⟨hx, hb, hml, hown, hts⟩ (c_X11_isSide l D T i1) k_X11_isSide m1616 m1615 rfl rfl ⟨(Nat.le_of_ble_eq_true rfl), (Nat.le_of_ble_eq_true rfl)⟩ (preP hC (hP.sub (ws' := []) [] rfl)) rfl hl.1 rfl (Nat.le_of_ble_eq_true rfl) dX11_mean_13 ⟨(Nat.le_of_ble_eq_true rfl), (Nat.le_of_ble_eq_true rfl)⟩) hS hP (fun r_7 H locs hw hP hS => ?_)
    have w_9 : (r_7 = 1 ∧ 0 ≤ i1.toInt ∧ i1.toInt ≤ 1) ∨ (r_7 = 0) := hw
    rcases w_9 with ⟨rfl, c_10, c_11⟩ | rfl
    · refine lv_if_ne (tgt := 23) hx hb dX11_mean_16 (by decide) (fun _ => ?_) (fun c_12 => absurd c_12 (by decide))
      refine lv_aload_n hx hb dX11_mean_23 rfl (lv_at hl 0 rfl) ?_
      refine mtV (wr := [(y19, .inl (T 0, 75, .inl c19)), (y25, .inl (T 0, 960, .inl c25))]) (cV (As := []) (rest := []) ⟨hx, hb, hml, hown, hts⟩ (c_X11_blows l D T y1 y16 y17 y18 y19 y2 y20 y21 y22 y23 y24 y25 y26 y27 y28 y29 y3 y30 y31 y32 y36 y4 y40 y41 y42 y5 ym 0 w10 w12 w13 w14 w15 w33 w34 w35 w37 w38 w39 w43 w6 w7 w8 w9 v11 v44 c17 c22 c24 c42 c41 _ ⟨by omega, by omega⟩ ⟨by omega, by omega⟩ R_c24 R_c42 P_0 P_1) k_X11_blows v_X11_blows m1875 rfl rfl ⟨(Nat.le_of_ble_eq_true rfl), (Nat.le_of_ble_eq_true rfl)⟩ (preM hC (hP.sub (ws' := [(ym, .inr (11, [.int 0, .ref y1, .ref y2, .ref y3, .ref y4, .ref y5, .int w6, .int w7, .int w8, .int w9, .int w10, .long v11, .int w12, .int w13, .int w14, .int w15, .ref y16, .ref y17, .ref y18, .ref y19, .ref y20, .ref y21, .ref y22, .ref y23, .ref y24, .ref y25, .ref y26, .ref y27, .ref y28, .ref y29, .ref y30, .ref y31, .ref y32, .int w33, .int w34, .int w35, .ref y36, .int w37, .int w38, .int w39, .ref y40, .ref y41, .ref y42, .int w43, .long v44])), (y17, .inl (T 0, 15, .inl c17)), (y22, .inl (T 0, 15, .inl c22)), (y24, .inl (T 0, 80, .inl c24)), (y41, .inl (T 2, 65536, .inr (.inl c41))), (y42, .inl (T 0, 16, .inl c42))]) [0, 1, 3, 4, 6, 7] rfl) (hD.sub (ws' := [(ym, .inr (11, [.int 0, .ref y1, .ref y2, .ref y3, .ref y4, .ref y5, .int w6, .int w7, .int w8, .int w9, .int w10, .long v11, .int w12, .int w13, .int w14, .int w15, .ref y16, .ref y17, .ref y18, .ref y19, .ref y20, .ref y21, .ref y22, .ref y23, .ref y24, .ref y25, .ref y26, .ref y27, .ref y28, .ref y29, .ref y30, .ref y31, .ref y32, .int w33, .int w34, .int w35, .ref y36, .int w37, .int w38, .int w39, .ref y40, .ref y41, .ref y42, .int w43, .long v44])), (y17, .inl (T 0, 15, .inl c17)), (y22, .inl (T 0, 15, .inl c22)), (y24, .inl (T 0, 80, .inl c24)), (y41, .inl (T 2, 65536, .inr (.inl c41))), (y42, .inl (T 0, 16, .inl c42))]) [0, 1, 3, 4, 6, 7] (by decide) rfl)) (va_recv hK hP (ci := 11) (q0 := 0) rfl rfl) rfl hl.1 rfl (Nat.le_of_ble_eq_true rfl) dX11_mean_24 ⟨(Nat.le_of_ble_eq_true rfl), (Nat.le_of_ble_eq_true rfl)⟩) hS hA hP hD [0, 1, 3, 4, 6, 7] [2, 5] rfl rfl (by decide) (by decide) (fun u_14 H locs hw hP hD hS => ?_)
      have hP : va_P D vwCl [(ym, .inr (11, [.int 0, .ref y1, .ref y2, .ref y3, .ref y4, .ref y5, .int w6, .int w7, .int w8, .int w9, .int w10, .long v11, .int w12, .int w13, .int w14, .int w15, .ref y16, .ref y17, .ref y18, .ref y19, .ref y20, .ref y21, .ref y22, .ref y23, .ref y24, .ref y25, .ref y26, .ref y27, .ref y28, .ref y29, .ref y30, .ref y31, .ref y32, .int w33, .int w34, .int w35, .ref y36, .int w37, .int w38, .int w39, .ref y40, .ref y41, .ref y42, .int (u_14.2.2.2.1 0), .long v44])), (y17, .inl (T 0, 15, .inl c17)), (y19, .inl (T 0, 75, .inl c19)), (y22, .inl (T 0, 15, .inl c22)), (y24, .inl (T 0, 80, .inl c24)), (y25, .inl (T 0, 960, .inl c25)), (y41, .inl (T 2, 65536, .inr (.inl (u_14.2.2.1 0)))), (y42, .inl (T 0, 16, .inl (u_14.2.1 0)))] H := hP.sub [2, 3, 0, 4, 5, 1, 6, 7] rfl
      have hD : va_D A [(ym, .inr (11, [.int 0, .ref y1, .ref y2, .ref y3, .ref y4, .ref y5, .int w6, .int w7, .int w8, .int w9, .int w10, .long v11, .int w12, .int w13, .int w14, .int w15, .ref y16, .ref y17, .ref y18, .ref y19, .ref y20, .ref y21, .ref y22, .ref y23, .ref y24, .ref y25, .ref y26, .ref y27, .ref y28, .ref y29, .ref y30, .ref y31, .ref y32, .int w33, .int w34, .int w35, .ref y36, .int w37, .int w38, .int w39, .ref y40, .ref y41, .ref y42, .int (u_14.2.2.2.1 0), .long v44])), (y17, .inl (T 0, 15, .inl c17)), (y19, .inl (T 0, 75, .inl c19)), (y22, .inl (T 0, 15, .inl c22)), (y24, .inl (T 0, 80, .inl c24)), (y25, .inl (T 0, 960, .inl c25)), (y41, .inl (T 2, 65536, .inr (.inl (u_14.2.2.1 0)))), (y42, .inl (T 0, 16, .inl (u_14.2.1 0)))] := hD.sub [2, 3, 0, 4, 5, 1, 6, 7] (by decide) rfl
      obtain ⟨w_15, w_16, w_17⟩ : (0 ≤ (u_14.2.2.2.1 0).toInt ∧ (u_14.2.2.2.1 0).toInt ≤ 16) ∧ rg 0 15 (u_14.2.1 0) ∧ (cr (u_14.2.2.2.1 0).toInt c24 (u_14.2.1 0)) := hw
      refine lv_lconst (v := 0) hx hb dX11_mean_27 (by decide) ?_
      refine lv_lstore_n (lv' := [(2, .long 0), (0, .ref ym), (1, .int i1)]) hx hb dX11_mean_28 rfl hl (by decide) rfl (fun ls hl => ?_)
      refine lv_iconst (v := 0) hx hb dX11_mean_29 (by decide) ?_
      refine lv_istore (lv' := [(4, .int 0), (2, .long 0), (0, .ref ym), (1, .int i1)]) hx hb dX11_mean_30 hl (by decide) rfl (fun ls hl => ?_)
      refine lp_ind (fun (a : Heap × List Loc × Array Slot × (Int32) × (Int64)) => match a with | (H, locs, ls, i_18, i_19) => W p l e _ s m _ below meth c H locs 0 0 _ (F0 m 32 ls [])) (fun (a : Heap × List Loc × Array Slot × (Int32) × (Int64)) => match a with | (H, locs, ls, i_18, i_19) => 0 ≤ i_18.toInt ∧ i_18.toInt ≤ 65536 ∧ va_P D vwCl [(ym, .inr (11, [.int 0, .ref y1, .ref y2, .ref y3, .ref y4, .ref y5, .int w6, .int w7, .int w8, .int w9, .int w10, .long v11, .int w12, .int w13, .int w14, .int w15, .ref y16, .ref y17, .ref y18, .ref y19, .ref y20, .ref y21, .ref y22, .ref y23, .ref y24, .ref y25, .ref y26, .ref y27, .ref y28, .ref y29, .ref y30, .ref y31, .ref y32, .int w33, .int w34, .int w35, .ref y36, .int w37, .int w38, .int w39, .ref y40, .ref y41, .ref y42, .int (u_14.2.2.2.1 0), .long v44])), (y17, .inl (T 0, 15, .inl c17)), (y19, .inl (T 0, 75, .inl c19)), (y22, .inl (T 0, 15, .inl c22)), (y24, .inl (T 0, 80, .inl c24)), (y25, .inl (T 0, 960, .inl c25)), (y41, .inl (T 2, 65536, .inr (.inl (u_14.2.2.1 0)))), (y42, .inl (T 0, 16, .inl (u_14.2.1 0)))] H ∧ va_D A [(ym, .inr (11, [.int 0, .ref y1, .ref y2, .ref y3, .ref y4, .ref y5, .int w6, .int w7, .int w8, .int w9, .int w10, .long v11, .int w12, .int w13, .int w14, .int w15, .ref y16, .ref y17, .ref y18, .ref y19, .ref y20, .ref y21, .ref y22, .ref y23, .ref y24, .ref y25, .ref y26, .ref y27, .ref y28, .ref y29, .ref y30, .ref y31, .ref y32, .int w33, .int w34, .int w35, .ref y36, .int w37, .int w38, .int w39, .ref y40, .ref y41, .ref y42, .int (u_14.2.2.2.1 0), .long v44])), (y17, .inl (T 0, 15, .inl c17)), (y19, .inl (T 0, 75, .inl c19)), (y22, .inl (T 0, 15, .inl c22)), (y24, .inl (T 0, 80, .inl c24)), (y25, .inl (T 0, 960, .inl c25)), (y41, .inl (T 2, 65536, .inr (.inl (u_14.2.2.1 0)))), (y42, .inl (T 0, 16, .inl (u_14.2.1 0)))] ∧ va_S A s.heap H locs ∧ lv_has ls 5 [(4, .int i_18), (2, .long i_19), (0, .ref ym), (1, .int i1)]) (fun (a : Heap × List Loc × Array Slot × (Int32) × (Int64)) => match a with | (H, locs, ls, i_18, i_19) => (65536 - i_18.toInt).toNat) ?_ (_, _, ls, (0 : Int32), (0 : Int64)) ⟨(show 0 ≤ (0 : Int) by omega), (show (0 : Int) ≤ 65536 by omega), hP, hD, hS, lv_sub hl [0, 1, 2, 3] rfl⟩
      rintro ⟨H, locs, ls, i_18, i_19⟩ ⟨c_20, c_21, hP, hD, hS, hl⟩ ih_22
      refine lv_iload hx hb dX11_mean_32 (lv_at hl 0 rfl) ?_
      refine lv_iconst (v := 1) hx hb dX11_mean_34 (by decide) ?_
      refine lv_aload_n hx hb dX11_mean_35 rfl (lv_at hl 2 rfl) ?_
      refine va_get (D := D) (ci := 11) (C := RX11) (T := TX11) (N := 45) hx hb hts iX11 hown hK hP 0 rfl rfl 43 (by decide) (hts _ m1360) (fun _ h9 => h9) rfl dX11_mean_36 ?_
      refine lv_ishl hx hb dX11_mean_39 ?_
      refine lv_topi (fun x_23 ex_23 => ?_)
      have tx_23 := t_shl16 ex_23 (by omega) (by omega)
      refine lv_icmp_ge (tgt := 80) hx hb dX11_mean_40 (by decide) (fun c_24 => ?_) (fun c_24 => ?_)
      · have c_24 : x_23.toInt ≤ i_18.toInt := (c_le (x := x_23.toInt) (y := i_18.toInt) rfl rfl).mp c_24
        refine lv_lload_n hx hb dX11_mean_80 rfl (lv_at hl 1 rfl) ?_
        refine lv_ldc2 (v := 1000000000) hx hb hown (hts _ m1919) dX11_mean_81 ?_
        refine lv_ldiv hx hb dX11_mean_84 (by decide) ?_
        refine lv_topl (fun x_25 ex_25 => ?_)
        have hP9 := hP.sub (ws' := [(ym, .inr (11, [.int 0, .ref y1, .ref y2, .ref y3, .ref y4, .ref y5, .int w6, .int w7, .int w8, .int w9, .int w10, .long v11, .int w12, .int w13, .int w14, .int w15, .ref y16, .ref y17, .ref y18, .ref y19, .ref y20, .ref y21, .ref y22, .ref y23, .ref y24, .ref y25, .ref y26, .ref y27, .ref y28, .ref y29, .ref y30, .ref y31, .ref y32, .int w33, .int w34, .int w35, .ref y36, .int w37, .int w38, .int w39, .ref y40, .ref y41, .ref y42, .int (u_14.2.2.2.1 0), .long v44])), (y17, .inl (T 0, 15, .inl c17)), (y19, .inl (T 0, 75, .inl c19)), (y22, .inl (T 0, 15, .inl c22)), (y24, .inl (T 0, 80, .inl c24)), (y25, .inl (T 0, 960, .inl c25)), (y41, .inl (T 2, 65536, .inr (.inl (u_14.2.2.1 0)))), (y42, .inl (T 0, 16, .inl (u_14.2.1 0)))]) [0, 1, 2, 3, 4, 5, 6, 7] rfl
        have hD9 := hD.sub (ws' := [(ym, .inr (11, [.int 0, .ref y1, .ref y2, .ref y3, .ref y4, .ref y5, .int w6, .int w7, .int w8, .int w9, .int w10, .long v11, .int w12, .int w13, .int w14, .int w15, .ref y16, .ref y17, .ref y18, .ref y19, .ref y20, .ref y21, .ref y22, .ref y23, .ref y24, .ref y25, .ref y26, .ref y27, .ref y28, .ref y29, .ref y30, .ref y31, .ref y32, .int w33, .int w34, .int w35, .ref y36, .int w37, .int w38, .int w39, .ref y40, .ref y41, .ref y42, .int (u_14.2.2.2.1 0), .long v44])), (y17, .inl (T 0, 15, .inl c17)), (y19, .inl (T 0, 75, .inl c19)), (y22, .inl (T 0, 15, .inl c22)), (y24, .inl (T 0, 80, .inl c24)), (y25, .inl (T 0, 960, .inl c25)), (y41, .inl (T 2, 65536, .inr (.inl (u_14.2.2.1 0)))), (y42, .inl (T 0, 16, .inl (u_14.2.1 0)))]) [0, 1, 2, 3, 4, 5, 6, 7] (by decide) rfl
        exact W.lret (v := x_25) hx hb hr (fun t ht hW => ⟨⟨x_25, (fun k => ([] : List (Nat)).getD k 0, fun k => ([u_14.2.1 0] : List (Nat → Int32)).getD k (fun _ => 0), fun k => ([u_14.2.2.1 0] : List (Nat → Int64)).getD k (fun _ => 0), fun k => ([u_14.2.2.2.1 0] : List (Int32)).getD k 0, fun k => ([] : List (Int64)).getD k 0), rfl, ⟨(show 0 ≤ (u_14.2.2.2.1 0).toInt ∧ (u_14.2.2.2.1 0).toInt ≤ 16 by omega), (show rg 0 15 (u_14.2.1 0) from w_16)⟩, by rw [ht]; exact hP9, hD9⟩, hS.F ht⟩) hS.2.2 dX11_mean_85
      · have c_24 : i_18.toInt < x_23.toInt := by have h := mt (c_le (x := x_23.toInt) (y := i_18.toInt) rfl rfl).mpr c_24; omega
        refine lv_aload_n hx hb dX11_mean_43 rfl (lv_at hl 2 rfl) ?_
        refine va_get (D := D) (ci := 11) (C := RX11) (T := TX11) (N := 45) hx hb hts iX11 hown hK hP 0 rfl rfl 41 (by decide) (hts _ m1358) (fun _ h9 => h9) rfl dX11_mean_44 ?_
        refine lv_iload hx hb dX11_mean_47 (lv_at hl 0 rfl) ?_
        refine va_lald (D := D) hx hb hK hP 6 2 rfl rfl (v_in (x := i_18.toInt) rfl (by omega) (by omega)) dX11_mean_49 ?_
        refine lv_topl (fun x_26 ex_26 => ?_)
        refine lv_lconst (v := 0) hx hb dX11_mean_50 (by decide) ?_
        refine W.lcmp hx hb dX11_mean_51 ?_
        refine lv_if_eq (tgt := 74) hx hb dX11_mean_52 (by decide) (fun c_27 => ?_) (fun c_27 => ?_)
        · have c_27 : x_26.toInt = 0 := (kl_eq (a := x_26) (b := (0 : Int64)) (x := x_26.toInt) (y := 0) rfl (by decide)).mp c_27
          obtain ⟨x_28, ex_28⟩ : ∃ y : Int32, y = i_18 + 1 := ⟨_, rfl⟩
          have tx_28 : x_28.toInt = i_18.toInt + 1 := t_add (x := i_18.toInt) (y := 1) ex_28 rfl rfl (by omega) (by omega)
          refine lv_iinc (v := x_28) (lv' := [(4, .int x_28), (2, .long i_19), (0, .ref ym), (1, .int i1)]) hx hb dX11_mean_74 hl (k := 0) rfl (by rw [ex_28]; rfl) (by decide) rfl (fun ls hl => ?_)
          refine lv_goto (tgt := 32) hx hb dX11_mean_77 (by decide) ?_
          exact ih_22 (_, _, _, x_28, i_19) ⟨(show 0 ≤ x_28.toInt by omega), (show x_28.toInt ≤ 65536 by omega), hP, hD, hS, lv_sub hl [0, 1, 2, 3] rfl⟩ (show (65536 - x_28.toInt).toNat < (65536 - i_18.toInt).toNat by omega)
        · have c_27 : ¬ x_26.toInt = 0 := fun h => c_27 ((kl_eq (a := x_26) (b := (0 : Int64)) (x := x_26.toInt) (y := 0) rfl (by decide)).mpr h)
          refine lv_lload_n hx hb dX11_mean_55 rfl (lv_at hl 1 rfl) ?_
          refine lv_aload_n hx hb dX11_mean_56 rfl (lv_at hl 2 rfl) ?_
          refine va_get (D := D) (ci := 11) (C := RX11) (T := TX11) (N := 45) hx hb hts iX11 hown hK hP 0 rfl rfl 41 (by decide) (hts _ m1358) (fun _ h9 => h9) rfl dX11_mean_57 ?_
          refine lv_iload hx hb dX11_mean_60 (lv_at hl 0 rfl) ?_
          refine va_lald (D := D) hx hb hK hP 6 2 rfl rfl (v_in (x := i_18.toInt) rfl (by omega) (by omega)) dX11_mean_62 ?_
          refine lv_topl (fun x_29 ex_29 => ?_)
          refine lv_aload_n hx hb dX11_mean_63 rfl (lv_at hl 2 rfl) ?_
          refine lv_iload_n hx hb dX11_mean_64 rfl (lv_at hl 3 rfl) ?_
          refine lv_iload hx hb dX11_mean_65 (lv_at hl 0 rfl) ?_
          refine puI (cV (As := [.int i1, .int i_18]) (rest := [.long x_29, .long i_19]) ⟨hx, hb, hml, hown, hts⟩ (c_X11_countsWithout l D T y1 y16 y17 y18 y19 y2 y20 y21 y22 y23 y24 y25 y26 y27 y28 y29 y3 y30 y31 y32 y36 y4 y40 y41 y42 y5 ym i1 i_18 0 w10 w12 w13 w14 w15 w33 w34 w35 w37 w38 w39 (u_14.2.2.2.1 0) w6 w7 w8 w9 v11 v44 c17 c19 c22 c24 c25 (u_14.2.1 0) ⟨by omega, by omega⟩ ⟨by omega, by omega⟩ ⟨by omega, by omega⟩ R_c24 R_c25 w_16 P_0 P_1 (by omega)) k_X11_countsWithout v_X11_countsWithout m1881 rfl rfl ⟨(Nat.le_of_ble_eq_true rfl), (Nat.le_of_ble_eq_true rfl)⟩ (preP hC (hP.sub (ws' := [(ym, .inr (11, [.int 0, .ref y1, .ref y2, .ref y3, .ref y4, .ref y5, .int w6, .int w7, .int w8, .int w9, .int w10, .long v11, .int w12, .int w13, .int w14, .int w15, .ref y16, .ref y17, .ref y18, .ref y19, .ref y20, .ref y21, .ref y22, .ref y23, .ref y24, .ref y25, .ref y26, .ref y27, .ref y28, .ref y29, .ref y30, .ref y31, .ref y32, .int w33, .int w34, .int w35, .ref y36, .int w37, .int w38, .int w39, .ref y40, .ref y41, .ref y42, .int (u_14.2.2.2.1 0), .long v44])), (y17, .inl (T 0, 15, .inl c17)), (y19, .inl (T 0, 75, .inl c19)), (y22, .inl (T 0, 15, .inl c22)), (y24, .inl (T 0, 80, .inl c24)), (y25, .inl (T 0, 960, .inl c25)), (y42, .inl (T 0, 16, .inl (u_14.2.1 0)))]) [0, 1, 2, 3, 4, 5, 7] rfl)) (va_recv hK hP (ci := 11) (q0 := 0) rfl rfl) rfl hl.1 rfl (Nat.le_of_ble_eq_true rfl) dX11_mean_67 ⟨(Nat.le_of_ble_eq_true rfl), (Nat.le_of_ble_eq_true rfl)⟩) hS hP (fun r_30 H locs hw hP hS => ?_)
          refine lv_i2l hx hb dX11_mean_70 rfl ?_
          refine lv_lmul hx hb dX11_mean_71 ?_
          refine lv_topl (fun x_32 ex_32 => ?_)
          refine lv_ladd hx hb dX11_mean_72 ?_
          refine lv_topl (fun x_33 ex_33 => ?_)
          refine lv_lstore_n (lv' := [(2, .long x_33), (4, .int i_18), (0, .ref ym), (1, .int i1)]) hx hb dX11_mean_73 rfl hl (by decide) rfl (fun ls hl => ?_)
          obtain ⟨x_34, ex_34⟩ : ∃ y : Int32, y = i_18 + 1 := ⟨_, rfl⟩
          have tx_34 : x_34.toInt = i_18.toInt + 1 := t_add (x := i_18.toInt) (y := 1) ex_34 rfl rfl (by omega) (by omega)
          refine lv_iinc (v := x_34) (lv' := [(4, .int x_34), (2, .long x_33), (0, .ref ym), (1, .int i1)]) hx hb dX11_mean_74 hl (k := 1) rfl (by rw [ex_34]; rfl) (by decide) rfl (fun ls hl => ?_)
          refine lv_goto (tgt := 32) hx hb dX11_mean_77 (by decide) ?_
          exact ih_22 (_, _, _, x_34, x_33) ⟨(show 0 ≤ x_34.toInt by omega), (show x_34.toInt ≤ 65536 by omega), hP, hD, hS, lv_sub hl [0, 1, 2, 3] rfl⟩ (show (65536 - x_34.toInt).toNat < (65536 - i_18.toInt).toNat by omega)
    · refine lv_if_ne (tgt := 23) hx hb dX11_mean_16 (by decide) (fun c_35 => absurd c_35 (by decide)) (fun _ => ?_)
      refine lv_ldc2 (v := (-2)) hx hb hown (hts _ m1562) dX11_mean_19 ?_
      have hP9 := hP.sub (ws' := [(ym, .inr (11, [.int 0, .ref y1, .ref y2, .ref y3, .ref y4, .ref y5, .int w6, .int w7, .int w8, .int w9, .int w10, .long v11, .int w12, .int w13, .int w14, .int w15, .ref y16, .ref y17, .ref y18, .ref y19, .ref y20, .ref y21, .ref y22, .ref y23, .ref y24, .ref y25, .ref y26, .ref y27, .ref y28, .ref y29, .ref y30, .ref y31, .ref y32, .int w33, .int w34, .int w35, .ref y36, .int w37, .int w38, .int w39, .ref y40, .ref y41, .ref y42, .int w43, .long v44])), (y17, .inl (T 0, 15, .inl c17)), (y19, .inl (T 0, 75, .inl c19)), (y22, .inl (T 0, 15, .inl c22)), (y24, .inl (T 0, 80, .inl c24)), (y25, .inl (T 0, 960, .inl c25)), (y41, .inl (T 2, 65536, .inr (.inl c41))), (y42, .inl (T 0, 16, .inl c42))]) [0, 1, 2, 3, 4, 5, 6, 7] rfl
      have hD9 := hD.sub (ws' := [(ym, .inr (11, [.int 0, .ref y1, .ref y2, .ref y3, .ref y4, .ref y5, .int w6, .int w7, .int w8, .int w9, .int w10, .long v11, .int w12, .int w13, .int w14, .int w15, .ref y16, .ref y17, .ref y18, .ref y19, .ref y20, .ref y21, .ref y22, .ref y23, .ref y24, .ref y25, .ref y26, .ref y27, .ref y28, .ref y29, .ref y30, .ref y31, .ref y32, .int w33, .int w34, .int w35, .ref y36, .int w37, .int w38, .int w39, .ref y40, .ref y41, .ref y42, .int w43, .long v44])), (y17, .inl (T 0, 15, .inl c17)), (y19, .inl (T 0, 75, .inl c19)), (y22, .inl (T 0, 15, .inl c22)), (y24, .inl (T 0, 80, .inl c24)), (y25, .inl (T 0, 960, .inl c25)), (y41, .inl (T 2, 65536, .inr (.inl c41))), (y42, .inl (T 0, 16, .inl c42))]) [0, 1, 2, 3, 4, 5, 6, 7] (by decide) rfl
      exact W.lret (v := (-2)) hx hb hr (fun t ht hW => ⟨⟨(-2), (fun k => ([] : List (Nat)).getD k 0, fun k => ([c42] : List (Nat → Int32)).getD k (fun _ => 0), fun k => ([c41] : List (Nat → Int64)).getD k (fun _ => 0), fun k => ([w43] : List (Int32)).getD k 0, fun k => ([] : List (Int64)).getD k 0), rfl, ⟨(show 0 ≤ w43.toInt ∧ w43.toInt ≤ 16 by omega), (show rg 0 15 c42 from R_c42)⟩, by rw [ht]; exact hP9, hD9⟩, hS.F ht⟩) hS.2.2 dX11_mean_22
  · refine lv_if_eq (tgt := 19) hx hb dX11_mean_9 (by decide) (fun _ => ?_) (fun c_36 => absurd (by decide) c_36)
    refine lv_ldc2 (v := (-2)) hx hb hown (hts _ m1562) dX11_mean_19 ?_
    have hP9 := hP.sub (ws' := [(ym, .inr (11, [.int 0, .ref y1, .ref y2, .ref y3, .ref y4, .ref y5, .int w6, .int w7, .int w8, .int w9, .int w10, .long v11, .int w12, .int w13, .int w14, .int w15, .ref y16, .ref y17, .ref y18, .ref y19, .ref y20, .ref y21, .ref y22, .ref y23, .ref y24, .ref y25, .ref y26, .ref y27, .ref y28, .ref y29, .ref y30, .ref y31, .ref y32, .int w33, .int w34, .int w35, .ref y36, .int w37, .int w38, .int w39, .ref y40, .ref y41, .ref y42, .int w43, .long v44])), (y17, .inl (T 0, 15, .inl c17)), (y19, .inl (T 0, 75, .inl c19)), (y22, .inl (T 0, 15, .inl c22)), (y24, .inl (T 0, 80, .inl c24)), (y25, .inl (T 0, 960, .inl c25)), (y41, .inl (T 2, 65536, .inr (.inl c41))), (y42, .inl (T 0, 16, .inl c42))]) [0, 1, 2, 3, 4, 5, 6, 7] rfl
    have hD9 := hD.sub (ws' := [(ym, .inr (11, [.int 0, .ref y1, .ref y2, .ref y3, .ref y4, .ref y5, .int w6, .int w7, .int w8, .int w9, .int w10, .long v11, .int w12, .int w13, .int w14, .int w15, .ref y16, .ref y17, .ref y18, .ref y19, .ref y20, .ref y21, .ref y22, .ref y23, .ref y24, .ref y25, .ref y26, .ref y27, .ref y28, .ref y29, .ref y30, .ref y31, .ref y32, .int w33, .int w34, .int w35, .ref y36, .int w37, .int w38, .int w39, .ref y40, .ref y41, .ref y42, .int w43, .long v44])), (y17, .inl (T 0, 15, .inl c17)), (y19, .inl (T 0, 75, .inl c19)), (y22, .inl (T 0, 15, .inl c22)), (y24, .inl (T 0, 80, .inl c24)), (y25, .inl (T 0, 960, .inl c25)), (y41, .inl (T 2, 65536, .inr (.inl c41))), (y42, .inl (T 0, 16, .inl c42))]) [0, 1, 2, 3, 4, 5, 6, 7] (by decide) rfl
    exact W.lret (v := (-2)) hx hb hr (fun t ht hW => ⟨⟨(-2), (fun k => ([] : List (Nat)).getD k 0, fun k => ([c42] : List (Nat → Int32)).getD k (fun _ => 0), fun k => ([c41] : List (Nat → Int64)).getD k (fun _ => 0), fun k => ([w43] : List (Int32)).getD k 0, fun k => ([] : List (Int64)).getD k 0), rfl, ⟨(show 0 ≤ w43.toInt ∧ w43.toInt ≤ 16 by omega), (show rg 0 15 c42 from R_c42)⟩, by rw [ht]; exact hP9, hD9⟩, hS.F ht⟩) hS.2.2 dX11_mean_22
