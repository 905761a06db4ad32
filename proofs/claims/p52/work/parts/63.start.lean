theorem cxN_in : ∀ q ∈ cxN, Cond.methodLinkNest q.1 q.2.1 q.2.2.1 q.2.2.2 ∈ lw_tbl := by
  intro q hq
  have h : cxN.map (fun q => Cond.methodLinkNest q.1 q.2.1 q.2.2.1 q.2.2.2) = ([137, 154, 160, 315, 420, 441, 463, 503, 517, 783, 824, 918, 1064, 1097, 1121] : List Nat).filterMap (fun i => lw_tbl[i]?) := by decide +kernel
  have h1 : Cond.methodLinkNest q.1 q.2.1 q.2.2.1 q.2.2.2 ∈ cxN.map (fun q => Cond.methodLinkNest q.1 q.2.1 q.2.2.1 q.2.2.2) := List.mem_map.mpr ⟨q, hq, rfl⟩
  rw [h] at h1
  obtain ⟨i, -, hi⟩ := List.mem_filterMap.mp h1
  exact List.mem_of_getElem? hi
theorem cx_start {s : State} {args : Array Value} (hts : ∀ w ∈ lw_tbl, w.before args s = true) : ∃ (D : va_G) (T : Nat → ClassId), cx D T s := by
  have hg : ∀ w ∈ gt, w.before args s = true := fun w hw => hts w (List.mem_filter.mp hw).1
  obtain ⟨c0, j0, h0⟩ := u_known (C := RX0) (T := TX0) (N := 2) (n := 2) hg iX0 (hg _ m502)
  obtain ⟨c1, j1, h1⟩ := u_known (C := RX1) (T := TX1) (N := 10) (n := 10) hg iX1 (hg _ m153)
  obtain ⟨c2, j2, h2⟩ := u_known (C := RX2) (T := TX2) (N := 3) (n := 3) hg iX2 (hg _ m419)
  obtain ⟨c3, j3, h3⟩ := u_known (C := RX3) (T := TX3) (N := 9) (n := 9) hg iX3 (hg _ m317)
  obtain ⟨c4, j4, h4⟩ := u_known (C := RX4) (T := TX4) (N := 2) (n := 2) hg iX4 (hg _ m136)
  obtain ⟨c5, j5, h5⟩ := u_known (C := RX5) (T := TX5) (N := 19) (n := 19) hg iX5 (hg _ m159)
  obtain ⟨c6, j6, h6⟩ := u_known (C := RX6) (T := TX6) (N := 5) (n := 5) hg iX6 (hg _ m440)
  obtain ⟨c7, j7, h7⟩ := u_known (C := RX7) (T := TX7) (N := 9) (n := 9) hg iX7 (hg _ m319)
  obtain ⟨c8, j8, h8⟩ := u_known (C := RX8) (T := TX8) (N := 10) (n := 10) hg iX8 (hg _ m462)
  obtain ⟨c9, j9, h9⟩ := u_known (C := RX9) (T := TX9) (N := 1) (n := 1) hg iX9 (hg _ m516)
  obtain ⟨c10, j10, h10⟩ := u_known (C := RX10) (T := TX10) (N := 11) (n := 11) hg iX10 (hg _ m128)
  obtain ⟨c11, j11, h11⟩ := u_known (C := RX11) (T := TX11) (N := 45) (n := 45) hg iX11 (hg _ m1308)
  obtain ⟨t0, k0, p0, a0, b0, d0⟩ := Cond.arrayClass_spec (hg _ m276)
  obtain ⟨t1, k1, p1, a1, b1, d1⟩ := Cond.arrayClass_spec (hg _ m151)
  obtain ⟨t2, k2, p2, a2, b2, d2⟩ := Cond.arrayClass_spec (hg _ m438)
  obtain ⟨t3, k3, p3, a3, b3, d3⟩ := Cond.arrayClass_spec (hg _ m437)
  have o4 := hts (.arrayOver (.object "WallVotes$Slot")) (List.mem_of_getElem? (i := 418) (by decide +kernel))
  obtain ⟨p4, t4, k4, e4, f4, b4, d4, a4⟩ := Cond.arrayOver_spec o4
  have o5 := hts (.arrayOver (.object "WallVotes$State")) (List.mem_of_getElem? (i := 416) (by decide +kernel))
  obtain ⟨p5, t5, k5, e5, f5, b5, d5, a5⟩ := Cond.arrayOver_spec o5
  refine ⟨(fun k => [c0, c1, c2, c3, c4, c5, c6, c7, c8, c9, c10, c11].getD k c0, fun k => [j0, j1, j2, j3, j4, j5, j6, j7, j8, j9, j10, j11].getD k j0), fun k => [t0, t1, t2, t3, t4, t5].getD k t0, ⟨?_, ?_⟩, ?_, va_AO.of o4, va_AO.of o5⟩
  · intro k q hq
    match k, hq with
    | 0, hq => cases hq; exact h0
    | 1, hq => cases hq; exact h1
    | 2, hq => cases hq; exact h2
    | 3, hq => cases hq; exact h3
    | 4, hq => cases hq; exact h4
    | 5, hq => cases hq; exact h5
    | 6, hq => cases hq; exact h6
    | 7, hq => cases hq; exact h7
    | 8, hq => cases hq; exact h8
    | 9, hq => cases hq; exact h9
    | 10, hq => cases hq; exact h10
    | 11, hq => cases hq; exact h11
    | k + 12, hq => simp [vwCl] at hq
  · intro k q hq
    match k, hq with
    | 0, hq => cases hq; exact ⟨fun n z => ⟨fun k h => (by cases h), k0, b0, p0, d0⟩, a0⟩
    | 1, hq => cases hq; exact ⟨fun n z => ⟨fun k h => (by cases h), k1, b1, p1, d1⟩, a1⟩
    | 2, hq => cases hq; exact ⟨fun n z => ⟨fun k h => (by cases h), k2, b2, p2, d2⟩, a2⟩
    | 3, hq => cases hq; exact ⟨fun n z => ⟨fun k h => (by cases h), k3, b3, p3, d3⟩, a3⟩
    | 4, hq => cases hq; exact ⟨fun n z => ⟨fun k h => (by cases h), k4, b4, p4, d4⟩, k4, p4, b4, d4, e4, a4⟩
    | 5, hq => cases hq; exact ⟨fun n z => ⟨fun k h => (by cases h), k5, b5, p5, d5⟩, k5, p5, b5, d5, e5, a5⟩
    | k + 6, hq => simp [cxT] at hq
  · intro q hq
    exact va_Nw.of rfl (hts _ (cxN_in q hq))

theorem sR_in : ∀ i : Nat, i < 28 → Cond.stringRef RX1 (sIx.getD i 0) (sTx.getD i "") ∈ lw_tbl := by
  intro i hi
  have h : ∀ i : Nat, i < 28 → lw_tbl[([604, 665, 673, 674, 679, 680, 685, 686, 687, 688, 697, 698, 699, 700, 705, 706, 707, 708, 709, 710, 711, 712, 713, 718, 719, 720, 721, 722] : List Nat).getD i 0]? = some (Cond.stringRef RX1 (sIx.getD i 0) (sTx.getD i "")) := by decide +kernel
  exact List.mem_of_getElem? (h i hi)
def sT (i : Nat) : Term := .string RX1 (sIx.getD i 0)
theorem sE_in : ∀ i : Nat, i < 28 → Cond.exactly (sT i) "java/lang/String" ∈ flatC (Jvm.Cond.and given_1 narrow_1) := by decide +kernel
theorem sC_in : ∀ i : Nat, i < 28 → Cond.eq (.field (sT i) "java/lang/String" "coder" "B") (.int 0) ∈ flatC (Jvm.Cond.and given_1 narrow_1) := by decide +kernel
theorem sA_in : ∀ i : Nat, i < 28 → Cond.arrayOf (.field (sT i) "java/lang/String" "value" "[B") .byte ∈ flatC (Jvm.Cond.and given_1 narrow_1) := by decide +kernel
theorem sL_in : ∀ i : Nat, i < 28 → Cond.eq (.length (.field (sT i) "java/lang/String" "value" "[B")) (.int (Int32.ofNat (sLen.getD i 0))) ∈ flatC (Jvm.Cond.and given_1 narrow_1) := by decide +kernel
theorem sB_in : ∀ i : Nat, i < 28 → ∀ j : Nat, j < sLen.getD i 0 → Cond.eq (.elem (.field (sT i) "java/lang/String" "value" "[B") (.int (Int32.ofNat j))) (.int ((sBy.getD i []).getD j 0)) ∈ flatC (Jvm.Cond.and given_1 narrow_1) := by decide +kernel
theorem sInj : ∀ i : Nat, i < 28 → ∀ j : Nat, j < 28 → sLen.getD i 0 = sLen.getD j 0 → (∀ k : Nat, k < sLen.getD i 0 → (sBy.getD i []).getD k 0 = (sBy.getD j []).getD k 0) → i = j := by decide +kernel
theorem sx_start {s : State} {b : Nat} (hgv : (Jvm.Cond.and given_1 narrow_1).before #[Value.ref b] s = true) (hts : ∀ w ∈ lw_tbl, w.before #[Value.ref b] s = true) : ∃ K : SKT, sx K (fun q : Nat => s.heap.size ≤ q) s s.heap := by
  have hs := flat_of_before _ hgv
  have hA : ∀ a : Nat, a < s.heap.size → ¬ (fun q : Nat => s.heap.size ≤ q) a := fun a h => Nat.not_le.mpr h
  have one : ∀ i : Nat, ∃ q : Nat × Nat, i < 28 → ((sT i).eval #[Value.ref b] s none [] s = some (.ref q.1) ∧ va_O "java/lang/String" q.1 (fun q : Nat => s.heap.size ≤ q) s s.heap ∧ va_OF "java/lang/String" "coder" "B" (.int 0) q.1 (fun q : Nat => s.heap.size ≤ q) s s.heap ∧ va_OF "java/lang/String" "value" "[B" (.ref q.2) q.1 (fun q : Nat => s.heap.size ≤ q) s s.heap ∧ va_T .byte q.2 (sLen.getD i 0) (fun j => .int ((sBy.getD i []).getD j 0)) (fun q : Nat => s.heap.size ≤ q) s s.heap) := by
    intro i
    by_cases hi : i < 28
    · obtain ⟨aK, aV, h1, h2⟩ := vk_Sof (args := #[Value.ref b]) (s := s) (N := 1) (tm := fun _ => sT i) (len := [sLen.getD i 0]) (byt := [sBy.getD i []]) (A := fun q : Nat => s.heap.size ≤ q)
        (fun k hk => by obtain rfl : k = 0 := by omega
                        have := sLen_le i
                        show sLen.getD i 0 < 2 ^ 31
                        omega)
        (fun k hk => hs _ (sE_in i hi)) (fun k hk => hs _ (sC_in i hi)) (fun k hk => hs _ (sA_in i hi))
        (fun k hk => by obtain rfl : k = 0 := by omega
                        exact hs _ (sL_in i hi))
        (fun k hk j hj => by obtain rfl : k = 0 := by omega
                             exact hs _ (sB_in i hi j hj))
        (fun k j hk hj hn => absurd (show k = j by omega) hn) hA
      exact ⟨(aK 0, aV 0), fun _ => ⟨h2 0 (by decide), (h1.1 0 (by decide)).1, (h1.1 0 (by decide)).2.1, (h1.1 0 (by decide)).2.2.1, (h1.1 0 (by decide)).2.2.2⟩⟩
    · exact ⟨(0, 0), fun h => absurd h hi⟩
  obtain ⟨ad, had⟩ := Classical.axiomOfChoice one
  refine ⟨(fun i => (ad i).1, fun i => (ad i).2), fun i hi => vk_R.of (hts _ (sR_in i hi)) (had i hi).1, ⟨fun i hi => (had i hi).2, fun i j hi hj e => ?_⟩, ?_, ?_⟩
  · have e : (ad i).1 = (ad j).1 := e
    obtain ⟨cf, k, n, f, cell, g1, g2, g3, g4, g5, g6⟩ := (had i hi).2.2.2.1
    obtain ⟨cf', k', n', f', cell', g1', g2', g3', g4', g5', g6'⟩ := (had j hj).2.2.2.1
    rw [e] at g3
    cases g3.symm.trans g3'
    cases g1.symm.trans g1'
    have ev : (ad i).2 = (ad j).2 := by
      have := g5.symm.trans g5'
      simpa using this
    obtain ⟨c1, t1, t2, t3, t4, t5, t6, t7⟩ := (had i hi).2.2.2.2
    obtain ⟨c2, r1, r2, r3, r4, r5, r6, r7⟩ := (had j hj).2.2.2.2
    rw [ev] at t1
    cases t1.symm.trans r1
    have el : sLen.getD i 0 = sLen.getD j 0 := by
      have h := t5.symm.trans r5
      have h1 := sLen_le i
      have h2 := sLen_le j
      have h3 := congrArg Int32.toInt h
      rw [show Int32.ofNat (sLen.getD i 0) = nI (sLen.getD i 0) from rfl, show Int32.ofNat (sLen.getD j 0) = nI (sLen.getD j 0) from rfl, nI_toInt (by omega), nI_toInt (by omega)] at h3
      omega
    refine sInj i hi j hj el (fun k hk => ?_)
    have h := (t6 k hk).symm.trans (r6 k (by omega))
    simpa using h
  · exact va_Zof (hts _ (List.mem_of_getElem? (i := 622) (by decide +kernel))) (hts _ (List.mem_of_getElem? (i := 119) (by decide +kernel))) (va_eqi (hs _ (by decide +kernel))) hA
  · exact va_Zqof (hts _ (List.mem_of_getElem? (i := 638) (by decide +kernel))) (hts _ (List.mem_of_getElem? (i := 121) (by decide +kernel))) (hs _ (by decide +kernel)) hA
