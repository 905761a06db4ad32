/-! longs as integers; one of four -/
theorem kl_lt {a b : Int64} {x y : Int} (ha : a.toInt = x) (hb : b.toInt = y) : lg_cmp a b < 0 ↔ x < y := by rw [lc_lt, l_lt, ha, hb]
theorem kl_gt {a b : Int64} {x y : Int} (ha : a.toInt = x) (hb : b.toInt = y) : 0 < lg_cmp a b ↔ y < x := by rw [lc_gt, l_lt, ha, hb]
theorem kl_le {a b : Int64} {x y : Int} (ha : a.toInt = x) (hb : b.toInt = y) : lg_cmp a b ≤ 0 ↔ x ≤ y := by rw [lc_le, l_le, ha, hb]
theorem kl_ge {a b : Int64} {x y : Int} (ha : a.toInt = x) (hb : b.toInt = y) : 0 ≤ lg_cmp a b ↔ y ≤ x := by rw [lc_ge, l_le, ha, hb]
theorem kl_eq {a b : Int64} {x y : Int} (ha : a.toInt = x) (hb : b.toInt = y) : lg_cmp a b = 0 ↔ x = y := by rw [lc_eq, l_eq, ha, hb]
theorem kl_2i {z : Int32} {a : Int64} {x : Int} (e : z = a.toInt32) (ha : a.toInt = x) (h1 : -2147483648 ≤ x) (h2 : x ≤ 2147483647) : z.toInt = x := by
  rw [e, Int64.toInt_toInt32, ha]
  exact t_bm h1 h2
/-- one of four, by a number -/
def s4 (i a b c d : Int32) : Int32 := if i.toInt = 0 then a else if i.toInt = 1 then b else if i.toInt = 2 then c else d
theorem s4_0 {i a b c d : Int32} (h : i.toInt = 0) : s4 i a b c d = a := by unfold s4; rw [if_pos h]
theorem s4_1 {i a b c d : Int32} (h : i.toInt = 1) : s4 i a b c d = b := by unfold s4; rw [if_neg (by omega), if_pos h]
theorem s4_2 {i a b c d : Int32} (h : i.toInt = 2) : s4 i a b c d = c := by unfold s4; rw [if_neg (by omega), if_neg (by omega), if_pos h]
theorem s4_3 {i a b c d : Int32} (h : i.toInt = 3) : s4 i a b c d = d := by unfold s4; rw [if_neg (by omega), if_neg (by omega), if_neg (by omega)]
/-! a large world behind a call: told anew cell by cell, in one walk -/
def wone (o : Option (Nat × va_E)) (l : va_W) : va_W :=
  match o with
  | some x => x :: l
  | none => l
/-- each cell as it was (0), or one of the callee's (its place there and 1) -/
def wmk (w1 : va_W) : va_W → List Nat → va_W
  | [], _ => []
  | _ :: _, [] => []
  | q :: ws, 0 :: bs => q :: wmk w1 ws bs
  | _ :: ws, (j + 1) :: bs => wone (w1[j]?) (wmk w1 ws bs)
theorem wmk_mem (w1 : va_W) : ∀ (ws : va_W) (bs : List Nat) (q : Nat × va_E), q ∈ wmk w1 ws bs → (∃ i : Nat, ws[i]? = some q ∧ bs[i]? = some 0) ∨ q ∈ w1 := by
  intro ws
  induction ws with
  | nil =>
    intro bs q h
    have h2 : q ∈ ([] : va_W) := by simpa only [wmk] using h
    exact absurd h2 (by simp)
  | cons x ws ih =>
    intro bs q h
    cases bs with
    | nil =>
      have h2 : q ∈ ([] : va_W) := by simpa only [wmk] using h
      exact absurd h2 (by simp)
    | cons b bs =>
      have key : q ∈ wmk w1 ws bs → (∃ i : Nat, (x :: ws)[i]? = some q ∧ (b :: bs)[i]? = some 0) ∨ q ∈ w1 := by
        intro h2
        rcases ih bs q h2 with ⟨i, h3, h4⟩ | h3
        · exact Or.inl ⟨i + 1, by rw [List.getElem?_cons_succ]; exact h3, by rw [List.getElem?_cons_succ]; exact h4⟩
        · exact Or.inr h3
      cases b with
      | zero =>
        have h2 : q ∈ x :: wmk w1 ws bs := h
        rcases List.mem_cons.mp h2 with h3 | h3
        · exact Or.inl ⟨0, by rw [List.getElem?_cons_zero, h3], by rw [List.getElem?_cons_zero]⟩
        · exact key h3
      | succ j =>
        have h2 : q ∈ wone (w1[j]?) (wmk w1 ws bs) := h
        cases hj : w1[j]? with
        | none =>
          rw [hj] at h2
          exact key h2
        | some y =>
          rw [hj] at h2
          have h4 : q ∈ y :: wmk w1 ws bs := h2
          rcases List.mem_cons.mp h4 with h3 | h3
          · exact Or.inr (by rw [h3]; exact List.mem_of_getElem? hj)
          · exact key h3
theorem wjoin {A0 : Nat → Prop} {D : va_G} {cl : List vw_C} {ws wc w1 : va_W} {H H1 : Heap} (hP : va_P D cl ws H) (hD : va_D A0 ws) (isC bm : List Nat) (hC : isC.map (fun i => ws[i]?) = wc.map some) (hb : isC.all (fun i => !(bm[i]? == some 0)) = true)
    (hk : ∀ q : Nat, q < H.size → ¬ va_A wc H.size q → H1[q]? = H[q]?) (hP1 : va_P D cl w1 H1) : va_P D cl (wmk w1 ws bm) H1 := by
  intro k q hq
  rcases wmk_mem w1 ws bm q (List.mem_of_getElem? hq) with ⟨i, h1, h2⟩ | h1
  · have hlt := (hP i q h1).lt
    refine (hP i q h1).kept (hk q.1 hlt (fun h => ?_))
    rcases h with ⟨k2, e, h⟩ | h
    · have h6 : some (q.1, e) ∈ isC.map (fun i => ws[i]?) := by
        rw [hC]
        exact List.mem_map.mpr ⟨(q.1, e), List.mem_of_getElem? h, rfl⟩
      obtain ⟨j, hj, h4⟩ := List.mem_map.mp h6
      have hij : i = j := hD.1 i j q (q.1, e) h1 h4 rfl
      have h5 : (!(bm[j]? == some 0)) = true := List.all_eq_true.mp hb j hj
      rw [← hij, h2] at h5
      exact absurd h5 (by decide)
    · omega
  · obtain ⟨i, hi⟩ := List.getElem?_of_mem h1
    exact hP1 i q hi
/-- cells at the same addresses -/
theorem wsame {A : Nat → Prop} {ws ws' : va_W} (as : List Nat) (hD : va_D A ws) (h1 : ws.map Prod.fst = as) (h2 : ws'.map Prod.fst = as) : va_D A ws' := by
  have key : ∀ (k : Nat) (q : Nat × va_E), ws'[k]? = some q → ∃ q0 : Nat × va_E, ws[k]? = some q0 ∧ q0.1 = q.1 := by
    intro k q hk
    have h3 : (ws'.map Prod.fst)[k]? = some q.1 := by rw [List.getElem?_map, hk]; rfl
    rw [h2, ← h1, List.getElem?_map] at h3
    cases h4 : ws[k]? with
    | none => rw [h4] at h3; cases h3
    | some q0 => rw [h4] at h3; exact ⟨q0, rfl, Option.some.inj h3⟩
  refine ⟨fun i j x y hi hj hxy => ?_, fun k q hk => ?_⟩
  · obtain ⟨x0, a1, a2⟩ := key i x hi
    obtain ⟨y0, a3, a4⟩ := key j y hj
    exact hD.1 i j x0 y0 a1 a3 (a2.trans (hxy.trans a4.symm))
  · obtain ⟨q0, a1, a2⟩ := key k q hk
    rw [← a2]
    exact hD.2 k q0 a1
section NT
variable {p : Program} {l : Launch} {e : Env} {R : Room} {s : State} {m : MethodId} {args : Array Value} {below : List Frame} {meth : Method} {c : Code} {H : Heap} {locs : List Loc} {cells slots mc ms : Nat} {Q : State → Prop} {rest : List Value} {pc : Nat} {ls : Array Slot} {st0 : List Value} {D : va_G} {ws : va_W} {A0 : Nat → Prop} {H0 : Heap} {a : Array Value}
theorem ntI {S : Type} {post : Int32 → S → Prop} {W1 : S → va_W} {wc : va_W} (hr : va_Run p l e R s m args below meth c H locs cells slots mc ms (F0 m pc ls st0) rest (va_Qi post (fun u t => pwE D (va_A wc H.size) (W1 u) t) (va_A wc H.size) a) (va_A wc H.size)) (hS : va_S A0 H0 H locs) (hA : ∀ q, H0.size ≤ q → A0 q) (hP : va_P D vwCl ws H) (hD : va_D A0 ws) (isC bm : List Nat) (hCm : isC.map (fun i => ws[i]?) = wc.map some) (hb : isC.all (fun i => !(bm[i]? == some 0)) = true)
    (kk : ∀ (r : Int32) (u : S) (H1 : Heap) (locs1 : List Loc), post r u → va_P D vwCl (wmk (W1 u) ws bm) H1 → va_S A0 H0 H1 locs1 → W p l e R s m args below meth c H1 locs1 (cells + mc) (slots + ms) Q (F0 m (pc + 3) ls (.int r :: rest))) : W p l e R s m args below meth c H locs cells slots Q (F0 m pc ls st0) := by
  have hF := va_free (wc := wc) hD hS hA isC hCm
  refine va_calli hr hS (fun q _ h => hF q h) hF (fun r u t H1 locs1 ht hvm hw hB hz1 hk1 hS1 => ?_)
  obtain ⟨hP1, hD1⟩ := hB
  rw [ht] at hP1
  exact kk r u H1 locs1 hw (wjoin hP hD isC bm hCm hb hk1 hP1) hS1
theorem ntL {S : Type} {post : Int64 → S → Prop} {W1 : S → va_W} {wc : va_W} (hr : va_Run p l e R s m args below meth c H locs cells slots mc ms (F0 m pc ls st0) rest (va_Ql post (fun u t => pwE D (va_A wc H.size) (W1 u) t) (va_A wc H.size) a) (va_A wc H.size)) (hS : va_S A0 H0 H locs) (hA : ∀ q, H0.size ≤ q → A0 q) (hP : va_P D vwCl ws H) (hD : va_D A0 ws) (isC bm : List Nat) (hCm : isC.map (fun i => ws[i]?) = wc.map some) (hb : isC.all (fun i => !(bm[i]? == some 0)) = true)
    (kk : ∀ (r : Int64) (u : S) (H1 : Heap) (locs1 : List Loc), post r u → va_P D vwCl (wmk (W1 u) ws bm) H1 → va_S A0 H0 H1 locs1 → W p l e R s m args below meth c H1 locs1 (cells + mc) (slots + ms) Q (F0 m (pc + 3) ls (.long r :: rest))) : W p l e R s m args below meth c H locs cells slots Q (F0 m pc ls st0) := by
  have hF := va_free (wc := wc) hD hS hA isC hCm
  refine va_calll hr hS (fun q _ h => hF q h) hF (fun r u t H1 locs1 ht hvm hw hB hz1 hk1 hS1 => ?_)
  obtain ⟨hP1, hD1⟩ := hB
  rw [ht] at hP1
  exact kk r u H1 locs1 hw (wjoin hP hD isC bm hCm hb hk1 hP1) hS1
end NT
