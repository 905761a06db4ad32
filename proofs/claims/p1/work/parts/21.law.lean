abbrev lawW (T : Nat → ClassId) (x0 m0 : Nat) (u v : Nat → Nat) : va_W := [(x0, .inr (10, [.ref (u 0), .ref (u 2), .ref (u 15), .ref (u 38), .ref (u 130), .ref (u 131), .ref (u 132), .ref (u 141), .ref (u 144), .ref (u 150), .ref (u 151)])), ((u 0), .inr (4, [.ref (u 1), .int 0])), ((u 1), .inl (T 1, 1600, .inl (fun _ => 0))), ((u 2), .inr (1, [.ref (u 3), .int 0, .int (-1), .ref (u 14), .int 0, .int 0, .int 0, .int 0, .int 0, .int 0])), ((u 3), .inr (5, [.int 0, .int 0, .int 0, .int 0, .int 0, .int 0, .int 0, .int 0, .int 0, .ref (u 4), .ref (u 5), .ref (u 6), .ref (u 7), .ref (u 8), .ref (u 9), .ref (u 10), .ref (u 11), .ref (u 12), .ref (u 13)])), ((u 4), .inl (T 0, 5, .inl (fun _ => 0))), ((u 5), .inl (T 0, 5, .inl (fun _ => 0))), ((u 6), .inl (T 0, 5, .inl (fun _ => 0))), ((u 7), .inl (T 0, 10, .inl (fun _ => 0))), ((u 8), .inl (T 0, 10, .inl (fun _ => 0))), ((u 9), .inl (T 0, 10, .inl (fun _ => 0))), ((u 10), .inl (T 0, 10, .inl (fun _ => 0))), ((u 11), .inl (T 0, 10, .inl (fun _ => 0))), ((u 12), .inl (T 0, 10, .inl (fun _ => 0))), ((u 13), .inl (T 0, 10, .inl (fun _ => 0))), ((u 14), .inl (T 1, 0, .inl (fun _ => 0))), ((u 15), .inr (3, [.ref (u 16), .ref (u 27), .int 0, .int 0, .int 2, .long 0, .int 0, .ref (u 36), .ref (u 37)])), ((u 16), .inr (5, [.int 0, .int 0, .int 0, .int 0, .int 0, .int 0, .int 0, .int 0, .int 0, .ref (u 17), .ref (u 18), .ref (u 19), .ref (u 20), .ref (u 21), .ref (u 22), .ref (u 23), .ref (u 24), .ref (u 25), .ref (u 26)])), ((u 17), .inl (T 0, 5, .inl (fun _ => 0))), ((u 18), .inl (T 0, 5, .inl (fun _ => 0))), ((u 19), .inl (T 0, 5, .inl (fun _ => 0))), ((u 20), .inl (T 0, 10, .inl (fun _ => 0))), ((u 21), .inl (T 0, 10, .inl (fun _ => 0))), ((u 22), .inl (T 0, 10, .inl (fun _ => 0))), ((u 23), .inl (T 0, 10, .inl (fun _ => 0))), ((u 24), .inl (T 0, 10, .inl (fun _ => 0))), ((u 25), .inl (T 0, 10, .inl (fun _ => 0))), ((u 26), .inl (T 0, 10, .inl (fun _ => 0))), ((u 27), .inr (7, [.ref (u 16), .ref (u 28), .ref (u 29), .ref (u 30), .ref (u 31), .ref (u 32), .ref (u 33), .ref (u 34), .ref (u 35)])), ((u 28), .inl (T 0, 16, .inl (fun _ => 0))), ((u 29), .inl (T 0, 5, .inl (fun _ => 0))), ((u 30), .inl (T 0, 192, .inl (fun _ => 0))), ((u 31), .inl (T 0, 192, .inl (fun _ => 0))), ((u 32), .inl (T 0, 192, .inl (fun _ => 0))), ((u 33), .inl (T 0, 2, .inl (fun _ => 0))), ((u 34), .inl (T 0, 2, .inl (fun _ => 0))), ((u 35), .inl (T 0, 208, .inl (fun _ => 0))), ((u 36), .inl (T 0, 100, .inl (fun _ => 0))), ((u 37), .inl (T 0, 200, .inl (fun _ => 0))), ((u 38), .inr (3, [.ref (u 39), .ref (u 50), .int 0, .int 0, .int 2, .long 0, .int 0, .ref (u 59), .ref (u 60)])), ((u 39), .inr (5, [.int 0, .int 0, .int 0, .int 0, .int 0, .int 0, .int 0, .int 0, .int 0, .ref (u 40), .ref (u 41), .ref (u 42), .ref (u 43), .ref (u 44), .ref (u 45), .ref (u 46), .ref (u 47), .ref (u 48), .ref (u 49)])), ((u 40), .inl (T 0, 5, .inl (fun _ => 0))), ((u 41), .inl (T 0, 5, .inl (fun _ => 0))), ((u 42), .inl (T 0, 5, .inl (fun _ => 0))), ((u 43), .inl (T 0, 10, .inl (fun _ => 0))), ((u 44), .inl (T 0, 10, .inl (fun _ => 0))), ((u 45), .inl (T 0, 10, .inl (fun _ => 0))), ((u 46), .inl (T 0, 10, .inl (fun _ => 0))), ((u 47), .inl (T 0, 10, .inl (fun _ => 0))), ((u 48), .inl (T 0, 10, .inl (fun _ => 0))), ((u 49), .inl (T 0, 10, .inl (fun _ => 0))), ((u 50), .inr (7, [.ref (u 39), .ref (u 51), .ref (u 52), .ref (u 53), .ref (u 54), .ref (u 55), .ref (u 56), .ref (u 57), .ref (u 58)])), ((u 51), .inl (T 0, 16, .inl (fun _ => 0))), ((u 52), .inl (T 0, 5, .inl (fun _ => 0))), ((u 53), .inl (T 0, 192, .inl (fun _ => 0))), ((u 54), .inl (T 0, 192, .inl (fun _ => 0))), ((u 55), .inl (T 0, 192, .inl (fun _ => 0))), ((u 56), .inl (T 0, 2, .inl (fun _ => 0))), ((u 57), .inl (T 0, 2, .inl (fun _ => 0))), ((u 58), .inl (T 0, 208, .inl (fun _ => 0))), ((u 59), .inl (T 0, 100, .inl (fun _ => 0))), ((u 60), .inl (T 0, 200, .inl (fun _ => 0))), ((u 61), .inr (3, [.ref (u 62), .ref (u 73), .int 0, .int 0, .int 2, .long 0, .int 0, .ref (u 82), .ref (u 83)])), ((u 62), .inr (5, [.int 0, .int 0, .int 0, .int 0, .int 0, .int 0, .int 0, .int 0, .int 0, .ref (u 63), .ref (u 64), .ref (u 65), .ref (u 66), .ref (u 67), .ref (u 68), .ref (u 69), .ref (u 70), .ref (u 71), .ref (u 72)])), ((u 63), .inl (T 0, 5, .inl (fun _ => 0))), ((u 64), .inl (T 0, 5, .inl (fun _ => 0))), ((u 65), .inl (T 0, 5, .inl (fun _ => 0))), ((u 66), .inl (T 0, 10, .inl (fun _ => 0))), ((u 67), .inl (T 0, 10, .inl (fun _ => 0))), ((u 68), .inl (T 0, 10, .inl (fun _ => 0))), ((u 69), .inl (T 0, 10, .inl (fun _ => 0))), ((u 70), .inl (T 0, 10, .inl (fun _ => 0))), ((u 71), .inl (T 0, 10, .inl (fun _ => 0))), ((u 72), .inl (T 0, 10, .inl (fun _ => 0))), ((u 73), .inr (7, [.ref (u 62), .ref (u 74), .ref (u 75), .ref (u 76), .ref (u 77), .ref (u 78), .ref (u 79), .ref (u 80), .ref (u 81)])), ((u 74), .inl (T 0, 16, .inl (fun _ => 0))), ((u 75), .inl (T 0, 5, .inl (fun _ => 0))), ((u 76), .inl (T 0, 192, .inl (fun _ => 0))), ((u 77), .inl (T 0, 192, .inl (fun _ => 0))), ((u 78), .inl (T 0, 192, .inl (fun _ => 0))), ((u 79), .inl (T 0, 2, .inl (fun _ => 0))), ((u 80), .inl (T 0, 2, .inl (fun _ => 0))), ((u 81), .inl (T 0, 208, .inl (fun _ => 0))), ((u 82), .inl (T 0, 100, .inl (fun _ => 0))), ((u 83), .inl (T 0, 200, .inl (fun _ => 0))), ((u 84), .inr (3, [.ref (u 85), .ref (u 96), .int 0, .int 0, .int 2, .long 0, .int 0, .ref (u 105), .ref (u 106)])), ((u 85), .inr (5, [.int 0, .int 0, .int 0, .int 0, .int 0, .int 0, .int 0, .int 0, .int 0, .ref (u 86), .ref (u 87), .ref (u 88), .ref (u 89), .ref (u 90), .ref (u 91), .ref (u 92), .ref (u 93), .ref (u 94), .ref (u 95)])), ((u 86), .inl (T 0, 5, .inl (fun _ => 0))), ((u 87), .inl (T 0, 5, .inl (fun _ => 0))), ((u 88), .inl (T 0, 5, .inl (fun _ => 0))), ((u 89), .inl (T 0, 10, .inl (fun _ => 0))), ((u 90), .inl (T 0, 10, .inl (fun _ => 0))), ((u 91), .inl (T 0, 10, .inl (fun _ => 0))), ((u 92), .inl (T 0, 10, .inl (fun _ => 0))), ((u 93), .inl (T 0, 10, .inl (fun _ => 0))), ((u 94), .inl (T 0, 10, .inl (fun _ => 0))), ((u 95), .inl (T 0, 10, .inl (fun _ => 0))), ((u 96), .inr (7, [.ref (u 85), .ref (u 97), .ref (u 98), .ref (u 99), .ref (u 100), .ref (u 101), .ref (u 102), .ref (u 103), .ref (u 104)])), ((u 97), .inl (T 0, 16, .inl (fun _ => 0))), ((u 98), .inl (T 0, 5, .inl (fun _ => 0))), ((u 99), .inl (T 0, 192, .inl (fun _ => 0))), ((u 100), .inl (T 0, 192, .inl (fun _ => 0))), ((u 101), .inl (T 0, 192, .inl (fun _ => 0))), ((u 102), .inl (T 0, 2, .inl (fun _ => 0))), ((u 103), .inl (T 0, 2, .inl (fun _ => 0))), ((u 104), .inl (T 0, 208, .inl (fun _ => 0))), ((u 105), .inl (T 0, 100, .inl (fun _ => 0))), ((u 106), .inl (T 0, 200, .inl (fun _ => 0))), ((u 107), .inr (3, [.ref (u 108), .ref (u 119), .int 0, .int 0, .int 2, .long 0, .int 0, .ref (u 128), .ref (u 129)])), ((u 108), .inr (5, [.int 0, .int 0, .int 0, .int 0, .int 0, .int 0, .int 0, .int 0, .int 0, .ref (u 109), .ref (u 110), .ref (u 111), .ref (u 112), .ref (u 113), .ref (u 114), .ref (u 115), .ref (u 116), .ref (u 117), .ref (u 118)])), ((u 109), .inl (T 0, 5, .inl (fun _ => 0))), ((u 110), .inl (T 0, 5, .inl (fun _ => 0))), ((u 111), .inl (T 0, 5, .inl (fun _ => 0))), ((u 112), .inl (T 0, 10, .inl (fun _ => 0))), ((u 113), .inl (T 0, 10, .inl (fun _ => 0))), ((u 114), .inl (T 0, 10, .inl (fun _ => 0))), ((u 115), .inl (T 0, 10, .inl (fun _ => 0))), ((u 116), .inl (T 0, 10, .inl (fun _ => 0))), ((u 117), .inl (T 0, 10, .inl (fun _ => 0))), ((u 118), .inl (T 0, 10, .inl (fun _ => 0))), ((u 119), .inr (7, [.ref (u 108), .ref (u 120), .ref (u 121), .ref (u 122), .ref (u 123), .ref (u 124), .ref (u 125), .ref (u 126), .ref (u 127)])), ((u 120), .inl (T 0, 16, .inl (fun _ => 0))), ((u 121), .inl (T 0, 5, .inl (fun _ => 0))), ((u 122), .inl (T 0, 192, .inl (fun _ => 0))), ((u 123), .inl (T 0, 192, .inl (fun _ => 0))), ((u 124), .inl (T 0, 192, .inl (fun _ => 0))), ((u 125), .inl (T 0, 2, .inl (fun _ => 0))), ((u 126), .inl (T 0, 2, .inl (fun _ => 0))), ((u 127), .inl (T 0, 208, .inl (fun _ => 0))), ((u 128), .inl (T 0, 100, .inl (fun _ => 0))), ((u 129), .inl (T 0, 200, .inl (fun _ => 0))), ((u 130), .inl (T 5, 3, .inr (.inr (.inr (.inr (va_up (va_up (va_up (fun _ => none) 0 (some (u 61))) 1 (some (u 84))) 2 (some (u 107)))))))), ((u 131), .inl (T 3, 3, .inl (fun _ => 0))), ((u 132), .inl (T 4, 4, .inr (.inr (.inr (.inr (va_up (va_up (va_up (va_up (fun _ => none) 0 (some (u 133))) 1 (some (u 135))) 2 (some (u 137))) 3 (some (u 139)))))))), ((u 133), .inr (2, [.ref (u 134), .int 0, .int (-1)])), ((u 134), .inl (T 2, 60, .inr (.inl (fun _ => 0)))), ((u 135), .inr (2, [.ref (u 136), .int 0, .int (-1)])), ((u 136), .inl (T 2, 60, .inr (.inl (fun _ => 0)))), ((u 137), .inr (2, [.ref (u 138), .int 0, .int (-1)])), ((u 138), .inl (T 2, 60, .inr (.inl (fun _ => 0)))), ((u 139), .inr (2, [.ref (u 140), .int 0, .int (-1)])), ((u 140), .inl (T 2, 60, .inr (.inl (fun _ => 0)))), ((u 141), .inr (6, [.ref (u 142), .ref (u 143), .int 0, .int 0, .int 0])), ((u 142), .inl (T 0, 1024, .inl (fun _ => 0))), ((u 143), .inl (T 0, 1024, .inl (fun _ => 0))), ((u 144), .inr (8, [.ref (u 145), .ref (u 146), .ref (u 147), .ref (u 148), .ref (u 149), .int 0, .int (-1), .int 0, .int 0, .int 0])), ((u 145), .inl (T 2, 3, .inr (.inl (fun _ => 0)))), ((u 146), .inl (T 2, 17, .inr (.inl (fun _ => 0)))), ((u 147), .inl (T 2, 2, .inr (.inl (fun _ => 0)))), ((u 148), .inl (T 0, 16, .inl (fun _ => 0))), ((u 149), .inl (T 0, 16, .inl (fun _ => 0))), ((u 150), .inr (0, [.int 0, .int 0])), ((u 151), .inr (9, [.ref (u 152)])), ((u 152), .inl (T 0, 97, .inl (fun _ => 0))), (m0, .inr (11, [.int 0, .ref (v 1), .ref (v 2), .ref (v 3), .ref (v 4), .ref (v 5), .int 0, .int 0, .int 0, .int 0, .int 0, .long 0, .int 0, .int 0, .int 0, .int (-1), .ref (v 16), .ref (v 17), .ref (v 18), .ref (v 19), .ref (v 20), .ref (v 21), .ref (v 22), .ref (v 23), .ref (v 24), .ref (v 25), .ref (v 26), .ref (v 27), .ref (v 28), .ref (v 29), .ref (v 30), .ref (v 31), .ref (v 32), .int 0, .int 0, .int 0, .ref (v 36), .int 0, .int 0, .int 0, .ref (v 40), .ref (v 41), .ref (v 42), .int 0, .long 0])), ((v 1), .inl (T 0, 4, .inl (upd (upd (upd (upd (fun _ => 0) 0 (-1)) 1 (-1)) 2 (-1)) 3 (-1)))), ((v 2), .inl (T 0, 4, .inl (fun _ => 0))), ((v 3), .inl (T 2, 240, .inr (.inl (fun _ => 0)))), ((v 4), .inl (T 2, 60, .inr (.inl (fun _ => 0)))), ((v 5), .inl (T 1, 1600, .inl (fun _ => 0))), ((v 16), .inl (T 0, 5, .inl (fun _ => 0))), ((v 17), .inl (T 0, 15, .inl (fun _ => 0))), ((v 18), .inl (T 0, 5, .inl (fun _ => 0))), ((v 19), .inl (T 0, 75, .inl (fun _ => 0))), ((v 20), .inl (T 0, 5, .inl (fun _ => 0))), ((v 21), .inl (T 0, 400, .inl (fun _ => 0))), ((v 22), .inl (T 0, 15, .inl (fun _ => 0))), ((v 23), .inl (T 3, 15, .inl (fun _ => 0))), ((v 24), .inl (T 0, 80, .inl (fun _ => 0))), ((v 25), .inl (T 0, 960, .inl (fun _ => 0))), ((v 26), .inl (T 0, 960, .inl (fun _ => 0))), ((v 27), .inl (T 0, 960, .inl (fun _ => 0))), ((v 28), .inl (T 0, 25, .inl (fun _ => 0))), ((v 29), .inl (T 0, 15, .inl (upd (upd (upd (fun _ => 0) 0 0) 1 2) 2 0))), ((v 30), .inl (T 0, 500, .inl (fun _ => 0))), ((v 31), .inl (T 0, 1000, .inl (fun _ => 0))), ((v 32), .inl (T 3, 3, .inl (fun _ => 0))), ((v 36), .inl (T 0, 3, .inl (fun _ => 0))), ((v 40), .inl (T 0, 97, .inl (fun _ => 0))), ((v 41), .inl (T 2, 65536, .inr (.inl (fun _ => 0)))), ((v 42), .inl (T 0, 16, .inl (fun _ => 0)))]

/-! THE CLAIM OUT OF ONE WALK OF THE LAW'S BODY. Your part is whole_start (and what it stands on); all else here is the same for every law, but numbers. -/
def R_law : String := "WallVotesLaw"
def lw_P (b : Addr) (xs : List Int32) (args : Array Value) (s : State) : Prop := args = #[.ref b] ∧ s.IntsAt b xs ∧ xs.length ≤ 6 ∧ (Jvm.Cond.and given_1 narrow_1).before args s = true
def lw_Q (_ : Array Value) (s : State) (o : Outcome) (t : State) : Prop := o = .returned (some (.int 1)) ∧ Framed s o t [] 600000 7302250
def lw_Z (below : List Frame) (a : Array Value) (s : State) : State → Prop := fun t => ∃ o, t.status = .running ∧ Ended t below o ∧ lw_Q a s o t
/-- the law's own end, with 1 on the stack, nothing written that was there before, its room as the claim has it -/
theorem lw_ret {p : Program} {l : Launch} {e : Env} {s : State} {m : MethodId} {below : List Frame} {meth : Method} {c : Code} {b : Nat} (hx : p.tables.exec = Jvm.exec) (hb : c.code = code) (hr : meth.sig.returnType = ret) (hlocks : meth.locks = false) {pc : Nat} {H : Heap} {ls : Array Slot} (hdg : decode code pc = .ok (.ireturn, 1)) : W p l e room_1 s m #[Value.ref b] below meth c H [] 600000 7302250 (lw_Z below #[Value.ref b] s) (F0 m pc ls [.int 1]) := by
  intro T hT X
  obtain ⟨fs, hret, hrun, hended, hW, hframe⟩ := X.leave (v := some (.int 1)) (hlocks := hlocks) (fun h => by rw [hr] at h; cases h)
  have hmeth' : T.vm.method? m = some meth := X.method'
  refine ⟨T.setFrames fs, ?_, .returned (some (.int 1)), hrun, hended, rfl, ⟨_, rfl⟩, hW, hframe⟩
  jvm_step X.here [X.here.top, hx, hb, hdg, hmeth', hr, ret, narrow_b1]
  (try refine ⟨rfl, ?_⟩); (try refine ⟨rfl, ?_⟩)
  first | (intro acts; rw [hret _ acts rfl rfl rfl]) | rw [hret _ _ rfl rfl rfl]
  exact Steps.refl _
/-- what holds at the law's entry: the machine, the code, the tables' words (any of lw_tbl by 'hts w (by decide +kernel)'), the script of L ints xs at the cell b, what the Statement gives of the start (any of its parts by flat_of_before) -/
def lw_At (p : Program) (s : State) (m : MethodId) (meth : Method) (c : Code) (b L : Nat) (xs : Nat → Int32) : Prop :=
  p.tables.exec = Jvm.exec ∧ c.code = code ∧ meth.sig.returnType = ret ∧ c.maxLocals = 4 ∧ s.vm.findClass R_law = some m.cls ∧ (∀ w ∈ lw_tbl, w.before #[Value.ref b] s = true) ∧ va_X b L xs s s.heap ∧ b < s.heap.size ∧ meth.locks = false ∧ (Jvm.Cond.and given_1 narrow_1).before #[Value.ref b] s = true

set_option maxHeartbeats 4000000 in
set_option maxRecDepth 100000 in
theorem lawcase_0 {p : Program} {e : Env} {s : State} {m : MethodId} {below : List Frame} {meth : Method} {c : Code} (l : Launch) {b : Nat} {xs : Nat → Int32} (C0 : lw_At p s m meth c b 6 xs) {D : va_G} {T : Nat → ClassId} (hC : cx D T s) {H : Heap} {locs : List Loc} (x0 m0 : Nat) (u v : Nat → Nat) (hP : va_P D vwCl (lawW T x0 m0 u v) H) (hD : va_D (fun q : Nat => s.heap.size ≤ q) (lawW T x0 m0 u v)) (hS : va_S (fun q : Nat => s.heap.size ≤ q) s.heap H locs) {ls : Array Slot} (hl : lv_has ls 4 [(3, .int 0), (2, .ref m0), (1, .ref x0), (0, .ref b)]) : W p l e room_1 s m #[Value.ref b] below meth c H locs 181 83004 (lw_Z below #[Value.ref b] s) (F0 m 260 ls []) := by
  obtain ⟨hx, hb, hr, hml, hown, hts0, hX, hbl, hlocks, hgv⟩ := id C0
  have hts : ∀ w ∈ gt, w.before #[Value.ref b] s = true := fun w hw => hts0 w (List.mem_filter.mp hw).1
  have hown : s.vm.findClass RL = some m.cls := hown
  have hb : c.code = cL_law := hb
  have hA : ∀ q : Nat, s.heap.size ≤ q → (fun q : Nat => s.heap.size ≤ q) q := fun _ h => h
  have hbA : ¬ (fun q : Nat => s.heap.size ≤ q) b := Nat.not_le.mpr hbl
  have hK := hC.1
  refine lv_aload_n hx hb dL_law_260 rfl (lv_at hl 2 rfl) ?_
  refine lv_aload_n hx hb dL_law_261 rfl (lv_at hl 3 rfl) ?_
  refine lv_iload_n hx hb dL_law_262 rfl (lv_at hl 0 rfl) ?_
  refine lv_iconst (v := 1) hx hb dL_law_263 (by decide) ?_
  refine lv_iadd hx hb dL_law_264 ?_
  refine eqi (v := 1) (by decide) ?_
  refine va_sld hx hb hX hbl hbA hS (by unfold vp_in; decide) dL_law_265 ?_
  refine eqi (v := xs 1) rfl ?_
  refine lv_aload_n hx hb dL_law_266 rfl (lv_at hl 3 rfl) ?_
  refine lv_iload_n hx hb dL_law_267 rfl (lv_at hl 0 rfl) ?_
  refine lv_iconst (v := 2) hx hb dL_law_268 (by decide) ?_
  refine lv_iadd hx hb dL_law_269 ?_
  refine eqi (v := 2) (by decide) ?_
  refine va_sld hx hb hX hbl hbA hS (by unfold vp_in; decide) dL_law_270 ?_
  refine eqi (v := xs 2) rfl ?_
  refine lv_aload_n hx hb dL_law_271 rfl (lv_at hl 3 rfl) ?_
  refine lv_iload_n hx hb dL_law_272 rfl (lv_at hl 0 rfl) ?_
  refine lv_iconst (v := 3) hx hb dL_law_273 (by decide) ?_
  refine lv_iadd hx hb dL_law_274 ?_
  refine eqi (v := 3) (by decide) ?_
  refine va_sld hx hb hX hbl hbA hS (by unfold vp_in; decide) dL_law_275 ?_
  refine eqi (v := xs 3) rfl ?_
  refine lv_aload_n hx hb dL_law_276 rfl (lv_at hl 3 rfl) ?_
  refine lv_iload_n hx hb dL_law_277 rfl (lv_at hl 0 rfl) ?_
  refine lv_iconst (v := 4) hx hb dL_law_278 (by decide) ?_
  refine lv_iadd hx hb dL_law_279 ?_
  refine eqi (v := 4) (by decide) ?_
  refine va_sld hx hb hX hbl hbA hS (by unfold vp_in; decide) dL_law_280 ?_
  refine eqi (v := xs 4) rfl ?_
  refine lv_aload_n hx hb dL_law_281 rfl (lv_at hl 3 rfl) ?_
  refine lv_iload_n hx hb dL_law_282 rfl (lv_at hl 0 rfl) ?_
  refine lv_iconst (v := 5) hx hb dL_law_283 (by decide) ?_
  refine lv_iadd hx hb dL_law_284 ?_
  refine eqi (v := 5) (by decide) ?_
  refine va_sld hx hb hX hbl hbA hS (by unfold vp_in; decide) dL_law_285 ?_
  refine eqi (v := xs 5) rfl ?_
  refine mtId (wr := [(m0, .inr (11, [.int 0, .ref (v 1), .ref (v 2), .ref (v 3), .ref (v 4), .ref (v 5), .int 0, .int 0, .int 0, .int 0, .int 0, .long 0, .int 0, .int 0, .int 0, .int (-1), .ref (v 16), .ref (v 17), .ref (v 18), .ref (v 19), .ref (v 20), .ref (v 21), .ref (v 22), .ref (v 23), .ref (v 24), .ref (v 25), .ref (v 26), .ref (v 27), .ref (v 28), .ref (v 29), .ref (v 30), .ref (v 31), .ref (v 32), .int 0, .int 0, .int 0, .ref (v 36), .int 0, .int 0, .int 0, .ref (v 40), .ref (v 41), .ref (v 42), .int 0, .long 0])), ((v 1), .inl (T 0, 4, .inl (upd (upd (upd (upd (fun _ => 0) 0 (-1)) 1 (-1)) 2 (-1)) 3 (-1)))), ((v 2), .inl (T 0, 4, .inl (fun _ => 0))), ((v 3), .inl (T 2, 240, .inr (.inl (fun _ => 0)))), ((v 4), .inl (T 2, 60, .inr (.inl (fun _ => 0)))), ((v 5), .inl (T 1, 1600, .inl (fun _ => 0))), ((v 16), .inl (T 0, 5, .inl (fun _ => 0))), ((v 17), .inl (T 0, 15, .inl (fun _ => 0))), ((v 18), .inl (T 0, 5, .inl (fun _ => 0))), ((v 19), .inl (T 0, 75, .inl (fun _ => 0))), ((v 20), .inl (T 0, 5, .inl (fun _ => 0))), ((v 21), .inl (T 0, 400, .inl (fun _ => 0))), ((v 22), .inl (T 0, 15, .inl (fun _ => 0))), ((v 23), .inl (T 3, 15, .inl (fun _ => 0))), ((v 24), .inl (T 0, 80, .inl (fun _ => 0))), ((v 25), .inl (T 0, 960, .inl (fun _ => 0))), ((v 26), .inl (T 0, 960, .inl (fun _ => 0))), ((v 27), .inl (T 0, 960, .inl (fun _ => 0))), ((v 28), .inl (T 0, 25, .inl (fun _ => 0))), ((v 29), .inl (T 0, 15, .inl (upd (upd (upd (fun _ => 0) 0 0) 1 2) 2 0))), ((v 30), .inl (T 0, 500, .inl (fun _ => 0))), ((v 31), .inl (T 0, 1000, .inl (fun _ => 0))), ((v 32), .inl (T 3, 3, .inl (fun _ => 0))), ((v 36), .inl (T 0, 3, .inl (fun _ => 0))), ((v 40), .inl (T 0, 97, .inl (fun _ => 0))), ((v 41), .inl (T 2, 65536, .inr (.inl (fun _ => 0)))), ((v 42), .inl (T 0, 16, .inl (fun _ => 0)))]) (cV (As := [.int (xs 1), .int (xs 2), .int (xs 3), .int (xs 4), .int (xs 5)]) (rest := []) ⟨hx, hb, hml, hown, hts⟩ (c_X10_feed l D T x0 (u 0) (u 1) (u 2) (u 15) (u 38) (u 130) (u 131) (u 132) (u 141) (u 144) (u 150) (u 151) (xs 1) (xs 2) (xs 3) (xs 4) (xs 5) _) k_X10_feed v_X10_feed m559 rfl rfl ⟨(Nat.le_of_ble_eq_true rfl), (Nat.le_of_ble_eq_true rfl)⟩ (preM hC (hP.sub (ws' := [(x0, .inr (10, [.ref (u 0), .ref (u 2), .ref (u 15), .ref (u 38), .ref (u 130), .ref (u 131), .ref (u 132), .ref (u 141), .ref (u 144), .ref (u 150), .ref (u 151)])), ((u 0), .inr (4, [.ref (u 1), .int 0])), ((u 1), .inl (T 1, 1600, .inl (fun _ => 0)))]) [0, 1, 2] rfl) (hD.sub (ws' := [(x0, .inr (10, [.ref (u 0), .ref (u 2), .ref (u 15), .ref (u 38), .ref (u 130), .ref (u 131), .ref (u 132), .ref (u 141), .ref (u 144), .ref (u 150), .ref (u 151)])), ((u 0), .inr (4, [.ref (u 1), .int 0])), ((u 1), .inl (T 1, 1600, .inl (fun _ => 0)))]) [0, 1, 2] (by decide) rfl)) (va_recv hK hP (ci := 10) (q0 := 0) rfl rfl) rfl hl.1 rfl (Nat.le_of_ble_eq_true rfl) dL_law_286 ⟨(Nat.le_of_ble_eq_true rfl), (Nat.le_of_ble_eq_true rfl)⟩) hS hA hP hD [0, 1, 2] [154, 155, 156, 157, 158, 159, 160, 161, 162, 163, 164, 165, 166, 167, 168, 169, 170, 171, 172, 173, 174, 175, 176, 177, 178, 179, 180] rfl rfl (by decide) (by decide) (fun r_1 u_2 H locs hw hP hD hS => ?_)
  have c_3 : r_1 = 20 := hw
  refine lv_aload_n hx hb dL_law_289 rfl (lv_at hl 1 rfl) ?_
  refine lv_aload_n hx hb dL_law_290 rfl (lv_at hl 3 rfl) ?_
  refine lv_iload_n hx hb dL_law_291 rfl (lv_at hl 0 rfl) ?_
  refine lv_iconst (v := 1) hx hb dL_law_292 (by decide) ?_
  refine lv_iadd hx hb dL_law_293 ?_
  refine eqi (v := 1) (by decide) ?_
  refine va_sld hx hb hX hbl hbA hS (by unfold vp_in; decide) dL_law_294 ?_
  refine eqi (v := xs 1) rfl ?_
  refine lv_aload_n hx hb dL_law_295 rfl (lv_at hl 3 rfl) ?_
  refine lv_iload_n hx hb dL_law_296 rfl (lv_at hl 0 rfl) ?_
  refine lv_iconst (v := 2) hx hb dL_law_297 (by decide) ?_
  refine lv_iadd hx hb dL_law_298 ?_
  refine eqi (v := 2) (by decide) ?_
  refine va_sld hx hb hX hbl hbA hS (by unfold vp_in; decide) dL_law_299 ?_
  refine eqi (v := xs 2) rfl ?_
  refine lv_aload_n hx hb dL_law_300 rfl (lv_at hl 3 rfl) ?_
  refine lv_iload_n hx hb dL_law_301 rfl (lv_at hl 0 rfl) ?_
  refine lv_iconst (v := 3) hx hb dL_law_302 (by decide) ?_
  refine lv_iadd hx hb dL_law_303 ?_
  refine eqi (v := 3) (by decide) ?_
  refine va_sld hx hb hX hbl hbA hS (by unfold vp_in; decide) dL_law_304 ?_
  refine eqi (v := xs 3) rfl ?_
  refine lv_aload_n hx hb dL_law_305 rfl (lv_at hl 3 rfl) ?_
  refine lv_iload_n hx hb dL_law_306 rfl (lv_at hl 0 rfl) ?_
  refine lv_iconst (v := 4) hx hb dL_law_307 (by decide) ?_
  refine lv_iadd hx hb dL_law_308 ?_
  refine eqi (v := 4) (by decide) ?_
  refine va_sld hx hb hX hbl hbA hS (by unfold vp_in; decide) dL_law_309 ?_
  refine eqi (v := xs 4) rfl ?_
  refine lv_aload_n hx hb dL_law_310 rfl (lv_at hl 3 rfl) ?_
  refine lv_iload_n hx hb dL_law_311 rfl (lv_at hl 0 rfl) ?_
  refine lv_iconst (v := 5) hx hb dL_law_312 (by decide) ?_
  refine lv_iadd hx hb dL_law_313 ?_
  refine eqi (v := 5) (by decide) ?_
  refine va_sld hx hb hX hbl hbA hS (by unfold vp_in; decide) dL_law_314 ?_
  refine eqi (v := xs 5) rfl ?_
  refine mtId (wr := []) (cV (As := [.int (xs 1), .int (xs 2), .int (xs 3), .int (xs 4), .int (xs 5)]) (rest := [.int r_1]) ⟨hx, hb, hml, hown, hts⟩ (c_m_feed l D T (v 1) (v 16) (v 17) (v 18) (v 19) (v 2) (v 20) (v 21) (v 22) (v 23) (v 24) (v 25) (v 26) (v 27) (v 28) (v 29) (v 3) (v 30) (v 31) (v 32) (v 36) (v 4) (v 40) (v 41) (v 42) (v 5) m0 (xs 1) (xs 2) (xs 3) (xs 4) (xs 5) _) k_X11_feed v_X11_feed m1475 rfl rfl ⟨(Nat.le_of_ble_eq_true rfl), (Nat.le_of_ble_eq_true rfl)⟩ (preM hC (hP.sub (ws' := [(m0, .inr (11, [.int 0, .ref (v 1), .ref (v 2), .ref (v 3), .ref (v 4), .ref (v 5), .int 0, .int 0, .int 0, .int 0, .int 0, .long 0, .int 0, .int 0, .int 0, .int (-1), .ref (v 16), .ref (v 17), .ref (v 18), .ref (v 19), .ref (v 20), .ref (v 21), .ref (v 22), .ref (v 23), .ref (v 24), .ref (v 25), .ref (v 26), .ref (v 27), .ref (v 28), .ref (v 29), .ref (v 30), .ref (v 31), .ref (v 32), .int 0, .int 0, .int 0, .ref (v 36), .int 0, .int 0, .int 0, .ref (v 40), .ref (v 41), .ref (v 42), .int 0, .long 0])), ((v 5), .inl (T 1, 1600, .inl (fun _ => 0)))]) [0, 5] rfl) (hD.sub (ws' := [(m0, .inr (11, [.int 0, .ref (v 1), .ref (v 2), .ref (v 3), .ref (v 4), .ref (v 5), .int 0, .int 0, .int 0, .int 0, .int 0, .long 0, .int 0, .int 0, .int 0, .int (-1), .ref (v 16), .ref (v 17), .ref (v 18), .ref (v 19), .ref (v 20), .ref (v 21), .ref (v 22), .ref (v 23), .ref (v 24), .ref (v 25), .ref (v 26), .ref (v 27), .ref (v 28), .ref (v 29), .ref (v 30), .ref (v 31), .ref (v 32), .int 0, .int 0, .int 0, .ref (v 36), .int 0, .int 0, .int 0, .ref (v 40), .ref (v 41), .ref (v 42), .int 0, .long 0])), ((v 5), .inl (T 1, 1600, .inl (fun _ => 0)))]) [0, 5] (by decide) rfl)) (va_recv hK hP (ci := 11) (q0 := 0) rfl rfl) rfl hl.1 rfl (Nat.le_of_ble_eq_true rfl) dL_law_315 ⟨(Nat.le_of_ble_eq_true rfl), (Nat.le_of_ble_eq_true rfl)⟩) hS hA hP hD [0, 5] [] rfl rfl (by decide) (by decide) (fun r_4 u_5 H locs hw hP hD hS => ?_)
  have c_6 : r_4 = 20 := hw
  refine lv_icmp_eq (tgt := 1862) hx hb dL_law_318 (by decide) (fun _ => ?_) (fun h => absurd (c_3.trans c_6.symm) h)
  refine lv_iinc (v := 6) (lv' := [(3, .int 6), (2, .ref m0), (1, .ref x0), (0, .ref b)]) hx hb dL_law_1862 hl (k := 0) rfl (by decide) (by decide) rfl (fun ls hl => ?_)
  refine lv_goto (tgt := 18) hx hb dL_law_1865 (by decide) ?_
  refine lv_iload_n hx hb dL_law_18 rfl (lv_at hl 0 rfl) ?_
  refine lv_aload_n hx hb dL_law_19 rfl (lv_at hl 3 rfl) ?_
  refine va_slen hx hb hX hbl hbA hS dL_law_20 ?_
  refine eqi (v := 6) (by decide) ?_
  refine lv_bipush (v := 6) hx hb dL_law_21 (by decide) ?_
  refine lv_isub hx hb dL_law_23 ?_
  refine eqi (v := 0) (by decide) ?_
  refine lv_icmp_gt (tgt := 1868) hx hb dL_law_24 (by decide) (fun _ => ?_) (fun c_7 => absurd (by decide) c_7)
  refine lv_iconst (v := 1) hx hb dL_law_1868 (by decide) ?_
  refine va_forget (fun q hq => hS.2.2 q hq) ?_
  refine W.widen (k := 600000) (n := 7302250) (Nat.le_of_ble_eq_true rfl) (Nat.le_of_ble_eq_true rfl) ?_
  exact lw_ret hx hb hr hlocks dL_law_1869

set_option maxHeartbeats 4000000 in
set_option maxRecDepth 100000 in
theorem lawcase_1 {p : Program} {e : Env} {s : State} {m : MethodId} {below : List Frame} {meth : Method} {c : Code} (l : Launch) {b : Nat} {xs : Nat → Int32} (C0 : lw_At p s m meth c b 6 xs) {D : va_G} {T : Nat → ClassId} (hC : cx D T s) {H : Heap} {locs : List Loc} (x0 m0 : Nat) (u v : Nat → Nat) (hP : va_P D vwCl (lawW T x0 m0 u v) H) (hD : va_D (fun q : Nat => s.heap.size ≤ q) (lawW T x0 m0 u v)) (hS : va_S (fun q : Nat => s.heap.size ≤ q) s.heap H locs) {ls : Array Slot} (hl : lv_has ls 4 [(3, .int 0), (2, .ref m0), (1, .ref x0), (0, .ref b)]) : W p l e room_1 s m #[Value.ref b] below meth c H locs 181 83004 (lw_Z below #[Value.ref b] s) (F0 m 323 ls []) := by
  obtain ⟨hx, hb, hr, hml, hown, hts0, hX, hbl, hlocks, hgv⟩ := id C0
  have hts : ∀ w ∈ gt, w.before #[Value.ref b] s = true := fun w hw => hts0 w (List.mem_filter.mp hw).1
  have hown : s.vm.findClass RL = some m.cls := hown
  have hb : c.code = cL_law := hb
  have hA : ∀ q : Nat, s.heap.size ≤ q → (fun q : Nat => s.heap.size ≤ q) q := fun _ h => h
  have hbA : ¬ (fun q : Nat => s.heap.size ≤ q) b := Nat.not_le.mpr hbl
  have hK := hC.1
  refine lv_aload_n hx hb dL_law_323 rfl (lv_at hl 2 rfl) ?_
  refine lv_aload_n hx hb dL_law_324 rfl (lv_at hl 3 rfl) ?_
  refine lv_iload_n hx hb dL_law_325 rfl (lv_at hl 0 rfl) ?_
  refine lv_iconst (v := 1) hx hb dL_law_326 (by decide) ?_
  refine lv_iadd hx hb dL_law_327 ?_
  refine eqi (v := 1) (by decide) ?_
  refine va_sld hx hb hX hbl hbA hS (by unfold vp_in; decide) dL_law_328 ?_
  refine eqi (v := xs 1) rfl ?_
  refine mtId (wr := [(m0, .inr (11, [.int 0, .ref (v 1), .ref (v 2), .ref (v 3), .ref (v 4), .ref (v 5), .int 0, .int 0, .int 0, .int 0, .int 0, .long 0, .int 0, .int 0, .int 0, .int (-1), .ref (v 16), .ref (v 17), .ref (v 18), .ref (v 19), .ref (v 20), .ref (v 21), .ref (v 22), .ref (v 23), .ref (v 24), .ref (v 25), .ref (v 26), .ref (v 27), .ref (v 28), .ref (v 29), .ref (v 30), .ref (v 31), .ref (v 32), .int 0, .int 0, .int 0, .ref (v 36), .int 0, .int 0, .int 0, .ref (v 40), .ref (v 41), .ref (v 42), .int 0, .long 0])), ((v 1), .inl (T 0, 4, .inl (upd (upd (upd (upd (fun _ => 0) 0 (-1)) 1 (-1)) 2 (-1)) 3 (-1)))), ((v 2), .inl (T 0, 4, .inl (fun _ => 0))), ((v 3), .inl (T 2, 240, .inr (.inl (fun _ => 0)))), ((v 4), .inl (T 2, 60, .inr (.inl (fun _ => 0)))), ((v 5), .inl (T 1, 1600, .inl (fun _ => 0))), ((v 16), .inl (T 0, 5, .inl (fun _ => 0))), ((v 17), .inl (T 0, 15, .inl (fun _ => 0))), ((v 18), .inl (T 0, 5, .inl (fun _ => 0))), ((v 19), .inl (T 0, 75, .inl (fun _ => 0))), ((v 20), .inl (T 0, 5, .inl (fun _ => 0))), ((v 21), .inl (T 0, 400, .inl (fun _ => 0))), ((v 22), .inl (T 0, 15, .inl (fun _ => 0))), ((v 23), .inl (T 3, 15, .inl (fun _ => 0))), ((v 24), .inl (T 0, 80, .inl (fun _ => 0))), ((v 25), .inl (T 0, 960, .inl (fun _ => 0))), ((v 26), .inl (T 0, 960, .inl (fun _ => 0))), ((v 27), .inl (T 0, 960, .inl (fun _ => 0))), ((v 28), .inl (T 0, 25, .inl (fun _ => 0))), ((v 29), .inl (T 0, 15, .inl (upd (upd (upd (fun _ => 0) 0 0) 1 2) 2 0))), ((v 30), .inl (T 0, 500, .inl (fun _ => 0))), ((v 31), .inl (T 0, 1000, .inl (fun _ => 0))), ((v 32), .inl (T 3, 3, .inl (fun _ => 0))), ((v 36), .inl (T 0, 3, .inl (fun _ => 0))), ((v 40), .inl (T 0, 97, .inl (fun _ => 0))), ((v 41), .inl (T 2, 65536, .inr (.inl (fun _ => 0)))), ((v 42), .inl (T 0, 16, .inl (fun _ => 0)))]) (cV (As := [.int (xs 1)]) (rest := []) ⟨hx, hb, hml, hown, hts⟩ (c_X10_end l D T x0 (u 0) (u 1) (u 2) (u 15) (u 38) (u 130) (u 131) (u 132) (u 141) (u 144) (u 150) (u 151) (xs 1) _) k_X10_end v_X10_end m567 rfl rfl ⟨(Nat.le_of_ble_eq_true rfl), (Nat.le_of_ble_eq_true rfl)⟩ (preM hC (hP.sub (ws' := [(x0, .inr (10, [.ref (u 0), .ref (u 2), .ref (u 15), .ref (u 38), .ref (u 130), .ref (u 131), .ref (u 132), .ref (u 141), .ref (u 144), .ref (u 150), .ref (u 151)])), ((u 0), .inr (4, [.ref (u 1), .int 0]))]) [0, 1] rfl) (hD.sub (ws' := [(x0, .inr (10, [.ref (u 0), .ref (u 2), .ref (u 15), .ref (u 38), .ref (u 130), .ref (u 131), .ref (u 132), .ref (u 141), .ref (u 144), .ref (u 150), .ref (u 151)])), ((u 0), .inr (4, [.ref (u 1), .int 0]))]) [0, 1] (by decide) rfl)) (va_recv hK hP (ci := 10) (q0 := 0) rfl rfl) rfl hl.1 rfl (Nat.le_of_ble_eq_true rfl) dL_law_329 ⟨(Nat.le_of_ble_eq_true rfl), (Nat.le_of_ble_eq_true rfl)⟩) hS hA hP hD [0, 1] [154, 155, 156, 157, 158, 159, 160, 161, 162, 163, 164, 165, 166, 167, 168, 169, 170, 171, 172, 173, 174, 175, 176, 177, 178, 179, 180] rfl rfl (by decide) (by decide) (fun r_1 u_2 H locs hw hP hD hS => ?_)
  have c_3 : r_1 = a_end (xs 1) := hw
  refine lv_aload_n hx hb dL_law_332 rfl (lv_at hl 1 rfl) ?_
  refine lv_aload_n hx hb dL_law_333 rfl (lv_at hl 3 rfl) ?_
  refine lv_iload_n hx hb dL_law_334 rfl (lv_at hl 0 rfl) ?_
  refine lv_iconst (v := 1) hx hb dL_law_335 (by decide) ?_
  refine lv_iadd hx hb dL_law_336 ?_
  refine eqi (v := 1) (by decide) ?_
  refine va_sld hx hb hX hbl hbA hS (by unfold vp_in; decide) dL_law_337 ?_
  refine eqi (v := xs 1) rfl ?_
  refine mtId (wr := []) (cV (As := [.int (xs 1)]) (rest := [.int r_1]) ⟨hx, hb, hml, hown, hts⟩ (c_m_end l D T (v 1) (v 16) (v 17) (v 18) (v 19) (v 2) (v 20) (v 21) (v 22) (v 23) (v 24) (v 25) (v 26) (v 27) (v 28) (v 29) (v 3) (v 30) (v 31) (v 32) (v 36) (v 4) (v 40) (v 41) (v 42) (v 5) m0 (xs 1) _) k_X11_end v_X11_end m1483 rfl rfl ⟨(Nat.le_of_ble_eq_true rfl), (Nat.le_of_ble_eq_true rfl)⟩ (preM hC (hP.sub (ws' := [(m0, .inr (11, [.int 0, .ref (v 1), .ref (v 2), .ref (v 3), .ref (v 4), .ref (v 5), .int 0, .int 0, .int 0, .int 0, .int 0, .long 0, .int 0, .int 0, .int 0, .int (-1), .ref (v 16), .ref (v 17), .ref (v 18), .ref (v 19), .ref (v 20), .ref (v 21), .ref (v 22), .ref (v 23), .ref (v 24), .ref (v 25), .ref (v 26), .ref (v 27), .ref (v 28), .ref (v 29), .ref (v 30), .ref (v 31), .ref (v 32), .int 0, .int 0, .int 0, .ref (v 36), .int 0, .int 0, .int 0, .ref (v 40), .ref (v 41), .ref (v 42), .int 0, .long 0]))]) [0] rfl) (hD.sub (ws' := [(m0, .inr (11, [.int 0, .ref (v 1), .ref (v 2), .ref (v 3), .ref (v 4), .ref (v 5), .int 0, .int 0, .int 0, .int 0, .int 0, .long 0, .int 0, .int 0, .int 0, .int (-1), .ref (v 16), .ref (v 17), .ref (v 18), .ref (v 19), .ref (v 20), .ref (v 21), .ref (v 22), .ref (v 23), .ref (v 24), .ref (v 25), .ref (v 26), .ref (v 27), .ref (v 28), .ref (v 29), .ref (v 30), .ref (v 31), .ref (v 32), .int 0, .int 0, .int 0, .ref (v 36), .int 0, .int 0, .int 0, .ref (v 40), .ref (v 41), .ref (v 42), .int 0, .long 0]))]) [0] (by decide) rfl)) (va_recv hK hP (ci := 11) (q0 := 0) rfl rfl) rfl hl.1 rfl (Nat.le_of_ble_eq_true rfl) dL_law_338 ⟨(Nat.le_of_ble_eq_true rfl), (Nat.le_of_ble_eq_true rfl)⟩) hS hA hP hD [0] [] rfl rfl (by decide) (by decide) (fun r_4 u_5 H locs hw hP hD hS => ?_)
  have c_6 : r_4 = a_end (xs 1) := hw
  refine lv_icmp_eq (tgt := 1862) hx hb dL_law_341 (by decide) (fun _ => ?_) (fun h => absurd (c_3.trans c_6.symm) h)
  refine lv_iinc (v := 6) (lv' := [(3, .int 6), (2, .ref m0), (1, .ref x0), (0, .ref b)]) hx hb dL_law_1862 hl (k := 0) rfl (by decide) (by decide) rfl (fun ls hl => ?_)
  refine lv_goto (tgt := 18) hx hb dL_law_1865 (by decide) ?_
  refine lv_iload_n hx hb dL_law_18 rfl (lv_at hl 0 rfl) ?_
  refine lv_aload_n hx hb dL_law_19 rfl (lv_at hl 3 rfl) ?_
  refine va_slen hx hb hX hbl hbA hS dL_law_20 ?_
  refine eqi (v := 6) (by decide) ?_
  refine lv_bipush (v := 6) hx hb dL_law_21 (by decide) ?_
  refine lv_isub hx hb dL_law_23 ?_
  refine eqi (v := 0) (by decide) ?_
  refine lv_icmp_gt (tgt := 1868) hx hb dL_law_24 (by decide) (fun _ => ?_) (fun c_7 => absurd (by decide) c_7)
  refine lv_iconst (v := 1) hx hb dL_law_1868 (by decide) ?_
  refine va_forget (fun q hq => hS.2.2 q hq) ?_
  refine W.widen (k := 600000) (n := 7302250) (Nat.le_of_ble_eq_true rfl) (Nat.le_of_ble_eq_true rfl) ?_
  exact lw_ret hx hb hr hlocks dL_law_1869

set_option maxHeartbeats 4000000 in
set_option maxRecDepth 100000 in
theorem lawcase_2 {p : Program} {e : Env} {s : State} {m : MethodId} {below : List Frame} {meth : Method} {c : Code} (l : Launch) {b : Nat} {xs : Nat → Int32} (C0 : lw_At p s m meth c b 6 xs) {D : va_G} {T : Nat → ClassId} (hC : cx D T s) {H : Heap} {locs : List Loc} (x0 m0 : Nat) (u v : Nat → Nat) (hP : va_P D vwCl (lawW T x0 m0 u v) H) (hD : va_D (fun q : Nat => s.heap.size ≤ q) (lawW T x0 m0 u v)) (hS : va_S (fun q : Nat => s.heap.size ≤ q) s.heap H locs) {ls : Array Slot} (hl : lv_has ls 4 [(3, .int 0), (2, .ref m0), (1, .ref x0), (0, .ref b)]) : W p l e room_1 s m #[Value.ref b] below meth c H locs 181 83004 (lw_Z below #[Value.ref b] s) (F0 m 346 ls []) := by
  obtain ⟨hx, hb, hr, hml, hown, hts0, hX, hbl, hlocks, hgv⟩ := id C0
  have hts : ∀ w ∈ gt, w.before #[Value.ref b] s = true := fun w hw => hts0 w (List.mem_filter.mp hw).1
  have hown : s.vm.findClass RL = some m.cls := hown
  have hb : c.code = cL_law := hb
  have hA : ∀ q : Nat, s.heap.size ≤ q → (fun q : Nat => s.heap.size ≤ q) q := fun _ h => h
  have hbA : ¬ (fun q : Nat => s.heap.size ≤ q) b := Nat.not_le.mpr hbl
  have hK := hC.1
  refine lv_aload_n hx hb dL_law_346 rfl (lv_at hl 2 rfl) ?_
  refine mtId (wr := [(m0, .inr (11, [.int 0, .ref (v 1), .ref (v 2), .ref (v 3), .ref (v 4), .ref (v 5), .int 0, .int 0, .int 0, .int 0, .int 0, .long 0, .int 0, .int 0, .int 0, .int (-1), .ref (v 16), .ref (v 17), .ref (v 18), .ref (v 19), .ref (v 20), .ref (v 21), .ref (v 22), .ref (v 23), .ref (v 24), .ref (v 25), .ref (v 26), .ref (v 27), .ref (v 28), .ref (v 29), .ref (v 30), .ref (v 31), .ref (v 32), .int 0, .int 0, .int 0, .ref (v 36), .int 0, .int 0, .int 0, .ref (v 40), .ref (v 41), .ref (v 42), .int 0, .long 0])), ((v 1), .inl (T 0, 4, .inl (upd (upd (upd (upd (fun _ => 0) 0 (-1)) 1 (-1)) 2 (-1)) 3 (-1)))), ((v 2), .inl (T 0, 4, .inl (fun _ => 0))), ((v 3), .inl (T 2, 240, .inr (.inl (fun _ => 0)))), ((v 4), .inl (T 2, 60, .inr (.inl (fun _ => 0)))), ((v 5), .inl (T 1, 1600, .inl (fun _ => 0))), ((v 16), .inl (T 0, 5, .inl (fun _ => 0))), ((v 17), .inl (T 0, 15, .inl (fun _ => 0))), ((v 18), .inl (T 0, 5, .inl (fun _ => 0))), ((v 19), .inl (T 0, 75, .inl (fun _ => 0))), ((v 20), .inl (T 0, 5, .inl (fun _ => 0))), ((v 21), .inl (T 0, 400, .inl (fun _ => 0))), ((v 22), .inl (T 0, 15, .inl (fun _ => 0))), ((v 23), .inl (T 3, 15, .inl (fun _ => 0))), ((v 24), .inl (T 0, 80, .inl (fun _ => 0))), ((v 25), .inl (T 0, 960, .inl (fun _ => 0))), ((v 26), .inl (T 0, 960, .inl (fun _ => 0))), ((v 27), .inl (T 0, 960, .inl (fun _ => 0))), ((v 28), .inl (T 0, 25, .inl (fun _ => 0))), ((v 29), .inl (T 0, 15, .inl (upd (upd (upd (fun _ => 0) 0 0) 1 2) 2 0))), ((v 30), .inl (T 0, 500, .inl (fun _ => 0))), ((v 31), .inl (T 0, 1000, .inl (fun _ => 0))), ((v 32), .inl (T 3, 3, .inl (fun _ => 0))), ((v 36), .inl (T 0, 3, .inl (fun _ => 0))), ((v 40), .inl (T 0, 97, .inl (fun _ => 0))), ((v 41), .inl (T 2, 65536, .inr (.inl (fun _ => 0)))), ((v 42), .inl (T 0, 16, .inl (fun _ => 0)))]) (cV (As := []) (rest := []) ⟨hx, hb, hml, hown, hts⟩ (c_X10_town l D T x0 (u 0) (u 1) (u 2) (u 3) (u 4) (u 5) (u 6) (u 7) (u 8) (u 9) (u 10) (u 11) (u 12) (u 13) (u 14) (u 15) (u 16) (u 17) (u 18) (u 19) (u 20) (u 21) (u 22) (u 23) (u 24) (u 25) (u 26) (u 27) (u 28) (u 29) (u 30) (u 31) (u 32) (u 33) (u 34) (u 35) (u 36) (u 37) (u 38) (u 130) (u 131) (u 132) (u 141) (u 144) (u 150) (u 151) _) k_X10_town v_X10_town m571 rfl rfl ⟨(Nat.le_of_ble_eq_true rfl), (Nat.le_of_ble_eq_true rfl)⟩ (preM hC (hP.sub (ws' := [(x0, .inr (10, [.ref (u 0), .ref (u 2), .ref (u 15), .ref (u 38), .ref (u 130), .ref (u 131), .ref (u 132), .ref (u 141), .ref (u 144), .ref (u 150), .ref (u 151)])), ((u 0), .inr (4, [.ref (u 1), .int 0])), ((u 2), .inr (1, [.ref (u 3), .int 0, .int (-1), .ref (u 14), .int 0, .int 0, .int 0, .int 0, .int 0, .int 0])), ((u 3), .inr (5, [.int 0, .int 0, .int 0, .int 0, .int 0, .int 0, .int 0, .int 0, .int 0, .ref (u 4), .ref (u 5), .ref (u 6), .ref (u 7), .ref (u 8), .ref (u 9), .ref (u 10), .ref (u 11), .ref (u 12), .ref (u 13)])), ((u 4), .inl (T 0, 5, .inl (fun _ => 0))), ((u 5), .inl (T 0, 5, .inl (fun _ => 0))), ((u 6), .inl (T 0, 5, .inl (fun _ => 0))), ((u 7), .inl (T 0, 10, .inl (fun _ => 0))), ((u 8), .inl (T 0, 10, .inl (fun _ => 0))), ((u 9), .inl (T 0, 10, .inl (fun _ => 0))), ((u 10), .inl (T 0, 10, .inl (fun _ => 0))), ((u 11), .inl (T 0, 10, .inl (fun _ => 0))), ((u 12), .inl (T 0, 10, .inl (fun _ => 0))), ((u 13), .inl (T 0, 10, .inl (fun _ => 0))), ((u 15), .inr (3, [.ref (u 16), .ref (u 27), .int 0, .int 0, .int 2, .long 0, .int 0, .ref (u 36), .ref (u 37)])), ((u 16), .inr (5, [.int 0, .int 0, .int 0, .int 0, .int 0, .int 0, .int 0, .int 0, .int 0, .ref (u 17), .ref (u 18), .ref (u 19), .ref (u 20), .ref (u 21), .ref (u 22), .ref (u 23), .ref (u 24), .ref (u 25), .ref (u 26)])), ((u 17), .inl (T 0, 5, .inl (fun _ => 0))), ((u 18), .inl (T 0, 5, .inl (fun _ => 0))), ((u 19), .inl (T 0, 5, .inl (fun _ => 0))), ((u 20), .inl (T 0, 10, .inl (fun _ => 0))), ((u 21), .inl (T 0, 10, .inl (fun _ => 0))), ((u 22), .inl (T 0, 10, .inl (fun _ => 0))), ((u 23), .inl (T 0, 10, .inl (fun _ => 0))), ((u 24), .inl (T 0, 10, .inl (fun _ => 0))), ((u 25), .inl (T 0, 10, .inl (fun _ => 0))), ((u 26), .inl (T 0, 10, .inl (fun _ => 0))), ((u 27), .inr (7, [.ref (u 16), .ref (u 28), .ref (u 29), .ref (u 30), .ref (u 31), .ref (u 32), .ref (u 33), .ref (u 34), .ref (u 35)])), ((u 28), .inl (T 0, 16, .inl (fun _ => 0))), ((u 29), .inl (T 0, 5, .inl (fun _ => 0))), ((u 30), .inl (T 0, 192, .inl (fun _ => 0))), ((u 31), .inl (T 0, 192, .inl (fun _ => 0))), ((u 32), .inl (T 0, 192, .inl (fun _ => 0))), ((u 33), .inl (T 0, 2, .inl (fun _ => 0))), ((u 34), .inl (T 0, 2, .inl (fun _ => 0))), ((u 35), .inl (T 0, 208, .inl (fun _ => 0))), ((u 37), .inl (T 0, 200, .inl (fun _ => 0)))]) [0, 1, 3, 4, 5, 6, 7, 8, 9, 10, 11, 12, 13, 14, 16, 17, 18, 19, 20, 21, 22, 23, 24, 25, 26, 27, 28, 29, 30, 31, 32, 33, 34, 35, 36, 38] rfl) (hD.sub (ws' := [(x0, .inr (10, [.ref (u 0), .ref (u 2), .ref (u 15), .ref (u 38), .ref (u 130), .ref (u 131), .ref (u 132), .ref (u 141), .ref (u 144), .ref (u 150), .ref (u 151)])), ((u 0), .inr (4, [.ref (u 1), .int 0])), ((u 2), .inr (1, [.ref (u 3), .int 0, .int (-1), .ref (u 14), .int 0, .int 0, .int 0, .int 0, .int 0, .int 0])), ((u 3), .inr (5, [.int 0, .int 0, .int 0, .int 0, .int 0, .int 0, .int 0, .int 0, .int 0, .ref (u 4), .ref (u 5), .ref (u 6), .ref (u 7), .ref (u 8), .ref (u 9), .ref (u 10), .ref (u 11), .ref (u 12), .ref (u 13)])), ((u 4), .inl (T 0, 5, .inl (fun _ => 0))), ((u 5), .inl (T 0, 5, .inl (fun _ => 0))), ((u 6), .inl (T 0, 5, .inl (fun _ => 0))), ((u 7), .inl (T 0, 10, .inl (fun _ => 0))), ((u 8), .inl (T 0, 10, .inl (fun _ => 0))), ((u 9), .inl (T 0, 10, .inl (fun _ => 0))), ((u 10), .inl (T 0, 10, .inl (fun _ => 0))), ((u 11), .inl (T 0, 10, .inl (fun _ => 0))), ((u 12), .inl (T 0, 10, .inl (fun _ => 0))), ((u 13), .inl (T 0, 10, .inl (fun _ => 0))), ((u 15), .inr (3, [.ref (u 16), .ref (u 27), .int 0, .int 0, .int 2, .long 0, .int 0, .ref (u 36), .ref (u 37)])), ((u 16), .inr (5, [.int 0, .int 0, .int 0, .int 0, .int 0, .int 0, .int 0, .int 0, .int 0, .ref (u 17), .ref (u 18), .ref (u 19), .ref (u 20), .ref (u 21), .ref (u 22), .ref (u 23), .ref (u 24), .ref (u 25), .ref (u 26)])), ((u 17), .inl (T 0, 5, .inl (fun _ => 0))), ((u 18), .inl (T 0, 5, .inl (fun _ => 0))), ((u 19), .inl (T 0, 5, .inl (fun _ => 0))), ((u 20), .inl (T 0, 10, .inl (fun _ => 0))), ((u 21), .inl (T 0, 10, .inl (fun _ => 0))), ((u 22), .inl (T 0, 10, .inl (fun _ => 0))), ((u 23), .inl (T 0, 10, .inl (fun _ => 0))), ((u 24), .inl (T 0, 10, .inl (fun _ => 0))), ((u 25), .inl (T 0, 10, .inl (fun _ => 0))), ((u 26), .inl (T 0, 10, .inl (fun _ => 0))), ((u 27), .inr (7, [.ref (u 16), .ref (u 28), .ref (u 29), .ref (u 30), .ref (u 31), .ref (u 32), .ref (u 33), .ref (u 34), .ref (u 35)])), ((u 28), .inl (T 0, 16, .inl (fun _ => 0))), ((u 29), .inl (T 0, 5, .inl (fun _ => 0))), ((u 30), .inl (T 0, 192, .inl (fun _ => 0))), ((u 31), .inl (T 0, 192, .inl (fun _ => 0))), ((u 32), .inl (T 0, 192, .inl (fun _ => 0))), ((u 33), .inl (T 0, 2, .inl (fun _ => 0))), ((u 34), .inl (T 0, 2, .inl (fun _ => 0))), ((u 35), .inl (T 0, 208, .inl (fun _ => 0))), ((u 37), .inl (T 0, 200, .inl (fun _ => 0)))]) [0, 1, 3, 4, 5, 6, 7, 8, 9, 10, 11, 12, 13, 14, 16, 17, 18, 19, 20, 21, 22, 23, 24, 25, 26, 27, 28, 29, 30, 31, 32, 33, 34, 35, 36, 38] (by decide) rfl)) (va_recv hK hP (ci := 10) (q0 := 0) rfl rfl) rfl hl.1 rfl (Nat.le_of_ble_eq_true rfl) dL_law_347 ⟨(Nat.le_of_ble_eq_true rfl), (Nat.le_of_ble_eq_true rfl)⟩) hS hA hP hD [0, 1, 3, 4, 5, 6, 7, 8, 9, 10, 11, 12, 13, 14, 16, 17, 18, 19, 20, 21, 22, 23, 24, 25, 26, 27, 28, 29, 30, 31, 32, 33, 34, 35, 36, 38] [154, 155, 156, 157, 158, 159, 160, 161, 162, 163, 164, 165, 166, 167, 168, 169, 170, 171, 172, 173, 174, 175, 176, 177, 178, 179, 180] rfl rfl (by decide) (by decide) (fun r_1 u_2 H locs hw hP hD hS => ?_)
  have c_3 : r_1 = 0 := hw
  refine lv_aload_n hx hb dL_law_350 rfl (lv_at hl 1 rfl) ?_
  refine mtId (wr := []) (cV (As := []) (rest := [.int r_1]) ⟨hx, hb, hml, hown, hts⟩ (c_m_town l D T (v 1) (v 16) (v 17) (v 18) (v 19) (v 2) (v 20) (v 21) (v 22) (v 23) (v 24) (v 25) (v 26) (v 27) (v 28) (v 29) (v 3) (v 30) (v 31) (v 32) (v 36) (v 4) (v 40) (v 41) (v 42) (v 5) m0 _) k_X11_town v_X11_town m1491 rfl rfl ⟨(Nat.le_of_ble_eq_true rfl), (Nat.le_of_ble_eq_true rfl)⟩ (preM hC (hP.sub (ws' := [(m0, .inr (11, [.int 0, .ref (v 1), .ref (v 2), .ref (v 3), .ref (v 4), .ref (v 5), .int 0, .int 0, .int 0, .int 0, .int 0, .long 0, .int 0, .int 0, .int 0, .int (-1), .ref (v 16), .ref (v 17), .ref (v 18), .ref (v 19), .ref (v 20), .ref (v 21), .ref (v 22), .ref (v 23), .ref (v 24), .ref (v 25), .ref (v 26), .ref (v 27), .ref (v 28), .ref (v 29), .ref (v 30), .ref (v 31), .ref (v 32), .int 0, .int 0, .int 0, .ref (v 36), .int 0, .int 0, .int 0, .ref (v 40), .ref (v 41), .ref (v 42), .int 0, .long 0])), ((v 16), .inl (T 0, 5, .inl (fun _ => 0))), ((v 17), .inl (T 0, 15, .inl (fun _ => 0))), ((v 18), .inl (T 0, 5, .inl (fun _ => 0))), ((v 19), .inl (T 0, 75, .inl (fun _ => 0))), ((v 20), .inl (T 0, 5, .inl (fun _ => 0))), ((v 21), .inl (T 0, 400, .inl (fun _ => 0))), ((v 22), .inl (T 0, 15, .inl (fun _ => 0))), ((v 23), .inl (T 3, 15, .inl (fun _ => 0))), ((v 24), .inl (T 0, 80, .inl (fun _ => 0))), ((v 28), .inl (T 0, 25, .inl (fun _ => 0))), ((v 29), .inl (T 0, 15, .inl (upd (upd (upd (fun _ => 0) 0 0) 1 2) 2 0))), ((v 31), .inl (T 0, 1000, .inl (fun _ => 0)))]) [0, 6, 7, 8, 9, 10, 11, 12, 13, 14, 18, 19, 21] rfl) (hD.sub (ws' := [(m0, .inr (11, [.int 0, .ref (v 1), .ref (v 2), .ref (v 3), .ref (v 4), .ref (v 5), .int 0, .int 0, .int 0, .int 0, .int 0, .long 0, .int 0, .int 0, .int 0, .int (-1), .ref (v 16), .ref (v 17), .ref (v 18), .ref (v 19), .ref (v 20), .ref (v 21), .ref (v 22), .ref (v 23), .ref (v 24), .ref (v 25), .ref (v 26), .ref (v 27), .ref (v 28), .ref (v 29), .ref (v 30), .ref (v 31), .ref (v 32), .int 0, .int 0, .int 0, .ref (v 36), .int 0, .int 0, .int 0, .ref (v 40), .ref (v 41), .ref (v 42), .int 0, .long 0])), ((v 16), .inl (T 0, 5, .inl (fun _ => 0))), ((v 17), .inl (T 0, 15, .inl (fun _ => 0))), ((v 18), .inl (T 0, 5, .inl (fun _ => 0))), ((v 19), .inl (T 0, 75, .inl (fun _ => 0))), ((v 20), .inl (T 0, 5, .inl (fun _ => 0))), ((v 21), .inl (T 0, 400, .inl (fun _ => 0))), ((v 22), .inl (T 0, 15, .inl (fun _ => 0))), ((v 23), .inl (T 3, 15, .inl (fun _ => 0))), ((v 24), .inl (T 0, 80, .inl (fun _ => 0))), ((v 28), .inl (T 0, 25, .inl (fun _ => 0))), ((v 29), .inl (T 0, 15, .inl (upd (upd (upd (fun _ => 0) 0 0) 1 2) 2 0))), ((v 31), .inl (T 0, 1000, .inl (fun _ => 0)))]) [0, 6, 7, 8, 9, 10, 11, 12, 13, 14, 18, 19, 21] (by decide) rfl)) (va_recv hK hP (ci := 11) (q0 := 0) rfl rfl) rfl hl.1 rfl (Nat.le_of_ble_eq_true rfl) dL_law_351 ⟨(Nat.le_of_ble_eq_true rfl), (Nat.le_of_ble_eq_true rfl)⟩) hS hA hP hD [0, 6, 7, 8, 9, 10, 11, 12, 13, 14, 18, 19, 21] [] rfl rfl (by decide) (by decide) (fun r_4 u_5 H locs hw hP hD hS => ?_)
  have c_6 : r_4 = 0 := hw
  refine lv_icmp_eq (tgt := 1862) hx hb dL_law_354 (by decide) (fun _ => ?_) (fun h => absurd (c_3.trans c_6.symm) h)
  refine lv_iinc (v := 6) (lv' := [(3, .int 6), (2, .ref m0), (1, .ref x0), (0, .ref b)]) hx hb dL_law_1862 hl (k := 0) rfl (by decide) (by decide) rfl (fun ls hl => ?_)
  refine lv_goto (tgt := 18) hx hb dL_law_1865 (by decide) ?_
  refine lv_iload_n hx hb dL_law_18 rfl (lv_at hl 0 rfl) ?_
  refine lv_aload_n hx hb dL_law_19 rfl (lv_at hl 3 rfl) ?_
  refine va_slen hx hb hX hbl hbA hS dL_law_20 ?_
  refine eqi (v := 6) (by decide) ?_
  refine lv_bipush (v := 6) hx hb dL_law_21 (by decide) ?_
  refine lv_isub hx hb dL_law_23 ?_
  refine eqi (v := 0) (by decide) ?_
  refine lv_icmp_gt (tgt := 1868) hx hb dL_law_24 (by decide) (fun _ => ?_) (fun c_7 => absurd (by decide) c_7)
  refine lv_iconst (v := 1) hx hb dL_law_1868 (by decide) ?_
  refine va_forget (fun q hq => hS.2.2 q hq) ?_
  refine W.widen (k := 600000) (n := 7302250) (Nat.le_of_ble_eq_true rfl) (Nat.le_of_ble_eq_true rfl) ?_
  exact lw_ret hx hb hr hlocks dL_law_1869

set_option maxHeartbeats 4000000 in
set_option maxRecDepth 100000 in
theorem lawcase_3 {p : Program} {e : Env} {s : State} {m : MethodId} {below : List Frame} {meth : Method} {c : Code} (l : Launch) {b : Nat} {xs : Nat → Int32} (C0 : lw_At p s m meth c b 6 xs) {D : va_G} {T : Nat → ClassId} (hC : cx D T s) {H : Heap} {locs : List Loc} (x0 m0 : Nat) (u v : Nat → Nat) (hP : va_P D vwCl (lawW T x0 m0 u v) H) (hD : va_D (fun q : Nat => s.heap.size ≤ q) (lawW T x0 m0 u v)) (hS : va_S (fun q : Nat => s.heap.size ≤ q) s.heap H locs) {ls : Array Slot} (hl : lv_has ls 4 [(3, .int 0), (2, .ref m0), (1, .ref x0), (0, .ref b)]) : W p l e room_1 s m #[Value.ref b] below meth c H locs 181 83004 (lw_Z below #[Value.ref b] s) (F0 m 359 ls []) := by
  obtain ⟨hx, hb, hr, hml, hown, hts0, hX, hbl, hlocks, hgv⟩ := id C0
  have hts : ∀ w ∈ gt, w.before #[Value.ref b] s = true := fun w hw => hts0 w (List.mem_filter.mp hw).1
  have hown : s.vm.findClass RL = some m.cls := hown
  have hb : c.code = cL_law := hb
  have hA : ∀ q : Nat, s.heap.size ≤ q → (fun q : Nat => s.heap.size ≤ q) q := fun _ h => h
  have hbA : ¬ (fun q : Nat => s.heap.size ≤ q) b := Nat.not_le.mpr hbl
  have hK := hC.1
  refine lv_aload_n hx hb dL_law_359 rfl (lv_at hl 2 rfl) ?_
  refine lv_aload_n hx hb dL_law_360 rfl (lv_at hl 3 rfl) ?_
  refine lv_iload_n hx hb dL_law_361 rfl (lv_at hl 0 rfl) ?_
  refine lv_iconst (v := 1) hx hb dL_law_362 (by decide) ?_
  refine lv_iadd hx hb dL_law_363 ?_
  refine eqi (v := 1) (by decide) ?_
  refine va_sld hx hb hX hbl hbA hS (by unfold vp_in; decide) dL_law_364 ?_
  refine eqi (v := xs 1) rfl ?_
  refine puI (cV (As := [.int (xs 1)]) (rest := []) ⟨hx, hb, hml, hown, hts⟩ (c_X10_fault l D T x0 (u 0) (u 2) (u 3) (u 14) (u 15) (u 38) (u 130) (u 131) (u 132) (u 141) (u 144) (u 150) (u 151) (xs 1)) k_X10_fault v_X10_fault m744 rfl rfl ⟨(Nat.le_of_ble_eq_true rfl), (Nat.le_of_ble_eq_true rfl)⟩ (preP hC (hP.sub (ws' := [(x0, .inr (10, [.ref (u 0), .ref (u 2), .ref (u 15), .ref (u 38), .ref (u 130), .ref (u 131), .ref (u 132), .ref (u 141), .ref (u 144), .ref (u 150), .ref (u 151)])), ((u 2), .inr (1, [.ref (u 3), .int 0, .int (-1), .ref (u 14), .int 0, .int 0, .int 0, .int 0, .int 0, .int 0]))]) [0, 3] rfl)) (va_recv hK hP (ci := 10) (q0 := 0) rfl rfl) rfl hl.1 rfl (Nat.le_of_ble_eq_true rfl) dL_law_365 ⟨(Nat.le_of_ble_eq_true rfl), (Nat.le_of_ble_eq_true rfl)⟩) hS hP (fun r_1 H locs hw hP hS => ?_)
  have c_3 : r_1 = a_end (xs 1) := hw
  refine lv_aload_n hx hb dL_law_368 rfl (lv_at hl 1 rfl) ?_
  refine lv_aload_n hx hb dL_law_369 rfl (lv_at hl 3 rfl) ?_
  refine lv_iload_n hx hb dL_law_370 rfl (lv_at hl 0 rfl) ?_
  refine lv_iconst (v := 1) hx hb dL_law_371 (by decide) ?_
  refine lv_iadd hx hb dL_law_372 ?_
  refine eqi (v := 1) (by decide) ?_
  refine va_sld hx hb hX hbl hbA hS (by unfold vp_in; decide) dL_law_373 ?_
  refine eqi (v := xs 1) rfl ?_
  refine mtId (wr := []) (cV (As := [.int (xs 1)]) (rest := [.int r_1]) ⟨hx, hb, hml, hown, hts⟩ (c_m_fault l D T (v 1) (v 16) (v 17) (v 18) (v 19) (v 2) (v 20) (v 21) (v 22) (v 23) (v 24) (v 25) (v 26) (v 27) (v 28) (v 29) (v 3) (v 30) (v 31) (v 32) (v 36) (v 4) (v 40) (v 41) (v 42) (v 5) m0 (xs 1) _) k_X11_fault v_X11_fault m1487 rfl rfl ⟨(Nat.le_of_ble_eq_true rfl), (Nat.le_of_ble_eq_true rfl)⟩ (preM hC (hP.sub (ws' := [(m0, .inr (11, [.int 0, .ref (v 1), .ref (v 2), .ref (v 3), .ref (v 4), .ref (v 5), .int 0, .int 0, .int 0, .int 0, .int 0, .long 0, .int 0, .int 0, .int 0, .int (-1), .ref (v 16), .ref (v 17), .ref (v 18), .ref (v 19), .ref (v 20), .ref (v 21), .ref (v 22), .ref (v 23), .ref (v 24), .ref (v 25), .ref (v 26), .ref (v 27), .ref (v 28), .ref (v 29), .ref (v 30), .ref (v 31), .ref (v 32), .int 0, .int 0, .int 0, .ref (v 36), .int 0, .int 0, .int 0, .ref (v 40), .ref (v 41), .ref (v 42), .int 0, .long 0]))]) [154] rfl) (hD.sub (ws' := [(m0, .inr (11, [.int 0, .ref (v 1), .ref (v 2), .ref (v 3), .ref (v 4), .ref (v 5), .int 0, .int 0, .int 0, .int 0, .int 0, .long 0, .int 0, .int 0, .int 0, .int (-1), .ref (v 16), .ref (v 17), .ref (v 18), .ref (v 19), .ref (v 20), .ref (v 21), .ref (v 22), .ref (v 23), .ref (v 24), .ref (v 25), .ref (v 26), .ref (v 27), .ref (v 28), .ref (v 29), .ref (v 30), .ref (v 31), .ref (v 32), .int 0, .int 0, .int 0, .ref (v 36), .int 0, .int 0, .int 0, .ref (v 40), .ref (v 41), .ref (v 42), .int 0, .long 0]))]) [154] (by decide) rfl)) (va_recv hK hP (ci := 11) (q0 := 154) rfl rfl) rfl hl.1 rfl (Nat.le_of_ble_eq_true rfl) dL_law_374 ⟨(Nat.le_of_ble_eq_true rfl), (Nat.le_of_ble_eq_true rfl)⟩) hS hA hP hD [154] [] rfl rfl (by decide) (by decide) (fun r_4 u_5 H locs hw hP hD hS => ?_)
  have c_6 : r_4 = a_end (xs 1) := hw
  refine lv_icmp_eq (tgt := 1862) hx hb dL_law_377 (by decide) (fun _ => ?_) (fun h => absurd (c_3.trans c_6.symm) h)
  refine lv_iinc (v := 6) (lv' := [(3, .int 6), (2, .ref m0), (1, .ref x0), (0, .ref b)]) hx hb dL_law_1862 hl (k := 0) rfl (by decide) (by decide) rfl (fun ls hl => ?_)
  refine lv_goto (tgt := 18) hx hb dL_law_1865 (by decide) ?_
  refine lv_iload_n hx hb dL_law_18 rfl (lv_at hl 0 rfl) ?_
  refine lv_aload_n hx hb dL_law_19 rfl (lv_at hl 3 rfl) ?_
  refine va_slen hx hb hX hbl hbA hS dL_law_20 ?_
  refine eqi (v := 6) (by decide) ?_
  refine lv_bipush (v := 6) hx hb dL_law_21 (by decide) ?_
  refine lv_isub hx hb dL_law_23 ?_
  refine eqi (v := 0) (by decide) ?_
  refine lv_icmp_gt (tgt := 1868) hx hb dL_law_24 (by decide) (fun _ => ?_) (fun c_7 => absurd (by decide) c_7)
  refine lv_iconst (v := 1) hx hb dL_law_1868 (by decide) ?_
  refine va_forget (fun q hq => hS.2.2 q hq) ?_
  refine W.widen (k := 600000) (n := 7302250) (Nat.le_of_ble_eq_true rfl) (Nat.le_of_ble_eq_true rfl) ?_
  exact lw_ret hx hb hr hlocks dL_law_1869

set_option maxHeartbeats 4000000 in
set_option maxRecDepth 100000 in
theorem lawcase_4 {p : Program} {e : Env} {s : State} {m : MethodId} {below : List Frame} {meth : Method} {c : Code} (l : Launch) {b : Nat} {xs : Nat → Int32} (C0 : lw_At p s m meth c b 6 xs) {D : va_G} {T : Nat → ClassId} (hC : cx D T s) {H : Heap} {locs : List Loc} (x0 m0 : Nat) (u v : Nat → Nat) (hP : va_P D vwCl (lawW T x0 m0 u v) H) (hD : va_D (fun q : Nat => s.heap.size ≤ q) (lawW T x0 m0 u v)) (hS : va_S (fun q : Nat => s.heap.size ≤ q) s.heap H locs) {ls : Array Slot} (hl : lv_has ls 4 [(3, .int 0), (2, .ref m0), (1, .ref x0), (0, .ref b)]) : W p l e room_1 s m #[Value.ref b] below meth c H locs 181 83004 (lw_Z below #[Value.ref b] s) (F0 m 382 ls []) := by
  obtain ⟨hx, hb, hr, hml, hown, hts0, hX, hbl, hlocks, hgv⟩ := id C0
  have hts : ∀ w ∈ gt, w.before #[Value.ref b] s = true := fun w hw => hts0 w (List.mem_filter.mp hw).1
  have hown : s.vm.findClass RL = some m.cls := hown
  have hb : c.code = cL_law := hb
  have hA : ∀ q : Nat, s.heap.size ≤ q → (fun q : Nat => s.heap.size ≤ q) q := fun _ h => h
  have hbA : ¬ (fun q : Nat => s.heap.size ≤ q) b := Nat.not_le.mpr hbl
  have hK := hC.1
  refine lv_aload_n hx hb dL_law_382 rfl (lv_at hl 2 rfl) ?_
  refine lv_aload_n hx hb dL_law_383 rfl (lv_at hl 3 rfl) ?_
  refine lv_iload_n hx hb dL_law_384 rfl (lv_at hl 0 rfl) ?_
  refine lv_iconst (v := 1) hx hb dL_law_385 (by decide) ?_
  refine lv_iadd hx hb dL_law_386 ?_
  refine eqi (v := 1) (by decide) ?_
  refine va_sld hx hb hX hbl hbA hS (by unfold vp_in; decide) dL_law_387 ?_
  refine eqi (v := xs 1) rfl ?_
  refine lv_aload_n hx hb dL_law_388 rfl (lv_at hl 3 rfl) ?_
  refine lv_iload_n hx hb dL_law_389 rfl (lv_at hl 0 rfl) ?_
  refine lv_iconst (v := 2) hx hb dL_law_390 (by decide) ?_
  refine lv_iadd hx hb dL_law_391 ?_
  refine eqi (v := 2) (by decide) ?_
  refine va_sld hx hb hX hbl hbA hS (by unfold vp_in; decide) dL_law_392 ?_
  refine eqi (v := xs 2) rfl ?_
  refine lv_aload_n hx hb dL_law_393 rfl (lv_at hl 3 rfl) ?_
  refine lv_iload_n hx hb dL_law_394 rfl (lv_at hl 0 rfl) ?_
  refine lv_iconst (v := 3) hx hb dL_law_395 (by decide) ?_
  refine lv_iadd hx hb dL_law_396 ?_
  refine eqi (v := 3) (by decide) ?_
  refine va_sld hx hb hX hbl hbA hS (by unfold vp_in; decide) dL_law_397 ?_
  refine eqi (v := xs 3) rfl ?_
  refine puI (cV (As := [.int (xs 1), .int (xs 2), .int (xs 3)]) (rest := []) ⟨hx, hb, hml, hown, hts⟩ (c_X10_may l D T x0 (u 0) (u 2) (u 15) (u 16) (u 17) (u 18) (u 19) (u 20) (u 21) (u 22) (u 23) (u 24) (u 25) (u 26) (u 27) (u 36) (u 37) (u 38) (u 130) (u 131) (u 132) (u 141) (u 144) (u 150) (u 151) (xs 1) (xs 2) (xs 3)) k_X10_may v_X10_may m748 rfl rfl ⟨(Nat.le_of_ble_eq_true rfl), (Nat.le_of_ble_eq_true rfl)⟩ (preP hC (hP.sub (ws' := [(x0, .inr (10, [.ref (u 0), .ref (u 2), .ref (u 15), .ref (u 38), .ref (u 130), .ref (u 131), .ref (u 132), .ref (u 141), .ref (u 144), .ref (u 150), .ref (u 151)])), ((u 15), .inr (3, [.ref (u 16), .ref (u 27), .int 0, .int 0, .int 2, .long 0, .int 0, .ref (u 36), .ref (u 37)])), ((u 16), .inr (5, [.int 0, .int 0, .int 0, .int 0, .int 0, .int 0, .int 0, .int 0, .int 0, .ref (u 17), .ref (u 18), .ref (u 19), .ref (u 20), .ref (u 21), .ref (u 22), .ref (u 23), .ref (u 24), .ref (u 25), .ref (u 26)]))]) [0, 16, 17] rfl)) (va_recv hK hP (ci := 10) (q0 := 0) rfl rfl) rfl hl.1 rfl (Nat.le_of_ble_eq_true rfl) dL_law_398 ⟨(Nat.le_of_ble_eq_true rfl), (Nat.le_of_ble_eq_true rfl)⟩) hS hP (fun r_1 H locs hw hP hS => ?_)
  have c_3 : r_1 = (-2) := hw
  refine lv_aload_n hx hb dL_law_401 rfl (lv_at hl 1 rfl) ?_
  refine lv_aload_n hx hb dL_law_402 rfl (lv_at hl 3 rfl) ?_
  refine lv_iload_n hx hb dL_law_403 rfl (lv_at hl 0 rfl) ?_
  refine lv_iconst (v := 1) hx hb dL_law_404 (by decide) ?_
  refine lv_iadd hx hb dL_law_405 ?_
  refine eqi (v := 1) (by decide) ?_
  refine va_sld hx hb hX hbl hbA hS (by unfold vp_in; decide) dL_law_406 ?_
  refine eqi (v := xs 1) rfl ?_
  refine lv_aload_n hx hb dL_law_407 rfl (lv_at hl 3 rfl) ?_
  refine lv_iload_n hx hb dL_law_408 rfl (lv_at hl 0 rfl) ?_
  refine lv_iconst (v := 2) hx hb dL_law_409 (by decide) ?_
  refine lv_iadd hx hb dL_law_410 ?_
  refine eqi (v := 2) (by decide) ?_
  refine va_sld hx hb hX hbl hbA hS (by unfold vp_in; decide) dL_law_411 ?_
  refine eqi (v := xs 2) rfl ?_
  refine lv_aload_n hx hb dL_law_412 rfl (lv_at hl 3 rfl) ?_
  refine lv_iload_n hx hb dL_law_413 rfl (lv_at hl 0 rfl) ?_
  refine lv_iconst (v := 3) hx hb dL_law_414 (by decide) ?_
  refine lv_iadd hx hb dL_law_415 ?_
  refine eqi (v := 3) (by decide) ?_
  refine va_sld hx hb hX hbl hbA hS (by unfold vp_in; decide) dL_law_416 ?_
  refine eqi (v := xs 3) rfl ?_
  refine mtId (wr := []) (cV (As := [.int (xs 1), .int (xs 2), .int (xs 3)]) (rest := [.int r_1]) ⟨hx, hb, hml, hown, hts⟩ (c_m_may l D T (v 1) (v 16) (v 17) (v 18) (v 19) (v 2) (v 20) (v 21) (v 22) (v 23) (v 24) (v 25) (v 26) (v 27) (v 28) (v 29) (v 3) (v 30) (v 31) (v 32) (v 36) (v 4) (v 40) (v 41) (v 42) (v 5) m0 (xs 1) (xs 2) (xs 3) _) k_X11_may_ v_X11_may_ m1607 rfl rfl ⟨(Nat.le_of_ble_eq_true rfl), (Nat.le_of_ble_eq_true rfl)⟩ (preM hC (hP.sub (ws' := [(m0, .inr (11, [.int 0, .ref (v 1), .ref (v 2), .ref (v 3), .ref (v 4), .ref (v 5), .int 0, .int 0, .int 0, .int 0, .int 0, .long 0, .int 0, .int 0, .int 0, .int (-1), .ref (v 16), .ref (v 17), .ref (v 18), .ref (v 19), .ref (v 20), .ref (v 21), .ref (v 22), .ref (v 23), .ref (v 24), .ref (v 25), .ref (v 26), .ref (v 27), .ref (v 28), .ref (v 29), .ref (v 30), .ref (v 31), .ref (v 32), .int 0, .int 0, .int 0, .ref (v 36), .int 0, .int 0, .int 0, .ref (v 40), .ref (v 41), .ref (v 42), .int 0, .long 0])), ((v 17), .inl (T 0, 15, .inl (fun _ => 0)))]) [154, 161] rfl) (hD.sub (ws' := [(m0, .inr (11, [.int 0, .ref (v 1), .ref (v 2), .ref (v 3), .ref (v 4), .ref (v 5), .int 0, .int 0, .int 0, .int 0, .int 0, .long 0, .int 0, .int 0, .int 0, .int (-1), .ref (v 16), .ref (v 17), .ref (v 18), .ref (v 19), .ref (v 20), .ref (v 21), .ref (v 22), .ref (v 23), .ref (v 24), .ref (v 25), .ref (v 26), .ref (v 27), .ref (v 28), .ref (v 29), .ref (v 30), .ref (v 31), .ref (v 32), .int 0, .int 0, .int 0, .ref (v 36), .int 0, .int 0, .int 0, .ref (v 40), .ref (v 41), .ref (v 42), .int 0, .long 0])), ((v 17), .inl (T 0, 15, .inl (fun _ => 0)))]) [154, 161] (by decide) rfl)) (va_recv hK hP (ci := 11) (q0 := 154) rfl rfl) rfl hl.1 rfl (Nat.le_of_ble_eq_true rfl) dL_law_417 ⟨(Nat.le_of_ble_eq_true rfl), (Nat.le_of_ble_eq_true rfl)⟩) hS hA hP hD [154, 161] [] rfl rfl (by decide) (by decide) (fun r_4 u_5 H locs hw hP hD hS => ?_)
  have c_6 : r_4 = (-2) := hw
  refine lv_icmp_eq (tgt := 1862) hx hb dL_law_420 (by decide) (fun _ => ?_) (fun h => absurd (c_3.trans c_6.symm) h)
  refine lv_iinc (v := 6) (lv' := [(3, .int 6), (2, .ref m0), (1, .ref x0), (0, .ref b)]) hx hb dL_law_1862 hl (k := 0) rfl (by decide) (by decide) rfl (fun ls hl => ?_)
  refine lv_goto (tgt := 18) hx hb dL_law_1865 (by decide) ?_
  refine lv_iload_n hx hb dL_law_18 rfl (lv_at hl 0 rfl) ?_
  refine lv_aload_n hx hb dL_law_19 rfl (lv_at hl 3 rfl) ?_
  refine va_slen hx hb hX hbl hbA hS dL_law_20 ?_
  refine eqi (v := 6) (by decide) ?_
  refine lv_bipush (v := 6) hx hb dL_law_21 (by decide) ?_
  refine lv_isub hx hb dL_law_23 ?_
  refine eqi (v := 0) (by decide) ?_
  refine lv_icmp_gt (tgt := 1868) hx hb dL_law_24 (by decide) (fun _ => ?_) (fun c_7 => absurd (by decide) c_7)
  refine lv_iconst (v := 1) hx hb dL_law_1868 (by decide) ?_
  refine va_forget (fun q hq => hS.2.2 q hq) ?_
  refine W.widen (k := 600000) (n := 7302250) (Nat.le_of_ble_eq_true rfl) (Nat.le_of_ble_eq_true rfl) ?_
  exact lw_ret hx hb hr hlocks dL_law_1869

set_option maxHeartbeats 4000000 in
set_option maxRecDepth 100000 in
theorem lawcase_5 {p : Program} {e : Env} {s : State} {m : MethodId} {below : List Frame} {meth : Method} {c : Code} (l : Launch) {b : Nat} {xs : Nat → Int32} (C0 : lw_At p s m meth c b 6 xs) {D : va_G} {T : Nat → ClassId} (hC : cx D T s) {H : Heap} {locs : List Loc} (x0 m0 : Nat) (u v : Nat → Nat) (hP : va_P D vwCl (lawW T x0 m0 u v) H) (hD : va_D (fun q : Nat => s.heap.size ≤ q) (lawW T x0 m0 u v)) (hS : va_S (fun q : Nat => s.heap.size ≤ q) s.heap H locs) {ls : Array Slot} (hl : lv_has ls 4 [(3, .int 0), (2, .ref m0), (1, .ref x0), (0, .ref b)]) : W p l e room_1 s m #[Value.ref b] below meth c H locs 181 83004 (lw_Z below #[Value.ref b] s) (F0 m 425 ls []) := by
  obtain ⟨hx, hb, hr, hml, hown, hts0, hX, hbl, hlocks, hgv⟩ := id C0
  have hts : ∀ w ∈ gt, w.before #[Value.ref b] s = true := fun w hw => hts0 w (List.mem_filter.mp hw).1
  have hown : s.vm.findClass RL = some m.cls := hown
  have hb : c.code = cL_law := hb
  have hA : ∀ q : Nat, s.heap.size ≤ q → (fun q : Nat => s.heap.size ≤ q) q := fun _ h => h
  have hbA : ¬ (fun q : Nat => s.heap.size ≤ q) b := Nat.not_le.mpr hbl
  have hK := hC.1
  refine lv_aload_n hx hb dL_law_425 rfl (lv_at hl 2 rfl) ?_
  refine lv_aload_n hx hb dL_law_426 rfl (lv_at hl 3 rfl) ?_
  refine lv_iload_n hx hb dL_law_427 rfl (lv_at hl 0 rfl) ?_
  refine lv_iconst (v := 1) hx hb dL_law_428 (by decide) ?_
  refine lv_iadd hx hb dL_law_429 ?_
  refine eqi (v := 1) (by decide) ?_
  refine va_sld hx hb hX hbl hbA hS (by unfold vp_in; decide) dL_law_430 ?_
  refine eqi (v := xs 1) rfl ?_
  refine lv_aload_n hx hb dL_law_431 rfl (lv_at hl 3 rfl) ?_
  refine lv_iload_n hx hb dL_law_432 rfl (lv_at hl 0 rfl) ?_
  refine lv_iconst (v := 2) hx hb dL_law_433 (by decide) ?_
  refine lv_iadd hx hb dL_law_434 ?_
  refine eqi (v := 2) (by decide) ?_
  refine va_sld hx hb hX hbl hbA hS (by unfold vp_in; decide) dL_law_435 ?_
  refine eqi (v := xs 2) rfl ?_
  refine lv_aload_n hx hb dL_law_436 rfl (lv_at hl 3 rfl) ?_
  refine lv_iload_n hx hb dL_law_437 rfl (lv_at hl 0 rfl) ?_
  refine lv_iconst (v := 3) hx hb dL_law_438 (by decide) ?_
  refine lv_iadd hx hb dL_law_439 ?_
  refine eqi (v := 3) (by decide) ?_
  refine va_sld hx hb hX hbl hbA hS (by unfold vp_in; decide) dL_law_440 ?_
  refine eqi (v := xs 3) rfl ?_
  refine puI (cV (As := [.int (xs 1), .int (xs 2), .int (xs 3)]) (rest := []) ⟨hx, hb, hml, hown, hts⟩ (c_X10_lay l D T x0 (u 0) (u 2) (u 15) (u 16) (u 17) (u 18) (u 19) (u 20) (u 21) (u 22) (u 23) (u 24) (u 25) (u 26) (u 27) (u 36) (u 37) (u 38) (u 130) (u 131) (u 132) (u 141) (u 144) (u 150) (u 151) (xs 1) (xs 2) (xs 3)) k_X10_lay v_X10_lay m775 rfl rfl ⟨(Nat.le_of_ble_eq_true rfl), (Nat.le_of_ble_eq_true rfl)⟩ (preP hC (hP.sub (ws' := [(x0, .inr (10, [.ref (u 0), .ref (u 2), .ref (u 15), .ref (u 38), .ref (u 130), .ref (u 131), .ref (u 132), .ref (u 141), .ref (u 144), .ref (u 150), .ref (u 151)])), ((u 15), .inr (3, [.ref (u 16), .ref (u 27), .int 0, .int 0, .int 2, .long 0, .int 0, .ref (u 36), .ref (u 37)])), ((u 16), .inr (5, [.int 0, .int 0, .int 0, .int 0, .int 0, .int 0, .int 0, .int 0, .int 0, .ref (u 17), .ref (u 18), .ref (u 19), .ref (u 20), .ref (u 21), .ref (u 22), .ref (u 23), .ref (u 24), .ref (u 25), .ref (u 26)]))]) [0, 16, 17] rfl)) (va_recv hK hP (ci := 10) (q0 := 0) rfl rfl) rfl hl.1 rfl (Nat.le_of_ble_eq_true rfl) dL_law_441 ⟨(Nat.le_of_ble_eq_true rfl), (Nat.le_of_ble_eq_true rfl)⟩) hS hP (fun r_1 H locs hw hP hS => ?_)
  have c_3 : r_1 = (-2) := hw
  refine lv_aload_n hx hb dL_law_444 rfl (lv_at hl 1 rfl) ?_
  refine lv_aload_n hx hb dL_law_445 rfl (lv_at hl 3 rfl) ?_
  refine lv_iload_n hx hb dL_law_446 rfl (lv_at hl 0 rfl) ?_
  refine lv_iconst (v := 1) hx hb dL_law_447 (by decide) ?_
  refine lv_iadd hx hb dL_law_448 ?_
  refine eqi (v := 1) (by decide) ?_
  refine va_sld hx hb hX hbl hbA hS (by unfold vp_in; decide) dL_law_449 ?_
  refine eqi (v := xs 1) rfl ?_
  refine lv_aload_n hx hb dL_law_450 rfl (lv_at hl 3 rfl) ?_
  refine lv_iload_n hx hb dL_law_451 rfl (lv_at hl 0 rfl) ?_
  refine lv_iconst (v := 2) hx hb dL_law_452 (by decide) ?_
  refine lv_iadd hx hb dL_law_453 ?_
  refine eqi (v := 2) (by decide) ?_
  refine va_sld hx hb hX hbl hbA hS (by unfold vp_in; decide) dL_law_454 ?_
  refine eqi (v := xs 2) rfl ?_
  refine lv_aload_n hx hb dL_law_455 rfl (lv_at hl 3 rfl) ?_
  refine lv_iload_n hx hb dL_law_456 rfl (lv_at hl 0 rfl) ?_
  refine lv_iconst (v := 3) hx hb dL_law_457 (by decide) ?_
  refine lv_iadd hx hb dL_law_458 ?_
  refine eqi (v := 3) (by decide) ?_
  refine va_sld hx hb hX hbl hbA hS (by unfold vp_in; decide) dL_law_459 ?_
  refine eqi (v := xs 3) rfl ?_
  refine mtId (wr := []) (cV (As := [.int (xs 1), .int (xs 2), .int (xs 3)]) (rest := [.int r_1]) ⟨hx, hb, hml, hown, hts⟩ (c_m_lay l D T (v 1) (v 16) (v 17) (v 18) (v 19) (v 2) (v 20) (v 21) (v 22) (v 23) (v 24) (v 25) (v 26) (v 27) (v 28) (v 29) (v 3) (v 30) (v 31) (v 32) (v 36) (v 4) (v 40) (v 41) (v 42) (v 5) m0 (xs 1) (xs 2) (xs 3) _) k_X11_lay v_X11_lay m1640 rfl rfl ⟨(Nat.le_of_ble_eq_true rfl), (Nat.le_of_ble_eq_true rfl)⟩ (preM hC (hP.sub (ws' := [(m0, .inr (11, [.int 0, .ref (v 1), .ref (v 2), .ref (v 3), .ref (v 4), .ref (v 5), .int 0, .int 0, .int 0, .int 0, .int 0, .long 0, .int 0, .int 0, .int 0, .int (-1), .ref (v 16), .ref (v 17), .ref (v 18), .ref (v 19), .ref (v 20), .ref (v 21), .ref (v 22), .ref (v 23), .ref (v 24), .ref (v 25), .ref (v 26), .ref (v 27), .ref (v 28), .ref (v 29), .ref (v 30), .ref (v 31), .ref (v 32), .int 0, .int 0, .int 0, .ref (v 36), .int 0, .int 0, .int 0, .ref (v 40), .ref (v 41), .ref (v 42), .int 0, .long 0])), ((v 17), .inl (T 0, 15, .inl (fun _ => 0)))]) [154, 161] rfl) (hD.sub (ws' := [(m0, .inr (11, [.int 0, .ref (v 1), .ref (v 2), .ref (v 3), .ref (v 4), .ref (v 5), .int 0, .int 0, .int 0, .int 0, .int 0, .long 0, .int 0, .int 0, .int 0, .int (-1), .ref (v 16), .ref (v 17), .ref (v 18), .ref (v 19), .ref (v 20), .ref (v 21), .ref (v 22), .ref (v 23), .ref (v 24), .ref (v 25), .ref (v 26), .ref (v 27), .ref (v 28), .ref (v 29), .ref (v 30), .ref (v 31), .ref (v 32), .int 0, .int 0, .int 0, .ref (v 36), .int 0, .int 0, .int 0, .ref (v 40), .ref (v 41), .ref (v 42), .int 0, .long 0])), ((v 17), .inl (T 0, 15, .inl (fun _ => 0)))]) [154, 161] (by decide) rfl)) (va_recv hK hP (ci := 11) (q0 := 154) rfl rfl) rfl hl.1 rfl (Nat.le_of_ble_eq_true rfl) dL_law_460 ⟨(Nat.le_of_ble_eq_true rfl), (Nat.le_of_ble_eq_true rfl)⟩) hS hA hP hD [154, 161] [] rfl rfl (by decide) (by decide) (fun r_4 u_5 H locs hw hP hD hS => ?_)
  have c_6 : r_4 = (-2) := hw
  refine lv_icmp_eq (tgt := 1862) hx hb dL_law_463 (by decide) (fun _ => ?_) (fun h => absurd (c_3.trans c_6.symm) h)
  refine lv_iinc (v := 6) (lv' := [(3, .int 6), (2, .ref m0), (1, .ref x0), (0, .ref b)]) hx hb dL_law_1862 hl (k := 0) rfl (by decide) (by decide) rfl (fun ls hl => ?_)
  refine lv_goto (tgt := 18) hx hb dL_law_1865 (by decide) ?_
  refine lv_iload_n hx hb dL_law_18 rfl (lv_at hl 0 rfl) ?_
  refine lv_aload_n hx hb dL_law_19 rfl (lv_at hl 3 rfl) ?_
  refine va_slen hx hb hX hbl hbA hS dL_law_20 ?_
  refine eqi (v := 6) (by decide) ?_
  refine lv_bipush (v := 6) hx hb dL_law_21 (by decide) ?_
  refine lv_isub hx hb dL_law_23 ?_
  refine eqi (v := 0) (by decide) ?_
  refine lv_icmp_gt (tgt := 1868) hx hb dL_law_24 (by decide) (fun _ => ?_) (fun c_7 => absurd (by decide) c_7)
  refine lv_iconst (v := 1) hx hb dL_law_1868 (by decide) ?_
  refine va_forget (fun q hq => hS.2.2 q hq) ?_
  refine W.widen (k := 600000) (n := 7302250) (Nat.le_of_ble_eq_true rfl) (Nat.le_of_ble_eq_true rfl) ?_
  exact lw_ret hx hb hr hlocks dL_law_1869

set_option maxHeartbeats 4000000 in
set_option maxRecDepth 100000 in
theorem lawcase_6 {p : Program} {e : Env} {s : State} {m : MethodId} {below : List Frame} {meth : Method} {c : Code} (l : Launch) {b : Nat} {xs : Nat → Int32} (C0 : lw_At p s m meth c b 6 xs) {D : va_G} {T : Nat → ClassId} (hC : cx D T s) {H : Heap} {locs : List Loc} (x0 m0 : Nat) (u v : Nat → Nat) (hP : va_P D vwCl (lawW T x0 m0 u v) H) (hD : va_D (fun q : Nat => s.heap.size ≤ q) (lawW T x0 m0 u v)) (hS : va_S (fun q : Nat => s.heap.size ≤ q) s.heap H locs) {ls : Array Slot} (hl : lv_has ls 4 [(3, .int 0), (2, .ref m0), (1, .ref x0), (0, .ref b)]) : W p l e room_1 s m #[Value.ref b] below meth c H locs 181 83004 (lw_Z below #[Value.ref b] s) (F0 m 468 ls []) := by
  obtain ⟨hx, hb, hr, hml, hown, hts0, hX, hbl, hlocks, hgv⟩ := id C0
  have hts : ∀ w ∈ gt, w.before #[Value.ref b] s = true := fun w hw => hts0 w (List.mem_filter.mp hw).1
  have hown : s.vm.findClass RL = some m.cls := hown
  have hb : c.code = cL_law := hb
  have hA : ∀ q : Nat, s.heap.size ≤ q → (fun q : Nat => s.heap.size ≤ q) q := fun _ h => h
  have hbA : ¬ (fun q : Nat => s.heap.size ≤ q) b := Nat.not_le.mpr hbl
  have hK := hC.1
  refine lv_aload_n hx hb dL_law_468 rfl (lv_at hl 2 rfl) ?_
  refine lv_aload_n hx hb dL_law_469 rfl (lv_at hl 3 rfl) ?_
  refine lv_iload_n hx hb dL_law_470 rfl (lv_at hl 0 rfl) ?_
  refine lv_iconst (v := 1) hx hb dL_law_471 (by decide) ?_
  refine lv_iadd hx hb dL_law_472 ?_
  refine eqi (v := 1) (by decide) ?_
  refine va_sld hx hb hX hbl hbA hS (by unfold vp_in; decide) dL_law_473 ?_
  refine eqi (v := xs 1) rfl ?_
  refine lv_aload_n hx hb dL_law_474 rfl (lv_at hl 3 rfl) ?_
  refine lv_iload_n hx hb dL_law_475 rfl (lv_at hl 0 rfl) ?_
  refine lv_iconst (v := 2) hx hb dL_law_476 (by decide) ?_
  refine lv_iadd hx hb dL_law_477 ?_
  refine eqi (v := 2) (by decide) ?_
  refine va_sld hx hb hX hbl hbA hS (by unfold vp_in; decide) dL_law_478 ?_
  refine eqi (v := xs 2) rfl ?_
  refine puI (cV (As := [.int (xs 1), .int (xs 2)]) (rest := []) ⟨hx, hb, hml, hown, hts⟩ (c_X10_take l D T x0 (u 0) (u 2) (u 15) (u 16) (u 17) (u 18) (u 19) (u 20) (u 21) (u 22) (u 23) (u 24) (u 25) (u 26) (u 27) (u 36) (u 37) (u 38) (u 130) (u 131) (u 132) (u 141) (u 144) (u 150) (u 151) (xs 1) (xs 2)) k_X10_take v_X10_take m791 rfl rfl ⟨(Nat.le_of_ble_eq_true rfl), (Nat.le_of_ble_eq_true rfl)⟩ (preP hC (hP.sub (ws' := [(x0, .inr (10, [.ref (u 0), .ref (u 2), .ref (u 15), .ref (u 38), .ref (u 130), .ref (u 131), .ref (u 132), .ref (u 141), .ref (u 144), .ref (u 150), .ref (u 151)])), ((u 15), .inr (3, [.ref (u 16), .ref (u 27), .int 0, .int 0, .int 2, .long 0, .int 0, .ref (u 36), .ref (u 37)])), ((u 16), .inr (5, [.int 0, .int 0, .int 0, .int 0, .int 0, .int 0, .int 0, .int 0, .int 0, .ref (u 17), .ref (u 18), .ref (u 19), .ref (u 20), .ref (u 21), .ref (u 22), .ref (u 23), .ref (u 24), .ref (u 25), .ref (u 26)]))]) [0, 16, 17] rfl)) (va_recv hK hP (ci := 10) (q0 := 0) rfl rfl) rfl hl.1 rfl (Nat.le_of_ble_eq_true rfl) dL_law_479 ⟨(Nat.le_of_ble_eq_true rfl), (Nat.le_of_ble_eq_true rfl)⟩) hS hP (fun r_1 H locs hw hP hS => ?_)
  have c_3 : r_1 = (-2) := hw
  refine lv_aload_n hx hb dL_law_482 rfl (lv_at hl 1 rfl) ?_
  refine lv_aload_n hx hb dL_law_483 rfl (lv_at hl 3 rfl) ?_
  refine lv_iload_n hx hb dL_law_484 rfl (lv_at hl 0 rfl) ?_
  refine lv_iconst (v := 1) hx hb dL_law_485 (by decide) ?_
  refine lv_iadd hx hb dL_law_486 ?_
  refine eqi (v := 1) (by decide) ?_
  refine va_sld hx hb hX hbl hbA hS (by unfold vp_in; decide) dL_law_487 ?_
  refine eqi (v := xs 1) rfl ?_
  refine lv_aload_n hx hb dL_law_488 rfl (lv_at hl 3 rfl) ?_
  refine lv_iload_n hx hb dL_law_489 rfl (lv_at hl 0 rfl) ?_
  refine lv_iconst (v := 2) hx hb dL_law_490 (by decide) ?_
  refine lv_iadd hx hb dL_law_491 ?_
  refine eqi (v := 2) (by decide) ?_
  refine va_sld hx hb hX hbl hbA hS (by unfold vp_in; decide) dL_law_492 ?_
  refine eqi (v := xs 2) rfl ?_
  refine mtId (wr := []) (cV (As := [.int (xs 1), .int (xs 2)]) (rest := [.int r_1]) ⟨hx, hb, hml, hown, hts⟩ (c_m_take l D T (v 1) (v 16) (v 17) (v 18) (v 19) (v 2) (v 20) (v 21) (v 22) (v 23) (v 24) (v 25) (v 26) (v 27) (v 28) (v 29) (v 3) (v 30) (v 31) (v 32) (v 36) (v 4) (v 40) (v 41) (v 42) (v 5) m0 (xs 1) (xs 2) _) k_X11_take v_X11_take m1648 rfl rfl ⟨(Nat.le_of_ble_eq_true rfl), (Nat.le_of_ble_eq_true rfl)⟩ (preM hC (hP.sub (ws' := [(m0, .inr (11, [.int 0, .ref (v 1), .ref (v 2), .ref (v 3), .ref (v 4), .ref (v 5), .int 0, .int 0, .int 0, .int 0, .int 0, .long 0, .int 0, .int 0, .int 0, .int (-1), .ref (v 16), .ref (v 17), .ref (v 18), .ref (v 19), .ref (v 20), .ref (v 21), .ref (v 22), .ref (v 23), .ref (v 24), .ref (v 25), .ref (v 26), .ref (v 27), .ref (v 28), .ref (v 29), .ref (v 30), .ref (v 31), .ref (v 32), .int 0, .int 0, .int 0, .ref (v 36), .int 0, .int 0, .int 0, .ref (v 40), .ref (v 41), .ref (v 42), .int 0, .long 0])), ((v 17), .inl (T 0, 15, .inl (fun _ => 0)))]) [154, 161] rfl) (hD.sub (ws' := [(m0, .inr (11, [.int 0, .ref (v 1), .ref (v 2), .ref (v 3), .ref (v 4), .ref (v 5), .int 0, .int 0, .int 0, .int 0, .int 0, .long 0, .int 0, .int 0, .int 0, .int (-1), .ref (v 16), .ref (v 17), .ref (v 18), .ref (v 19), .ref (v 20), .ref (v 21), .ref (v 22), .ref (v 23), .ref (v 24), .ref (v 25), .ref (v 26), .ref (v 27), .ref (v 28), .ref (v 29), .ref (v 30), .ref (v 31), .ref (v 32), .int 0, .int 0, .int 0, .ref (v 36), .int 0, .int 0, .int 0, .ref (v 40), .ref (v 41), .ref (v 42), .int 0, .long 0])), ((v 17), .inl (T 0, 15, .inl (fun _ => 0)))]) [154, 161] (by decide) rfl)) (va_recv hK hP (ci := 11) (q0 := 154) rfl rfl) rfl hl.1 rfl (Nat.le_of_ble_eq_true rfl) dL_law_493 ⟨(Nat.le_of_ble_eq_true rfl), (Nat.le_of_ble_eq_true rfl)⟩) hS hA hP hD [154, 161] [] rfl rfl (by decide) (by decide) (fun r_4 u_5 H locs hw hP hD hS => ?_)
  have c_6 : r_4 = (-2) := hw
  refine lv_icmp_eq (tgt := 1862) hx hb dL_law_496 (by decide) (fun _ => ?_) (fun h => absurd (c_3.trans c_6.symm) h)
  refine lv_iinc (v := 6) (lv' := [(3, .int 6), (2, .ref m0), (1, .ref x0), (0, .ref b)]) hx hb dL_law_1862 hl (k := 0) rfl (by decide) (by decide) rfl (fun ls hl => ?_)
  refine lv_goto (tgt := 18) hx hb dL_law_1865 (by decide) ?_
  refine lv_iload_n hx hb dL_law_18 rfl (lv_at hl 0 rfl) ?_
  refine lv_aload_n hx hb dL_law_19 rfl (lv_at hl 3 rfl) ?_
  refine va_slen hx hb hX hbl hbA hS dL_law_20 ?_
  refine eqi (v := 6) (by decide) ?_
  refine lv_bipush (v := 6) hx hb dL_law_21 (by decide) ?_
  refine lv_isub hx hb dL_law_23 ?_
  refine eqi (v := 0) (by decide) ?_
  refine lv_icmp_gt (tgt := 1868) hx hb dL_law_24 (by decide) (fun _ => ?_) (fun c_7 => absurd (by decide) c_7)
  refine lv_iconst (v := 1) hx hb dL_law_1868 (by decide) ?_
  refine va_forget (fun q hq => hS.2.2 q hq) ?_
  refine W.widen (k := 600000) (n := 7302250) (Nat.le_of_ble_eq_true rfl) (Nat.le_of_ble_eq_true rfl) ?_
  exact lw_ret hx hb hr hlocks dL_law_1869

set_option maxHeartbeats 4000000 in
set_option maxRecDepth 100000 in
theorem lawcase_7 {p : Program} {e : Env} {s : State} {m : MethodId} {below : List Frame} {meth : Method} {c : Code} (l : Launch) {b : Nat} {xs : Nat → Int32} (C0 : lw_At p s m meth c b 6 xs) {D : va_G} {T : Nat → ClassId} (hC : cx D T s) {H : Heap} {locs : List Loc} (x0 m0 : Nat) (u v : Nat → Nat) (hP : va_P D vwCl (lawW T x0 m0 u v) H) (hD : va_D (fun q : Nat => s.heap.size ≤ q) (lawW T x0 m0 u v)) (hS : va_S (fun q : Nat => s.heap.size ≤ q) s.heap H locs) {ls : Array Slot} (hl : lv_has ls 4 [(3, .int 0), (2, .ref m0), (1, .ref x0), (0, .ref b)]) : W p l e room_1 s m #[Value.ref b] below meth c H locs 181 83004 (lw_Z below #[Value.ref b] s) (F0 m 501 ls []) := by
  obtain ⟨hx, hb, hr, hml, hown, hts0, hX, hbl, hlocks, hgv⟩ := id C0
  have hts : ∀ w ∈ gt, w.before #[Value.ref b] s = true := fun w hw => hts0 w (List.mem_filter.mp hw).1
  have hown : s.vm.findClass RL = some m.cls := hown
  have hb : c.code = cL_law := hb
  have hA : ∀ q : Nat, s.heap.size ≤ q → (fun q : Nat => s.heap.size ≤ q) q := fun _ h => h
  have hbA : ¬ (fun q : Nat => s.heap.size ≤ q) b := Nat.not_le.mpr hbl
  have hK := hC.1
  refine lv_aload_n hx hb dL_law_501 rfl (lv_at hl 2 rfl) ?_
  refine lv_aload_n hx hb dL_law_502 rfl (lv_at hl 3 rfl) ?_
  refine lv_iload_n hx hb dL_law_503 rfl (lv_at hl 0 rfl) ?_
  refine lv_iconst (v := 1) hx hb dL_law_504 (by decide) ?_
  refine lv_iadd hx hb dL_law_505 ?_
  refine eqi (v := 1) (by decide) ?_
  refine va_sld hx hb hX hbl hbA hS (by unfold vp_in; decide) dL_law_506 ?_
  refine eqi (v := xs 1) rfl ?_
  refine lv_aload_n hx hb dL_law_507 rfl (lv_at hl 3 rfl) ?_
  refine lv_iload_n hx hb dL_law_508 rfl (lv_at hl 0 rfl) ?_
  refine lv_iconst (v := 2) hx hb dL_law_509 (by decide) ?_
  refine lv_iadd hx hb dL_law_510 ?_
  refine eqi (v := 2) (by decide) ?_
  refine va_sld hx hb hX hbl hbA hS (by unfold vp_in; decide) dL_law_511 ?_
  refine eqi (v := xs 2) rfl ?_
  refine lv_aload_n hx hb dL_law_512 rfl (lv_at hl 3 rfl) ?_
  refine lv_iload_n hx hb dL_law_513 rfl (lv_at hl 0 rfl) ?_
  refine lv_iconst (v := 3) hx hb dL_law_514 (by decide) ?_
  refine lv_iadd hx hb dL_law_515 ?_
  refine eqi (v := 3) (by decide) ?_
  refine va_sld hx hb hX hbl hbA hS (by unfold vp_in; decide) dL_law_516 ?_
  refine eqi (v := xs 3) rfl ?_
  refine lv_aload_n hx hb dL_law_517 rfl (lv_at hl 3 rfl) ?_
  refine lv_iload_n hx hb dL_law_518 rfl (lv_at hl 0 rfl) ?_
  refine lv_iconst (v := 4) hx hb dL_law_519 (by decide) ?_
  refine lv_iadd hx hb dL_law_520 ?_
  refine eqi (v := 4) (by decide) ?_
  refine va_sld hx hb hX hbl hbA hS (by unfold vp_in; decide) dL_law_521 ?_
  refine eqi (v := xs 4) rfl ?_
  refine puI (cV (As := [.int (xs 1), .int (xs 2), .int (xs 3), .int (xs 4)]) (rest := []) ⟨hx, hb, hml, hown, hts⟩ (c_X10_stone l D T x0 (u 0) (u 2) (u 15) (u 16) (u 17) (u 18) (u 19) (u 20) (u 21) (u 22) (u 23) (u 24) (u 25) (u 26) (u 27) (u 36) (u 37) (u 38) (u 130) (u 131) (u 132) (u 141) (u 144) (u 150) (u 151) (xs 1) (xs 2) (xs 3) (xs 4)) k_X10_stone v_X10_stone m799 rfl rfl ⟨(Nat.le_of_ble_eq_true rfl), (Nat.le_of_ble_eq_true rfl)⟩ (preP hC (hP.sub (ws' := [(x0, .inr (10, [.ref (u 0), .ref (u 2), .ref (u 15), .ref (u 38), .ref (u 130), .ref (u 131), .ref (u 132), .ref (u 141), .ref (u 144), .ref (u 150), .ref (u 151)])), ((u 15), .inr (3, [.ref (u 16), .ref (u 27), .int 0, .int 0, .int 2, .long 0, .int 0, .ref (u 36), .ref (u 37)])), ((u 16), .inr (5, [.int 0, .int 0, .int 0, .int 0, .int 0, .int 0, .int 0, .int 0, .int 0, .ref (u 17), .ref (u 18), .ref (u 19), .ref (u 20), .ref (u 21), .ref (u 22), .ref (u 23), .ref (u 24), .ref (u 25), .ref (u 26)]))]) [0, 16, 17] rfl)) (va_recv hK hP (ci := 10) (q0 := 0) rfl rfl) rfl hl.1 rfl (Nat.le_of_ble_eq_true rfl) dL_law_522 ⟨(Nat.le_of_ble_eq_true rfl), (Nat.le_of_ble_eq_true rfl)⟩) hS hP (fun r_1 H locs hw hP hS => ?_)
  have c_3 : r_1 = (-2) := hw
  refine lv_aload_n hx hb dL_law_525 rfl (lv_at hl 1 rfl) ?_
  refine lv_aload_n hx hb dL_law_526 rfl (lv_at hl 3 rfl) ?_
  refine lv_iload_n hx hb dL_law_527 rfl (lv_at hl 0 rfl) ?_
  refine lv_iconst (v := 1) hx hb dL_law_528 (by decide) ?_
  refine lv_iadd hx hb dL_law_529 ?_
  refine eqi (v := 1) (by decide) ?_
  refine va_sld hx hb hX hbl hbA hS (by unfold vp_in; decide) dL_law_530 ?_
  refine eqi (v := xs 1) rfl ?_
  refine lv_aload_n hx hb dL_law_531 rfl (lv_at hl 3 rfl) ?_
  refine lv_iload_n hx hb dL_law_532 rfl (lv_at hl 0 rfl) ?_
  refine lv_iconst (v := 2) hx hb dL_law_533 (by decide) ?_
  refine lv_iadd hx hb dL_law_534 ?_
  refine eqi (v := 2) (by decide) ?_
  refine va_sld hx hb hX hbl hbA hS (by unfold vp_in; decide) dL_law_535 ?_
  refine eqi (v := xs 2) rfl ?_
  refine lv_aload_n hx hb dL_law_536 rfl (lv_at hl 3 rfl) ?_
  refine lv_iload_n hx hb dL_law_537 rfl (lv_at hl 0 rfl) ?_
  refine lv_iconst (v := 3) hx hb dL_law_538 (by decide) ?_
  refine lv_iadd hx hb dL_law_539 ?_
  refine eqi (v := 3) (by decide) ?_
  refine va_sld hx hb hX hbl hbA hS (by unfold vp_in; decide) dL_law_540 ?_
  refine eqi (v := xs 3) rfl ?_
  refine lv_aload_n hx hb dL_law_541 rfl (lv_at hl 3 rfl) ?_
  refine lv_iload_n hx hb dL_law_542 rfl (lv_at hl 0 rfl) ?_
  refine lv_iconst (v := 4) hx hb dL_law_543 (by decide) ?_
  refine lv_iadd hx hb dL_law_544 ?_
  refine eqi (v := 4) (by decide) ?_
  refine va_sld hx hb hX hbl hbA hS (by unfold vp_in; decide) dL_law_545 ?_
  refine eqi (v := xs 4) rfl ?_
  refine mtId (wr := []) (cV (As := [.int (xs 1), .int (xs 2), .int (xs 3), .int (xs 4)]) (rest := [.int r_1]) ⟨hx, hb, hml, hown, hts⟩ (c_m_stone l D T (v 1) (v 16) (v 17) (v 18) (v 19) (v 2) (v 20) (v 21) (v 22) (v 23) (v 24) (v 25) (v 26) (v 27) (v 28) (v 29) (v 3) (v 30) (v 31) (v 32) (v 36) (v 4) (v 40) (v 41) (v 42) (v 5) m0 (xs 1) (xs 2) (xs 3) (xs 4) _) k_X11_stone v_X11_stone m1656 rfl rfl ⟨(Nat.le_of_ble_eq_true rfl), (Nat.le_of_ble_eq_true rfl)⟩ (preM hC (hP.sub (ws' := [(m0, .inr (11, [.int 0, .ref (v 1), .ref (v 2), .ref (v 3), .ref (v 4), .ref (v 5), .int 0, .int 0, .int 0, .int 0, .int 0, .long 0, .int 0, .int 0, .int 0, .int (-1), .ref (v 16), .ref (v 17), .ref (v 18), .ref (v 19), .ref (v 20), .ref (v 21), .ref (v 22), .ref (v 23), .ref (v 24), .ref (v 25), .ref (v 26), .ref (v 27), .ref (v 28), .ref (v 29), .ref (v 30), .ref (v 31), .ref (v 32), .int 0, .int 0, .int 0, .ref (v 36), .int 0, .int 0, .int 0, .ref (v 40), .ref (v 41), .ref (v 42), .int 0, .long 0])), ((v 17), .inl (T 0, 15, .inl (fun _ => 0)))]) [154, 161] rfl) (hD.sub (ws' := [(m0, .inr (11, [.int 0, .ref (v 1), .ref (v 2), .ref (v 3), .ref (v 4), .ref (v 5), .int 0, .int 0, .int 0, .int 0, .int 0, .long 0, .int 0, .int 0, .int 0, .int (-1), .ref (v 16), .ref (v 17), .ref (v 18), .ref (v 19), .ref (v 20), .ref (v 21), .ref (v 22), .ref (v 23), .ref (v 24), .ref (v 25), .ref (v 26), .ref (v 27), .ref (v 28), .ref (v 29), .ref (v 30), .ref (v 31), .ref (v 32), .int 0, .int 0, .int 0, .ref (v 36), .int 0, .int 0, .int 0, .ref (v 40), .ref (v 41), .ref (v 42), .int 0, .long 0])), ((v 17), .inl (T 0, 15, .inl (fun _ => 0)))]) [154, 161] (by decide) rfl)) (va_recv hK hP (ci := 11) (q0 := 154) rfl rfl) rfl hl.1 rfl (Nat.le_of_ble_eq_true rfl) dL_law_546 ⟨(Nat.le_of_ble_eq_true rfl), (Nat.le_of_ble_eq_true rfl)⟩) hS hA hP hD [154, 161] [] rfl rfl (by decide) (by decide) (fun r_4 u_5 H locs hw hP hD hS => ?_)
  have c_6 : r_4 = (-2) := hw
  refine lv_icmp_eq (tgt := 1862) hx hb dL_law_549 (by decide) (fun _ => ?_) (fun h => absurd (c_3.trans c_6.symm) h)
  refine lv_iinc (v := 6) (lv' := [(3, .int 6), (2, .ref m0), (1, .ref x0), (0, .ref b)]) hx hb dL_law_1862 hl (k := 0) rfl (by decide) (by decide) rfl (fun ls hl => ?_)
  refine lv_goto (tgt := 18) hx hb dL_law_1865 (by decide) ?_
  refine lv_iload_n hx hb dL_law_18 rfl (lv_at hl 0 rfl) ?_
  refine lv_aload_n hx hb dL_law_19 rfl (lv_at hl 3 rfl) ?_
  refine va_slen hx hb hX hbl hbA hS dL_law_20 ?_
  refine eqi (v := 6) (by decide) ?_
  refine lv_bipush (v := 6) hx hb dL_law_21 (by decide) ?_
  refine lv_isub hx hb dL_law_23 ?_
  refine eqi (v := 0) (by decide) ?_
  refine lv_icmp_gt (tgt := 1868) hx hb dL_law_24 (by decide) (fun _ => ?_) (fun c_7 => absurd (by decide) c_7)
  refine lv_iconst (v := 1) hx hb dL_law_1868 (by decide) ?_
  refine va_forget (fun q hq => hS.2.2 q hq) ?_
  refine W.widen (k := 600000) (n := 7302250) (Nat.le_of_ble_eq_true rfl) (Nat.le_of_ble_eq_true rfl) ?_
  exact lw_ret hx hb hr hlocks dL_law_1869

set_option maxHeartbeats 4000000 in
set_option maxRecDepth 100000 in
theorem lawcase_8 {p : Program} {e : Env} {s : State} {m : MethodId} {below : List Frame} {meth : Method} {c : Code} (l : Launch) {b : Nat} {xs : Nat → Int32} (C0 : lw_At p s m meth c b 6 xs) {D : va_G} {T : Nat → ClassId} (hC : cx D T s) {H : Heap} {locs : List Loc} (x0 m0 : Nat) (u v : Nat → Nat) (hP : va_P D vwCl (lawW T x0 m0 u v) H) (hD : va_D (fun q : Nat => s.heap.size ≤ q) (lawW T x0 m0 u v)) (hS : va_S (fun q : Nat => s.heap.size ≤ q) s.heap H locs) {ls : Array Slot} (hl : lv_has ls 4 [(3, .int 0), (2, .ref m0), (1, .ref x0), (0, .ref b)]) : W p l e room_1 s m #[Value.ref b] below meth c H locs 181 83004 (lw_Z below #[Value.ref b] s) (F0 m 554 ls []) := by
  obtain ⟨hx, hb, hr, hml, hown, hts0, hX, hbl, hlocks, hgv⟩ := id C0
  have hts : ∀ w ∈ gt, w.before #[Value.ref b] s = true := fun w hw => hts0 w (List.mem_filter.mp hw).1
  have hown : s.vm.findClass RL = some m.cls := hown
  have hb : c.code = cL_law := hb
  have hA : ∀ q : Nat, s.heap.size ≤ q → (fun q : Nat => s.heap.size ≤ q) q := fun _ h => h
  have hbA : ¬ (fun q : Nat => s.heap.size ≤ q) b := Nat.not_le.mpr hbl
  have hK := hC.1
  refine lv_aload_n hx hb dL_law_554 rfl (lv_at hl 2 rfl) ?_
  refine lv_aload_n hx hb dL_law_555 rfl (lv_at hl 3 rfl) ?_
  refine lv_iload_n hx hb dL_law_556 rfl (lv_at hl 0 rfl) ?_
  refine lv_iconst (v := 1) hx hb dL_law_557 (by decide) ?_
  refine lv_iadd hx hb dL_law_558 ?_
  refine eqi (v := 1) (by decide) ?_
  refine va_sld hx hb hX hbl hbA hS (by unfold vp_in; decide) dL_law_559 ?_
  refine eqi (v := xs 1) rfl ?_
  refine lv_aload_n hx hb dL_law_560 rfl (lv_at hl 3 rfl) ?_
  refine lv_iload_n hx hb dL_law_561 rfl (lv_at hl 0 rfl) ?_
  refine lv_iconst (v := 2) hx hb dL_law_562 (by decide) ?_
  refine lv_iadd hx hb dL_law_563 ?_
  refine eqi (v := 2) (by decide) ?_
  refine va_sld hx hb hX hbl hbA hS (by unfold vp_in; decide) dL_law_564 ?_
  refine eqi (v := xs 2) rfl ?_
  refine puI (cV (As := [.int (xs 1), .int (xs 2)]) (rest := []) ⟨hx, hb, hml, hown, hts⟩ (c_X10_side l D T x0 (u 0) (u 2) (u 15) (u 16) (u 17) (u 18) (u 19) (u 20) (u 21) (u 22) (u 23) (u 24) (u 25) (u 26) (u 27) (u 36) (u 37) (u 38) (u 130) (u 131) (u 132) (u 141) (u 144) (u 150) (u 151) (xs 1) (xs 2)) k_X10_side v_X10_side m812 rfl rfl ⟨(Nat.le_of_ble_eq_true rfl), (Nat.le_of_ble_eq_true rfl)⟩ (preP hC (hP.sub (ws' := [(x0, .inr (10, [.ref (u 0), .ref (u 2), .ref (u 15), .ref (u 38), .ref (u 130), .ref (u 131), .ref (u 132), .ref (u 141), .ref (u 144), .ref (u 150), .ref (u 151)])), ((u 15), .inr (3, [.ref (u 16), .ref (u 27), .int 0, .int 0, .int 2, .long 0, .int 0, .ref (u 36), .ref (u 37)])), ((u 16), .inr (5, [.int 0, .int 0, .int 0, .int 0, .int 0, .int 0, .int 0, .int 0, .int 0, .ref (u 17), .ref (u 18), .ref (u 19), .ref (u 20), .ref (u 21), .ref (u 22), .ref (u 23), .ref (u 24), .ref (u 25), .ref (u 26)]))]) [0, 16, 17] rfl)) (va_recv hK hP (ci := 10) (q0 := 0) rfl rfl) rfl hl.1 rfl (Nat.le_of_ble_eq_true rfl) dL_law_565 ⟨(Nat.le_of_ble_eq_true rfl), (Nat.le_of_ble_eq_true rfl)⟩) hS hP (fun r_1 H locs hw hP hS => ?_)
  have c_3 : r_1 = (-2) := hw
  refine lv_aload_n hx hb dL_law_568 rfl (lv_at hl 1 rfl) ?_
  refine lv_aload_n hx hb dL_law_569 rfl (lv_at hl 3 rfl) ?_
  refine lv_iload_n hx hb dL_law_570 rfl (lv_at hl 0 rfl) ?_
  refine lv_iconst (v := 1) hx hb dL_law_571 (by decide) ?_
  refine lv_iadd hx hb dL_law_572 ?_
  refine eqi (v := 1) (by decide) ?_
  refine va_sld hx hb hX hbl hbA hS (by unfold vp_in; decide) dL_law_573 ?_
  refine eqi (v := xs 1) rfl ?_
  refine lv_aload_n hx hb dL_law_574 rfl (lv_at hl 3 rfl) ?_
  refine lv_iload_n hx hb dL_law_575 rfl (lv_at hl 0 rfl) ?_
  refine lv_iconst (v := 2) hx hb dL_law_576 (by decide) ?_
  refine lv_iadd hx hb dL_law_577 ?_
  refine eqi (v := 2) (by decide) ?_
  refine va_sld hx hb hX hbl hbA hS (by unfold vp_in; decide) dL_law_578 ?_
  refine eqi (v := xs 2) rfl ?_
  refine mtId (wr := []) (cV (As := [.int (xs 1), .int (xs 2)]) (rest := [.int r_1]) ⟨hx, hb, hml, hown, hts⟩ (c_m_side l D T (v 1) (v 16) (v 17) (v 18) (v 19) (v 2) (v 20) (v 21) (v 22) (v 23) (v 24) (v 25) (v 26) (v 27) (v 28) (v 29) (v 3) (v 30) (v 31) (v 32) (v 36) (v 4) (v 40) (v 41) (v 42) (v 5) m0 (xs 1) (xs 2) _) k_X11_side v_X11_side m1664 rfl rfl ⟨(Nat.le_of_ble_eq_true rfl), (Nat.le_of_ble_eq_true rfl)⟩ (preM hC (hP.sub (ws' := [(m0, .inr (11, [.int 0, .ref (v 1), .ref (v 2), .ref (v 3), .ref (v 4), .ref (v 5), .int 0, .int 0, .int 0, .int 0, .int 0, .long 0, .int 0, .int 0, .int 0, .int (-1), .ref (v 16), .ref (v 17), .ref (v 18), .ref (v 19), .ref (v 20), .ref (v 21), .ref (v 22), .ref (v 23), .ref (v 24), .ref (v 25), .ref (v 26), .ref (v 27), .ref (v 28), .ref (v 29), .ref (v 30), .ref (v 31), .ref (v 32), .int 0, .int 0, .int 0, .ref (v 36), .int 0, .int 0, .int 0, .ref (v 40), .ref (v 41), .ref (v 42), .int 0, .long 0])), ((v 17), .inl (T 0, 15, .inl (fun _ => 0)))]) [154, 161] rfl) (hD.sub (ws' := [(m0, .inr (11, [.int 0, .ref (v 1), .ref (v 2), .ref (v 3), .ref (v 4), .ref (v 5), .int 0, .int 0, .int 0, .int 0, .int 0, .long 0, .int 0, .int 0, .int 0, .int (-1), .ref (v 16), .ref (v 17), .ref (v 18), .ref (v 19), .ref (v 20), .ref (v 21), .ref (v 22), .ref (v 23), .ref (v 24), .ref (v 25), .ref (v 26), .ref (v 27), .ref (v 28), .ref (v 29), .ref (v 30), .ref (v 31), .ref (v 32), .int 0, .int 0, .int 0, .ref (v 36), .int 0, .int 0, .int 0, .ref (v 40), .ref (v 41), .ref (v 42), .int 0, .long 0])), ((v 17), .inl (T 0, 15, .inl (fun _ => 0)))]) [154, 161] (by decide) rfl)) (va_recv hK hP (ci := 11) (q0 := 154) rfl rfl) rfl hl.1 rfl (Nat.le_of_ble_eq_true rfl) dL_law_579 ⟨(Nat.le_of_ble_eq_true rfl), (Nat.le_of_ble_eq_true rfl)⟩) hS hA hP hD [154, 161] [] rfl rfl (by decide) (by decide) (fun r_4 u_5 H locs hw hP hD hS => ?_)
  have c_6 : r_4 = (-2) := hw
  refine lv_icmp_eq (tgt := 1862) hx hb dL_law_582 (by decide) (fun _ => ?_) (fun h => absurd (c_3.trans c_6.symm) h)
  refine lv_iinc (v := 6) (lv' := [(3, .int 6), (2, .ref m0), (1, .ref x0), (0, .ref b)]) hx hb dL_law_1862 hl (k := 0) rfl (by decide) (by decide) rfl (fun ls hl => ?_)
  refine lv_goto (tgt := 18) hx hb dL_law_1865 (by decide) ?_
  refine lv_iload_n hx hb dL_law_18 rfl (lv_at hl 0 rfl) ?_
  refine lv_aload_n hx hb dL_law_19 rfl (lv_at hl 3 rfl) ?_
  refine va_slen hx hb hX hbl hbA hS dL_law_20 ?_
  refine eqi (v := 6) (by decide) ?_
  refine lv_bipush (v := 6) hx hb dL_law_21 (by decide) ?_
  refine lv_isub hx hb dL_law_23 ?_
  refine eqi (v := 0) (by decide) ?_
  refine lv_icmp_gt (tgt := 1868) hx hb dL_law_24 (by decide) (fun _ => ?_) (fun c_7 => absurd (by decide) c_7)
  refine lv_iconst (v := 1) hx hb dL_law_1868 (by decide) ?_
  refine va_forget (fun q hq => hS.2.2 q hq) ?_
  refine W.widen (k := 600000) (n := 7302250) (Nat.le_of_ble_eq_true rfl) (Nat.le_of_ble_eq_true rfl) ?_
  exact lw_ret hx hb hr hlocks dL_law_1869

set_option maxHeartbeats 4000000 in
set_option maxRecDepth 100000 in
theorem lawcase_9 {p : Program} {e : Env} {s : State} {m : MethodId} {below : List Frame} {meth : Method} {c : Code} (l : Launch) {b : Nat} {xs : Nat → Int32} (C0 : lw_At p s m meth c b 6 xs) {D : va_G} {T : Nat → ClassId} (hC : cx D T s) {H : Heap} {locs : List Loc} (x0 m0 : Nat) (u v : Nat → Nat) (hP : va_P D vwCl (lawW T x0 m0 u v) H) (hD : va_D (fun q : Nat => s.heap.size ≤ q) (lawW T x0 m0 u v)) (hS : va_S (fun q : Nat => s.heap.size ≤ q) s.heap H locs) {ls : Array Slot} (hl : lv_has ls 4 [(3, .int 0), (2, .ref m0), (1, .ref x0), (0, .ref b)]) : W p l e room_1 s m #[Value.ref b] below meth c H locs 181 83004 (lw_Z below #[Value.ref b] s) (F0 m 587 ls []) := by
  obtain ⟨hx, hb, hr, hml, hown, hts0, hX, hbl, hlocks, hgv⟩ := id C0
  have hts : ∀ w ∈ gt, w.before #[Value.ref b] s = true := fun w hw => hts0 w (List.mem_filter.mp hw).1
  have hown : s.vm.findClass RL = some m.cls := hown
  have hb : c.code = cL_law := hb
  have hA : ∀ q : Nat, s.heap.size ≤ q → (fun q : Nat => s.heap.size ≤ q) q := fun _ h => h
  have hbA : ¬ (fun q : Nat => s.heap.size ≤ q) b := Nat.not_le.mpr hbl
  have hK := hC.1
  refine lv_aload_n hx hb dL_law_587 rfl (lv_at hl 2 rfl) ?_
  refine lv_aload_n hx hb dL_law_588 rfl (lv_at hl 3 rfl) ?_
  refine lv_iload_n hx hb dL_law_589 rfl (lv_at hl 0 rfl) ?_
  refine lv_iconst (v := 1) hx hb dL_law_590 (by decide) ?_
  refine lv_iadd hx hb dL_law_591 ?_
  refine eqi (v := 1) (by decide) ?_
  refine va_sld hx hb hX hbl hbA hS (by unfold vp_in; decide) dL_law_592 ?_
  refine eqi (v := xs 1) rfl ?_
  refine puI (cV (As := [.int (xs 1)]) (rest := []) ⟨hx, hb, hml, hown, hts⟩ (c_X10_pile l D T x0 (u 0) (u 2) (u 15) (u 16) (u 17) (u 18) (u 19) (u 20) (u 21) (u 22) (u 23) (u 24) (u 25) (u 26) (u 27) (u 36) (u 37) (u 38) (u 130) (u 131) (u 132) (u 141) (u 144) (u 150) (u 151) (xs 1)) k_X10_pile v_X10_pile m835 rfl rfl ⟨(Nat.le_of_ble_eq_true rfl), (Nat.le_of_ble_eq_true rfl)⟩ (preP hC (hP.sub (ws' := [(x0, .inr (10, [.ref (u 0), .ref (u 2), .ref (u 15), .ref (u 38), .ref (u 130), .ref (u 131), .ref (u 132), .ref (u 141), .ref (u 144), .ref (u 150), .ref (u 151)])), ((u 15), .inr (3, [.ref (u 16), .ref (u 27), .int 0, .int 0, .int 2, .long 0, .int 0, .ref (u 36), .ref (u 37)])), ((u 16), .inr (5, [.int 0, .int 0, .int 0, .int 0, .int 0, .int 0, .int 0, .int 0, .int 0, .ref (u 17), .ref (u 18), .ref (u 19), .ref (u 20), .ref (u 21), .ref (u 22), .ref (u 23), .ref (u 24), .ref (u 25), .ref (u 26)]))]) [0, 16, 17] rfl)) (va_recv hK hP (ci := 10) (q0 := 0) rfl rfl) rfl hl.1 rfl (Nat.le_of_ble_eq_true rfl) dL_law_593 ⟨(Nat.le_of_ble_eq_true rfl), (Nat.le_of_ble_eq_true rfl)⟩) hS hP (fun r_1 H locs hw hP hS => ?_)
  have c_3 : r_1 = (-2) := hw
  refine lv_aload_n hx hb dL_law_596 rfl (lv_at hl 1 rfl) ?_
  refine lv_aload_n hx hb dL_law_597 rfl (lv_at hl 3 rfl) ?_
  refine lv_iload_n hx hb dL_law_598 rfl (lv_at hl 0 rfl) ?_
  refine lv_iconst (v := 1) hx hb dL_law_599 (by decide) ?_
  refine lv_iadd hx hb dL_law_600 ?_
  refine eqi (v := 1) (by decide) ?_
  refine va_sld hx hb hX hbl hbA hS (by unfold vp_in; decide) dL_law_601 ?_
  refine eqi (v := xs 1) rfl ?_
  refine mtId (wr := []) (cV (As := [.int (xs 1)]) (rest := [.int r_1]) ⟨hx, hb, hml, hown, hts⟩ (c_m_pile l D T (v 1) (v 16) (v 17) (v 18) (v 19) (v 2) (v 20) (v 21) (v 22) (v 23) (v 24) (v 25) (v 26) (v 27) (v 28) (v 29) (v 3) (v 30) (v 31) (v 32) (v 36) (v 4) (v 40) (v 41) (v 42) (v 5) m0 (xs 1) _) k_X11_pile v_X11_pile m1681 rfl rfl ⟨(Nat.le_of_ble_eq_true rfl), (Nat.le_of_ble_eq_true rfl)⟩ (preM hC (hP.sub (ws' := [(m0, .inr (11, [.int 0, .ref (v 1), .ref (v 2), .ref (v 3), .ref (v 4), .ref (v 5), .int 0, .int 0, .int 0, .int 0, .int 0, .long 0, .int 0, .int 0, .int 0, .int (-1), .ref (v 16), .ref (v 17), .ref (v 18), .ref (v 19), .ref (v 20), .ref (v 21), .ref (v 22), .ref (v 23), .ref (v 24), .ref (v 25), .ref (v 26), .ref (v 27), .ref (v 28), .ref (v 29), .ref (v 30), .ref (v 31), .ref (v 32), .int 0, .int 0, .int 0, .ref (v 36), .int 0, .int 0, .int 0, .ref (v 40), .ref (v 41), .ref (v 42), .int 0, .long 0])), ((v 18), .inl (T 0, 5, .inl (fun _ => 0)))]) [154, 162] rfl) (hD.sub (ws' := [(m0, .inr (11, [.int 0, .ref (v 1), .ref (v 2), .ref (v 3), .ref (v 4), .ref (v 5), .int 0, .int 0, .int 0, .int 0, .int 0, .long 0, .int 0, .int 0, .int 0, .int (-1), .ref (v 16), .ref (v 17), .ref (v 18), .ref (v 19), .ref (v 20), .ref (v 21), .ref (v 22), .ref (v 23), .ref (v 24), .ref (v 25), .ref (v 26), .ref (v 27), .ref (v 28), .ref (v 29), .ref (v 30), .ref (v 31), .ref (v 32), .int 0, .int 0, .int 0, .ref (v 36), .int 0, .int 0, .int 0, .ref (v 40), .ref (v 41), .ref (v 42), .int 0, .long 0])), ((v 18), .inl (T 0, 5, .inl (fun _ => 0)))]) [154, 162] (by decide) rfl)) (va_recv hK hP (ci := 11) (q0 := 154) rfl rfl) rfl hl.1 rfl (Nat.le_of_ble_eq_true rfl) dL_law_602 ⟨(Nat.le_of_ble_eq_true rfl), (Nat.le_of_ble_eq_true rfl)⟩) hS hA hP hD [154, 162] [] rfl rfl (by decide) (by decide) (fun r_4 u_5 H locs hw hP hD hS => ?_)
  have c_6 : r_4 = (-2) := hw
  refine lv_icmp_eq (tgt := 1862) hx hb dL_law_605 (by decide) (fun _ => ?_) (fun h => absurd (c_3.trans c_6.symm) h)
  refine lv_iinc (v := 6) (lv' := [(3, .int 6), (2, .ref m0), (1, .ref x0), (0, .ref b)]) hx hb dL_law_1862 hl (k := 0) rfl (by decide) (by decide) rfl (fun ls hl => ?_)
  refine lv_goto (tgt := 18) hx hb dL_law_1865 (by decide) ?_
  refine lv_iload_n hx hb dL_law_18 rfl (lv_at hl 0 rfl) ?_
  refine lv_aload_n hx hb dL_law_19 rfl (lv_at hl 3 rfl) ?_
  refine va_slen hx hb hX hbl hbA hS dL_law_20 ?_
  refine eqi (v := 6) (by decide) ?_
  refine lv_bipush (v := 6) hx hb dL_law_21 (by decide) ?_
  refine lv_isub hx hb dL_law_23 ?_
  refine eqi (v := 0) (by decide) ?_
  refine lv_icmp_gt (tgt := 1868) hx hb dL_law_24 (by decide) (fun _ => ?_) (fun c_7 => absurd (by decide) c_7)
  refine lv_iconst (v := 1) hx hb dL_law_1868 (by decide) ?_
  refine va_forget (fun q hq => hS.2.2 q hq) ?_
  refine W.widen (k := 600000) (n := 7302250) (Nat.le_of_ble_eq_true rfl) (Nat.le_of_ble_eq_true rfl) ?_
  exact lw_ret hx hb hr hlocks dL_law_1869

set_option maxHeartbeats 4000000 in
set_option maxRecDepth 100000 in
theorem lawcase_10 {p : Program} {e : Env} {s : State} {m : MethodId} {below : List Frame} {meth : Method} {c : Code} (l : Launch) {b : Nat} {xs : Nat → Int32} (C0 : lw_At p s m meth c b 6 xs) {D : va_G} {T : Nat → ClassId} (hC : cx D T s) {H : Heap} {locs : List Loc} (x0 m0 : Nat) (u v : Nat → Nat) (hP : va_P D vwCl (lawW T x0 m0 u v) H) (hD : va_D (fun q : Nat => s.heap.size ≤ q) (lawW T x0 m0 u v)) (hS : va_S (fun q : Nat => s.heap.size ≤ q) s.heap H locs) {ls : Array Slot} (hl : lv_has ls 4 [(3, .int 0), (2, .ref m0), (1, .ref x0), (0, .ref b)]) : W p l e room_1 s m #[Value.ref b] below meth c H locs 181 83004 (lw_Z below #[Value.ref b] s) (F0 m 610 ls []) := by
  obtain ⟨hx, hb, hr, hml, hown, hts0, hX, hbl, hlocks, hgv⟩ := id C0
  have hts : ∀ w ∈ gt, w.before #[Value.ref b] s = true := fun w hw => hts0 w (List.mem_filter.mp hw).1
  have hown : s.vm.findClass RL = some m.cls := hown
  have hb : c.code = cL_law := hb
  have hA : ∀ q : Nat, s.heap.size ≤ q → (fun q : Nat => s.heap.size ≤ q) q := fun _ h => h
  have hbA : ¬ (fun q : Nat => s.heap.size ≤ q) b := Nat.not_le.mpr hbl
  have hK := hC.1
  refine lv_aload_n hx hb dL_law_610 rfl (lv_at hl 2 rfl) ?_
  refine lv_aload_n hx hb dL_law_611 rfl (lv_at hl 3 rfl) ?_
  refine lv_iload_n hx hb dL_law_612 rfl (lv_at hl 0 rfl) ?_
  refine lv_iconst (v := 1) hx hb dL_law_613 (by decide) ?_
  refine lv_iadd hx hb dL_law_614 ?_
  refine eqi (v := 1) (by decide) ?_
  refine va_sld hx hb hX hbl hbA hS (by unfold vp_in; decide) dL_law_615 ?_
  refine eqi (v := xs 1) rfl ?_
  refine lv_aload_n hx hb dL_law_616 rfl (lv_at hl 3 rfl) ?_
  refine lv_iload_n hx hb dL_law_617 rfl (lv_at hl 0 rfl) ?_
  refine lv_iconst (v := 2) hx hb dL_law_618 (by decide) ?_
  refine lv_iadd hx hb dL_law_619 ?_
  refine eqi (v := 2) (by decide) ?_
  refine va_sld hx hb hX hbl hbA hS (by unfold vp_in; decide) dL_law_620 ?_
  refine eqi (v := xs 2) rfl ?_
  refine puI (cV (As := [.int (xs 1), .int (xs 2)]) (rest := []) ⟨hx, hb, hml, hown, hts⟩ (c_X10_spare l D T x0 (u 0) (u 2) (u 15) (u 16) (u 17) (u 18) (u 19) (u 20) (u 21) (u 22) (u 23) (u 24) (u 25) (u 26) (u 27) (u 36) (u 37) (u 38) (u 130) (u 131) (u 132) (u 141) (u 144) (u 150) (u 151) (xs 1) (xs 2)) k_X10_spare v_X10_spare m839 rfl rfl ⟨(Nat.le_of_ble_eq_true rfl), (Nat.le_of_ble_eq_true rfl)⟩ (preP hC (hP.sub (ws' := [(x0, .inr (10, [.ref (u 0), .ref (u 2), .ref (u 15), .ref (u 38), .ref (u 130), .ref (u 131), .ref (u 132), .ref (u 141), .ref (u 144), .ref (u 150), .ref (u 151)])), ((u 15), .inr (3, [.ref (u 16), .ref (u 27), .int 0, .int 0, .int 2, .long 0, .int 0, .ref (u 36), .ref (u 37)])), ((u 16), .inr (5, [.int 0, .int 0, .int 0, .int 0, .int 0, .int 0, .int 0, .int 0, .int 0, .ref (u 17), .ref (u 18), .ref (u 19), .ref (u 20), .ref (u 21), .ref (u 22), .ref (u 23), .ref (u 24), .ref (u 25), .ref (u 26)]))]) [0, 16, 17] rfl)) (va_recv hK hP (ci := 10) (q0 := 0) rfl rfl) rfl hl.1 rfl (Nat.le_of_ble_eq_true rfl) dL_law_621 ⟨(Nat.le_of_ble_eq_true rfl), (Nat.le_of_ble_eq_true rfl)⟩) hS hP (fun r_1 H locs hw hP hS => ?_)
  have c_3 : r_1 = (-2) := hw
  refine lv_aload_n hx hb dL_law_624 rfl (lv_at hl 1 rfl) ?_
  refine lv_aload_n hx hb dL_law_625 rfl (lv_at hl 3 rfl) ?_
  refine lv_iload_n hx hb dL_law_626 rfl (lv_at hl 0 rfl) ?_
  refine lv_iconst (v := 1) hx hb dL_law_627 (by decide) ?_
  refine lv_iadd hx hb dL_law_628 ?_
  refine eqi (v := 1) (by decide) ?_
  refine va_sld hx hb hX hbl hbA hS (by unfold vp_in; decide) dL_law_629 ?_
  refine eqi (v := xs 1) rfl ?_
  refine lv_aload_n hx hb dL_law_630 rfl (lv_at hl 3 rfl) ?_
  refine lv_iload_n hx hb dL_law_631 rfl (lv_at hl 0 rfl) ?_
  refine lv_iconst (v := 2) hx hb dL_law_632 (by decide) ?_
  refine lv_iadd hx hb dL_law_633 ?_
  refine eqi (v := 2) (by decide) ?_
  refine va_sld hx hb hX hbl hbA hS (by unfold vp_in; decide) dL_law_634 ?_
  refine eqi (v := xs 2) rfl ?_
  refine mtId (wr := []) (cV (As := [.int (xs 1), .int (xs 2)]) (rest := [.int r_1]) ⟨hx, hb, hml, hown, hts⟩ (c_m_spare l D T (v 1) (v 16) (v 17) (v 18) (v 19) (v 2) (v 20) (v 21) (v 22) (v 23) (v 24) (v 25) (v 26) (v 27) (v 28) (v 29) (v 3) (v 30) (v 31) (v 32) (v 36) (v 4) (v 40) (v 41) (v 42) (v 5) m0 (xs 1) (xs 2) _) k_X11_spare v_X11_spare m1685 rfl rfl ⟨(Nat.le_of_ble_eq_true rfl), (Nat.le_of_ble_eq_true rfl)⟩ (preM hC (hP.sub (ws' := [(m0, .inr (11, [.int 0, .ref (v 1), .ref (v 2), .ref (v 3), .ref (v 4), .ref (v 5), .int 0, .int 0, .int 0, .int 0, .int 0, .long 0, .int 0, .int 0, .int 0, .int (-1), .ref (v 16), .ref (v 17), .ref (v 18), .ref (v 19), .ref (v 20), .ref (v 21), .ref (v 22), .ref (v 23), .ref (v 24), .ref (v 25), .ref (v 26), .ref (v 27), .ref (v 28), .ref (v 29), .ref (v 30), .ref (v 31), .ref (v 32), .int 0, .int 0, .int 0, .ref (v 36), .int 0, .int 0, .int 0, .ref (v 40), .ref (v 41), .ref (v 42), .int 0, .long 0])), ((v 17), .inl (T 0, 15, .inl (fun _ => 0)))]) [154, 161] rfl) (hD.sub (ws' := [(m0, .inr (11, [.int 0, .ref (v 1), .ref (v 2), .ref (v 3), .ref (v 4), .ref (v 5), .int 0, .int 0, .int 0, .int 0, .int 0, .long 0, .int 0, .int 0, .int 0, .int (-1), .ref (v 16), .ref (v 17), .ref (v 18), .ref (v 19), .ref (v 20), .ref (v 21), .ref (v 22), .ref (v 23), .ref (v 24), .ref (v 25), .ref (v 26), .ref (v 27), .ref (v 28), .ref (v 29), .ref (v 30), .ref (v 31), .ref (v 32), .int 0, .int 0, .int 0, .ref (v 36), .int 0, .int 0, .int 0, .ref (v 40), .ref (v 41), .ref (v 42), .int 0, .long 0])), ((v 17), .inl (T 0, 15, .inl (fun _ => 0)))]) [154, 161] (by decide) rfl)) (va_recv hK hP (ci := 11) (q0 := 154) rfl rfl) rfl hl.1 rfl (Nat.le_of_ble_eq_true rfl) dL_law_635 ⟨(Nat.le_of_ble_eq_true rfl), (Nat.le_of_ble_eq_true rfl)⟩) hS hA hP hD [154, 161] [] rfl rfl (by decide) (by decide) (fun r_4 u_5 H locs hw hP hD hS => ?_)
  have c_6 : r_4 = (-2) := hw
  refine lv_icmp_eq (tgt := 1862) hx hb dL_law_638 (by decide) (fun _ => ?_) (fun h => absurd (c_3.trans c_6.symm) h)
  refine lv_iinc (v := 6) (lv' := [(3, .int 6), (2, .ref m0), (1, .ref x0), (0, .ref b)]) hx hb dL_law_1862 hl (k := 0) rfl (by decide) (by decide) rfl (fun ls hl => ?_)
  refine lv_goto (tgt := 18) hx hb dL_law_1865 (by decide) ?_
  refine lv_iload_n hx hb dL_law_18 rfl (lv_at hl 0 rfl) ?_
  refine lv_aload_n hx hb dL_law_19 rfl (lv_at hl 3 rfl) ?_
  refine va_slen hx hb hX hbl hbA hS dL_law_20 ?_
  refine eqi (v := 6) (by decide) ?_
  refine lv_bipush (v := 6) hx hb dL_law_21 (by decide) ?_
  refine lv_isub hx hb dL_law_23 ?_
  refine eqi (v := 0) (by decide) ?_
  refine lv_icmp_gt (tgt := 1868) hx hb dL_law_24 (by decide) (fun _ => ?_) (fun c_7 => absurd (by decide) c_7)
  refine lv_iconst (v := 1) hx hb dL_law_1868 (by decide) ?_
  refine va_forget (fun q hq => hS.2.2 q hq) ?_
  refine W.widen (k := 600000) (n := 7302250) (Nat.le_of_ble_eq_true rfl) (Nat.le_of_ble_eq_true rfl) ?_
  exact lw_ret hx hb hr hlocks dL_law_1869

set_option maxHeartbeats 4000000 in
set_option maxRecDepth 100000 in
theorem lawcase_11 {p : Program} {e : Env} {s : State} {m : MethodId} {below : List Frame} {meth : Method} {c : Code} (l : Launch) {b : Nat} {xs : Nat → Int32} (C0 : lw_At p s m meth c b 6 xs) {D : va_G} {T : Nat → ClassId} (hC : cx D T s) {H : Heap} {locs : List Loc} (x0 m0 : Nat) (u v : Nat → Nat) (hP : va_P D vwCl (lawW T x0 m0 u v) H) (hD : va_D (fun q : Nat => s.heap.size ≤ q) (lawW T x0 m0 u v)) (hS : va_S (fun q : Nat => s.heap.size ≤ q) s.heap H locs) {ls : Array Slot} (hl : lv_has ls 4 [(3, .int 0), (2, .ref m0), (1, .ref x0), (0, .ref b)]) : W p l e room_1 s m #[Value.ref b] below meth c H locs 181 83004 (lw_Z below #[Value.ref b] s) (F0 m 643 ls []) := by
  obtain ⟨hx, hb, hr, hml, hown, hts0, hX, hbl, hlocks, hgv⟩ := id C0
  have hts : ∀ w ∈ gt, w.before #[Value.ref b] s = true := fun w hw => hts0 w (List.mem_filter.mp hw).1
  have hown : s.vm.findClass RL = some m.cls := hown
  have hb : c.code = cL_law := hb
  have hA : ∀ q : Nat, s.heap.size ≤ q → (fun q : Nat => s.heap.size ≤ q) q := fun _ h => h
  have hbA : ¬ (fun q : Nat => s.heap.size ≤ q) b := Nat.not_le.mpr hbl
  have hK := hC.1
  refine lv_aload_n hx hb dL_law_643 rfl (lv_at hl 2 rfl) ?_
  refine lv_aload_n hx hb dL_law_644 rfl (lv_at hl 3 rfl) ?_
  refine lv_iload_n hx hb dL_law_645 rfl (lv_at hl 0 rfl) ?_
  refine lv_iconst (v := 1) hx hb dL_law_646 (by decide) ?_
  refine lv_iadd hx hb dL_law_647 ?_
  refine eqi (v := 1) (by decide) ?_
  refine va_sld hx hb hX hbl hbA hS (by unfold vp_in; decide) dL_law_648 ?_
  refine eqi (v := xs 1) rfl ?_
  refine puI (cV (As := [.int (xs 1)]) (rest := []) ⟨hx, hb, hml, hown, hts⟩ (c_X10_slack l D T x0 (u 0) (u 2) (u 15) (u 16) (u 17) (u 18) (u 19) (u 20) (u 21) (u 22) (u 23) (u 24) (u 25) (u 26) (u 27) (u 36) (u 37) (u 38) (u 130) (u 131) (u 132) (u 141) (u 144) (u 150) (u 151) (xs 1)) k_X10_slack v_X10_slack m843 rfl rfl ⟨(Nat.le_of_ble_eq_true rfl), (Nat.le_of_ble_eq_true rfl)⟩ (preP hC (hP.sub (ws' := [(x0, .inr (10, [.ref (u 0), .ref (u 2), .ref (u 15), .ref (u 38), .ref (u 130), .ref (u 131), .ref (u 132), .ref (u 141), .ref (u 144), .ref (u 150), .ref (u 151)])), ((u 15), .inr (3, [.ref (u 16), .ref (u 27), .int 0, .int 0, .int 2, .long 0, .int 0, .ref (u 36), .ref (u 37)])), ((u 16), .inr (5, [.int 0, .int 0, .int 0, .int 0, .int 0, .int 0, .int 0, .int 0, .int 0, .ref (u 17), .ref (u 18), .ref (u 19), .ref (u 20), .ref (u 21), .ref (u 22), .ref (u 23), .ref (u 24), .ref (u 25), .ref (u 26)]))]) [0, 16, 17] rfl)) (va_recv hK hP (ci := 10) (q0 := 0) rfl rfl) rfl hl.1 rfl (Nat.le_of_ble_eq_true rfl) dL_law_649 ⟨(Nat.le_of_ble_eq_true rfl), (Nat.le_of_ble_eq_true rfl)⟩) hS hP (fun r_1 H locs hw hP hS => ?_)
  have c_3 : r_1 = (-2) := hw
  refine lv_aload_n hx hb dL_law_652 rfl (lv_at hl 1 rfl) ?_
  refine lv_aload_n hx hb dL_law_653 rfl (lv_at hl 3 rfl) ?_
  refine lv_iload_n hx hb dL_law_654 rfl (lv_at hl 0 rfl) ?_
  refine lv_iconst (v := 1) hx hb dL_law_655 (by decide) ?_
  refine lv_iadd hx hb dL_law_656 ?_
  refine eqi (v := 1) (by decide) ?_
  refine va_sld hx hb hX hbl hbA hS (by unfold vp_in; decide) dL_law_657 ?_
  refine eqi (v := xs 1) rfl ?_
  refine mtId (wr := []) (cV (As := [.int (xs 1)]) (rest := [.int r_1]) ⟨hx, hb, hml, hown, hts⟩ (c_m_slack l D T (v 1) (v 16) (v 17) (v 18) (v 19) (v 2) (v 20) (v 21) (v 22) (v 23) (v 24) (v 25) (v 26) (v 27) (v 28) (v 29) (v 3) (v 30) (v 31) (v 32) (v 36) (v 4) (v 40) (v 41) (v 42) (v 5) m0 (xs 1) _) k_X11_slack v_X11_slack m1689 rfl rfl ⟨(Nat.le_of_ble_eq_true rfl), (Nat.le_of_ble_eq_true rfl)⟩ (preM hC (hP.sub (ws' := [(m0, .inr (11, [.int 0, .ref (v 1), .ref (v 2), .ref (v 3), .ref (v 4), .ref (v 5), .int 0, .int 0, .int 0, .int 0, .int 0, .long 0, .int 0, .int 0, .int 0, .int (-1), .ref (v 16), .ref (v 17), .ref (v 18), .ref (v 19), .ref (v 20), .ref (v 21), .ref (v 22), .ref (v 23), .ref (v 24), .ref (v 25), .ref (v 26), .ref (v 27), .ref (v 28), .ref (v 29), .ref (v 30), .ref (v 31), .ref (v 32), .int 0, .int 0, .int 0, .ref (v 36), .int 0, .int 0, .int 0, .ref (v 40), .ref (v 41), .ref (v 42), .int 0, .long 0])), ((v 17), .inl (T 0, 15, .inl (fun _ => 0)))]) [154, 161] rfl) (hD.sub (ws' := [(m0, .inr (11, [.int 0, .ref (v 1), .ref (v 2), .ref (v 3), .ref (v 4), .ref (v 5), .int 0, .int 0, .int 0, .int 0, .int 0, .long 0, .int 0, .int 0, .int 0, .int (-1), .ref (v 16), .ref (v 17), .ref (v 18), .ref (v 19), .ref (v 20), .ref (v 21), .ref (v 22), .ref (v 23), .ref (v 24), .ref (v 25), .ref (v 26), .ref (v 27), .ref (v 28), .ref (v 29), .ref (v 30), .ref (v 31), .ref (v 32), .int 0, .int 0, .int 0, .ref (v 36), .int 0, .int 0, .int 0, .ref (v 40), .ref (v 41), .ref (v 42), .int 0, .long 0])), ((v 17), .inl (T 0, 15, .inl (fun _ => 0)))]) [154, 161] (by decide) rfl)) (va_recv hK hP (ci := 11) (q0 := 154) rfl rfl) rfl hl.1 rfl (Nat.le_of_ble_eq_true rfl) dL_law_658 ⟨(Nat.le_of_ble_eq_true rfl), (Nat.le_of_ble_eq_true rfl)⟩) hS hA hP hD [154, 161] [] rfl rfl (by decide) (by decide) (fun r_4 u_5 H locs hw hP hD hS => ?_)
  have c_6 : r_4 = (-2) := hw
  refine lv_icmp_eq (tgt := 1862) hx hb dL_law_661 (by decide) (fun _ => ?_) (fun h => absurd (c_3.trans c_6.symm) h)
  refine lv_iinc (v := 6) (lv' := [(3, .int 6), (2, .ref m0), (1, .ref x0), (0, .ref b)]) hx hb dL_law_1862 hl (k := 0) rfl (by decide) (by decide) rfl (fun ls hl => ?_)
  refine lv_goto (tgt := 18) hx hb dL_law_1865 (by decide) ?_
  refine lv_iload_n hx hb dL_law_18 rfl (lv_at hl 0 rfl) ?_
  refine lv_aload_n hx hb dL_law_19 rfl (lv_at hl 3 rfl) ?_
  refine va_slen hx hb hX hbl hbA hS dL_law_20 ?_
  refine eqi (v := 6) (by decide) ?_
  refine lv_bipush (v := 6) hx hb dL_law_21 (by decide) ?_
  refine lv_isub hx hb dL_law_23 ?_
  refine eqi (v := 0) (by decide) ?_
  refine lv_icmp_gt (tgt := 1868) hx hb dL_law_24 (by decide) (fun _ => ?_) (fun c_7 => absurd (by decide) c_7)
  refine lv_iconst (v := 1) hx hb dL_law_1868 (by decide) ?_
  refine va_forget (fun q hq => hS.2.2 q hq) ?_
  refine W.widen (k := 600000) (n := 7302250) (Nat.le_of_ble_eq_true rfl) (Nat.le_of_ble_eq_true rfl) ?_
  exact lw_ret hx hb hr hlocks dL_law_1869

set_option maxHeartbeats 4000000 in
set_option maxRecDepth 100000 in
theorem lawcase_12 {p : Program} {e : Env} {s : State} {m : MethodId} {below : List Frame} {meth : Method} {c : Code} (l : Launch) {b : Nat} {xs : Nat → Int32} (C0 : lw_At p s m meth c b 6 xs) {D : va_G} {T : Nat → ClassId} (hC : cx D T s) {H : Heap} {locs : List Loc} (x0 m0 : Nat) (u v : Nat → Nat) (hP : va_P D vwCl (lawW T x0 m0 u v) H) (hD : va_D (fun q : Nat => s.heap.size ≤ q) (lawW T x0 m0 u v)) (hS : va_S (fun q : Nat => s.heap.size ≤ q) s.heap H locs) {ls : Array Slot} (hl : lv_has ls 4 [(3, .int 0), (2, .ref m0), (1, .ref x0), (0, .ref b)]) : W p l e room_1 s m #[Value.ref b] below meth c H locs 181 83004 (lw_Z below #[Value.ref b] s) (F0 m 666 ls []) := by
  obtain ⟨hx, hb, hr, hml, hown, hts0, hX, hbl, hlocks, hgv⟩ := id C0
  have hts : ∀ w ∈ gt, w.before #[Value.ref b] s = true := fun w hw => hts0 w (List.mem_filter.mp hw).1
  have hown : s.vm.findClass RL = some m.cls := hown
  have hb : c.code = cL_law := hb
  have hA : ∀ q : Nat, s.heap.size ≤ q → (fun q : Nat => s.heap.size ≤ q) q := fun _ h => h
  have hbA : ¬ (fun q : Nat => s.heap.size ≤ q) b := Nat.not_le.mpr hbl
  have hK := hC.1
  refine lv_aload_n hx hb dL_law_666 rfl (lv_at hl 2 rfl) ?_
  refine lv_aload_n hx hb dL_law_667 rfl (lv_at hl 3 rfl) ?_
  refine lv_iload_n hx hb dL_law_668 rfl (lv_at hl 0 rfl) ?_
  refine lv_iconst (v := 1) hx hb dL_law_669 (by decide) ?_
  refine lv_iadd hx hb dL_law_670 ?_
  refine eqi (v := 1) (by decide) ?_
  refine va_sld hx hb hX hbl hbA hS (by unfold vp_in; decide) dL_law_671 ?_
  refine eqi (v := xs 1) rfl ?_
  refine lv_aload_n hx hb dL_law_672 rfl (lv_at hl 3 rfl) ?_
  refine lv_iload_n hx hb dL_law_673 rfl (lv_at hl 0 rfl) ?_
  refine lv_iconst (v := 2) hx hb dL_law_674 (by decide) ?_
  refine lv_iadd hx hb dL_law_675 ?_
  refine eqi (v := 2) (by decide) ?_
  refine va_sld hx hb hX hbl hbA hS (by unfold vp_in; decide) dL_law_676 ?_
  refine eqi (v := xs 2) rfl ?_
  refine puI (cV (As := [.int (xs 1), .int (xs 2)]) (rest := []) ⟨hx, hb, hml, hown, hts⟩ (c_X10_fill l D T x0 (u 0) (u 2) (u 15) (u 16) (u 17) (u 18) (u 19) (u 20) (u 21) (u 22) (u 23) (u 24) (u 25) (u 26) (u 27) (u 36) (u 37) (u 38) (u 130) (u 131) (u 132) (u 141) (u 144) (u 150) (u 151) (xs 1) (xs 2)) k_X10_fill v_X10_fill m848 rfl rfl ⟨(Nat.le_of_ble_eq_true rfl), (Nat.le_of_ble_eq_true rfl)⟩ (preP hC (hP.sub (ws' := [(x0, .inr (10, [.ref (u 0), .ref (u 2), .ref (u 15), .ref (u 38), .ref (u 130), .ref (u 131), .ref (u 132), .ref (u 141), .ref (u 144), .ref (u 150), .ref (u 151)])), ((u 15), .inr (3, [.ref (u 16), .ref (u 27), .int 0, .int 0, .int 2, .long 0, .int 0, .ref (u 36), .ref (u 37)])), ((u 16), .inr (5, [.int 0, .int 0, .int 0, .int 0, .int 0, .int 0, .int 0, .int 0, .int 0, .ref (u 17), .ref (u 18), .ref (u 19), .ref (u 20), .ref (u 21), .ref (u 22), .ref (u 23), .ref (u 24), .ref (u 25), .ref (u 26)]))]) [0, 16, 17] rfl)) (va_recv hK hP (ci := 10) (q0 := 0) rfl rfl) rfl hl.1 rfl (Nat.le_of_ble_eq_true rfl) dL_law_677 ⟨(Nat.le_of_ble_eq_true rfl), (Nat.le_of_ble_eq_true rfl)⟩) hS hP (fun r_1 H locs hw hP hS => ?_)
  have c_3 : r_1 = (-2) := hw
  refine lv_aload_n hx hb dL_law_680 rfl (lv_at hl 1 rfl) ?_
  refine lv_aload_n hx hb dL_law_681 rfl (lv_at hl 3 rfl) ?_
  refine lv_iload_n hx hb dL_law_682 rfl (lv_at hl 0 rfl) ?_
  refine lv_iconst (v := 1) hx hb dL_law_683 (by decide) ?_
  refine lv_iadd hx hb dL_law_684 ?_
  refine eqi (v := 1) (by decide) ?_
  refine va_sld hx hb hX hbl hbA hS (by unfold vp_in; decide) dL_law_685 ?_
  refine eqi (v := xs 1) rfl ?_
  refine lv_aload_n hx hb dL_law_686 rfl (lv_at hl 3 rfl) ?_
  refine lv_iload_n hx hb dL_law_687 rfl (lv_at hl 0 rfl) ?_
  refine lv_iconst (v := 2) hx hb dL_law_688 (by decide) ?_
  refine lv_iadd hx hb dL_law_689 ?_
  refine eqi (v := 2) (by decide) ?_
  refine va_sld hx hb hX hbl hbA hS (by unfold vp_in; decide) dL_law_690 ?_
  refine eqi (v := xs 2) rfl ?_
  refine mtId (wr := []) (cV (As := [.int (xs 1), .int (xs 2)]) (rest := [.int r_1]) ⟨hx, hb, hml, hown, hts⟩ (c_m_fill l D T (v 1) (v 16) (v 17) (v 18) (v 19) (v 2) (v 20) (v 21) (v 22) (v 23) (v 24) (v 25) (v 26) (v 27) (v 28) (v 29) (v 3) (v 30) (v 31) (v 32) (v 36) (v 4) (v 40) (v 41) (v 42) (v 5) m0 (xs 1) (xs 2) _) k_X11_fill v_X11_fill m1693 rfl rfl ⟨(Nat.le_of_ble_eq_true rfl), (Nat.le_of_ble_eq_true rfl)⟩ (preM hC (hP.sub (ws' := [(m0, .inr (11, [.int 0, .ref (v 1), .ref (v 2), .ref (v 3), .ref (v 4), .ref (v 5), .int 0, .int 0, .int 0, .int 0, .int 0, .long 0, .int 0, .int 0, .int 0, .int (-1), .ref (v 16), .ref (v 17), .ref (v 18), .ref (v 19), .ref (v 20), .ref (v 21), .ref (v 22), .ref (v 23), .ref (v 24), .ref (v 25), .ref (v 26), .ref (v 27), .ref (v 28), .ref (v 29), .ref (v 30), .ref (v 31), .ref (v 32), .int 0, .int 0, .int 0, .ref (v 36), .int 0, .int 0, .int 0, .ref (v 40), .ref (v 41), .ref (v 42), .int 0, .long 0])), ((v 18), .inl (T 0, 5, .inl (fun _ => 0)))]) [154, 162] rfl) (hD.sub (ws' := [(m0, .inr (11, [.int 0, .ref (v 1), .ref (v 2), .ref (v 3), .ref (v 4), .ref (v 5), .int 0, .int 0, .int 0, .int 0, .int 0, .long 0, .int 0, .int 0, .int 0, .int (-1), .ref (v 16), .ref (v 17), .ref (v 18), .ref (v 19), .ref (v 20), .ref (v 21), .ref (v 22), .ref (v 23), .ref (v 24), .ref (v 25), .ref (v 26), .ref (v 27), .ref (v 28), .ref (v 29), .ref (v 30), .ref (v 31), .ref (v 32), .int 0, .int 0, .int 0, .ref (v 36), .int 0, .int 0, .int 0, .ref (v 40), .ref (v 41), .ref (v 42), .int 0, .long 0])), ((v 18), .inl (T 0, 5, .inl (fun _ => 0)))]) [154, 162] (by decide) rfl)) (va_recv hK hP (ci := 11) (q0 := 154) rfl rfl) rfl hl.1 rfl (Nat.le_of_ble_eq_true rfl) dL_law_691 ⟨(Nat.le_of_ble_eq_true rfl), (Nat.le_of_ble_eq_true rfl)⟩) hS hA hP hD [154, 162] [] rfl rfl (by decide) (by decide) (fun r_4 u_5 H locs hw hP hD hS => ?_)
  have c_6 : r_4 = (-2) := hw
  refine lv_icmp_eq (tgt := 1862) hx hb dL_law_694 (by decide) (fun _ => ?_) (fun h => absurd (c_3.trans c_6.symm) h)
  refine lv_iinc (v := 6) (lv' := [(3, .int 6), (2, .ref m0), (1, .ref x0), (0, .ref b)]) hx hb dL_law_1862 hl (k := 0) rfl (by decide) (by decide) rfl (fun ls hl => ?_)
  refine lv_goto (tgt := 18) hx hb dL_law_1865 (by decide) ?_
  refine lv_iload_n hx hb dL_law_18 rfl (lv_at hl 0 rfl) ?_
  refine lv_aload_n hx hb dL_law_19 rfl (lv_at hl 3 rfl) ?_
  refine va_slen hx hb hX hbl hbA hS dL_law_20 ?_
  refine eqi (v := 6) (by decide) ?_
  refine lv_bipush (v := 6) hx hb dL_law_21 (by decide) ?_
  refine lv_isub hx hb dL_law_23 ?_
  refine eqi (v := 0) (by decide) ?_
  refine lv_icmp_gt (tgt := 1868) hx hb dL_law_24 (by decide) (fun _ => ?_) (fun c_7 => absurd (by decide) c_7)
  refine lv_iconst (v := 1) hx hb dL_law_1868 (by decide) ?_
  refine va_forget (fun q hq => hS.2.2 q hq) ?_
  refine W.widen (k := 600000) (n := 7302250) (Nat.le_of_ble_eq_true rfl) (Nat.le_of_ble_eq_true rfl) ?_
  exact lw_ret hx hb hr hlocks dL_law_1869

set_option maxHeartbeats 4000000 in
set_option maxRecDepth 100000 in
theorem lawcase_13 {p : Program} {e : Env} {s : State} {m : MethodId} {below : List Frame} {meth : Method} {c : Code} (l : Launch) {b : Nat} {xs : Nat → Int32} (C0 : lw_At p s m meth c b 6 xs) {D : va_G} {T : Nat → ClassId} (hC : cx D T s) {H : Heap} {locs : List Loc} (x0 m0 : Nat) (u v : Nat → Nat) (hP : va_P D vwCl (lawW T x0 m0 u v) H) (hD : va_D (fun q : Nat => s.heap.size ≤ q) (lawW T x0 m0 u v)) (hS : va_S (fun q : Nat => s.heap.size ≤ q) s.heap H locs) {ls : Array Slot} (hl : lv_has ls 4 [(3, .int 0), (2, .ref m0), (1, .ref x0), (0, .ref b)]) : W p l e room_1 s m #[Value.ref b] below meth c H locs 181 83004 (lw_Z below #[Value.ref b] s) (F0 m 699 ls []) := by
  obtain ⟨hx, hb, hr, hml, hown, hts0, hX, hbl, hlocks, hgv⟩ := id C0
  have hts : ∀ w ∈ gt, w.before #[Value.ref b] s = true := fun w hw => hts0 w (List.mem_filter.mp hw).1
  have hown : s.vm.findClass RL = some m.cls := hown
  have hb : c.code = cL_law := hb
  have hA : ∀ q : Nat, s.heap.size ≤ q → (fun q : Nat => s.heap.size ≤ q) q := fun _ h => h
  have hbA : ¬ (fun q : Nat => s.heap.size ≤ q) b := Nat.not_le.mpr hbl
  have hK := hC.1
  refine lv_aload_n hx hb dL_law_699 rfl (lv_at hl 2 rfl) ?_
  refine puI (cV (As := []) (rest := []) ⟨hx, hb, hml, hown, hts⟩ (c_X10_leads l D T x0 (u 0) (u 2) (u 15) (u 16) (u 17) (u 18) (u 19) (u 20) (u 21) (u 22) (u 23) (u 24) (u 25) (u 26) (u 27) (u 36) (u 37) (u 38) (u 130) (u 131) (u 132) (u 141) (u 144) (u 150) (u 151)) k_X10_leads v_X10_leads m869 rfl rfl ⟨(Nat.le_of_ble_eq_true rfl), (Nat.le_of_ble_eq_true rfl)⟩ (preP hC (hP.sub (ws' := [(x0, .inr (10, [.ref (u 0), .ref (u 2), .ref (u 15), .ref (u 38), .ref (u 130), .ref (u 131), .ref (u 132), .ref (u 141), .ref (u 144), .ref (u 150), .ref (u 151)])), ((u 15), .inr (3, [.ref (u 16), .ref (u 27), .int 0, .int 0, .int 2, .long 0, .int 0, .ref (u 36), .ref (u 37)])), ((u 16), .inr (5, [.int 0, .int 0, .int 0, .int 0, .int 0, .int 0, .int 0, .int 0, .int 0, .ref (u 17), .ref (u 18), .ref (u 19), .ref (u 20), .ref (u 21), .ref (u 22), .ref (u 23), .ref (u 24), .ref (u 25), .ref (u 26)]))]) [0, 16, 17] rfl)) (va_recv hK hP (ci := 10) (q0 := 0) rfl rfl) rfl hl.1 rfl (Nat.le_of_ble_eq_true rfl) dL_law_700 ⟨(Nat.le_of_ble_eq_true rfl), (Nat.le_of_ble_eq_true rfl)⟩) hS hP (fun r_1 H locs hw hP hS => ?_)
  have c_3 : r_1 = (-2) := hw
  refine lv_aload_n hx hb dL_law_703 rfl (lv_at hl 1 rfl) ?_
  refine mtId (wr := []) (cV (As := []) (rest := [.int r_1]) ⟨hx, hb, hml, hown, hts⟩ (c_m_leads l D T (v 1) (v 16) (v 17) (v 18) (v 19) (v 2) (v 20) (v 21) (v 22) (v 23) (v 24) (v 25) (v 26) (v 27) (v 28) (v 29) (v 3) (v 30) (v 31) (v 32) (v 36) (v 4) (v 40) (v 41) (v 42) (v 5) m0 _) k_X11_leads v_X11_leads m1705 rfl rfl ⟨(Nat.le_of_ble_eq_true rfl), (Nat.le_of_ble_eq_true rfl)⟩ (preM hC (hP.sub (ws' := [(m0, .inr (11, [.int 0, .ref (v 1), .ref (v 2), .ref (v 3), .ref (v 4), .ref (v 5), .int 0, .int 0, .int 0, .int 0, .int 0, .long 0, .int 0, .int 0, .int 0, .int (-1), .ref (v 16), .ref (v 17), .ref (v 18), .ref (v 19), .ref (v 20), .ref (v 21), .ref (v 22), .ref (v 23), .ref (v 24), .ref (v 25), .ref (v 26), .ref (v 27), .ref (v 28), .ref (v 29), .ref (v 30), .ref (v 31), .ref (v 32), .int 0, .int 0, .int 0, .ref (v 36), .int 0, .int 0, .int 0, .ref (v 40), .ref (v 41), .ref (v 42), .int 0, .long 0])), ((v 17), .inl (T 0, 15, .inl (fun _ => 0)))]) [154, 161] rfl) (hD.sub (ws' := [(m0, .inr (11, [.int 0, .ref (v 1), .ref (v 2), .ref (v 3), .ref (v 4), .ref (v 5), .int 0, .int 0, .int 0, .int 0, .int 0, .long 0, .int 0, .int 0, .int 0, .int (-1), .ref (v 16), .ref (v 17), .ref (v 18), .ref (v 19), .ref (v 20), .ref (v 21), .ref (v 22), .ref (v 23), .ref (v 24), .ref (v 25), .ref (v 26), .ref (v 27), .ref (v 28), .ref (v 29), .ref (v 30), .ref (v 31), .ref (v 32), .int 0, .int 0, .int 0, .ref (v 36), .int 0, .int 0, .int 0, .ref (v 40), .ref (v 41), .ref (v 42), .int 0, .long 0])), ((v 17), .inl (T 0, 15, .inl (fun _ => 0)))]) [154, 161] (by decide) rfl)) (va_recv hK hP (ci := 11) (q0 := 154) rfl rfl) rfl hl.1 rfl (Nat.le_of_ble_eq_true rfl) dL_law_704 ⟨(Nat.le_of_ble_eq_true rfl), (Nat.le_of_ble_eq_true rfl)⟩) hS hA hP hD [154, 161] [] rfl rfl (by decide) (by decide) (fun r_4 u_5 H locs hw hP hD hS => ?_)
  have c_6 : r_4 = (-2) := hw
  refine lv_icmp_eq (tgt := 1862) hx hb dL_law_707 (by decide) (fun _ => ?_) (fun h => absurd (c_3.trans c_6.symm) h)
  refine lv_iinc (v := 6) (lv' := [(3, .int 6), (2, .ref m0), (1, .ref x0), (0, .ref b)]) hx hb dL_law_1862 hl (k := 0) rfl (by decide) (by decide) rfl (fun ls hl => ?_)
  refine lv_goto (tgt := 18) hx hb dL_law_1865 (by decide) ?_
  refine lv_iload_n hx hb dL_law_18 rfl (lv_at hl 0 rfl) ?_
  refine lv_aload_n hx hb dL_law_19 rfl (lv_at hl 3 rfl) ?_
  refine va_slen hx hb hX hbl hbA hS dL_law_20 ?_
  refine eqi (v := 6) (by decide) ?_
  refine lv_bipush (v := 6) hx hb dL_law_21 (by decide) ?_
  refine lv_isub hx hb dL_law_23 ?_
  refine eqi (v := 0) (by decide) ?_
  refine lv_icmp_gt (tgt := 1868) hx hb dL_law_24 (by decide) (fun _ => ?_) (fun c_7 => absurd (by decide) c_7)
  refine lv_iconst (v := 1) hx hb dL_law_1868 (by decide) ?_
  refine va_forget (fun q hq => hS.2.2 q hq) ?_
  refine W.widen (k := 600000) (n := 7302250) (Nat.le_of_ble_eq_true rfl) (Nat.le_of_ble_eq_true rfl) ?_
  exact lw_ret hx hb hr hlocks dL_law_1869

set_option maxHeartbeats 4000000 in
set_option maxRecDepth 100000 in
theorem lawcase_14 {p : Program} {e : Env} {s : State} {m : MethodId} {below : List Frame} {meth : Method} {c : Code} (l : Launch) {b : Nat} {xs : Nat → Int32} (C0 : lw_At p s m meth c b 6 xs) {D : va_G} {T : Nat → ClassId} (hC : cx D T s) {H : Heap} {locs : List Loc} (x0 m0 : Nat) (u v : Nat → Nat) (hP : va_P D vwCl (lawW T x0 m0 u v) H) (hD : va_D (fun q : Nat => s.heap.size ≤ q) (lawW T x0 m0 u v)) (hS : va_S (fun q : Nat => s.heap.size ≤ q) s.heap H locs) {ls : Array Slot} (hl : lv_has ls 4 [(3, .int 0), (2, .ref m0), (1, .ref x0), (0, .ref b)]) : W p l e room_1 s m #[Value.ref b] below meth c H locs 181 83004 (lw_Z below #[Value.ref b] s) (F0 m 712 ls []) := by
  obtain ⟨hx, hb, hr, hml, hown, hts0, hX, hbl, hlocks, hgv⟩ := id C0
  have hts : ∀ w ∈ gt, w.before #[Value.ref b] s = true := fun w hw => hts0 w (List.mem_filter.mp hw).1
  have hown : s.vm.findClass RL = some m.cls := hown
  have hb : c.code = cL_law := hb
  have hA : ∀ q : Nat, s.heap.size ≤ q → (fun q : Nat => s.heap.size ≤ q) q := fun _ h => h
  have hbA : ¬ (fun q : Nat => s.heap.size ≤ q) b := Nat.not_le.mpr hbl
  have hK := hC.1
  refine lv_aload_n hx hb dL_law_712 rfl (lv_at hl 2 rfl) ?_
  refine lv_aload_n hx hb dL_law_713 rfl (lv_at hl 3 rfl) ?_
  refine lv_iload_n hx hb dL_law_714 rfl (lv_at hl 0 rfl) ?_
  refine lv_iconst (v := 1) hx hb dL_law_715 (by decide) ?_
  refine lv_iadd hx hb dL_law_716 ?_
  refine eqi (v := 1) (by decide) ?_
  refine va_sld hx hb hX hbl hbA hS (by unfold vp_in; decide) dL_law_717 ?_
  refine eqi (v := xs 1) rfl ?_
  refine lv_aload_n hx hb dL_law_718 rfl (lv_at hl 3 rfl) ?_
  refine lv_iload_n hx hb dL_law_719 rfl (lv_at hl 0 rfl) ?_
  refine lv_iconst (v := 2) hx hb dL_law_720 (by decide) ?_
  refine lv_iadd hx hb dL_law_721 ?_
  refine eqi (v := 2) (by decide) ?_
  refine va_sld hx hb hX hbl hbA hS (by unfold vp_in; decide) dL_law_722 ?_
  refine eqi (v := xs 2) rfl ?_
  refine puI (cV (As := [.int (xs 1), .int (xs 2)]) (rest := []) ⟨hx, hb, hml, hown, hts⟩ (c_X10_would l D T x0 (u 0) (u 2) (u 15) (u 16) (u 17) (u 18) (u 19) (u 20) (u 21) (u 22) (u 23) (u 24) (u 25) (u 26) (u 27) (u 36) (u 37) (u 38) (u 130) (u 131) (u 132) (u 141) (u 144) (u 150) (u 151) (xs 1) (xs 2)) k_X10_would v_X10_would m878 rfl rfl ⟨(Nat.le_of_ble_eq_true rfl), (Nat.le_of_ble_eq_true rfl)⟩ (preP hC (hP.sub (ws' := [(x0, .inr (10, [.ref (u 0), .ref (u 2), .ref (u 15), .ref (u 38), .ref (u 130), .ref (u 131), .ref (u 132), .ref (u 141), .ref (u 144), .ref (u 150), .ref (u 151)])), ((u 15), .inr (3, [.ref (u 16), .ref (u 27), .int 0, .int 0, .int 2, .long 0, .int 0, .ref (u 36), .ref (u 37)])), ((u 16), .inr (5, [.int 0, .int 0, .int 0, .int 0, .int 0, .int 0, .int 0, .int 0, .int 0, .ref (u 17), .ref (u 18), .ref (u 19), .ref (u 20), .ref (u 21), .ref (u 22), .ref (u 23), .ref (u 24), .ref (u 25), .ref (u 26)]))]) [0, 16, 17] rfl)) (va_recv hK hP (ci := 10) (q0 := 0) rfl rfl) rfl hl.1 rfl (Nat.le_of_ble_eq_true rfl) dL_law_723 ⟨(Nat.le_of_ble_eq_true rfl), (Nat.le_of_ble_eq_true rfl)⟩) hS hP (fun r_1 H locs hw hP hS => ?_)
  have c_3 : r_1 = (-2) := hw
  refine lv_aload_n hx hb dL_law_726 rfl (lv_at hl 1 rfl) ?_
  refine lv_aload_n hx hb dL_law_727 rfl (lv_at hl 3 rfl) ?_
  refine lv_iload_n hx hb dL_law_728 rfl (lv_at hl 0 rfl) ?_
  refine lv_iconst (v := 1) hx hb dL_law_729 (by decide) ?_
  refine lv_iadd hx hb dL_law_730 ?_
  refine eqi (v := 1) (by decide) ?_
  refine va_sld hx hb hX hbl hbA hS (by unfold vp_in; decide) dL_law_731 ?_
  refine eqi (v := xs 1) rfl ?_
  refine lv_aload_n hx hb dL_law_732 rfl (lv_at hl 3 rfl) ?_
  refine lv_iload_n hx hb dL_law_733 rfl (lv_at hl 0 rfl) ?_
  refine lv_iconst (v := 2) hx hb dL_law_734 (by decide) ?_
  refine lv_iadd hx hb dL_law_735 ?_
  refine eqi (v := 2) (by decide) ?_
  refine va_sld hx hb hX hbl hbA hS (by unfold vp_in; decide) dL_law_736 ?_
  refine eqi (v := xs 2) rfl ?_
  refine mtId (wr := []) (cV (As := [.int (xs 1), .int (xs 2)]) (rest := [.int r_1]) ⟨hx, hb, hml, hown, hts⟩ (c_m_would l D T (v 1) (v 16) (v 17) (v 18) (v 19) (v 2) (v 20) (v 21) (v 22) (v 23) (v 24) (v 25) (v 26) (v 27) (v 28) (v 29) (v 3) (v 30) (v 31) (v 32) (v 36) (v 4) (v 40) (v 41) (v 42) (v 5) m0 (xs 1) (xs 2) _) k_X11_would v_X11_would m1713 rfl rfl ⟨(Nat.le_of_ble_eq_true rfl), (Nat.le_of_ble_eq_true rfl)⟩ (preM hC (hP.sub (ws' := [(m0, .inr (11, [.int 0, .ref (v 1), .ref (v 2), .ref (v 3), .ref (v 4), .ref (v 5), .int 0, .int 0, .int 0, .int 0, .int 0, .long 0, .int 0, .int 0, .int 0, .int (-1), .ref (v 16), .ref (v 17), .ref (v 18), .ref (v 19), .ref (v 20), .ref (v 21), .ref (v 22), .ref (v 23), .ref (v 24), .ref (v 25), .ref (v 26), .ref (v 27), .ref (v 28), .ref (v 29), .ref (v 30), .ref (v 31), .ref (v 32), .int 0, .int 0, .int 0, .ref (v 36), .int 0, .int 0, .int 0, .ref (v 40), .ref (v 41), .ref (v 42), .int 0, .long 0])), ((v 20), .inl (T 0, 5, .inl (fun _ => 0)))]) [154, 164] rfl) (hD.sub (ws' := [(m0, .inr (11, [.int 0, .ref (v 1), .ref (v 2), .ref (v 3), .ref (v 4), .ref (v 5), .int 0, .int 0, .int 0, .int 0, .int 0, .long 0, .int 0, .int 0, .int 0, .int (-1), .ref (v 16), .ref (v 17), .ref (v 18), .ref (v 19), .ref (v 20), .ref (v 21), .ref (v 22), .ref (v 23), .ref (v 24), .ref (v 25), .ref (v 26), .ref (v 27), .ref (v 28), .ref (v 29), .ref (v 30), .ref (v 31), .ref (v 32), .int 0, .int 0, .int 0, .ref (v 36), .int 0, .int 0, .int 0, .ref (v 40), .ref (v 41), .ref (v 42), .int 0, .long 0])), ((v 20), .inl (T 0, 5, .inl (fun _ => 0)))]) [154, 164] (by decide) rfl)) (va_recv hK hP (ci := 11) (q0 := 154) rfl rfl) rfl hl.1 rfl (Nat.le_of_ble_eq_true rfl) dL_law_737 ⟨(Nat.le_of_ble_eq_true rfl), (Nat.le_of_ble_eq_true rfl)⟩) hS hA hP hD [154, 164] [] rfl rfl (by decide) (by decide) (fun r_4 u_5 H locs hw hP hD hS => ?_)
  have c_6 : r_4 = (-2) := hw
  refine lv_icmp_eq (tgt := 1862) hx hb dL_law_740 (by decide) (fun _ => ?_) (fun h => absurd (c_3.trans c_6.symm) h)
  refine lv_iinc (v := 6) (lv' := [(3, .int 6), (2, .ref m0), (1, .ref x0), (0, .ref b)]) hx hb dL_law_1862 hl (k := 0) rfl (by decide) (by decide) rfl (fun ls hl => ?_)
  refine lv_goto (tgt := 18) hx hb dL_law_1865 (by decide) ?_
  refine lv_iload_n hx hb dL_law_18 rfl (lv_at hl 0 rfl) ?_
  refine lv_aload_n hx hb dL_law_19 rfl (lv_at hl 3 rfl) ?_
  refine va_slen hx hb hX hbl hbA hS dL_law_20 ?_
  refine eqi (v := 6) (by decide) ?_
  refine lv_bipush (v := 6) hx hb dL_law_21 (by decide) ?_
  refine lv_isub hx hb dL_law_23 ?_
  refine eqi (v := 0) (by decide) ?_
  refine lv_icmp_gt (tgt := 1868) hx hb dL_law_24 (by decide) (fun _ => ?_) (fun c_7 => absurd (by decide) c_7)
  refine lv_iconst (v := 1) hx hb dL_law_1868 (by decide) ?_
  refine va_forget (fun q hq => hS.2.2 q hq) ?_
  refine W.widen (k := 600000) (n := 7302250) (Nat.le_of_ble_eq_true rfl) (Nat.le_of_ble_eq_true rfl) ?_
  exact lw_ret hx hb hr hlocks dL_law_1869

set_option maxHeartbeats 4000000 in
set_option maxRecDepth 100000 in
theorem lawcase_15 {p : Program} {e : Env} {s : State} {m : MethodId} {below : List Frame} {meth : Method} {c : Code} (l : Launch) {b : Nat} {xs : Nat → Int32} (C0 : lw_At p s m meth c b 6 xs) {D : va_G} {T : Nat → ClassId} (hC : cx D T s) {H : Heap} {locs : List Loc} (x0 m0 : Nat) (u v : Nat → Nat) (hP : va_P D vwCl (lawW T x0 m0 u v) H) (hD : va_D (fun q : Nat => s.heap.size ≤ q) (lawW T x0 m0 u v)) (hS : va_S (fun q : Nat => s.heap.size ≤ q) s.heap H locs) {ls : Array Slot} (hl : lv_has ls 4 [(3, .int 0), (2, .ref m0), (1, .ref x0), (0, .ref b)]) : W p l e room_1 s m #[Value.ref b] below meth c H locs 181 83004 (lw_Z below #[Value.ref b] s) (F0 m 745 ls []) := by
  obtain ⟨hx, hb, hr, hml, hown, hts0, hX, hbl, hlocks, hgv⟩ := id C0
  have hts : ∀ w ∈ gt, w.before #[Value.ref b] s = true := fun w hw => hts0 w (List.mem_filter.mp hw).1
  have hown : s.vm.findClass RL = some m.cls := hown
  have hb : c.code = cL_law := hb
  have hA : ∀ q : Nat, s.heap.size ≤ q → (fun q : Nat => s.heap.size ≤ q) q := fun _ h => h
  have hbA : ¬ (fun q : Nat => s.heap.size ≤ q) b := Nat.not_le.mpr hbl
  have hK := hC.1
  refine lv_aload_n hx hb dL_law_745 rfl (lv_at hl 2 rfl) ?_
  refine lv_aload_n hx hb dL_law_746 rfl (lv_at hl 3 rfl) ?_
  refine lv_iload_n hx hb dL_law_747 rfl (lv_at hl 0 rfl) ?_
  refine lv_iconst (v := 1) hx hb dL_law_748 (by decide) ?_
  refine lv_iadd hx hb dL_law_749 ?_
  refine eqi (v := 1) (by decide) ?_
  refine va_sld hx hb hX hbl hbA hS (by unfold vp_in; decide) dL_law_750 ?_
  refine eqi (v := xs 1) rfl ?_
  refine puI (cV (As := [.int (xs 1)]) (rest := []) ⟨hx, hb, hml, hown, hts⟩ (c_X10_vote l D T x0 (u 0) (u 2) (u 15) (u 16) (u 17) (u 18) (u 19) (u 20) (u 21) (u 22) (u 23) (u 24) (u 25) (u 26) (u 27) (u 36) (u 37) (u 38) (u 130) (u 131) (u 132) (u 141) (u 144) (u 150) (u 151) (xs 1)) k_X10_vote v_X10_vote m904 rfl rfl ⟨(Nat.le_of_ble_eq_true rfl), (Nat.le_of_ble_eq_true rfl)⟩ (preP hC (hP.sub (ws' := [(x0, .inr (10, [.ref (u 0), .ref (u 2), .ref (u 15), .ref (u 38), .ref (u 130), .ref (u 131), .ref (u 132), .ref (u 141), .ref (u 144), .ref (u 150), .ref (u 151)])), ((u 15), .inr (3, [.ref (u 16), .ref (u 27), .int 0, .int 0, .int 2, .long 0, .int 0, .ref (u 36), .ref (u 37)])), ((u 16), .inr (5, [.int 0, .int 0, .int 0, .int 0, .int 0, .int 0, .int 0, .int 0, .int 0, .ref (u 17), .ref (u 18), .ref (u 19), .ref (u 20), .ref (u 21), .ref (u 22), .ref (u 23), .ref (u 24), .ref (u 25), .ref (u 26)]))]) [0, 16, 17] rfl)) (va_recv hK hP (ci := 10) (q0 := 0) rfl rfl) rfl hl.1 rfl (Nat.le_of_ble_eq_true rfl) dL_law_751 ⟨(Nat.le_of_ble_eq_true rfl), (Nat.le_of_ble_eq_true rfl)⟩) hS hP (fun r_1 H locs hw hP hS => ?_)
  have c_3 : r_1 = (-2) := hw
  refine lv_aload_n hx hb dL_law_754 rfl (lv_at hl 1 rfl) ?_
  refine lv_aload_n hx hb dL_law_755 rfl (lv_at hl 3 rfl) ?_
  refine lv_iload_n hx hb dL_law_756 rfl (lv_at hl 0 rfl) ?_
  refine lv_iconst (v := 1) hx hb dL_law_757 (by decide) ?_
  refine lv_iadd hx hb dL_law_758 ?_
  refine eqi (v := 1) (by decide) ?_
  refine va_sld hx hb hX hbl hbA hS (by unfold vp_in; decide) dL_law_759 ?_
  refine eqi (v := xs 1) rfl ?_
  refine mtId (wr := []) (cV (As := [.int (xs 1)]) (rest := [.int r_1]) ⟨hx, hb, hml, hown, hts⟩ (c_m_vote l D T (v 1) (v 16) (v 17) (v 18) (v 19) (v 2) (v 20) (v 21) (v 22) (v 23) (v 24) (v 25) (v 26) (v 27) (v 28) (v 29) (v 3) (v 30) (v 31) (v 32) (v 36) (v 4) (v 40) (v 41) (v 42) (v 5) m0 (xs 1) _) k_X11_vote v_X11_vote m1734 rfl rfl ⟨(Nat.le_of_ble_eq_true rfl), (Nat.le_of_ble_eq_true rfl)⟩ (preM hC (hP.sub (ws' := [(m0, .inr (11, [.int 0, .ref (v 1), .ref (v 2), .ref (v 3), .ref (v 4), .ref (v 5), .int 0, .int 0, .int 0, .int 0, .int 0, .long 0, .int 0, .int 0, .int 0, .int (-1), .ref (v 16), .ref (v 17), .ref (v 18), .ref (v 19), .ref (v 20), .ref (v 21), .ref (v 22), .ref (v 23), .ref (v 24), .ref (v 25), .ref (v 26), .ref (v 27), .ref (v 28), .ref (v 29), .ref (v 30), .ref (v 31), .ref (v 32), .int 0, .int 0, .int 0, .ref (v 36), .int 0, .int 0, .int 0, .ref (v 40), .ref (v 41), .ref (v 42), .int 0, .long 0])), ((v 20), .inl (T 0, 5, .inl (fun _ => 0)))]) [154, 164] rfl) (hD.sub (ws' := [(m0, .inr (11, [.int 0, .ref (v 1), .ref (v 2), .ref (v 3), .ref (v 4), .ref (v 5), .int 0, .int 0, .int 0, .int 0, .int 0, .long 0, .int 0, .int 0, .int 0, .int (-1), .ref (v 16), .ref (v 17), .ref (v 18), .ref (v 19), .ref (v 20), .ref (v 21), .ref (v 22), .ref (v 23), .ref (v 24), .ref (v 25), .ref (v 26), .ref (v 27), .ref (v 28), .ref (v 29), .ref (v 30), .ref (v 31), .ref (v 32), .int 0, .int 0, .int 0, .ref (v 36), .int 0, .int 0, .int 0, .ref (v 40), .ref (v 41), .ref (v 42), .int 0, .long 0])), ((v 20), .inl (T 0, 5, .inl (fun _ => 0)))]) [154, 164] (by decide) rfl)) (va_recv hK hP (ci := 11) (q0 := 154) rfl rfl) rfl hl.1 rfl (Nat.le_of_ble_eq_true rfl) dL_law_760 ⟨(Nat.le_of_ble_eq_true rfl), (Nat.le_of_ble_eq_true rfl)⟩) hS hA hP hD [154, 164] [] rfl rfl (by decide) (by decide) (fun r_4 u_5 H locs hw hP hD hS => ?_)
  have c_6 : r_4 = (-2) := hw
  refine lv_icmp_eq (tgt := 1862) hx hb dL_law_763 (by decide) (fun _ => ?_) (fun h => absurd (c_3.trans c_6.symm) h)
  refine lv_iinc (v := 6) (lv' := [(3, .int 6), (2, .ref m0), (1, .ref x0), (0, .ref b)]) hx hb dL_law_1862 hl (k := 0) rfl (by decide) (by decide) rfl (fun ls hl => ?_)
  refine lv_goto (tgt := 18) hx hb dL_law_1865 (by decide) ?_
  refine lv_iload_n hx hb dL_law_18 rfl (lv_at hl 0 rfl) ?_
  refine lv_aload_n hx hb dL_law_19 rfl (lv_at hl 3 rfl) ?_
  refine va_slen hx hb hX hbl hbA hS dL_law_20 ?_
  refine eqi (v := 6) (by decide) ?_
  refine lv_bipush (v := 6) hx hb dL_law_21 (by decide) ?_
  refine lv_isub hx hb dL_law_23 ?_
  refine eqi (v := 0) (by decide) ?_
  refine lv_icmp_gt (tgt := 1868) hx hb dL_law_24 (by decide) (fun _ => ?_) (fun c_7 => absurd (by decide) c_7)
  refine lv_iconst (v := 1) hx hb dL_law_1868 (by decide) ?_
  refine va_forget (fun q hq => hS.2.2 q hq) ?_
  refine W.widen (k := 600000) (n := 7302250) (Nat.le_of_ble_eq_true rfl) (Nat.le_of_ble_eq_true rfl) ?_
  exact lw_ret hx hb hr hlocks dL_law_1869

set_option maxHeartbeats 4000000 in
set_option maxRecDepth 100000 in
theorem lawcase_16 {p : Program} {e : Env} {s : State} {m : MethodId} {below : List Frame} {meth : Method} {c : Code} (l : Launch) {b : Nat} {xs : Nat → Int32} (C0 : lw_At p s m meth c b 6 xs) {D : va_G} {T : Nat → ClassId} (hC : cx D T s) {H : Heap} {locs : List Loc} (x0 m0 : Nat) (u v : Nat → Nat) (hP : va_P D vwCl (lawW T x0 m0 u v) H) (hD : va_D (fun q : Nat => s.heap.size ≤ q) (lawW T x0 m0 u v)) (hS : va_S (fun q : Nat => s.heap.size ≤ q) s.heap H locs) {ls : Array Slot} (hl : lv_has ls 4 [(3, .int 0), (2, .ref m0), (1, .ref x0), (0, .ref b)]) : W p l e room_1 s m #[Value.ref b] below meth c H locs 181 83004 (lw_Z below #[Value.ref b] s) (F0 m 768 ls []) := by
  obtain ⟨hx, hb, hr, hml, hown, hts0, hX, hbl, hlocks, hgv⟩ := id C0
  have hts : ∀ w ∈ gt, w.before #[Value.ref b] s = true := fun w hw => hts0 w (List.mem_filter.mp hw).1
  have hown : s.vm.findClass RL = some m.cls := hown
  have hb : c.code = cL_law := hb
  have hA : ∀ q : Nat, s.heap.size ≤ q → (fun q : Nat => s.heap.size ≤ q) q := fun _ h => h
  have hbA : ¬ (fun q : Nat => s.heap.size ≤ q) b := Nat.not_le.mpr hbl
  have hK := hC.1
  refine lv_aload_n hx hb dL_law_768 rfl (lv_at hl 2 rfl) ?_
  refine lv_aload_n hx hb dL_law_769 rfl (lv_at hl 3 rfl) ?_
  refine lv_iload_n hx hb dL_law_770 rfl (lv_at hl 0 rfl) ?_
  refine lv_iconst (v := 1) hx hb dL_law_771 (by decide) ?_
  refine lv_iadd hx hb dL_law_772 ?_
  refine eqi (v := 1) (by decide) ?_
  refine va_sld hx hb hX hbl hbA hS (by unfold vp_in; decide) dL_law_773 ?_
  refine eqi (v := xs 1) rfl ?_
  refine puI (cV (As := [.int (xs 1)]) (rest := []) ⟨hx, hb, hml, hown, hts⟩ (c_X10_election l D T x0 (u 0) (u 2) (u 15) (u 16) (u 17) (u 18) (u 19) (u 20) (u 21) (u 22) (u 23) (u 24) (u 25) (u 26) (u 27) (u 36) (u 37) (u 38) (u 130) (u 131) (u 132) (u 141) (u 144) (u 150) (u 151) (xs 1)) k_X10_election v_X10_election m920 rfl rfl ⟨(Nat.le_of_ble_eq_true rfl), (Nat.le_of_ble_eq_true rfl)⟩ (preP hC (hP.sub (ws' := [(x0, .inr (10, [.ref (u 0), .ref (u 2), .ref (u 15), .ref (u 38), .ref (u 130), .ref (u 131), .ref (u 132), .ref (u 141), .ref (u 144), .ref (u 150), .ref (u 151)])), ((u 15), .inr (3, [.ref (u 16), .ref (u 27), .int 0, .int 0, .int 2, .long 0, .int 0, .ref (u 36), .ref (u 37)])), ((u 16), .inr (5, [.int 0, .int 0, .int 0, .int 0, .int 0, .int 0, .int 0, .int 0, .int 0, .ref (u 17), .ref (u 18), .ref (u 19), .ref (u 20), .ref (u 21), .ref (u 22), .ref (u 23), .ref (u 24), .ref (u 25), .ref (u 26)]))]) [0, 16, 17] rfl)) (va_recv hK hP (ci := 10) (q0 := 0) rfl rfl) rfl hl.1 rfl (Nat.le_of_ble_eq_true rfl) dL_law_774 ⟨(Nat.le_of_ble_eq_true rfl), (Nat.le_of_ble_eq_true rfl)⟩) hS hP (fun r_1 H locs hw hP hS => ?_)
  have c_3 : r_1 = (-2) := hw
  refine lv_aload_n hx hb dL_law_777 rfl (lv_at hl 1 rfl) ?_
  refine lv_aload_n hx hb dL_law_778 rfl (lv_at hl 3 rfl) ?_
  refine lv_iload_n hx hb dL_law_779 rfl (lv_at hl 0 rfl) ?_
  refine lv_iconst (v := 1) hx hb dL_law_780 (by decide) ?_
  refine lv_iadd hx hb dL_law_781 ?_
  refine eqi (v := 1) (by decide) ?_
  refine va_sld hx hb hX hbl hbA hS (by unfold vp_in; decide) dL_law_782 ?_
  refine eqi (v := xs 1) rfl ?_
  refine mtId (wr := []) (cV (As := [.int (xs 1)]) (rest := [.int r_1]) ⟨hx, hb, hml, hown, hts⟩ (c_m_election l D T (v 1) (v 16) (v 17) (v 18) (v 19) (v 2) (v 20) (v 21) (v 22) (v 23) (v 24) (v 25) (v 26) (v 27) (v 28) (v 29) (v 3) (v 30) (v 31) (v 32) (v 36) (v 4) (v 40) (v 41) (v 42) (v 5) m0 (xs 1) _) k_X11_election v_X11_election m1746 rfl rfl ⟨(Nat.le_of_ble_eq_true rfl), (Nat.le_of_ble_eq_true rfl)⟩ (preM hC (hP.sub (ws' := [(m0, .inr (11, [.int 0, .ref (v 1), .ref (v 2), .ref (v 3), .ref (v 4), .ref (v 5), .int 0, .int 0, .int 0, .int 0, .int 0, .long 0, .int 0, .int 0, .int 0, .int (-1), .ref (v 16), .ref (v 17), .ref (v 18), .ref (v 19), .ref (v 20), .ref (v 21), .ref (v 22), .ref (v 23), .ref (v 24), .ref (v 25), .ref (v 26), .ref (v 27), .ref (v 28), .ref (v 29), .ref (v 30), .ref (v 31), .ref (v 32), .int 0, .int 0, .int 0, .ref (v 36), .int 0, .int 0, .int 0, .ref (v 40), .ref (v 41), .ref (v 42), .int 0, .long 0])), ((v 17), .inl (T 0, 15, .inl (fun _ => 0)))]) [154, 161] rfl) (hD.sub (ws' := [(m0, .inr (11, [.int 0, .ref (v 1), .ref (v 2), .ref (v 3), .ref (v 4), .ref (v 5), .int 0, .int 0, .int 0, .int 0, .int 0, .long 0, .int 0, .int 0, .int 0, .int (-1), .ref (v 16), .ref (v 17), .ref (v 18), .ref (v 19), .ref (v 20), .ref (v 21), .ref (v 22), .ref (v 23), .ref (v 24), .ref (v 25), .ref (v 26), .ref (v 27), .ref (v 28), .ref (v 29), .ref (v 30), .ref (v 31), .ref (v 32), .int 0, .int 0, .int 0, .ref (v 36), .int 0, .int 0, .int 0, .ref (v 40), .ref (v 41), .ref (v 42), .int 0, .long 0])), ((v 17), .inl (T 0, 15, .inl (fun _ => 0)))]) [154, 161] (by decide) rfl)) (va_recv hK hP (ci := 11) (q0 := 154) rfl rfl) rfl hl.1 rfl (Nat.le_of_ble_eq_true rfl) dL_law_783 ⟨(Nat.le_of_ble_eq_true rfl), (Nat.le_of_ble_eq_true rfl)⟩) hS hA hP hD [154, 161] [] rfl rfl (by decide) (by decide) (fun r_4 u_5 H locs hw hP hD hS => ?_)
  have c_6 : r_4 = (-2) := hw
  refine lv_icmp_eq (tgt := 1862) hx hb dL_law_786 (by decide) (fun _ => ?_) (fun h => absurd (c_3.trans c_6.symm) h)
  refine lv_iinc (v := 6) (lv' := [(3, .int 6), (2, .ref m0), (1, .ref x0), (0, .ref b)]) hx hb dL_law_1862 hl (k := 0) rfl (by decide) (by decide) rfl (fun ls hl => ?_)
  refine lv_goto (tgt := 18) hx hb dL_law_1865 (by decide) ?_
  refine lv_iload_n hx hb dL_law_18 rfl (lv_at hl 0 rfl) ?_
  refine lv_aload_n hx hb dL_law_19 rfl (lv_at hl 3 rfl) ?_
  refine va_slen hx hb hX hbl hbA hS dL_law_20 ?_
  refine eqi (v := 6) (by decide) ?_
  refine lv_bipush (v := 6) hx hb dL_law_21 (by decide) ?_
  refine lv_isub hx hb dL_law_23 ?_
  refine eqi (v := 0) (by decide) ?_
  refine lv_icmp_gt (tgt := 1868) hx hb dL_law_24 (by decide) (fun _ => ?_) (fun c_7 => absurd (by decide) c_7)
  refine lv_iconst (v := 1) hx hb dL_law_1868 (by decide) ?_
  refine va_forget (fun q hq => hS.2.2 q hq) ?_
  refine W.widen (k := 600000) (n := 7302250) (Nat.le_of_ble_eq_true rfl) (Nat.le_of_ble_eq_true rfl) ?_
  exact lw_ret hx hb hr hlocks dL_law_1869

set_option maxHeartbeats 4000000 in
set_option maxRecDepth 100000 in
theorem lawcase_17 {p : Program} {e : Env} {s : State} {m : MethodId} {below : List Frame} {meth : Method} {c : Code} (l : Launch) {b : Nat} {xs : Nat → Int32} (C0 : lw_At p s m meth c b 6 xs) {D : va_G} {T : Nat → ClassId} (hC : cx D T s) {H : Heap} {locs : List Loc} (x0 m0 : Nat) (u v : Nat → Nat) (hP : va_P D vwCl (lawW T x0 m0 u v) H) (hD : va_D (fun q : Nat => s.heap.size ≤ q) (lawW T x0 m0 u v)) (hS : va_S (fun q : Nat => s.heap.size ≤ q) s.heap H locs) {ls : Array Slot} (hl : lv_has ls 4 [(3, .int 0), (2, .ref m0), (1, .ref x0), (0, .ref b)]) : W p l e room_1 s m #[Value.ref b] below meth c H locs 181 83004 (lw_Z below #[Value.ref b] s) (F0 m 791 ls []) := by
  obtain ⟨hx, hb, hr, hml, hown, hts0, hX, hbl, hlocks, hgv⟩ := id C0
  have hts : ∀ w ∈ gt, w.before #[Value.ref b] s = true := fun w hw => hts0 w (List.mem_filter.mp hw).1
  have hown : s.vm.findClass RL = some m.cls := hown
  have hb : c.code = cL_law := hb
  have hA : ∀ q : Nat, s.heap.size ≤ q → (fun q : Nat => s.heap.size ≤ q) q := fun _ h => h
  have hbA : ¬ (fun q : Nat => s.heap.size ≤ q) b := Nat.not_le.mpr hbl
  have hK := hC.1
  refine lv_aload_n hx hb dL_law_791 rfl (lv_at hl 2 rfl) ?_
  refine lv_aload_n hx hb dL_law_792 rfl (lv_at hl 3 rfl) ?_
  refine lv_iload_n hx hb dL_law_793 rfl (lv_at hl 0 rfl) ?_
  refine lv_iconst (v := 1) hx hb dL_law_794 (by decide) ?_
  refine lv_iadd hx hb dL_law_795 ?_
  refine eqi (v := 1) (by decide) ?_
  refine va_sld hx hb hX hbl hbA hS (by unfold vp_in; decide) dL_law_796 ?_
  refine eqi (v := xs 1) rfl ?_
  refine puI (cV (As := [.int (xs 1)]) (rest := []) ⟨hx, hb, hml, hown, hts⟩ (c_X10_result l D T x0 (u 0) (u 2) (u 15) (u 16) (u 17) (u 18) (u 19) (u 20) (u 21) (u 22) (u 23) (u 24) (u 25) (u 26) (u 27) (u 36) (u 37) (u 38) (u 130) (u 131) (u 132) (u 141) (u 144) (u 150) (u 151) (xs 1)) k_X10_result v_X10_result m938 rfl rfl ⟨(Nat.le_of_ble_eq_true rfl), (Nat.le_of_ble_eq_true rfl)⟩ (preP hC (hP.sub (ws' := [(x0, .inr (10, [.ref (u 0), .ref (u 2), .ref (u 15), .ref (u 38), .ref (u 130), .ref (u 131), .ref (u 132), .ref (u 141), .ref (u 144), .ref (u 150), .ref (u 151)])), ((u 15), .inr (3, [.ref (u 16), .ref (u 27), .int 0, .int 0, .int 2, .long 0, .int 0, .ref (u 36), .ref (u 37)])), ((u 16), .inr (5, [.int 0, .int 0, .int 0, .int 0, .int 0, .int 0, .int 0, .int 0, .int 0, .ref (u 17), .ref (u 18), .ref (u 19), .ref (u 20), .ref (u 21), .ref (u 22), .ref (u 23), .ref (u 24), .ref (u 25), .ref (u 26)]))]) [0, 16, 17] rfl)) (va_recv hK hP (ci := 10) (q0 := 0) rfl rfl) rfl hl.1 rfl (Nat.le_of_ble_eq_true rfl) dL_law_797 ⟨(Nat.le_of_ble_eq_true rfl), (Nat.le_of_ble_eq_true rfl)⟩) hS hP (fun r_1 H locs hw hP hS => ?_)
  have c_3 : r_1 = (-2) := hw
  refine lv_aload_n hx hb dL_law_800 rfl (lv_at hl 1 rfl) ?_
  refine lv_aload_n hx hb dL_law_801 rfl (lv_at hl 3 rfl) ?_
  refine lv_iload_n hx hb dL_law_802 rfl (lv_at hl 0 rfl) ?_
  refine lv_iconst (v := 1) hx hb dL_law_803 (by decide) ?_
  refine lv_iadd hx hb dL_law_804 ?_
  refine eqi (v := 1) (by decide) ?_
  refine va_sld hx hb hX hbl hbA hS (by unfold vp_in; decide) dL_law_805 ?_
  refine eqi (v := xs 1) rfl ?_
  refine mtId (wr := []) (cV (As := [.int (xs 1)]) (rest := [.int r_1]) ⟨hx, hb, hml, hown, hts⟩ (c_m_result l D T (v 1) (v 16) (v 17) (v 18) (v 19) (v 2) (v 20) (v 21) (v 22) (v 23) (v 24) (v 25) (v 26) (v 27) (v 28) (v 29) (v 3) (v 30) (v 31) (v 32) (v 36) (v 4) (v 40) (v 41) (v 42) (v 5) m0 (xs 1) _) k_X11_result v_X11_result m1762 rfl rfl ⟨(Nat.le_of_ble_eq_true rfl), (Nat.le_of_ble_eq_true rfl)⟩ (preM hC (hP.sub (ws' := [(m0, .inr (11, [.int 0, .ref (v 1), .ref (v 2), .ref (v 3), .ref (v 4), .ref (v 5), .int 0, .int 0, .int 0, .int 0, .int 0, .long 0, .int 0, .int 0, .int 0, .int (-1), .ref (v 16), .ref (v 17), .ref (v 18), .ref (v 19), .ref (v 20), .ref (v 21), .ref (v 22), .ref (v 23), .ref (v 24), .ref (v 25), .ref (v 26), .ref (v 27), .ref (v 28), .ref (v 29), .ref (v 30), .ref (v 31), .ref (v 32), .int 0, .int 0, .int 0, .ref (v 36), .int 0, .int 0, .int 0, .ref (v 40), .ref (v 41), .ref (v 42), .int 0, .long 0])), ((v 17), .inl (T 0, 15, .inl (fun _ => 0)))]) [154, 161] rfl) (hD.sub (ws' := [(m0, .inr (11, [.int 0, .ref (v 1), .ref (v 2), .ref (v 3), .ref (v 4), .ref (v 5), .int 0, .int 0, .int 0, .int 0, .int 0, .long 0, .int 0, .int 0, .int 0, .int (-1), .ref (v 16), .ref (v 17), .ref (v 18), .ref (v 19), .ref (v 20), .ref (v 21), .ref (v 22), .ref (v 23), .ref (v 24), .ref (v 25), .ref (v 26), .ref (v 27), .ref (v 28), .ref (v 29), .ref (v 30), .ref (v 31), .ref (v 32), .int 0, .int 0, .int 0, .ref (v 36), .int 0, .int 0, .int 0, .ref (v 40), .ref (v 41), .ref (v 42), .int 0, .long 0])), ((v 17), .inl (T 0, 15, .inl (fun _ => 0)))]) [154, 161] (by decide) rfl)) (va_recv hK hP (ci := 11) (q0 := 154) rfl rfl) rfl hl.1 rfl (Nat.le_of_ble_eq_true rfl) dL_law_806 ⟨(Nat.le_of_ble_eq_true rfl), (Nat.le_of_ble_eq_true rfl)⟩) hS hA hP hD [154, 161] [] rfl rfl (by decide) (by decide) (fun r_4 u_5 H locs hw hP hD hS => ?_)
  have c_6 : r_4 = (-2) := hw
  refine lv_icmp_eq (tgt := 1862) hx hb dL_law_809 (by decide) (fun _ => ?_) (fun h => absurd (c_3.trans c_6.symm) h)
  refine lv_iinc (v := 6) (lv' := [(3, .int 6), (2, .ref m0), (1, .ref x0), (0, .ref b)]) hx hb dL_law_1862 hl (k := 0) rfl (by decide) (by decide) rfl (fun ls hl => ?_)
  refine lv_goto (tgt := 18) hx hb dL_law_1865 (by decide) ?_
  refine lv_iload_n hx hb dL_law_18 rfl (lv_at hl 0 rfl) ?_
  refine lv_aload_n hx hb dL_law_19 rfl (lv_at hl 3 rfl) ?_
  refine va_slen hx hb hX hbl hbA hS dL_law_20 ?_
  refine eqi (v := 6) (by decide) ?_
  refine lv_bipush (v := 6) hx hb dL_law_21 (by decide) ?_
  refine lv_isub hx hb dL_law_23 ?_
  refine eqi (v := 0) (by decide) ?_
  refine lv_icmp_gt (tgt := 1868) hx hb dL_law_24 (by decide) (fun _ => ?_) (fun c_7 => absurd (by decide) c_7)
  refine lv_iconst (v := 1) hx hb dL_law_1868 (by decide) ?_
  refine va_forget (fun q hq => hS.2.2 q hq) ?_
  refine W.widen (k := 600000) (n := 7302250) (Nat.le_of_ble_eq_true rfl) (Nat.le_of_ble_eq_true rfl) ?_
  exact lw_ret hx hb hr hlocks dL_law_1869

set_option maxHeartbeats 4000000 in
set_option maxRecDepth 100000 in
theorem lawcase_18 {p : Program} {e : Env} {s : State} {m : MethodId} {below : List Frame} {meth : Method} {c : Code} (l : Launch) {b : Nat} {xs : Nat → Int32} (C0 : lw_At p s m meth c b 6 xs) {D : va_G} {T : Nat → ClassId} (hC : cx D T s) {H : Heap} {locs : List Loc} (x0 m0 : Nat) (u v : Nat → Nat) (hP : va_P D vwCl (lawW T x0 m0 u v) H) (hD : va_D (fun q : Nat => s.heap.size ≤ q) (lawW T x0 m0 u v)) (hS : va_S (fun q : Nat => s.heap.size ≤ q) s.heap H locs) {ls : Array Slot} (hl : lv_has ls 4 [(3, .int 0), (2, .ref m0), (1, .ref x0), (0, .ref b)]) : W p l e room_1 s m #[Value.ref b] below meth c H locs 181 83004 (lw_Z below #[Value.ref b] s) (F0 m 814 ls []) := by
  obtain ⟨hx, hb, hr, hml, hown, hts0, hX, hbl, hlocks, hgv⟩ := id C0
  have hts : ∀ w ∈ gt, w.before #[Value.ref b] s = true := fun w hw => hts0 w (List.mem_filter.mp hw).1
  have hown : s.vm.findClass RL = some m.cls := hown
  have hb : c.code = cL_law := hb
  have hA : ∀ q : Nat, s.heap.size ≤ q → (fun q : Nat => s.heap.size ≤ q) q := fun _ h => h
  have hbA : ¬ (fun q : Nat => s.heap.size ≤ q) b := Nat.not_le.mpr hbl
  have hK := hC.1
  refine lv_aload_n hx hb dL_law_814 rfl (lv_at hl 2 rfl) ?_
  refine lv_aload_n hx hb dL_law_815 rfl (lv_at hl 3 rfl) ?_
  refine lv_iload_n hx hb dL_law_816 rfl (lv_at hl 0 rfl) ?_
  refine lv_iconst (v := 1) hx hb dL_law_817 (by decide) ?_
  refine lv_iadd hx hb dL_law_818 ?_
  refine eqi (v := 1) (by decide) ?_
  refine va_sld hx hb hX hbl hbA hS (by unfold vp_in; decide) dL_law_819 ?_
  refine eqi (v := xs 1) rfl ?_
  refine puI (cV (As := [.int (xs 1)]) (rest := []) ⟨hx, hb, hml, hown, hts⟩ (c_X10_won l D T x0 (u 0) (u 2) (u 15) (u 16) (u 27) (u 36) (u 37) (u 38) (u 130) (u 131) (u 132) (u 141) (u 144) (u 150) (u 151) (xs 1)) k_X10_won v_X10_won m942 rfl rfl ⟨(Nat.le_of_ble_eq_true rfl), (Nat.le_of_ble_eq_true rfl)⟩ (preP hC (hP.sub (ws' := [(x0, .inr (10, [.ref (u 0), .ref (u 2), .ref (u 15), .ref (u 38), .ref (u 130), .ref (u 131), .ref (u 132), .ref (u 141), .ref (u 144), .ref (u 150), .ref (u 151)])), ((u 15), .inr (3, [.ref (u 16), .ref (u 27), .int 0, .int 0, .int 2, .long 0, .int 0, .ref (u 36), .ref (u 37)]))]) [0, 16] rfl)) (va_recv hK hP (ci := 10) (q0 := 0) rfl rfl) rfl hl.1 rfl (Nat.le_of_ble_eq_true rfl) dL_law_820 ⟨(Nat.le_of_ble_eq_true rfl), (Nat.le_of_ble_eq_true rfl)⟩) hS hP (fun r_1 H locs hw hP hS => ?_)
  have c_3 : r_1 = (-2) := hw
  refine lv_aload_n hx hb dL_law_823 rfl (lv_at hl 1 rfl) ?_
  refine lv_aload_n hx hb dL_law_824 rfl (lv_at hl 3 rfl) ?_
  refine lv_iload_n hx hb dL_law_825 rfl (lv_at hl 0 rfl) ?_
  refine lv_iconst (v := 1) hx hb dL_law_826 (by decide) ?_
  refine lv_iadd hx hb dL_law_827 ?_
  refine eqi (v := 1) (by decide) ?_
  refine va_sld hx hb hX hbl hbA hS (by unfold vp_in; decide) dL_law_828 ?_
  refine eqi (v := xs 1) rfl ?_
  refine mtId (wr := []) (cV (As := [.int (xs 1)]) (rest := [.int r_1]) ⟨hx, hb, hml, hown, hts⟩ (c_m_won l D T (v 1) (v 16) (v 17) (v 18) (v 19) (v 2) (v 20) (v 21) (v 22) (v 23) (v 24) (v 25) (v 26) (v 27) (v 28) (v 29) (v 3) (v 30) (v 31) (v 32) (v 36) (v 4) (v 40) (v 41) (v 42) (v 5) m0 (xs 1) _) k_X11_won v_X11_won m1770 rfl rfl ⟨(Nat.le_of_ble_eq_true rfl), (Nat.le_of_ble_eq_true rfl)⟩ (preM hC (hP.sub (ws' := [(m0, .inr (11, [.int 0, .ref (v 1), .ref (v 2), .ref (v 3), .ref (v 4), .ref (v 5), .int 0, .int 0, .int 0, .int 0, .int 0, .long 0, .int 0, .int 0, .int 0, .int (-1), .ref (v 16), .ref (v 17), .ref (v 18), .ref (v 19), .ref (v 20), .ref (v 21), .ref (v 22), .ref (v 23), .ref (v 24), .ref (v 25), .ref (v 26), .ref (v 27), .ref (v 28), .ref (v 29), .ref (v 30), .ref (v 31), .ref (v 32), .int 0, .int 0, .int 0, .ref (v 36), .int 0, .int 0, .int 0, .ref (v 40), .ref (v 41), .ref (v 42), .int 0, .long 0])), ((v 17), .inl (T 0, 15, .inl (fun _ => 0)))]) [154, 161] rfl) (hD.sub (ws' := [(m0, .inr (11, [.int 0, .ref (v 1), .ref (v 2), .ref (v 3), .ref (v 4), .ref (v 5), .int 0, .int 0, .int 0, .int 0, .int 0, .long 0, .int 0, .int 0, .int 0, .int (-1), .ref (v 16), .ref (v 17), .ref (v 18), .ref (v 19), .ref (v 20), .ref (v 21), .ref (v 22), .ref (v 23), .ref (v 24), .ref (v 25), .ref (v 26), .ref (v 27), .ref (v 28), .ref (v 29), .ref (v 30), .ref (v 31), .ref (v 32), .int 0, .int 0, .int 0, .ref (v 36), .int 0, .int 0, .int 0, .ref (v 40), .ref (v 41), .ref (v 42), .int 0, .long 0])), ((v 17), .inl (T 0, 15, .inl (fun _ => 0)))]) [154, 161] (by decide) rfl)) (va_recv hK hP (ci := 11) (q0 := 154) rfl rfl) rfl hl.1 rfl (Nat.le_of_ble_eq_true rfl) dL_law_829 ⟨(Nat.le_of_ble_eq_true rfl), (Nat.le_of_ble_eq_true rfl)⟩) hS hA hP hD [154, 161] [] rfl rfl (by decide) (by decide) (fun r_4 u_5 H locs hw hP hD hS => ?_)
  have c_6 : r_4 = (-2) := hw
  refine lv_icmp_eq (tgt := 1862) hx hb dL_law_832 (by decide) (fun _ => ?_) (fun h => absurd (c_3.trans c_6.symm) h)
  refine lv_iinc (v := 6) (lv' := [(3, .int 6), (2, .ref m0), (1, .ref x0), (0, .ref b)]) hx hb dL_law_1862 hl (k := 0) rfl (by decide) (by decide) rfl (fun ls hl => ?_)
  refine lv_goto (tgt := 18) hx hb dL_law_1865 (by decide) ?_
  refine lv_iload_n hx hb dL_law_18 rfl (lv_at hl 0 rfl) ?_
  refine lv_aload_n hx hb dL_law_19 rfl (lv_at hl 3 rfl) ?_
  refine va_slen hx hb hX hbl hbA hS dL_law_20 ?_
  refine eqi (v := 6) (by decide) ?_
  refine lv_bipush (v := 6) hx hb dL_law_21 (by decide) ?_
  refine lv_isub hx hb dL_law_23 ?_
  refine eqi (v := 0) (by decide) ?_
  refine lv_icmp_gt (tgt := 1868) hx hb dL_law_24 (by decide) (fun _ => ?_) (fun c_7 => absurd (by decide) c_7)
  refine lv_iconst (v := 1) hx hb dL_law_1868 (by decide) ?_
  refine va_forget (fun q hq => hS.2.2 q hq) ?_
  refine W.widen (k := 600000) (n := 7302250) (Nat.le_of_ble_eq_true rfl) (Nat.le_of_ble_eq_true rfl) ?_
  exact lw_ret hx hb hr hlocks dL_law_1869

set_option maxHeartbeats 4000000 in
set_option maxRecDepth 100000 in
theorem lawcase_19 {p : Program} {e : Env} {s : State} {m : MethodId} {below : List Frame} {meth : Method} {c : Code} (l : Launch) {b : Nat} {xs : Nat → Int32} (C0 : lw_At p s m meth c b 6 xs) {D : va_G} {T : Nat → ClassId} (hC : cx D T s) {H : Heap} {locs : List Loc} (x0 m0 : Nat) (u v : Nat → Nat) (hP : va_P D vwCl (lawW T x0 m0 u v) H) (hD : va_D (fun q : Nat => s.heap.size ≤ q) (lawW T x0 m0 u v)) (hS : va_S (fun q : Nat => s.heap.size ≤ q) s.heap H locs) {ls : Array Slot} (hl : lv_has ls 4 [(3, .int 0), (2, .ref m0), (1, .ref x0), (0, .ref b)]) : W p l e room_1 s m #[Value.ref b] below meth c H locs 181 83004 (lw_Z below #[Value.ref b] s) (F0 m 837 ls []) := by
  obtain ⟨hx, hb, hr, hml, hown, hts0, hX, hbl, hlocks, hgv⟩ := id C0
  have hts : ∀ w ∈ gt, w.before #[Value.ref b] s = true := fun w hw => hts0 w (List.mem_filter.mp hw).1
  have hown : s.vm.findClass RL = some m.cls := hown
  have hb : c.code = cL_law := hb
  have hA : ∀ q : Nat, s.heap.size ≤ q → (fun q : Nat => s.heap.size ≤ q) q := fun _ h => h
  have hbA : ¬ (fun q : Nat => s.heap.size ≤ q) b := Nat.not_le.mpr hbl
  have hK := hC.1
  refine lv_aload_n hx hb dL_law_837 rfl (lv_at hl 2 rfl) ?_
  refine lv_aload_n hx hb dL_law_838 rfl (lv_at hl 3 rfl) ?_
  refine lv_iload_n hx hb dL_law_839 rfl (lv_at hl 0 rfl) ?_
  refine lv_iconst (v := 1) hx hb dL_law_840 (by decide) ?_
  refine lv_iadd hx hb dL_law_841 ?_
  refine eqi (v := 1) (by decide) ?_
  refine va_sld hx hb hX hbl hbA hS (by unfold vp_in; decide) dL_law_842 ?_
  refine eqi (v := xs 1) rfl ?_
  refine lv_aload_n hx hb dL_law_843 rfl (lv_at hl 3 rfl) ?_
  refine lv_iload_n hx hb dL_law_844 rfl (lv_at hl 0 rfl) ?_
  refine lv_iconst (v := 2) hx hb dL_law_845 (by decide) ?_
  refine lv_iadd hx hb dL_law_846 ?_
  refine eqi (v := 2) (by decide) ?_
  refine va_sld hx hb hX hbl hbA hS (by unfold vp_in; decide) dL_law_847 ?_
  refine eqi (v := xs 2) rfl ?_
  refine puI (cV (As := [.int (xs 1), .int (xs 2)]) (rest := []) ⟨hx, hb, hml, hown, hts⟩ (c_X10_votes l D T x0 (u 0) (u 2) (u 15) (u 16) (u 27) (u 36) (u 37) (u 38) (u 130) (u 131) (u 132) (u 141) (u 144) (u 150) (u 151) (xs 1) (xs 2)) k_X10_votes v_X10_votes m950 rfl rfl ⟨(Nat.le_of_ble_eq_true rfl), (Nat.le_of_ble_eq_true rfl)⟩ (preP hC (hP.sub (ws' := [(x0, .inr (10, [.ref (u 0), .ref (u 2), .ref (u 15), .ref (u 38), .ref (u 130), .ref (u 131), .ref (u 132), .ref (u 141), .ref (u 144), .ref (u 150), .ref (u 151)])), ((u 15), .inr (3, [.ref (u 16), .ref (u 27), .int 0, .int 0, .int 2, .long 0, .int 0, .ref (u 36), .ref (u 37)]))]) [0, 16] rfl)) (va_recv hK hP (ci := 10) (q0 := 0) rfl rfl) rfl hl.1 rfl (Nat.le_of_ble_eq_true rfl) dL_law_848 ⟨(Nat.le_of_ble_eq_true rfl), (Nat.le_of_ble_eq_true rfl)⟩) hS hP (fun r_1 H locs hw hP hS => ?_)
  have c_3 : r_1 = (-2) := hw
  refine lv_aload_n hx hb dL_law_851 rfl (lv_at hl 1 rfl) ?_
  refine lv_aload_n hx hb dL_law_852 rfl (lv_at hl 3 rfl) ?_
  refine lv_iload_n hx hb dL_law_853 rfl (lv_at hl 0 rfl) ?_
  refine lv_iconst (v := 1) hx hb dL_law_854 (by decide) ?_
  refine lv_iadd hx hb dL_law_855 ?_
  refine eqi (v := 1) (by decide) ?_
  refine va_sld hx hb hX hbl hbA hS (by unfold vp_in; decide) dL_law_856 ?_
  refine eqi (v := xs 1) rfl ?_
  refine lv_aload_n hx hb dL_law_857 rfl (lv_at hl 3 rfl) ?_
  refine lv_iload_n hx hb dL_law_858 rfl (lv_at hl 0 rfl) ?_
  refine lv_iconst (v := 2) hx hb dL_law_859 (by decide) ?_
  refine lv_iadd hx hb dL_law_860 ?_
  refine eqi (v := 2) (by decide) ?_
  refine va_sld hx hb hX hbl hbA hS (by unfold vp_in; decide) dL_law_861 ?_
  refine eqi (v := xs 2) rfl ?_
  refine mtId (wr := []) (cV (As := [.int (xs 1), .int (xs 2)]) (rest := [.int r_1]) ⟨hx, hb, hml, hown, hts⟩ (c_m_votes l D T (v 1) (v 16) (v 17) (v 18) (v 19) (v 2) (v 20) (v 21) (v 22) (v 23) (v 24) (v 25) (v 26) (v 27) (v 28) (v 29) (v 3) (v 30) (v 31) (v 32) (v 36) (v 4) (v 40) (v 41) (v 42) (v 5) m0 (xs 1) (xs 2) _) k_X11_votes v_X11_votes m1778 rfl rfl ⟨(Nat.le_of_ble_eq_true rfl), (Nat.le_of_ble_eq_true rfl)⟩ (preM hC (hP.sub (ws' := [(m0, .inr (11, [.int 0, .ref (v 1), .ref (v 2), .ref (v 3), .ref (v 4), .ref (v 5), .int 0, .int 0, .int 0, .int 0, .int 0, .long 0, .int 0, .int 0, .int 0, .int (-1), .ref (v 16), .ref (v 17), .ref (v 18), .ref (v 19), .ref (v 20), .ref (v 21), .ref (v 22), .ref (v 23), .ref (v 24), .ref (v 25), .ref (v 26), .ref (v 27), .ref (v 28), .ref (v 29), .ref (v 30), .ref (v 31), .ref (v 32), .int 0, .int 0, .int 0, .ref (v 36), .int 0, .int 0, .int 0, .ref (v 40), .ref (v 41), .ref (v 42), .int 0, .long 0])), ((v 17), .inl (T 0, 15, .inl (fun _ => 0)))]) [154, 161] rfl) (hD.sub (ws' := [(m0, .inr (11, [.int 0, .ref (v 1), .ref (v 2), .ref (v 3), .ref (v 4), .ref (v 5), .int 0, .int 0, .int 0, .int 0, .int 0, .long 0, .int 0, .int 0, .int 0, .int (-1), .ref (v 16), .ref (v 17), .ref (v 18), .ref (v 19), .ref (v 20), .ref (v 21), .ref (v 22), .ref (v 23), .ref (v 24), .ref (v 25), .ref (v 26), .ref (v 27), .ref (v 28), .ref (v 29), .ref (v 30), .ref (v 31), .ref (v 32), .int 0, .int 0, .int 0, .ref (v 36), .int 0, .int 0, .int 0, .ref (v 40), .ref (v 41), .ref (v 42), .int 0, .long 0])), ((v 17), .inl (T 0, 15, .inl (fun _ => 0)))]) [154, 161] (by decide) rfl)) (va_recv hK hP (ci := 11) (q0 := 154) rfl rfl) rfl hl.1 rfl (Nat.le_of_ble_eq_true rfl) dL_law_862 ⟨(Nat.le_of_ble_eq_true rfl), (Nat.le_of_ble_eq_true rfl)⟩) hS hA hP hD [154, 161] [] rfl rfl (by decide) (by decide) (fun r_4 u_5 H locs hw hP hD hS => ?_)
  have c_6 : r_4 = (-2) := hw
  refine lv_icmp_eq (tgt := 1862) hx hb dL_law_865 (by decide) (fun _ => ?_) (fun h => absurd (c_3.trans c_6.symm) h)
  refine lv_iinc (v := 6) (lv' := [(3, .int 6), (2, .ref m0), (1, .ref x0), (0, .ref b)]) hx hb dL_law_1862 hl (k := 0) rfl (by decide) (by decide) rfl (fun ls hl => ?_)
  refine lv_goto (tgt := 18) hx hb dL_law_1865 (by decide) ?_
  refine lv_iload_n hx hb dL_law_18 rfl (lv_at hl 0 rfl) ?_
  refine lv_aload_n hx hb dL_law_19 rfl (lv_at hl 3 rfl) ?_
  refine va_slen hx hb hX hbl hbA hS dL_law_20 ?_
  refine eqi (v := 6) (by decide) ?_
  refine lv_bipush (v := 6) hx hb dL_law_21 (by decide) ?_
  refine lv_isub hx hb dL_law_23 ?_
  refine eqi (v := 0) (by decide) ?_
  refine lv_icmp_gt (tgt := 1868) hx hb dL_law_24 (by decide) (fun _ => ?_) (fun c_7 => absurd (by decide) c_7)
  refine lv_iconst (v := 1) hx hb dL_law_1868 (by decide) ?_
  refine va_forget (fun q hq => hS.2.2 q hq) ?_
  refine W.widen (k := 600000) (n := 7302250) (Nat.le_of_ble_eq_true rfl) (Nat.le_of_ble_eq_true rfl) ?_
  exact lw_ret hx hb hr hlocks dL_law_1869

set_option maxHeartbeats 4000000 in
set_option maxRecDepth 100000 in
theorem lawcase_20 {p : Program} {e : Env} {s : State} {m : MethodId} {below : List Frame} {meth : Method} {c : Code} (l : Launch) {b : Nat} {xs : Nat → Int32} (C0 : lw_At p s m meth c b 6 xs) {D : va_G} {T : Nat → ClassId} (hC : cx D T s) {H : Heap} {locs : List Loc} (x0 m0 : Nat) (u v : Nat → Nat) (hP : va_P D vwCl (lawW T x0 m0 u v) H) (hD : va_D (fun q : Nat => s.heap.size ≤ q) (lawW T x0 m0 u v)) (hS : va_S (fun q : Nat => s.heap.size ≤ q) s.heap H locs) {ls : Array Slot} (hl : lv_has ls 4 [(3, .int 0), (2, .ref m0), (1, .ref x0), (0, .ref b)]) : W p l e room_1 s m #[Value.ref b] below meth c H locs 181 83004 (lw_Z below #[Value.ref b] s) (F0 m 870 ls []) := by
  obtain ⟨hx, hb, hr, hml, hown, hts0, hX, hbl, hlocks, hgv⟩ := id C0
  have hts : ∀ w ∈ gt, w.before #[Value.ref b] s = true := fun w hw => hts0 w (List.mem_filter.mp hw).1
  have hown : s.vm.findClass RL = some m.cls := hown
  have hb : c.code = cL_law := hb
  have hA : ∀ q : Nat, s.heap.size ≤ q → (fun q : Nat => s.heap.size ≤ q) q := fun _ h => h
  have hbA : ¬ (fun q : Nat => s.heap.size ≤ q) b := Nat.not_le.mpr hbl
  have hK := hC.1
  refine lv_aload_n hx hb dL_law_870 rfl (lv_at hl 2 rfl) ?_
  refine lv_aload_n hx hb dL_law_871 rfl (lv_at hl 3 rfl) ?_
  refine lv_iload_n hx hb dL_law_872 rfl (lv_at hl 0 rfl) ?_
  refine lv_iconst (v := 1) hx hb dL_law_873 (by decide) ?_
  refine lv_iadd hx hb dL_law_874 ?_
  refine eqi (v := 1) (by decide) ?_
  refine va_sld hx hb hX hbl hbA hS (by unfold vp_in; decide) dL_law_875 ?_
  refine eqi (v := xs 1) rfl ?_
  refine lv_aload_n hx hb dL_law_876 rfl (lv_at hl 3 rfl) ?_
  refine lv_iload_n hx hb dL_law_877 rfl (lv_at hl 0 rfl) ?_
  refine lv_iconst (v := 2) hx hb dL_law_878 (by decide) ?_
  refine lv_iadd hx hb dL_law_879 ?_
  refine eqi (v := 2) (by decide) ?_
  refine va_sld hx hb hX hbl hbA hS (by unfold vp_in; decide) dL_law_880 ?_
  refine eqi (v := xs 2) rfl ?_
  refine puI (cV (As := [.int (xs 1), .int (xs 2)]) (rest := []) ⟨hx, hb, hml, hown, hts⟩ (c_X10_still l D T x0 (u 0) (u 2) (u 15) (u 16) (u 27) (u 36) (u 37) (u 38) (u 130) (u 131) (u 132) (u 141) (u 144) (u 150) (u 151) (xs 1) (xs 2)) k_X10_still v_X10_still m954 rfl rfl ⟨(Nat.le_of_ble_eq_true rfl), (Nat.le_of_ble_eq_true rfl)⟩ (preP hC (hP.sub (ws' := [(x0, .inr (10, [.ref (u 0), .ref (u 2), .ref (u 15), .ref (u 38), .ref (u 130), .ref (u 131), .ref (u 132), .ref (u 141), .ref (u 144), .ref (u 150), .ref (u 151)])), ((u 15), .inr (3, [.ref (u 16), .ref (u 27), .int 0, .int 0, .int 2, .long 0, .int 0, .ref (u 36), .ref (u 37)]))]) [0, 16] rfl)) (va_recv hK hP (ci := 10) (q0 := 0) rfl rfl) rfl hl.1 rfl (Nat.le_of_ble_eq_true rfl) dL_law_881 ⟨(Nat.le_of_ble_eq_true rfl), (Nat.le_of_ble_eq_true rfl)⟩) hS hP (fun r_1 H locs hw hP hS => ?_)
  have c_3 : r_1 = (-2) := hw
  refine lv_aload_n hx hb dL_law_884 rfl (lv_at hl 1 rfl) ?_
  refine lv_aload_n hx hb dL_law_885 rfl (lv_at hl 3 rfl) ?_
  refine lv_iload_n hx hb dL_law_886 rfl (lv_at hl 0 rfl) ?_
  refine lv_iconst (v := 1) hx hb dL_law_887 (by decide) ?_
  refine lv_iadd hx hb dL_law_888 ?_
  refine eqi (v := 1) (by decide) ?_
  refine va_sld hx hb hX hbl hbA hS (by unfold vp_in; decide) dL_law_889 ?_
  refine eqi (v := xs 1) rfl ?_
  refine lv_aload_n hx hb dL_law_890 rfl (lv_at hl 3 rfl) ?_
  refine lv_iload_n hx hb dL_law_891 rfl (lv_at hl 0 rfl) ?_
  refine lv_iconst (v := 2) hx hb dL_law_892 (by decide) ?_
  refine lv_iadd hx hb dL_law_893 ?_
  refine eqi (v := 2) (by decide) ?_
  refine va_sld hx hb hX hbl hbA hS (by unfold vp_in; decide) dL_law_894 ?_
  refine eqi (v := xs 2) rfl ?_
  refine mtId (wr := []) (cV (As := [.int (xs 1), .int (xs 2)]) (rest := [.int r_1]) ⟨hx, hb, hml, hown, hts⟩ (c_m_still l D T (v 1) (v 16) (v 17) (v 18) (v 19) (v 2) (v 20) (v 21) (v 22) (v 23) (v 24) (v 25) (v 26) (v 27) (v 28) (v 29) (v 3) (v 30) (v 31) (v 32) (v 36) (v 4) (v 40) (v 41) (v 42) (v 5) m0 (xs 1) (xs 2) _) k_X11_still v_X11_still m1782 rfl rfl ⟨(Nat.le_of_ble_eq_true rfl), (Nat.le_of_ble_eq_true rfl)⟩ (preM hC (hP.sub (ws' := [(m0, .inr (11, [.int 0, .ref (v 1), .ref (v 2), .ref (v 3), .ref (v 4), .ref (v 5), .int 0, .int 0, .int 0, .int 0, .int 0, .long 0, .int 0, .int 0, .int 0, .int (-1), .ref (v 16), .ref (v 17), .ref (v 18), .ref (v 19), .ref (v 20), .ref (v 21), .ref (v 22), .ref (v 23), .ref (v 24), .ref (v 25), .ref (v 26), .ref (v 27), .ref (v 28), .ref (v 29), .ref (v 30), .ref (v 31), .ref (v 32), .int 0, .int 0, .int 0, .ref (v 36), .int 0, .int 0, .int 0, .ref (v 40), .ref (v 41), .ref (v 42), .int 0, .long 0])), ((v 17), .inl (T 0, 15, .inl (fun _ => 0)))]) [154, 161] rfl) (hD.sub (ws' := [(m0, .inr (11, [.int 0, .ref (v 1), .ref (v 2), .ref (v 3), .ref (v 4), .ref (v 5), .int 0, .int 0, .int 0, .int 0, .int 0, .long 0, .int 0, .int 0, .int 0, .int (-1), .ref (v 16), .ref (v 17), .ref (v 18), .ref (v 19), .ref (v 20), .ref (v 21), .ref (v 22), .ref (v 23), .ref (v 24), .ref (v 25), .ref (v 26), .ref (v 27), .ref (v 28), .ref (v 29), .ref (v 30), .ref (v 31), .ref (v 32), .int 0, .int 0, .int 0, .ref (v 36), .int 0, .int 0, .int 0, .ref (v 40), .ref (v 41), .ref (v 42), .int 0, .long 0])), ((v 17), .inl (T 0, 15, .inl (fun _ => 0)))]) [154, 161] (by decide) rfl)) (va_recv hK hP (ci := 11) (q0 := 154) rfl rfl) rfl hl.1 rfl (Nat.le_of_ble_eq_true rfl) dL_law_895 ⟨(Nat.le_of_ble_eq_true rfl), (Nat.le_of_ble_eq_true rfl)⟩) hS hA hP hD [154, 161] [] rfl rfl (by decide) (by decide) (fun r_4 u_5 H locs hw hP hD hS => ?_)
  have c_6 : r_4 = (-2) := hw
  refine lv_icmp_eq (tgt := 1862) hx hb dL_law_898 (by decide) (fun _ => ?_) (fun h => absurd (c_3.trans c_6.symm) h)
  refine lv_iinc (v := 6) (lv' := [(3, .int 6), (2, .ref m0), (1, .ref x0), (0, .ref b)]) hx hb dL_law_1862 hl (k := 0) rfl (by decide) (by decide) rfl (fun ls hl => ?_)
  refine lv_goto (tgt := 18) hx hb dL_law_1865 (by decide) ?_
  refine lv_iload_n hx hb dL_law_18 rfl (lv_at hl 0 rfl) ?_
  refine lv_aload_n hx hb dL_law_19 rfl (lv_at hl 3 rfl) ?_
  refine va_slen hx hb hX hbl hbA hS dL_law_20 ?_
  refine eqi (v := 6) (by decide) ?_
  refine lv_bipush (v := 6) hx hb dL_law_21 (by decide) ?_
  refine lv_isub hx hb dL_law_23 ?_
  refine eqi (v := 0) (by decide) ?_
  refine lv_icmp_gt (tgt := 1868) hx hb dL_law_24 (by decide) (fun _ => ?_) (fun c_7 => absurd (by decide) c_7)
  refine lv_iconst (v := 1) hx hb dL_law_1868 (by decide) ?_
  refine va_forget (fun q hq => hS.2.2 q hq) ?_
  refine W.widen (k := 600000) (n := 7302250) (Nat.le_of_ble_eq_true rfl) (Nat.le_of_ble_eq_true rfl) ?_
  exact lw_ret hx hb hr hlocks dL_law_1869

set_option maxHeartbeats 4000000 in
set_option maxRecDepth 100000 in
theorem lawcase_21 {p : Program} {e : Env} {s : State} {m : MethodId} {below : List Frame} {meth : Method} {c : Code} (l : Launch) {b : Nat} {xs : Nat → Int32} (C0 : lw_At p s m meth c b 6 xs) {D : va_G} {T : Nat → ClassId} (hC : cx D T s) {H : Heap} {locs : List Loc} (x0 m0 : Nat) (u v : Nat → Nat) (hP : va_P D vwCl (lawW T x0 m0 u v) H) (hD : va_D (fun q : Nat => s.heap.size ≤ q) (lawW T x0 m0 u v)) (hS : va_S (fun q : Nat => s.heap.size ≤ q) s.heap H locs) {ls : Array Slot} (hl : lv_has ls 4 [(3, .int 0), (2, .ref m0), (1, .ref x0), (0, .ref b)]) : W p l e room_1 s m #[Value.ref b] below meth c H locs 181 83004 (lw_Z below #[Value.ref b] s) (F0 m 903 ls []) := by
  obtain ⟨hx, hb, hr, hml, hown, hts0, hX, hbl, hlocks, hgv⟩ := id C0
  have hts : ∀ w ∈ gt, w.before #[Value.ref b] s = true := fun w hw => hts0 w (List.mem_filter.mp hw).1
  have hown : s.vm.findClass RL = some m.cls := hown
  have hb : c.code = cL_law := hb
  have hA : ∀ q : Nat, s.heap.size ≤ q → (fun q : Nat => s.heap.size ≤ q) q := fun _ h => h
  have hbA : ¬ (fun q : Nat => s.heap.size ≤ q) b := Nat.not_le.mpr hbl
  have hK := hC.1
  refine lv_aload_n hx hb dL_law_903 rfl (lv_at hl 2 rfl) ?_
  refine puI (cV (As := []) (rest := []) ⟨hx, hb, hml, hown, hts⟩ (c_X10_lost l D T x0 (u 0) (u 2) (u 15) (u 16) (u 17) (u 18) (u 19) (u 20) (u 21) (u 22) (u 23) (u 24) (u 25) (u 26) (u 27) (u 36) (u 37) (u 38) (u 130) (u 131) (u 132) (u 141) (u 144) (u 150) (u 151)) k_X10_lost v_X10_lost m962 rfl rfl ⟨(Nat.le_of_ble_eq_true rfl), (Nat.le_of_ble_eq_true rfl)⟩ (preP hC (hP.sub (ws' := [(x0, .inr (10, [.ref (u 0), .ref (u 2), .ref (u 15), .ref (u 38), .ref (u 130), .ref (u 131), .ref (u 132), .ref (u 141), .ref (u 144), .ref (u 150), .ref (u 151)])), ((u 15), .inr (3, [.ref (u 16), .ref (u 27), .int 0, .int 0, .int 2, .long 0, .int 0, .ref (u 36), .ref (u 37)])), ((u 16), .inr (5, [.int 0, .int 0, .int 0, .int 0, .int 0, .int 0, .int 0, .int 0, .int 0, .ref (u 17), .ref (u 18), .ref (u 19), .ref (u 20), .ref (u 21), .ref (u 22), .ref (u 23), .ref (u 24), .ref (u 25), .ref (u 26)]))]) [0, 16, 17] rfl)) (va_recv hK hP (ci := 10) (q0 := 0) rfl rfl) rfl hl.1 rfl (Nat.le_of_ble_eq_true rfl) dL_law_904 ⟨(Nat.le_of_ble_eq_true rfl), (Nat.le_of_ble_eq_true rfl)⟩) hS hP (fun r_1 H locs hw hP hS => ?_)
  have c_3 : r_1 = (-1) := hw
  refine lv_aload_n hx hb dL_law_907 rfl (lv_at hl 1 rfl) ?_
  refine mtId (wr := []) (cV (As := []) (rest := [.int r_1]) ⟨hx, hb, hml, hown, hts⟩ (c_m_lost l D T (v 1) (v 16) (v 17) (v 18) (v 19) (v 2) (v 20) (v 21) (v 22) (v 23) (v 24) (v 25) (v 26) (v 27) (v 28) (v 29) (v 3) (v 30) (v 31) (v 32) (v 36) (v 4) (v 40) (v 41) (v 42) (v 5) m0 _) k_X11_lost v_X11_lost m1790 rfl rfl ⟨(Nat.le_of_ble_eq_true rfl), (Nat.le_of_ble_eq_true rfl)⟩ (preM hC (hP.sub (ws' := [(m0, .inr (11, [.int 0, .ref (v 1), .ref (v 2), .ref (v 3), .ref (v 4), .ref (v 5), .int 0, .int 0, .int 0, .int 0, .int 0, .long 0, .int 0, .int 0, .int 0, .int (-1), .ref (v 16), .ref (v 17), .ref (v 18), .ref (v 19), .ref (v 20), .ref (v 21), .ref (v 22), .ref (v 23), .ref (v 24), .ref (v 25), .ref (v 26), .ref (v 27), .ref (v 28), .ref (v 29), .ref (v 30), .ref (v 31), .ref (v 32), .int 0, .int 0, .int 0, .ref (v 36), .int 0, .int 0, .int 0, .ref (v 40), .ref (v 41), .ref (v 42), .int 0, .long 0])), ((v 17), .inl (T 0, 15, .inl (fun _ => 0)))]) [154, 161] rfl) (hD.sub (ws' := [(m0, .inr (11, [.int 0, .ref (v 1), .ref (v 2), .ref (v 3), .ref (v 4), .ref (v 5), .int 0, .int 0, .int 0, .int 0, .int 0, .long 0, .int 0, .int 0, .int 0, .int (-1), .ref (v 16), .ref (v 17), .ref (v 18), .ref (v 19), .ref (v 20), .ref (v 21), .ref (v 22), .ref (v 23), .ref (v 24), .ref (v 25), .ref (v 26), .ref (v 27), .ref (v 28), .ref (v 29), .ref (v 30), .ref (v 31), .ref (v 32), .int 0, .int 0, .int 0, .ref (v 36), .int 0, .int 0, .int 0, .ref (v 40), .ref (v 41), .ref (v 42), .int 0, .long 0])), ((v 17), .inl (T 0, 15, .inl (fun _ => 0)))]) [154, 161] (by decide) rfl)) (va_recv hK hP (ci := 11) (q0 := 154) rfl rfl) rfl hl.1 rfl (Nat.le_of_ble_eq_true rfl) dL_law_908 ⟨(Nat.le_of_ble_eq_true rfl), (Nat.le_of_ble_eq_true rfl)⟩) hS hA hP hD [154, 161] [] rfl rfl (by decide) (by decide) (fun r_4 u_5 H locs hw hP hD hS => ?_)
  have c_6 : r_4 = (-1) := hw
  refine lv_icmp_eq (tgt := 1862) hx hb dL_law_911 (by decide) (fun _ => ?_) (fun h => absurd (c_3.trans c_6.symm) h)
  refine lv_iinc (v := 6) (lv' := [(3, .int 6), (2, .ref m0), (1, .ref x0), (0, .ref b)]) hx hb dL_law_1862 hl (k := 0) rfl (by decide) (by decide) rfl (fun ls hl => ?_)
  refine lv_goto (tgt := 18) hx hb dL_law_1865 (by decide) ?_
  refine lv_iload_n hx hb dL_law_18 rfl (lv_at hl 0 rfl) ?_
  refine lv_aload_n hx hb dL_law_19 rfl (lv_at hl 3 rfl) ?_
  refine va_slen hx hb hX hbl hbA hS dL_law_20 ?_
  refine eqi (v := 6) (by decide) ?_
  refine lv_bipush (v := 6) hx hb dL_law_21 (by decide) ?_
  refine lv_isub hx hb dL_law_23 ?_
  refine eqi (v := 0) (by decide) ?_
  refine lv_icmp_gt (tgt := 1868) hx hb dL_law_24 (by decide) (fun _ => ?_) (fun c_7 => absurd (by decide) c_7)
  refine lv_iconst (v := 1) hx hb dL_law_1868 (by decide) ?_
  refine va_forget (fun q hq => hS.2.2 q hq) ?_
  refine W.widen (k := 600000) (n := 7302250) (Nat.le_of_ble_eq_true rfl) (Nat.le_of_ble_eq_true rfl) ?_
  exact lw_ret hx hb hr hlocks dL_law_1869

set_option maxHeartbeats 4000000 in
set_option maxRecDepth 100000 in
theorem lawcase_22 {p : Program} {e : Env} {s : State} {m : MethodId} {below : List Frame} {meth : Method} {c : Code} (l : Launch) {b : Nat} {xs : Nat → Int32} (C0 : lw_At p s m meth c b 6 xs) {D : va_G} {T : Nat → ClassId} (hC : cx D T s) {H : Heap} {locs : List Loc} (x0 m0 : Nat) (u v : Nat → Nat) (hP : va_P D vwCl (lawW T x0 m0 u v) H) (hD : va_D (fun q : Nat => s.heap.size ≤ q) (lawW T x0 m0 u v)) (hS : va_S (fun q : Nat => s.heap.size ≤ q) s.heap H locs) {ls : Array Slot} (hl : lv_has ls 4 [(3, .int 0), (2, .ref m0), (1, .ref x0), (0, .ref b)]) : W p l e room_1 s m #[Value.ref b] below meth c H locs 181 83004 (lw_Z below #[Value.ref b] s) (F0 m 916 ls []) := by
  obtain ⟨hx, hb, hr, hml, hown, hts0, hX, hbl, hlocks, hgv⟩ := id C0
  have hts : ∀ w ∈ gt, w.before #[Value.ref b] s = true := fun w hw => hts0 w (List.mem_filter.mp hw).1
  have hown : s.vm.findClass RL = some m.cls := hown
  have hb : c.code = cL_law := hb
  have hA : ∀ q : Nat, s.heap.size ≤ q → (fun q : Nat => s.heap.size ≤ q) q := fun _ h => h
  have hbA : ¬ (fun q : Nat => s.heap.size ≤ q) b := Nat.not_le.mpr hbl
  have hK := hC.1
  refine lv_aload_n hx hb dL_law_916 rfl (lv_at hl 2 rfl) ?_
  refine lv_aload_n hx hb dL_law_917 rfl (lv_at hl 3 rfl) ?_
  refine lv_iload_n hx hb dL_law_918 rfl (lv_at hl 0 rfl) ?_
  refine lv_iconst (v := 1) hx hb dL_law_919 (by decide) ?_
  refine lv_iadd hx hb dL_law_920 ?_
  refine eqi (v := 1) (by decide) ?_
  refine va_sld hx hb hX hbl hbA hS (by unfold vp_in; decide) dL_law_921 ?_
  refine eqi (v := xs 1) rfl ?_
  refine puI (cV (As := [.int (xs 1)]) (rest := []) ⟨hx, hb, hml, hown, hts⟩ (c_X10_read l D T x0 (u 0) (u 2) (u 15) (u 16) (u 27) (u 36) (u 37) (u 38) (u 130) (u 131) (u 132) (u 141) (u 144) (u 150) (u 151) (xs 1)) k_X10_read v_X10_read m974 rfl rfl ⟨(Nat.le_of_ble_eq_true rfl), (Nat.le_of_ble_eq_true rfl)⟩ (preP hC (hP.sub (ws' := [(x0, .inr (10, [.ref (u 0), .ref (u 2), .ref (u 15), .ref (u 38), .ref (u 130), .ref (u 131), .ref (u 132), .ref (u 141), .ref (u 144), .ref (u 150), .ref (u 151)])), ((u 15), .inr (3, [.ref (u 16), .ref (u 27), .int 0, .int 0, .int 2, .long 0, .int 0, .ref (u 36), .ref (u 37)]))]) [0, 16] rfl)) (va_recv hK hP (ci := 10) (q0 := 0) rfl rfl) rfl hl.1 rfl (Nat.le_of_ble_eq_true rfl) dL_law_922 ⟨(Nat.le_of_ble_eq_true rfl), (Nat.le_of_ble_eq_true rfl)⟩) hS hP (fun r_1 H locs hw hP hS => ?_)
  have c_3 : r_1 = (-2) := hw
  refine lv_aload_n hx hb dL_law_925 rfl (lv_at hl 1 rfl) ?_
  refine lv_aload_n hx hb dL_law_926 rfl (lv_at hl 3 rfl) ?_
  refine lv_iload_n hx hb dL_law_927 rfl (lv_at hl 0 rfl) ?_
  refine lv_iconst (v := 1) hx hb dL_law_928 (by decide) ?_
  refine lv_iadd hx hb dL_law_929 ?_
  refine eqi (v := 1) (by decide) ?_
  refine va_sld hx hb hX hbl hbA hS (by unfold vp_in; decide) dL_law_930 ?_
  refine eqi (v := xs 1) rfl ?_
  refine mtId (wr := []) (cV (As := [.int (xs 1)]) (rest := [.int r_1]) ⟨hx, hb, hml, hown, hts⟩ (c_m_read l D T (v 1) (v 16) (v 17) (v 18) (v 19) (v 2) (v 20) (v 21) (v 22) (v 23) (v 24) (v 25) (v 26) (v 27) (v 28) (v 29) (v 3) (v 30) (v 31) (v 32) (v 36) (v 4) (v 40) (v 41) (v 42) (v 5) m0 (xs 1) _) k_X11_read v_X11_read m1798 rfl rfl ⟨(Nat.le_of_ble_eq_true rfl), (Nat.le_of_ble_eq_true rfl)⟩ (preM hC (hP.sub (ws' := [(m0, .inr (11, [.int 0, .ref (v 1), .ref (v 2), .ref (v 3), .ref (v 4), .ref (v 5), .int 0, .int 0, .int 0, .int 0, .int 0, .long 0, .int 0, .int 0, .int 0, .int (-1), .ref (v 16), .ref (v 17), .ref (v 18), .ref (v 19), .ref (v 20), .ref (v 21), .ref (v 22), .ref (v 23), .ref (v 24), .ref (v 25), .ref (v 26), .ref (v 27), .ref (v 28), .ref (v 29), .ref (v 30), .ref (v 31), .ref (v 32), .int 0, .int 0, .int 0, .ref (v 36), .int 0, .int 0, .int 0, .ref (v 40), .ref (v 41), .ref (v 42), .int 0, .long 0])), ((v 17), .inl (T 0, 15, .inl (fun _ => 0)))]) [154, 161] rfl) (hD.sub (ws' := [(m0, .inr (11, [.int 0, .ref (v 1), .ref (v 2), .ref (v 3), .ref (v 4), .ref (v 5), .int 0, .int 0, .int 0, .int 0, .int 0, .long 0, .int 0, .int 0, .int 0, .int (-1), .ref (v 16), .ref (v 17), .ref (v 18), .ref (v 19), .ref (v 20), .ref (v 21), .ref (v 22), .ref (v 23), .ref (v 24), .ref (v 25), .ref (v 26), .ref (v 27), .ref (v 28), .ref (v 29), .ref (v 30), .ref (v 31), .ref (v 32), .int 0, .int 0, .int 0, .ref (v 36), .int 0, .int 0, .int 0, .ref (v 40), .ref (v 41), .ref (v 42), .int 0, .long 0])), ((v 17), .inl (T 0, 15, .inl (fun _ => 0)))]) [154, 161] (by decide) rfl)) (va_recv hK hP (ci := 11) (q0 := 154) rfl rfl) rfl hl.1 rfl (Nat.le_of_ble_eq_true rfl) dL_law_931 ⟨(Nat.le_of_ble_eq_true rfl), (Nat.le_of_ble_eq_true rfl)⟩) hS hA hP hD [154, 161] [] rfl rfl (by decide) (by decide) (fun r_4 u_5 H locs hw hP hD hS => ?_)
  have c_6 : r_4 = (-2) := hw
  refine lv_icmp_eq (tgt := 1862) hx hb dL_law_934 (by decide) (fun _ => ?_) (fun h => absurd (c_3.trans c_6.symm) h)
  refine lv_iinc (v := 6) (lv' := [(3, .int 6), (2, .ref m0), (1, .ref x0), (0, .ref b)]) hx hb dL_law_1862 hl (k := 0) rfl (by decide) (by decide) rfl (fun ls hl => ?_)
  refine lv_goto (tgt := 18) hx hb dL_law_1865 (by decide) ?_
  refine lv_iload_n hx hb dL_law_18 rfl (lv_at hl 0 rfl) ?_
  refine lv_aload_n hx hb dL_law_19 rfl (lv_at hl 3 rfl) ?_
  refine va_slen hx hb hX hbl hbA hS dL_law_20 ?_
  refine eqi (v := 6) (by decide) ?_
  refine lv_bipush (v := 6) hx hb dL_law_21 (by decide) ?_
  refine lv_isub hx hb dL_law_23 ?_
  refine eqi (v := 0) (by decide) ?_
  refine lv_icmp_gt (tgt := 1868) hx hb dL_law_24 (by decide) (fun _ => ?_) (fun c_7 => absurd (by decide) c_7)
  refine lv_iconst (v := 1) hx hb dL_law_1868 (by decide) ?_
  refine va_forget (fun q hq => hS.2.2 q hq) ?_
  refine W.widen (k := 600000) (n := 7302250) (Nat.le_of_ble_eq_true rfl) (Nat.le_of_ble_eq_true rfl) ?_
  exact lw_ret hx hb hr hlocks dL_law_1869

set_option maxHeartbeats 4000000 in
set_option maxRecDepth 100000 in
theorem lawcase_23 {p : Program} {e : Env} {s : State} {m : MethodId} {below : List Frame} {meth : Method} {c : Code} (l : Launch) {b : Nat} {xs : Nat → Int32} (C0 : lw_At p s m meth c b 6 xs) {D : va_G} {T : Nat → ClassId} (hC : cx D T s) {H : Heap} {locs : List Loc} (x0 m0 : Nat) (u v : Nat → Nat) (hP : va_P D vwCl (lawW T x0 m0 u v) H) (hD : va_D (fun q : Nat => s.heap.size ≤ q) (lawW T x0 m0 u v)) (hS : va_S (fun q : Nat => s.heap.size ≤ q) s.heap H locs) {ls : Array Slot} (hl : lv_has ls 4 [(3, .int 0), (2, .ref m0), (1, .ref x0), (0, .ref b)]) : W p l e room_1 s m #[Value.ref b] below meth c H locs 181 83004 (lw_Z below #[Value.ref b] s) (F0 m 939 ls []) := by
  obtain ⟨hx, hb, hr, hml, hown, hts0, hX, hbl, hlocks, hgv⟩ := id C0
  have hts : ∀ w ∈ gt, w.before #[Value.ref b] s = true := fun w hw => hts0 w (List.mem_filter.mp hw).1
  have hown : s.vm.findClass RL = some m.cls := hown
  have hb : c.code = cL_law := hb
  have hA : ∀ q : Nat, s.heap.size ≤ q → (fun q : Nat => s.heap.size ≤ q) q := fun _ h => h
  have hbA : ¬ (fun q : Nat => s.heap.size ≤ q) b := Nat.not_le.mpr hbl
  have hK := hC.1
  refine lv_aload_n hx hb dL_law_939 rfl (lv_at hl 2 rfl) ?_
  refine lv_aload_n hx hb dL_law_940 rfl (lv_at hl 3 rfl) ?_
  refine lv_iload_n hx hb dL_law_941 rfl (lv_at hl 0 rfl) ?_
  refine lv_iconst (v := 1) hx hb dL_law_942 (by decide) ?_
  refine lv_iadd hx hb dL_law_943 ?_
  refine eqi (v := 1) (by decide) ?_
  refine va_sld hx hb hX hbl hbA hS (by unfold vp_in; decide) dL_law_944 ?_
  refine eqi (v := xs 1) rfl ?_
  refine puI (cV (As := [.int (xs 1)]) (rest := []) ⟨hx, hb, hml, hown, hts⟩ (c_X10_hands l D T x0 (u 0) (u 2) (u 15) (u 16) (u 17) (u 18) (u 19) (u 20) (u 21) (u 22) (u 23) (u 24) (u 25) (u 26) (u 27) (u 36) (u 37) (u 38) (u 130) (u 131) (u 132) (u 141) (u 144) (u 150) (u 151) (xs 1)) k_X10_hands v_X10_hands m978 rfl rfl ⟨(Nat.le_of_ble_eq_true rfl), (Nat.le_of_ble_eq_true rfl)⟩ (preP hC (hP.sub (ws' := [(x0, .inr (10, [.ref (u 0), .ref (u 2), .ref (u 15), .ref (u 38), .ref (u 130), .ref (u 131), .ref (u 132), .ref (u 141), .ref (u 144), .ref (u 150), .ref (u 151)])), ((u 15), .inr (3, [.ref (u 16), .ref (u 27), .int 0, .int 0, .int 2, .long 0, .int 0, .ref (u 36), .ref (u 37)])), ((u 16), .inr (5, [.int 0, .int 0, .int 0, .int 0, .int 0, .int 0, .int 0, .int 0, .int 0, .ref (u 17), .ref (u 18), .ref (u 19), .ref (u 20), .ref (u 21), .ref (u 22), .ref (u 23), .ref (u 24), .ref (u 25), .ref (u 26)]))]) [0, 16, 17] rfl)) (va_recv hK hP (ci := 10) (q0 := 0) rfl rfl) rfl hl.1 rfl (Nat.le_of_ble_eq_true rfl) dL_law_945 ⟨(Nat.le_of_ble_eq_true rfl), (Nat.le_of_ble_eq_true rfl)⟩) hS hP (fun r_1 H locs hw hP hS => ?_)
  have c_3 : r_1 = (-2) := hw
  refine lv_aload_n hx hb dL_law_948 rfl (lv_at hl 1 rfl) ?_
  refine lv_aload_n hx hb dL_law_949 rfl (lv_at hl 3 rfl) ?_
  refine lv_iload_n hx hb dL_law_950 rfl (lv_at hl 0 rfl) ?_
  refine lv_iconst (v := 1) hx hb dL_law_951 (by decide) ?_
  refine lv_iadd hx hb dL_law_952 ?_
  refine eqi (v := 1) (by decide) ?_
  refine va_sld hx hb hX hbl hbA hS (by unfold vp_in; decide) dL_law_953 ?_
  refine eqi (v := xs 1) rfl ?_
  refine mtId (wr := []) (cV (As := [.int (xs 1)]) (rest := [.int r_1]) ⟨hx, hb, hml, hown, hts⟩ (c_m_hands l D T (v 1) (v 16) (v 17) (v 18) (v 19) (v 2) (v 20) (v 21) (v 22) (v 23) (v 24) (v 25) (v 26) (v 27) (v 28) (v 29) (v 3) (v 30) (v 31) (v 32) (v 36) (v 4) (v 40) (v 41) (v 42) (v 5) m0 (xs 1) _) k_X11_hands v_X11_hands m1802 rfl rfl ⟨(Nat.le_of_ble_eq_true rfl), (Nat.le_of_ble_eq_true rfl)⟩ (preM hC (hP.sub (ws' := [(m0, .inr (11, [.int 0, .ref (v 1), .ref (v 2), .ref (v 3), .ref (v 4), .ref (v 5), .int 0, .int 0, .int 0, .int 0, .int 0, .long 0, .int 0, .int 0, .int 0, .int (-1), .ref (v 16), .ref (v 17), .ref (v 18), .ref (v 19), .ref (v 20), .ref (v 21), .ref (v 22), .ref (v 23), .ref (v 24), .ref (v 25), .ref (v 26), .ref (v 27), .ref (v 28), .ref (v 29), .ref (v 30), .ref (v 31), .ref (v 32), .int 0, .int 0, .int 0, .ref (v 36), .int 0, .int 0, .int 0, .ref (v 40), .ref (v 41), .ref (v 42), .int 0, .long 0])), ((v 20), .inl (T 0, 5, .inl (fun _ => 0)))]) [154, 164] rfl) (hD.sub (ws' := [(m0, .inr (11, [.int 0, .ref (v 1), .ref (v 2), .ref (v 3), .ref (v 4), .ref (v 5), .int 0, .int 0, .int 0, .int 0, .int 0, .long 0, .int 0, .int 0, .int 0, .int (-1), .ref (v 16), .ref (v 17), .ref (v 18), .ref (v 19), .ref (v 20), .ref (v 21), .ref (v 22), .ref (v 23), .ref (v 24), .ref (v 25), .ref (v 26), .ref (v 27), .ref (v 28), .ref (v 29), .ref (v 30), .ref (v 31), .ref (v 32), .int 0, .int 0, .int 0, .ref (v 36), .int 0, .int 0, .int 0, .ref (v 40), .ref (v 41), .ref (v 42), .int 0, .long 0])), ((v 20), .inl (T 0, 5, .inl (fun _ => 0)))]) [154, 164] (by decide) rfl)) (va_recv hK hP (ci := 11) (q0 := 154) rfl rfl) rfl hl.1 rfl (Nat.le_of_ble_eq_true rfl) dL_law_954 ⟨(Nat.le_of_ble_eq_true rfl), (Nat.le_of_ble_eq_true rfl)⟩) hS hA hP hD [154, 164] [] rfl rfl (by decide) (by decide) (fun r_4 u_5 H locs hw hP hD hS => ?_)
  have c_6 : r_4 = (-2) := hw
  refine lv_icmp_eq (tgt := 1862) hx hb dL_law_957 (by decide) (fun _ => ?_) (fun h => absurd (c_3.trans c_6.symm) h)
  refine lv_iinc (v := 6) (lv' := [(3, .int 6), (2, .ref m0), (1, .ref x0), (0, .ref b)]) hx hb dL_law_1862 hl (k := 0) rfl (by decide) (by decide) rfl (fun ls hl => ?_)
  refine lv_goto (tgt := 18) hx hb dL_law_1865 (by decide) ?_
  refine lv_iload_n hx hb dL_law_18 rfl (lv_at hl 0 rfl) ?_
  refine lv_aload_n hx hb dL_law_19 rfl (lv_at hl 3 rfl) ?_
  refine va_slen hx hb hX hbl hbA hS dL_law_20 ?_
  refine eqi (v := 6) (by decide) ?_
  refine lv_bipush (v := 6) hx hb dL_law_21 (by decide) ?_
  refine lv_isub hx hb dL_law_23 ?_
  refine eqi (v := 0) (by decide) ?_
  refine lv_icmp_gt (tgt := 1868) hx hb dL_law_24 (by decide) (fun _ => ?_) (fun c_7 => absurd (by decide) c_7)
  refine lv_iconst (v := 1) hx hb dL_law_1868 (by decide) ?_
  refine va_forget (fun q hq => hS.2.2 q hq) ?_
  refine W.widen (k := 600000) (n := 7302250) (Nat.le_of_ble_eq_true rfl) (Nat.le_of_ble_eq_true rfl) ?_
  exact lw_ret hx hb hr hlocks dL_law_1869

set_option maxHeartbeats 4000000 in
set_option maxRecDepth 100000 in
theorem lawcase_24 {p : Program} {e : Env} {s : State} {m : MethodId} {below : List Frame} {meth : Method} {c : Code} (l : Launch) {b : Nat} {xs : Nat → Int32} (C0 : lw_At p s m meth c b 6 xs) {D : va_G} {T : Nat → ClassId} (hC : cx D T s) {H : Heap} {locs : List Loc} (x0 m0 : Nat) (u v : Nat → Nat) (hP : va_P D vwCl (lawW T x0 m0 u v) H) (hD : va_D (fun q : Nat => s.heap.size ≤ q) (lawW T x0 m0 u v)) (hS : va_S (fun q : Nat => s.heap.size ≤ q) s.heap H locs) {ls : Array Slot} (hl : lv_has ls 4 [(3, .int 0), (2, .ref m0), (1, .ref x0), (0, .ref b)]) : W p l e room_1 s m #[Value.ref b] below meth c H locs 181 83004 (lw_Z below #[Value.ref b] s) (F0 m 962 ls []) := by
  obtain ⟨hx, hb, hr, hml, hown, hts0, hX, hbl, hlocks, hgv⟩ := id C0
  have hts : ∀ w ∈ gt, w.before #[Value.ref b] s = true := fun w hw => hts0 w (List.mem_filter.mp hw).1
  have hown : s.vm.findClass RL = some m.cls := hown
  have hb : c.code = cL_law := hb
  have hA : ∀ q : Nat, s.heap.size ≤ q → (fun q : Nat => s.heap.size ≤ q) q := fun _ h => h
  have hbA : ¬ (fun q : Nat => s.heap.size ≤ q) b := Nat.not_le.mpr hbl
  have hK := hC.1
  refine lv_aload_n hx hb dL_law_962 rfl (lv_at hl 2 rfl) ?_
  refine lv_aload_n hx hb dL_law_963 rfl (lv_at hl 3 rfl) ?_
  refine lv_iload_n hx hb dL_law_964 rfl (lv_at hl 0 rfl) ?_
  refine lv_iconst (v := 1) hx hb dL_law_965 (by decide) ?_
  refine lv_iadd hx hb dL_law_966 ?_
  refine eqi (v := 1) (by decide) ?_
  refine va_sld hx hb hX hbl hbA hS (by unfold vp_in; decide) dL_law_967 ?_
  refine eqi (v := xs 1) rfl ?_
  refine puI (cV (As := [.int (xs 1)]) (rest := []) ⟨hx, hb, hml, hown, hts⟩ (c_X10_ghosts l D T x0 (u 0) (u 2) (u 15) (u 16) (u 17) (u 18) (u 19) (u 20) (u 21) (u 22) (u 23) (u 24) (u 25) (u 26) (u 27) (u 36) (u 37) (u 38) (u 130) (u 131) (u 132) (u 141) (u 144) (u 150) (u 151) (xs 1)) k_X10_ghosts v_X10_ghosts m983 rfl rfl ⟨(Nat.le_of_ble_eq_true rfl), (Nat.le_of_ble_eq_true rfl)⟩ (preP hC (hP.sub (ws' := [(x0, .inr (10, [.ref (u 0), .ref (u 2), .ref (u 15), .ref (u 38), .ref (u 130), .ref (u 131), .ref (u 132), .ref (u 141), .ref (u 144), .ref (u 150), .ref (u 151)])), ((u 15), .inr (3, [.ref (u 16), .ref (u 27), .int 0, .int 0, .int 2, .long 0, .int 0, .ref (u 36), .ref (u 37)])), ((u 16), .inr (5, [.int 0, .int 0, .int 0, .int 0, .int 0, .int 0, .int 0, .int 0, .int 0, .ref (u 17), .ref (u 18), .ref (u 19), .ref (u 20), .ref (u 21), .ref (u 22), .ref (u 23), .ref (u 24), .ref (u 25), .ref (u 26)]))]) [0, 16, 17] rfl)) (va_recv hK hP (ci := 10) (q0 := 0) rfl rfl) rfl hl.1 rfl (Nat.le_of_ble_eq_true rfl) dL_law_968 ⟨(Nat.le_of_ble_eq_true rfl), (Nat.le_of_ble_eq_true rfl)⟩) hS hP (fun r_1 H locs hw hP hS => ?_)
  have c_3 : r_1 = (-2) := hw
  refine lv_aload_n hx hb dL_law_971 rfl (lv_at hl 1 rfl) ?_
  refine lv_aload_n hx hb dL_law_972 rfl (lv_at hl 3 rfl) ?_
  refine lv_iload_n hx hb dL_law_973 rfl (lv_at hl 0 rfl) ?_
  refine lv_iconst (v := 1) hx hb dL_law_974 (by decide) ?_
  refine lv_iadd hx hb dL_law_975 ?_
  refine eqi (v := 1) (by decide) ?_
  refine va_sld hx hb hX hbl hbA hS (by unfold vp_in; decide) dL_law_976 ?_
  refine eqi (v := xs 1) rfl ?_
  refine mtId (wr := []) (cV (As := [.int (xs 1)]) (rest := [.int r_1]) ⟨hx, hb, hml, hown, hts⟩ (c_m_ghosts l D T (v 1) (v 16) (v 17) (v 18) (v 19) (v 2) (v 20) (v 21) (v 22) (v 23) (v 24) (v 25) (v 26) (v 27) (v 28) (v 29) (v 3) (v 30) (v 31) (v 32) (v 36) (v 4) (v 40) (v 41) (v 42) (v 5) m0 (xs 1) _) k_X11_ghosts v_X11_ghosts m1806 rfl rfl ⟨(Nat.le_of_ble_eq_true rfl), (Nat.le_of_ble_eq_true rfl)⟩ (preM hC (hP.sub (ws' := [(m0, .inr (11, [.int 0, .ref (v 1), .ref (v 2), .ref (v 3), .ref (v 4), .ref (v 5), .int 0, .int 0, .int 0, .int 0, .int 0, .long 0, .int 0, .int 0, .int 0, .int (-1), .ref (v 16), .ref (v 17), .ref (v 18), .ref (v 19), .ref (v 20), .ref (v 21), .ref (v 22), .ref (v 23), .ref (v 24), .ref (v 25), .ref (v 26), .ref (v 27), .ref (v 28), .ref (v 29), .ref (v 30), .ref (v 31), .ref (v 32), .int 0, .int 0, .int 0, .ref (v 36), .int 0, .int 0, .int 0, .ref (v 40), .ref (v 41), .ref (v 42), .int 0, .long 0])), ((v 17), .inl (T 0, 15, .inl (fun _ => 0)))]) [154, 161] rfl) (hD.sub (ws' := [(m0, .inr (11, [.int 0, .ref (v 1), .ref (v 2), .ref (v 3), .ref (v 4), .ref (v 5), .int 0, .int 0, .int 0, .int 0, .int 0, .long 0, .int 0, .int 0, .int 0, .int (-1), .ref (v 16), .ref (v 17), .ref (v 18), .ref (v 19), .ref (v 20), .ref (v 21), .ref (v 22), .ref (v 23), .ref (v 24), .ref (v 25), .ref (v 26), .ref (v 27), .ref (v 28), .ref (v 29), .ref (v 30), .ref (v 31), .ref (v 32), .int 0, .int 0, .int 0, .ref (v 36), .int 0, .int 0, .int 0, .ref (v 40), .ref (v 41), .ref (v 42), .int 0, .long 0])), ((v 17), .inl (T 0, 15, .inl (fun _ => 0)))]) [154, 161] (by decide) rfl)) (va_recv hK hP (ci := 11) (q0 := 154) rfl rfl) rfl hl.1 rfl (Nat.le_of_ble_eq_true rfl) dL_law_977 ⟨(Nat.le_of_ble_eq_true rfl), (Nat.le_of_ble_eq_true rfl)⟩) hS hA hP hD [154, 161] [] rfl rfl (by decide) (by decide) (fun r_4 u_5 H locs hw hP hD hS => ?_)
  have c_6 : r_4 = (-2) := hw
  refine lv_icmp_eq (tgt := 1862) hx hb dL_law_980 (by decide) (fun _ => ?_) (fun h => absurd (c_3.trans c_6.symm) h)
  refine lv_iinc (v := 6) (lv' := [(3, .int 6), (2, .ref m0), (1, .ref x0), (0, .ref b)]) hx hb dL_law_1862 hl (k := 0) rfl (by decide) (by decide) rfl (fun ls hl => ?_)
  refine lv_goto (tgt := 18) hx hb dL_law_1865 (by decide) ?_
  refine lv_iload_n hx hb dL_law_18 rfl (lv_at hl 0 rfl) ?_
  refine lv_aload_n hx hb dL_law_19 rfl (lv_at hl 3 rfl) ?_
  refine va_slen hx hb hX hbl hbA hS dL_law_20 ?_
  refine eqi (v := 6) (by decide) ?_
  refine lv_bipush (v := 6) hx hb dL_law_21 (by decide) ?_
  refine lv_isub hx hb dL_law_23 ?_
  refine eqi (v := 0) (by decide) ?_
  refine lv_icmp_gt (tgt := 1868) hx hb dL_law_24 (by decide) (fun _ => ?_) (fun c_7 => absurd (by decide) c_7)
  refine lv_iconst (v := 1) hx hb dL_law_1868 (by decide) ?_
  refine va_forget (fun q hq => hS.2.2 q hq) ?_
  refine W.widen (k := 600000) (n := 7302250) (Nat.le_of_ble_eq_true rfl) (Nat.le_of_ble_eq_true rfl) ?_
  exact lw_ret hx hb hr hlocks dL_law_1869

set_option maxHeartbeats 4000000 in
set_option maxRecDepth 100000 in
theorem lawcase_25 {p : Program} {e : Env} {s : State} {m : MethodId} {below : List Frame} {meth : Method} {c : Code} (l : Launch) {b : Nat} {xs : Nat → Int32} (C0 : lw_At p s m meth c b 6 xs) {D : va_G} {T : Nat → ClassId} (hC : cx D T s) {H : Heap} {locs : List Loc} (x0 m0 : Nat) (u v : Nat → Nat) (hP : va_P D vwCl (lawW T x0 m0 u v) H) (hD : va_D (fun q : Nat => s.heap.size ≤ q) (lawW T x0 m0 u v)) (hS : va_S (fun q : Nat => s.heap.size ≤ q) s.heap H locs) {ls : Array Slot} (hl : lv_has ls 4 [(3, .int 0), (2, .ref m0), (1, .ref x0), (0, .ref b)]) : W p l e room_1 s m #[Value.ref b] below meth c H locs 181 83004 (lw_Z below #[Value.ref b] s) (F0 m 985 ls []) := by
  obtain ⟨hx, hb, hr, hml, hown, hts0, hX, hbl, hlocks, hgv⟩ := id C0
  have hts : ∀ w ∈ gt, w.before #[Value.ref b] s = true := fun w hw => hts0 w (List.mem_filter.mp hw).1
  have hown : s.vm.findClass RL = some m.cls := hown
  have hb : c.code = cL_law := hb
  have hA : ∀ q : Nat, s.heap.size ≤ q → (fun q : Nat => s.heap.size ≤ q) q := fun _ h => h
  have hbA : ¬ (fun q : Nat => s.heap.size ≤ q) b := Nat.not_le.mpr hbl
  have hK := hC.1
  refine lv_aload_n hx hb dL_law_985 rfl (lv_at hl 2 rfl) ?_
  refine lv_aload_n hx hb dL_law_986 rfl (lv_at hl 3 rfl) ?_
  refine lv_iload_n hx hb dL_law_987 rfl (lv_at hl 0 rfl) ?_
  refine lv_iconst (v := 1) hx hb dL_law_988 (by decide) ?_
  refine lv_iadd hx hb dL_law_989 ?_
  refine eqi (v := 1) (by decide) ?_
  refine va_sld hx hb hX hbl hbA hS (by unfold vp_in; decide) dL_law_990 ?_
  refine eqi (v := xs 1) rfl ?_
  refine puI (cV (As := [.int (xs 1)]) (rest := []) ⟨hx, hb, hml, hown, hts⟩ (c_X10_pivot l D T x0 (u 0) (u 2) (u 15) (u 16) (u 17) (u 18) (u 19) (u 20) (u 21) (u 22) (u 23) (u 24) (u 25) (u 26) (u 27) (u 36) (u 37) (u 38) (u 130) (u 131) (u 132) (u 141) (u 144) (u 150) (u 151) (xs 1)) k_X10_pivot v_X10_pivot m987 rfl rfl ⟨(Nat.le_of_ble_eq_true rfl), (Nat.le_of_ble_eq_true rfl)⟩ (preP hC (hP.sub (ws' := [(x0, .inr (10, [.ref (u 0), .ref (u 2), .ref (u 15), .ref (u 38), .ref (u 130), .ref (u 131), .ref (u 132), .ref (u 141), .ref (u 144), .ref (u 150), .ref (u 151)])), ((u 15), .inr (3, [.ref (u 16), .ref (u 27), .int 0, .int 0, .int 2, .long 0, .int 0, .ref (u 36), .ref (u 37)])), ((u 16), .inr (5, [.int 0, .int 0, .int 0, .int 0, .int 0, .int 0, .int 0, .int 0, .int 0, .ref (u 17), .ref (u 18), .ref (u 19), .ref (u 20), .ref (u 21), .ref (u 22), .ref (u 23), .ref (u 24), .ref (u 25), .ref (u 26)]))]) [0, 16, 17] rfl)) (va_recv hK hP (ci := 10) (q0 := 0) rfl rfl) rfl hl.1 rfl (Nat.le_of_ble_eq_true rfl) dL_law_991 ⟨(Nat.le_of_ble_eq_true rfl), (Nat.le_of_ble_eq_true rfl)⟩) hS hP (fun r_1 H locs hw hP hS => ?_)
  have c_3 : r_1 = (-2) := hw
  refine lv_aload_n hx hb dL_law_994 rfl (lv_at hl 1 rfl) ?_
  refine lv_aload_n hx hb dL_law_995 rfl (lv_at hl 3 rfl) ?_
  refine lv_iload_n hx hb dL_law_996 rfl (lv_at hl 0 rfl) ?_
  refine lv_iconst (v := 1) hx hb dL_law_997 (by decide) ?_
  refine lv_iadd hx hb dL_law_998 ?_
  refine eqi (v := 1) (by decide) ?_
  refine va_sld hx hb hX hbl hbA hS (by unfold vp_in; decide) dL_law_999 ?_
  refine eqi (v := xs 1) rfl ?_
  refine mtId (wr := []) (cV (As := [.int (xs 1)]) (rest := [.int r_1]) ⟨hx, hb, hml, hown, hts⟩ (c_m_pivot l D T (v 1) (v 16) (v 17) (v 18) (v 19) (v 2) (v 20) (v 21) (v 22) (v 23) (v 24) (v 25) (v 26) (v 27) (v 28) (v 29) (v 3) (v 30) (v 31) (v 32) (v 36) (v 4) (v 40) (v 41) (v 42) (v 5) m0 (xs 1) _) k_X11_pivot v_X11_pivot m1810 rfl rfl ⟨(Nat.le_of_ble_eq_true rfl), (Nat.le_of_ble_eq_true rfl)⟩ (preM hC (hP.sub (ws' := [(m0, .inr (11, [.int 0, .ref (v 1), .ref (v 2), .ref (v 3), .ref (v 4), .ref (v 5), .int 0, .int 0, .int 0, .int 0, .int 0, .long 0, .int 0, .int 0, .int 0, .int (-1), .ref (v 16), .ref (v 17), .ref (v 18), .ref (v 19), .ref (v 20), .ref (v 21), .ref (v 22), .ref (v 23), .ref (v 24), .ref (v 25), .ref (v 26), .ref (v 27), .ref (v 28), .ref (v 29), .ref (v 30), .ref (v 31), .ref (v 32), .int 0, .int 0, .int 0, .ref (v 36), .int 0, .int 0, .int 0, .ref (v 40), .ref (v 41), .ref (v 42), .int 0, .long 0])), ((v 17), .inl (T 0, 15, .inl (fun _ => 0)))]) [154, 161] rfl) (hD.sub (ws' := [(m0, .inr (11, [.int 0, .ref (v 1), .ref (v 2), .ref (v 3), .ref (v 4), .ref (v 5), .int 0, .int 0, .int 0, .int 0, .int 0, .long 0, .int 0, .int 0, .int 0, .int (-1), .ref (v 16), .ref (v 17), .ref (v 18), .ref (v 19), .ref (v 20), .ref (v 21), .ref (v 22), .ref (v 23), .ref (v 24), .ref (v 25), .ref (v 26), .ref (v 27), .ref (v 28), .ref (v 29), .ref (v 30), .ref (v 31), .ref (v 32), .int 0, .int 0, .int 0, .ref (v 36), .int 0, .int 0, .int 0, .ref (v 40), .ref (v 41), .ref (v 42), .int 0, .long 0])), ((v 17), .inl (T 0, 15, .inl (fun _ => 0)))]) [154, 161] (by decide) rfl)) (va_recv hK hP (ci := 11) (q0 := 154) rfl rfl) rfl hl.1 rfl (Nat.le_of_ble_eq_true rfl) dL_law_1000 ⟨(Nat.le_of_ble_eq_true rfl), (Nat.le_of_ble_eq_true rfl)⟩) hS hA hP hD [154, 161] [] rfl rfl (by decide) (by decide) (fun r_4 u_5 H locs hw hP hD hS => ?_)
  have c_6 : r_4 = (-2) := hw
  refine lv_icmp_eq (tgt := 1862) hx hb dL_law_1003 (by decide) (fun _ => ?_) (fun h => absurd (c_3.trans c_6.symm) h)
  refine lv_iinc (v := 6) (lv' := [(3, .int 6), (2, .ref m0), (1, .ref x0), (0, .ref b)]) hx hb dL_law_1862 hl (k := 0) rfl (by decide) (by decide) rfl (fun ls hl => ?_)
  refine lv_goto (tgt := 18) hx hb dL_law_1865 (by decide) ?_
  refine lv_iload_n hx hb dL_law_18 rfl (lv_at hl 0 rfl) ?_
  refine lv_aload_n hx hb dL_law_19 rfl (lv_at hl 3 rfl) ?_
  refine va_slen hx hb hX hbl hbA hS dL_law_20 ?_
  refine eqi (v := 6) (by decide) ?_
  refine lv_bipush (v := 6) hx hb dL_law_21 (by decide) ?_
  refine lv_isub hx hb dL_law_23 ?_
  refine eqi (v := 0) (by decide) ?_
  refine lv_icmp_gt (tgt := 1868) hx hb dL_law_24 (by decide) (fun _ => ?_) (fun c_7 => absurd (by decide) c_7)
  refine lv_iconst (v := 1) hx hb dL_law_1868 (by decide) ?_
  refine va_forget (fun q hq => hS.2.2 q hq) ?_
  refine W.widen (k := 600000) (n := 7302250) (Nat.le_of_ble_eq_true rfl) (Nat.le_of_ble_eq_true rfl) ?_
  exact lw_ret hx hb hr hlocks dL_law_1869

set_option maxHeartbeats 4000000 in
set_option maxRecDepth 100000 in
theorem lawcase_26 {p : Program} {e : Env} {s : State} {m : MethodId} {below : List Frame} {meth : Method} {c : Code} (l : Launch) {b : Nat} {xs : Nat → Int32} (C0 : lw_At p s m meth c b 6 xs) {D : va_G} {T : Nat → ClassId} (hC : cx D T s) {H : Heap} {locs : List Loc} (x0 m0 : Nat) (u v : Nat → Nat) (hP : va_P D vwCl (lawW T x0 m0 u v) H) (hD : va_D (fun q : Nat => s.heap.size ≤ q) (lawW T x0 m0 u v)) (hS : va_S (fun q : Nat => s.heap.size ≤ q) s.heap H locs) {ls : Array Slot} (hl : lv_has ls 4 [(3, .int 0), (2, .ref m0), (1, .ref x0), (0, .ref b)]) : W p l e room_1 s m #[Value.ref b] below meth c H locs 181 83004 (lw_Z below #[Value.ref b] s) (F0 m 1008 ls []) := by
  obtain ⟨hx, hb, hr, hml, hown, hts0, hX, hbl, hlocks, hgv⟩ := id C0
  have hts : ∀ w ∈ gt, w.before #[Value.ref b] s = true := fun w hw => hts0 w (List.mem_filter.mp hw).1
  have hown : s.vm.findClass RL = some m.cls := hown
  have hb : c.code = cL_law := hb
  have hA : ∀ q : Nat, s.heap.size ≤ q → (fun q : Nat => s.heap.size ≤ q) q := fun _ h => h
  have hbA : ¬ (fun q : Nat => s.heap.size ≤ q) b := Nat.not_le.mpr hbl
  have hK := hC.1
  refine lv_aload_n hx hb dL_law_1008 rfl (lv_at hl 2 rfl) ?_
  refine lv_aload_n hx hb dL_law_1009 rfl (lv_at hl 3 rfl) ?_
  refine lv_iload_n hx hb dL_law_1010 rfl (lv_at hl 0 rfl) ?_
  refine lv_iconst (v := 1) hx hb dL_law_1011 (by decide) ?_
  refine lv_iadd hx hb dL_law_1012 ?_
  refine eqi (v := 1) (by decide) ?_
  refine va_sld hx hb hX hbl hbA hS (by unfold vp_in; decide) dL_law_1013 ?_
  refine eqi (v := xs 1) rfl ?_
  refine lv_aload_n hx hb dL_law_1014 rfl (lv_at hl 3 rfl) ?_
  refine lv_iload_n hx hb dL_law_1015 rfl (lv_at hl 0 rfl) ?_
  refine lv_iconst (v := 2) hx hb dL_law_1016 (by decide) ?_
  refine lv_iadd hx hb dL_law_1017 ?_
  refine eqi (v := 2) (by decide) ?_
  refine va_sld hx hb hX hbl hbA hS (by unfold vp_in; decide) dL_law_1018 ?_
  refine eqi (v := xs 2) rfl ?_
  refine puI (cV (As := [.int (xs 1), .int (xs 2)]) (rest := []) ⟨hx, hb, hml, hown, hts⟩ (c_X10_fetch l D T x0 (u 0) (u 2) (u 15) (u 16) (u 17) (u 18) (u 19) (u 20) (u 21) (u 22) (u 23) (u 24) (u 25) (u 26) (u 27) (u 36) (u 37) (u 38) (u 130) (u 131) (u 132) (u 141) (u 144) (u 150) (u 151) (xs 1) (xs 2)) k_X10_fetch v_X10_fetch m1018 rfl rfl ⟨(Nat.le_of_ble_eq_true rfl), (Nat.le_of_ble_eq_true rfl)⟩ (preP hC (hP.sub (ws' := [(x0, .inr (10, [.ref (u 0), .ref (u 2), .ref (u 15), .ref (u 38), .ref (u 130), .ref (u 131), .ref (u 132), .ref (u 141), .ref (u 144), .ref (u 150), .ref (u 151)])), ((u 15), .inr (3, [.ref (u 16), .ref (u 27), .int 0, .int 0, .int 2, .long 0, .int 0, .ref (u 36), .ref (u 37)])), ((u 16), .inr (5, [.int 0, .int 0, .int 0, .int 0, .int 0, .int 0, .int 0, .int 0, .int 0, .ref (u 17), .ref (u 18), .ref (u 19), .ref (u 20), .ref (u 21), .ref (u 22), .ref (u 23), .ref (u 24), .ref (u 25), .ref (u 26)]))]) [0, 16, 17] rfl)) (va_recv hK hP (ci := 10) (q0 := 0) rfl rfl) rfl hl.1 rfl (Nat.le_of_ble_eq_true rfl) dL_law_1019 ⟨(Nat.le_of_ble_eq_true rfl), (Nat.le_of_ble_eq_true rfl)⟩) hS hP (fun r_1 H locs hw hP hS => ?_)
  have c_3 : r_1 = (-2) := hw
  refine lv_aload_n hx hb dL_law_1022 rfl (lv_at hl 1 rfl) ?_
  refine lv_aload_n hx hb dL_law_1023 rfl (lv_at hl 3 rfl) ?_
  refine lv_iload_n hx hb dL_law_1024 rfl (lv_at hl 0 rfl) ?_
  refine lv_iconst (v := 1) hx hb dL_law_1025 (by decide) ?_
  refine lv_iadd hx hb dL_law_1026 ?_
  refine eqi (v := 1) (by decide) ?_
  refine va_sld hx hb hX hbl hbA hS (by unfold vp_in; decide) dL_law_1027 ?_
  refine eqi (v := xs 1) rfl ?_
  refine lv_aload_n hx hb dL_law_1028 rfl (lv_at hl 3 rfl) ?_
  refine lv_iload_n hx hb dL_law_1029 rfl (lv_at hl 0 rfl) ?_
  refine lv_iconst (v := 2) hx hb dL_law_1030 (by decide) ?_
  refine lv_iadd hx hb dL_law_1031 ?_
  refine eqi (v := 2) (by decide) ?_
  refine va_sld hx hb hX hbl hbA hS (by unfold vp_in; decide) dL_law_1032 ?_
  refine eqi (v := xs 2) rfl ?_
  refine mtId (wr := []) (cV (As := [.int (xs 1), .int (xs 2)]) (rest := [.int r_1]) ⟨hx, hb, hml, hown, hts⟩ (c_m_fetch l D T (v 1) (v 16) (v 17) (v 18) (v 19) (v 2) (v 20) (v 21) (v 22) (v 23) (v 24) (v 25) (v 26) (v 27) (v 28) (v 29) (v 3) (v 30) (v 31) (v 32) (v 36) (v 4) (v 40) (v 41) (v 42) (v 5) m0 (xs 1) (xs 2) _) k_X11_fetch v_X11_fetch m1817 rfl rfl ⟨(Nat.le_of_ble_eq_true rfl), (Nat.le_of_ble_eq_true rfl)⟩ (preM hC (hP.sub (ws' := [(m0, .inr (11, [.int 0, .ref (v 1), .ref (v 2), .ref (v 3), .ref (v 4), .ref (v 5), .int 0, .int 0, .int 0, .int 0, .int 0, .long 0, .int 0, .int 0, .int 0, .int (-1), .ref (v 16), .ref (v 17), .ref (v 18), .ref (v 19), .ref (v 20), .ref (v 21), .ref (v 22), .ref (v 23), .ref (v 24), .ref (v 25), .ref (v 26), .ref (v 27), .ref (v 28), .ref (v 29), .ref (v 30), .ref (v 31), .ref (v 32), .int 0, .int 0, .int 0, .ref (v 36), .int 0, .int 0, .int 0, .ref (v 40), .ref (v 41), .ref (v 42), .int 0, .long 0])), ((v 17), .inl (T 0, 15, .inl (fun _ => 0)))]) [154, 161] rfl) (hD.sub (ws' := [(m0, .inr (11, [.int 0, .ref (v 1), .ref (v 2), .ref (v 3), .ref (v 4), .ref (v 5), .int 0, .int 0, .int 0, .int 0, .int 0, .long 0, .int 0, .int 0, .int 0, .int (-1), .ref (v 16), .ref (v 17), .ref (v 18), .ref (v 19), .ref (v 20), .ref (v 21), .ref (v 22), .ref (v 23), .ref (v 24), .ref (v 25), .ref (v 26), .ref (v 27), .ref (v 28), .ref (v 29), .ref (v 30), .ref (v 31), .ref (v 32), .int 0, .int 0, .int 0, .ref (v 36), .int 0, .int 0, .int 0, .ref (v 40), .ref (v 41), .ref (v 42), .int 0, .long 0])), ((v 17), .inl (T 0, 15, .inl (fun _ => 0)))]) [154, 161] (by decide) rfl)) (va_recv hK hP (ci := 11) (q0 := 154) rfl rfl) rfl hl.1 rfl (Nat.le_of_ble_eq_true rfl) dL_law_1033 ⟨(Nat.le_of_ble_eq_true rfl), (Nat.le_of_ble_eq_true rfl)⟩) hS hA hP hD [154, 161] [] rfl rfl (by decide) (by decide) (fun r_4 u_5 H locs hw hP hD hS => ?_)
  have c_6 : r_4 = (-2) := hw
  refine lv_icmp_eq (tgt := 1862) hx hb dL_law_1036 (by decide) (fun _ => ?_) (fun h => absurd (c_3.trans c_6.symm) h)
  refine lv_iinc (v := 6) (lv' := [(3, .int 6), (2, .ref m0), (1, .ref x0), (0, .ref b)]) hx hb dL_law_1862 hl (k := 0) rfl (by decide) (by decide) rfl (fun ls hl => ?_)
  refine lv_goto (tgt := 18) hx hb dL_law_1865 (by decide) ?_
  refine lv_iload_n hx hb dL_law_18 rfl (lv_at hl 0 rfl) ?_
  refine lv_aload_n hx hb dL_law_19 rfl (lv_at hl 3 rfl) ?_
  refine va_slen hx hb hX hbl hbA hS dL_law_20 ?_
  refine eqi (v := 6) (by decide) ?_
  refine lv_bipush (v := 6) hx hb dL_law_21 (by decide) ?_
  refine lv_isub hx hb dL_law_23 ?_
  refine eqi (v := 0) (by decide) ?_
  refine lv_icmp_gt (tgt := 1868) hx hb dL_law_24 (by decide) (fun _ => ?_) (fun c_7 => absurd (by decide) c_7)
  refine lv_iconst (v := 1) hx hb dL_law_1868 (by decide) ?_
  refine va_forget (fun q hq => hS.2.2 q hq) ?_
  refine W.widen (k := 600000) (n := 7302250) (Nat.le_of_ble_eq_true rfl) (Nat.le_of_ble_eq_true rfl) ?_
  exact lw_ret hx hb hr hlocks dL_law_1869

set_option maxHeartbeats 4000000 in
set_option maxRecDepth 100000 in
theorem lawcase_27 {p : Program} {e : Env} {s : State} {m : MethodId} {below : List Frame} {meth : Method} {c : Code} (l : Launch) {b : Nat} {xs : Nat → Int32} (C0 : lw_At p s m meth c b 6 xs) {D : va_G} {T : Nat → ClassId} (hC : cx D T s) {H : Heap} {locs : List Loc} (x0 m0 : Nat) (u v : Nat → Nat) (hP : va_P D vwCl (lawW T x0 m0 u v) H) (hD : va_D (fun q : Nat => s.heap.size ≤ q) (lawW T x0 m0 u v)) (hS : va_S (fun q : Nat => s.heap.size ≤ q) s.heap H locs) {ls : Array Slot} (hl : lv_has ls 4 [(3, .int 0), (2, .ref m0), (1, .ref x0), (0, .ref b)]) : W p l e room_1 s m #[Value.ref b] below meth c H locs 181 83004 (lw_Z below #[Value.ref b] s) (F0 m 1041 ls []) := by
  obtain ⟨hx, hb, hr, hml, hown, hts0, hX, hbl, hlocks, hgv⟩ := id C0
  have hts : ∀ w ∈ gt, w.before #[Value.ref b] s = true := fun w hw => hts0 w (List.mem_filter.mp hw).1
  have hown : s.vm.findClass RL = some m.cls := hown
  have hb : c.code = cL_law := hb
  have hA : ∀ q : Nat, s.heap.size ≤ q → (fun q : Nat => s.heap.size ≤ q) q := fun _ h => h
  have hbA : ¬ (fun q : Nat => s.heap.size ≤ q) b := Nat.not_le.mpr hbl
  have hK := hC.1
  refine lv_aload_n hx hb dL_law_1041 rfl (lv_at hl 2 rfl) ?_
  refine lv_aload_n hx hb dL_law_1042 rfl (lv_at hl 3 rfl) ?_
  refine lv_iload_n hx hb dL_law_1043 rfl (lv_at hl 0 rfl) ?_
  refine lv_iconst (v := 1) hx hb dL_law_1044 (by decide) ?_
  refine lv_iadd hx hb dL_law_1045 ?_
  refine eqi (v := 1) (by decide) ?_
  refine va_sld hx hb hX hbl hbA hS (by unfold vp_in; decide) dL_law_1046 ?_
  refine eqi (v := xs 1) rfl ?_
  refine lv_aload_n hx hb dL_law_1047 rfl (lv_at hl 3 rfl) ?_
  refine lv_iload_n hx hb dL_law_1048 rfl (lv_at hl 0 rfl) ?_
  refine lv_iconst (v := 2) hx hb dL_law_1049 (by decide) ?_
  refine lv_iadd hx hb dL_law_1050 ?_
  refine eqi (v := 2) (by decide) ?_
  refine va_sld hx hb hX hbl hbA hS (by unfold vp_in; decide) dL_law_1051 ?_
  refine eqi (v := xs 2) rfl ?_
  refine puI (cV (As := [.int (xs 1), .int (xs 2)]) (rest := []) ⟨hx, hb, hml, hown, hts⟩ (c_X10_margin l D T x0 (u 0) (u 2) (u 15) (u 16) (u 17) (u 18) (u 19) (u 20) (u 21) (u 22) (u 23) (u 24) (u 25) (u 26) (u 27) (u 36) (u 37) (u 38) (u 130) (u 131) (u 132) (u 141) (u 144) (u 150) (u 151) (xs 1) (xs 2)) k_X10_margin v_X10_margin m1030 rfl rfl ⟨(Nat.le_of_ble_eq_true rfl), (Nat.le_of_ble_eq_true rfl)⟩ (preP hC (hP.sub (ws' := [(x0, .inr (10, [.ref (u 0), .ref (u 2), .ref (u 15), .ref (u 38), .ref (u 130), .ref (u 131), .ref (u 132), .ref (u 141), .ref (u 144), .ref (u 150), .ref (u 151)])), ((u 15), .inr (3, [.ref (u 16), .ref (u 27), .int 0, .int 0, .int 2, .long 0, .int 0, .ref (u 36), .ref (u 37)])), ((u 16), .inr (5, [.int 0, .int 0, .int 0, .int 0, .int 0, .int 0, .int 0, .int 0, .int 0, .ref (u 17), .ref (u 18), .ref (u 19), .ref (u 20), .ref (u 21), .ref (u 22), .ref (u 23), .ref (u 24), .ref (u 25), .ref (u 26)]))]) [0, 16, 17] rfl)) (va_recv hK hP (ci := 10) (q0 := 0) rfl rfl) rfl hl.1 rfl (Nat.le_of_ble_eq_true rfl) dL_law_1052 ⟨(Nat.le_of_ble_eq_true rfl), (Nat.le_of_ble_eq_true rfl)⟩) hS hP (fun r_1 H locs hw hP hS => ?_)
  have c_3 : r_1 = (-1000000) := hw
  refine lv_aload_n hx hb dL_law_1055 rfl (lv_at hl 1 rfl) ?_
  refine lv_aload_n hx hb dL_law_1056 rfl (lv_at hl 3 rfl) ?_
  refine lv_iload_n hx hb dL_law_1057 rfl (lv_at hl 0 rfl) ?_
  refine lv_iconst (v := 1) hx hb dL_law_1058 (by decide) ?_
  refine lv_iadd hx hb dL_law_1059 ?_
  refine eqi (v := 1) (by decide) ?_
  refine va_sld hx hb hX hbl hbA hS (by unfold vp_in; decide) dL_law_1060 ?_
  refine eqi (v := xs 1) rfl ?_
  refine lv_aload_n hx hb dL_law_1061 rfl (lv_at hl 3 rfl) ?_
  refine lv_iload_n hx hb dL_law_1062 rfl (lv_at hl 0 rfl) ?_
  refine lv_iconst (v := 2) hx hb dL_law_1063 (by decide) ?_
  refine lv_iadd hx hb dL_law_1064 ?_
  refine eqi (v := 2) (by decide) ?_
  refine va_sld hx hb hX hbl hbA hS (by unfold vp_in; decide) dL_law_1065 ?_
  refine eqi (v := xs 2) rfl ?_
  refine mtId (wr := []) (cV (As := [.int (xs 1), .int (xs 2)]) (rest := [.int r_1]) ⟨hx, hb, hml, hown, hts⟩ (c_m_margin l D T (v 1) (v 16) (v 17) (v 18) (v 19) (v 2) (v 20) (v 21) (v 22) (v 23) (v 24) (v 25) (v 26) (v 27) (v 28) (v 29) (v 3) (v 30) (v 31) (v 32) (v 36) (v 4) (v 40) (v 41) (v 42) (v 5) m0 (xs 1) (xs 2) _) k_X11_margin v_X11_margin m1834 rfl rfl ⟨(Nat.le_of_ble_eq_true rfl), (Nat.le_of_ble_eq_true rfl)⟩ (preM hC (hP.sub (ws' := [(m0, .inr (11, [.int 0, .ref (v 1), .ref (v 2), .ref (v 3), .ref (v 4), .ref (v 5), .int 0, .int 0, .int 0, .int 0, .int 0, .long 0, .int 0, .int 0, .int 0, .int (-1), .ref (v 16), .ref (v 17), .ref (v 18), .ref (v 19), .ref (v 20), .ref (v 21), .ref (v 22), .ref (v 23), .ref (v 24), .ref (v 25), .ref (v 26), .ref (v 27), .ref (v 28), .ref (v 29), .ref (v 30), .ref (v 31), .ref (v 32), .int 0, .int 0, .int 0, .ref (v 36), .int 0, .int 0, .int 0, .ref (v 40), .ref (v 41), .ref (v 42), .int 0, .long 0])), ((v 17), .inl (T 0, 15, .inl (fun _ => 0)))]) [154, 161] rfl) (hD.sub (ws' := [(m0, .inr (11, [.int 0, .ref (v 1), .ref (v 2), .ref (v 3), .ref (v 4), .ref (v 5), .int 0, .int 0, .int 0, .int 0, .int 0, .long 0, .int 0, .int 0, .int 0, .int (-1), .ref (v 16), .ref (v 17), .ref (v 18), .ref (v 19), .ref (v 20), .ref (v 21), .ref (v 22), .ref (v 23), .ref (v 24), .ref (v 25), .ref (v 26), .ref (v 27), .ref (v 28), .ref (v 29), .ref (v 30), .ref (v 31), .ref (v 32), .int 0, .int 0, .int 0, .ref (v 36), .int 0, .int 0, .int 0, .ref (v 40), .ref (v 41), .ref (v 42), .int 0, .long 0])), ((v 17), .inl (T 0, 15, .inl (fun _ => 0)))]) [154, 161] (by decide) rfl)) (va_recv hK hP (ci := 11) (q0 := 154) rfl rfl) rfl hl.1 rfl (Nat.le_of_ble_eq_true rfl) dL_law_1066 ⟨(Nat.le_of_ble_eq_true rfl), (Nat.le_of_ble_eq_true rfl)⟩) hS hA hP hD [154, 161] [] rfl rfl (by decide) (by decide) (fun r_4 u_5 H locs hw hP hD hS => ?_)
  have c_6 : r_4 = (-1000000) := hw
  refine lv_icmp_eq (tgt := 1862) hx hb dL_law_1069 (by decide) (fun _ => ?_) (fun h => absurd (c_3.trans c_6.symm) h)
  refine lv_iinc (v := 6) (lv' := [(3, .int 6), (2, .ref m0), (1, .ref x0), (0, .ref b)]) hx hb dL_law_1862 hl (k := 0) rfl (by decide) (by decide) rfl (fun ls hl => ?_)
  refine lv_goto (tgt := 18) hx hb dL_law_1865 (by decide) ?_
  refine lv_iload_n hx hb dL_law_18 rfl (lv_at hl 0 rfl) ?_
  refine lv_aload_n hx hb dL_law_19 rfl (lv_at hl 3 rfl) ?_
  refine va_slen hx hb hX hbl hbA hS dL_law_20 ?_
  refine eqi (v := 6) (by decide) ?_
  refine lv_bipush (v := 6) hx hb dL_law_21 (by decide) ?_
  refine lv_isub hx hb dL_law_23 ?_
  refine eqi (v := 0) (by decide) ?_
  refine lv_icmp_gt (tgt := 1868) hx hb dL_law_24 (by decide) (fun _ => ?_) (fun c_7 => absurd (by decide) c_7)
  refine lv_iconst (v := 1) hx hb dL_law_1868 (by decide) ?_
  refine va_forget (fun q hq => hS.2.2 q hq) ?_
  refine W.widen (k := 600000) (n := 7302250) (Nat.le_of_ble_eq_true rfl) (Nat.le_of_ble_eq_true rfl) ?_
  exact lw_ret hx hb hr hlocks dL_law_1869

set_option maxHeartbeats 4000000 in
set_option maxRecDepth 100000 in
theorem lawcase_28 {p : Program} {e : Env} {s : State} {m : MethodId} {below : List Frame} {meth : Method} {c : Code} (l : Launch) {b : Nat} {xs : Nat → Int32} (C0 : lw_At p s m meth c b 6 xs) {D : va_G} {T : Nat → ClassId} (hC : cx D T s) {H : Heap} {locs : List Loc} (x0 m0 : Nat) (u v : Nat → Nat) (hP : va_P D vwCl (lawW T x0 m0 u v) H) (hD : va_D (fun q : Nat => s.heap.size ≤ q) (lawW T x0 m0 u v)) (hS : va_S (fun q : Nat => s.heap.size ≤ q) s.heap H locs) {ls : Array Slot} (hl : lv_has ls 4 [(3, .int 0), (2, .ref m0), (1, .ref x0), (0, .ref b)]) : W p l e room_1 s m #[Value.ref b] below meth c H locs 181 83004 (lw_Z below #[Value.ref b] s) (F0 m 1074 ls []) := by
  obtain ⟨hx, hb, hr, hml, hown, hts0, hX, hbl, hlocks, hgv⟩ := id C0
  have hts : ∀ w ∈ gt, w.before #[Value.ref b] s = true := fun w hw => hts0 w (List.mem_filter.mp hw).1
  have hown : s.vm.findClass RL = some m.cls := hown
  have hb : c.code = cL_law := hb
  have hA : ∀ q : Nat, s.heap.size ≤ q → (fun q : Nat => s.heap.size ≤ q) q := fun _ h => h
  have hbA : ¬ (fun q : Nat => s.heap.size ≤ q) b := Nat.not_le.mpr hbl
  have hK := hC.1
  refine lv_aload_n hx hb dL_law_1074 rfl (lv_at hl 2 rfl) ?_
  refine lv_aload_n hx hb dL_law_1075 rfl (lv_at hl 3 rfl) ?_
  refine lv_iload_n hx hb dL_law_1076 rfl (lv_at hl 0 rfl) ?_
  refine lv_iconst (v := 1) hx hb dL_law_1077 (by decide) ?_
  refine lv_iadd hx hb dL_law_1078 ?_
  refine eqi (v := 1) (by decide) ?_
  refine va_sld hx hb hX hbl hbA hS (by unfold vp_in; decide) dL_law_1079 ?_
  refine eqi (v := xs 1) rfl ?_
  refine puI (cV (As := [.int (xs 1)]) (rest := []) ⟨hx, hb, hml, hown, hts⟩ (c_X10_cheap l D T x0 (u 0) (u 2) (u 15) (u 16) (u 17) (u 18) (u 19) (u 20) (u 21) (u 22) (u 23) (u 24) (u 25) (u 26) (u 27) (u 36) (u 37) (u 38) (u 130) (u 131) (u 132) (u 141) (u 144) (u 150) (u 151) (xs 1)) k_X10_cheap v_X10_cheap m1036 rfl rfl ⟨(Nat.le_of_ble_eq_true rfl), (Nat.le_of_ble_eq_true rfl)⟩ (preP hC (hP.sub (ws' := [(x0, .inr (10, [.ref (u 0), .ref (u 2), .ref (u 15), .ref (u 38), .ref (u 130), .ref (u 131), .ref (u 132), .ref (u 141), .ref (u 144), .ref (u 150), .ref (u 151)])), ((u 15), .inr (3, [.ref (u 16), .ref (u 27), .int 0, .int 0, .int 2, .long 0, .int 0, .ref (u 36), .ref (u 37)])), ((u 16), .inr (5, [.int 0, .int 0, .int 0, .int 0, .int 0, .int 0, .int 0, .int 0, .int 0, .ref (u 17), .ref (u 18), .ref (u 19), .ref (u 20), .ref (u 21), .ref (u 22), .ref (u 23), .ref (u 24), .ref (u 25), .ref (u 26)]))]) [0, 16, 17] rfl)) (va_recv hK hP (ci := 10) (q0 := 0) rfl rfl) rfl hl.1 rfl (Nat.le_of_ble_eq_true rfl) dL_law_1080 ⟨(Nat.le_of_ble_eq_true rfl), (Nat.le_of_ble_eq_true rfl)⟩) hS hP (fun r_1 H locs hw hP hS => ?_)
  have c_3 : r_1 = (-2) := hw
  refine lv_aload_n hx hb dL_law_1083 rfl (lv_at hl 1 rfl) ?_
  refine lv_aload_n hx hb dL_law_1084 rfl (lv_at hl 3 rfl) ?_
  refine lv_iload_n hx hb dL_law_1085 rfl (lv_at hl 0 rfl) ?_
  refine lv_iconst (v := 1) hx hb dL_law_1086 (by decide) ?_
  refine lv_iadd hx hb dL_law_1087 ?_
  refine eqi (v := 1) (by decide) ?_
  refine va_sld hx hb hX hbl hbA hS (by unfold vp_in; decide) dL_law_1088 ?_
  refine eqi (v := xs 1) rfl ?_
  refine mtId (wr := []) (cV (As := [.int (xs 1)]) (rest := [.int r_1]) ⟨hx, hb, hml, hown, hts⟩ (c_m_cheap l D T (v 1) (v 16) (v 17) (v 18) (v 19) (v 2) (v 20) (v 21) (v 22) (v 23) (v 24) (v 25) (v 26) (v 27) (v 28) (v 29) (v 3) (v 30) (v 31) (v 32) (v 36) (v 4) (v 40) (v 41) (v 42) (v 5) m0 (xs 1) _) k_X11_cheap v_X11_cheap m1839 rfl rfl ⟨(Nat.le_of_ble_eq_true rfl), (Nat.le_of_ble_eq_true rfl)⟩ (preM hC (hP.sub (ws' := [(m0, .inr (11, [.int 0, .ref (v 1), .ref (v 2), .ref (v 3), .ref (v 4), .ref (v 5), .int 0, .int 0, .int 0, .int 0, .int 0, .long 0, .int 0, .int 0, .int 0, .int (-1), .ref (v 16), .ref (v 17), .ref (v 18), .ref (v 19), .ref (v 20), .ref (v 21), .ref (v 22), .ref (v 23), .ref (v 24), .ref (v 25), .ref (v 26), .ref (v 27), .ref (v 28), .ref (v 29), .ref (v 30), .ref (v 31), .ref (v 32), .int 0, .int 0, .int 0, .ref (v 36), .int 0, .int 0, .int 0, .ref (v 40), .ref (v 41), .ref (v 42), .int 0, .long 0])), ((v 17), .inl (T 0, 15, .inl (fun _ => 0)))]) [154, 161] rfl) (hD.sub (ws' := [(m0, .inr (11, [.int 0, .ref (v 1), .ref (v 2), .ref (v 3), .ref (v 4), .ref (v 5), .int 0, .int 0, .int 0, .int 0, .int 0, .long 0, .int 0, .int 0, .int 0, .int (-1), .ref (v 16), .ref (v 17), .ref (v 18), .ref (v 19), .ref (v 20), .ref (v 21), .ref (v 22), .ref (v 23), .ref (v 24), .ref (v 25), .ref (v 26), .ref (v 27), .ref (v 28), .ref (v 29), .ref (v 30), .ref (v 31), .ref (v 32), .int 0, .int 0, .int 0, .ref (v 36), .int 0, .int 0, .int 0, .ref (v 40), .ref (v 41), .ref (v 42), .int 0, .long 0])), ((v 17), .inl (T 0, 15, .inl (fun _ => 0)))]) [154, 161] (by decide) rfl)) (va_recv hK hP (ci := 11) (q0 := 154) rfl rfl) rfl hl.1 rfl (Nat.le_of_ble_eq_true rfl) dL_law_1089 ⟨(Nat.le_of_ble_eq_true rfl), (Nat.le_of_ble_eq_true rfl)⟩) hS hA hP hD [154, 161] [] rfl rfl (by decide) (by decide) (fun r_4 u_5 H locs hw hP hD hS => ?_)
  have c_6 : r_4 = (-2) := hw
  refine lv_icmp_eq (tgt := 1862) hx hb dL_law_1092 (by decide) (fun _ => ?_) (fun h => absurd (c_3.trans c_6.symm) h)
  refine lv_iinc (v := 6) (lv' := [(3, .int 6), (2, .ref m0), (1, .ref x0), (0, .ref b)]) hx hb dL_law_1862 hl (k := 0) rfl (by decide) (by decide) rfl (fun ls hl => ?_)
  refine lv_goto (tgt := 18) hx hb dL_law_1865 (by decide) ?_
  refine lv_iload_n hx hb dL_law_18 rfl (lv_at hl 0 rfl) ?_
  refine lv_aload_n hx hb dL_law_19 rfl (lv_at hl 3 rfl) ?_
  refine va_slen hx hb hX hbl hbA hS dL_law_20 ?_
  refine eqi (v := 6) (by decide) ?_
  refine lv_bipush (v := 6) hx hb dL_law_21 (by decide) ?_
  refine lv_isub hx hb dL_law_23 ?_
  refine eqi (v := 0) (by decide) ?_
  refine lv_icmp_gt (tgt := 1868) hx hb dL_law_24 (by decide) (fun _ => ?_) (fun c_7 => absurd (by decide) c_7)
  refine lv_iconst (v := 1) hx hb dL_law_1868 (by decide) ?_
  refine va_forget (fun q hq => hS.2.2 q hq) ?_
  refine W.widen (k := 600000) (n := 7302250) (Nat.le_of_ble_eq_true rfl) (Nat.le_of_ble_eq_true rfl) ?_
  exact lw_ret hx hb hr hlocks dL_law_1869

set_option maxHeartbeats 4000000 in
set_option maxRecDepth 100000 in
theorem lawcase_29 {p : Program} {e : Env} {s : State} {m : MethodId} {below : List Frame} {meth : Method} {c : Code} (l : Launch) {b : Nat} {xs : Nat → Int32} (C0 : lw_At p s m meth c b 6 xs) {D : va_G} {T : Nat → ClassId} (hC : cx D T s) {H : Heap} {locs : List Loc} (x0 m0 : Nat) (u v : Nat → Nat) (hP : va_P D vwCl (lawW T x0 m0 u v) H) (hD : va_D (fun q : Nat => s.heap.size ≤ q) (lawW T x0 m0 u v)) (hS : va_S (fun q : Nat => s.heap.size ≤ q) s.heap H locs) {ls : Array Slot} (hl : lv_has ls 4 [(3, .int 0), (2, .ref m0), (1, .ref x0), (0, .ref b)]) : W p l e room_1 s m #[Value.ref b] below meth c H locs 181 83004 (lw_Z below #[Value.ref b] s) (F0 m 1097 ls []) := by
  obtain ⟨hx, hb, hr, hml, hown, hts0, hX, hbl, hlocks, hgv⟩ := id C0
  have hts : ∀ w ∈ gt, w.before #[Value.ref b] s = true := fun w hw => hts0 w (List.mem_filter.mp hw).1
  have hown : s.vm.findClass RL = some m.cls := hown
  have hb : c.code = cL_law := hb
  have hA : ∀ q : Nat, s.heap.size ≤ q → (fun q : Nat => s.heap.size ≤ q) q := fun _ h => h
  have hbA : ¬ (fun q : Nat => s.heap.size ≤ q) b := Nat.not_le.mpr hbl
  have hK := hC.1
  refine lv_aload_n hx hb dL_law_1097 rfl (lv_at hl 2 rfl) ?_
  refine lv_aload_n hx hb dL_law_1098 rfl (lv_at hl 3 rfl) ?_
  refine lv_iload_n hx hb dL_law_1099 rfl (lv_at hl 0 rfl) ?_
  refine lv_iconst (v := 1) hx hb dL_law_1100 (by decide) ?_
  refine lv_iadd hx hb dL_law_1101 ?_
  refine eqi (v := 1) (by decide) ?_
  refine va_sld hx hb hX hbl hbA hS (by unfold vp_in; decide) dL_law_1102 ?_
  refine eqi (v := xs 1) rfl ?_
  refine lv_aload_n hx hb dL_law_1103 rfl (lv_at hl 3 rfl) ?_
  refine lv_iload_n hx hb dL_law_1104 rfl (lv_at hl 0 rfl) ?_
  refine lv_iconst (v := 2) hx hb dL_law_1105 (by decide) ?_
  refine lv_iadd hx hb dL_law_1106 ?_
  refine eqi (v := 2) (by decide) ?_
  refine va_sld hx hb hX hbl hbA hS (by unfold vp_in; decide) dL_law_1107 ?_
  refine eqi (v := xs 2) rfl ?_
  refine puI (cV (As := [.int (xs 1), .int (xs 2)]) (rest := []) ⟨hx, hb, hml, hown, hts⟩ (c_X10_turn l D T x0 (u 0) (u 2) (u 15) (u 16) (u 17) (u 18) (u 19) (u 20) (u 21) (u 22) (u 23) (u 24) (u 25) (u 26) (u 27) (u 36) (u 37) (u 38) (u 130) (u 131) (u 132) (u 141) (u 144) (u 150) (u 151) (xs 1) (xs 2)) k_X10_turn v_X10_turn m1044 rfl rfl ⟨(Nat.le_of_ble_eq_true rfl), (Nat.le_of_ble_eq_true rfl)⟩ (preP hC (hP.sub (ws' := [(x0, .inr (10, [.ref (u 0), .ref (u 2), .ref (u 15), .ref (u 38), .ref (u 130), .ref (u 131), .ref (u 132), .ref (u 141), .ref (u 144), .ref (u 150), .ref (u 151)])), ((u 15), .inr (3, [.ref (u 16), .ref (u 27), .int 0, .int 0, .int 2, .long 0, .int 0, .ref (u 36), .ref (u 37)])), ((u 16), .inr (5, [.int 0, .int 0, .int 0, .int 0, .int 0, .int 0, .int 0, .int 0, .int 0, .ref (u 17), .ref (u 18), .ref (u 19), .ref (u 20), .ref (u 21), .ref (u 22), .ref (u 23), .ref (u 24), .ref (u 25), .ref (u 26)]))]) [0, 16, 17] rfl)) (va_recv hK hP (ci := 10) (q0 := 0) rfl rfl) rfl hl.1 rfl (Nat.le_of_ble_eq_true rfl) dL_law_1108 ⟨(Nat.le_of_ble_eq_true rfl), (Nat.le_of_ble_eq_true rfl)⟩) hS hP (fun r_1 H locs hw hP hS => ?_)
  have c_3 : r_1 = (-2) := hw
  refine lv_aload_n hx hb dL_law_1111 rfl (lv_at hl 1 rfl) ?_
  refine lv_aload_n hx hb dL_law_1112 rfl (lv_at hl 3 rfl) ?_
  refine lv_iload_n hx hb dL_law_1113 rfl (lv_at hl 0 rfl) ?_
  refine lv_iconst (v := 1) hx hb dL_law_1114 (by decide) ?_
  refine lv_iadd hx hb dL_law_1115 ?_
  refine eqi (v := 1) (by decide) ?_
  refine va_sld hx hb hX hbl hbA hS (by unfold vp_in; decide) dL_law_1116 ?_
  refine eqi (v := xs 1) rfl ?_
  refine lv_aload_n hx hb dL_law_1117 rfl (lv_at hl 3 rfl) ?_
  refine lv_iload_n hx hb dL_law_1118 rfl (lv_at hl 0 rfl) ?_
  refine lv_iconst (v := 2) hx hb dL_law_1119 (by decide) ?_
  refine lv_iadd hx hb dL_law_1120 ?_
  refine eqi (v := 2) (by decide) ?_
  refine va_sld hx hb hX hbl hbA hS (by unfold vp_in; decide) dL_law_1121 ?_
  refine eqi (v := xs 2) rfl ?_
  refine mtId (wr := []) (cV (As := [.int (xs 1), .int (xs 2)]) (rest := [.int r_1]) ⟨hx, hb, hml, hown, hts⟩ (c_m_turn l D T (v 1) (v 16) (v 17) (v 18) (v 19) (v 2) (v 20) (v 21) (v 22) (v 23) (v 24) (v 25) (v 26) (v 27) (v 28) (v 29) (v 3) (v 30) (v 31) (v 32) (v 36) (v 4) (v 40) (v 41) (v 42) (v 5) m0 (xs 1) (xs 2) _) k_X11_turn v_X11_turn m1843 rfl rfl ⟨(Nat.le_of_ble_eq_true rfl), (Nat.le_of_ble_eq_true rfl)⟩ (preM hC (hP.sub (ws' := [(m0, .inr (11, [.int 0, .ref (v 1), .ref (v 2), .ref (v 3), .ref (v 4), .ref (v 5), .int 0, .int 0, .int 0, .int 0, .int 0, .long 0, .int 0, .int 0, .int 0, .int (-1), .ref (v 16), .ref (v 17), .ref (v 18), .ref (v 19), .ref (v 20), .ref (v 21), .ref (v 22), .ref (v 23), .ref (v 24), .ref (v 25), .ref (v 26), .ref (v 27), .ref (v 28), .ref (v 29), .ref (v 30), .ref (v 31), .ref (v 32), .int 0, .int 0, .int 0, .ref (v 36), .int 0, .int 0, .int 0, .ref (v 40), .ref (v 41), .ref (v 42), .int 0, .long 0])), ((v 17), .inl (T 0, 15, .inl (fun _ => 0)))]) [154, 161] rfl) (hD.sub (ws' := [(m0, .inr (11, [.int 0, .ref (v 1), .ref (v 2), .ref (v 3), .ref (v 4), .ref (v 5), .int 0, .int 0, .int 0, .int 0, .int 0, .long 0, .int 0, .int 0, .int 0, .int (-1), .ref (v 16), .ref (v 17), .ref (v 18), .ref (v 19), .ref (v 20), .ref (v 21), .ref (v 22), .ref (v 23), .ref (v 24), .ref (v 25), .ref (v 26), .ref (v 27), .ref (v 28), .ref (v 29), .ref (v 30), .ref (v 31), .ref (v 32), .int 0, .int 0, .int 0, .ref (v 36), .int 0, .int 0, .int 0, .ref (v 40), .ref (v 41), .ref (v 42), .int 0, .long 0])), ((v 17), .inl (T 0, 15, .inl (fun _ => 0)))]) [154, 161] (by decide) rfl)) (va_recv hK hP (ci := 11) (q0 := 154) rfl rfl) rfl hl.1 rfl (Nat.le_of_ble_eq_true rfl) dL_law_1122 ⟨(Nat.le_of_ble_eq_true rfl), (Nat.le_of_ble_eq_true rfl)⟩) hS hA hP hD [154, 161] [] rfl rfl (by decide) (by decide) (fun r_4 u_5 H locs hw hP hD hS => ?_)
  have c_6 : r_4 = (-2) := hw
  refine lv_icmp_eq (tgt := 1862) hx hb dL_law_1125 (by decide) (fun _ => ?_) (fun h => absurd (c_3.trans c_6.symm) h)
  refine lv_iinc (v := 6) (lv' := [(3, .int 6), (2, .ref m0), (1, .ref x0), (0, .ref b)]) hx hb dL_law_1862 hl (k := 0) rfl (by decide) (by decide) rfl (fun ls hl => ?_)
  refine lv_goto (tgt := 18) hx hb dL_law_1865 (by decide) ?_
  refine lv_iload_n hx hb dL_law_18 rfl (lv_at hl 0 rfl) ?_
  refine lv_aload_n hx hb dL_law_19 rfl (lv_at hl 3 rfl) ?_
  refine va_slen hx hb hX hbl hbA hS dL_law_20 ?_
  refine eqi (v := 6) (by decide) ?_
  refine lv_bipush (v := 6) hx hb dL_law_21 (by decide) ?_
  refine lv_isub hx hb dL_law_23 ?_
  refine eqi (v := 0) (by decide) ?_
  refine lv_icmp_gt (tgt := 1868) hx hb dL_law_24 (by decide) (fun _ => ?_) (fun c_7 => absurd (by decide) c_7)
  refine lv_iconst (v := 1) hx hb dL_law_1868 (by decide) ?_
  refine va_forget (fun q hq => hS.2.2 q hq) ?_
  refine W.widen (k := 600000) (n := 7302250) (Nat.le_of_ble_eq_true rfl) (Nat.le_of_ble_eq_true rfl) ?_
  exact lw_ret hx hb hr hlocks dL_law_1869

set_option maxHeartbeats 4000000 in
set_option maxRecDepth 100000 in
theorem lawcase_30 {p : Program} {e : Env} {s : State} {m : MethodId} {below : List Frame} {meth : Method} {c : Code} (l : Launch) {b : Nat} {xs : Nat → Int32} (C0 : lw_At p s m meth c b 6 xs) {D : va_G} {T : Nat → ClassId} (hC : cx D T s) {H : Heap} {locs : List Loc} (x0 m0 : Nat) (u v : Nat → Nat) (hP : va_P D vwCl (lawW T x0 m0 u v) H) (hD : va_D (fun q : Nat => s.heap.size ≤ q) (lawW T x0 m0 u v)) (hS : va_S (fun q : Nat => s.heap.size ≤ q) s.heap H locs) {ls : Array Slot} (hl : lv_has ls 4 [(3, .int 0), (2, .ref m0), (1, .ref x0), (0, .ref b)]) : W p l e room_1 s m #[Value.ref b] below meth c H locs 181 83004 (lw_Z below #[Value.ref b] s) (F0 m 1130 ls []) := by
  obtain ⟨hx, hb, hr, hml, hown, hts0, hX, hbl, hlocks, hgv⟩ := id C0
  have hts : ∀ w ∈ gt, w.before #[Value.ref b] s = true := fun w hw => hts0 w (List.mem_filter.mp hw).1
  have hown : s.vm.findClass RL = some m.cls := hown
  have hb : c.code = cL_law := hb
  have hA : ∀ q : Nat, s.heap.size ≤ q → (fun q : Nat => s.heap.size ≤ q) q := fun _ h => h
  have hbA : ¬ (fun q : Nat => s.heap.size ≤ q) b := Nat.not_le.mpr hbl
  have hK := hC.1
  refine lv_aload_n hx hb dL_law_1130 rfl (lv_at hl 2 rfl) ?_
  refine lv_aload_n hx hb dL_law_1131 rfl (lv_at hl 3 rfl) ?_
  refine lv_iload_n hx hb dL_law_1132 rfl (lv_at hl 0 rfl) ?_
  refine lv_iconst (v := 1) hx hb dL_law_1133 (by decide) ?_
  refine lv_iadd hx hb dL_law_1134 ?_
  refine eqi (v := 1) (by decide) ?_
  refine va_sld hx hb hX hbl hbA hS (by unfold vp_in; decide) dL_law_1135 ?_
  refine eqi (v := xs 1) rfl ?_
  refine puI (cV (As := [.int (xs 1)]) (rest := []) ⟨hx, hb, hml, hown, hts⟩ (c_X10_bribe l D T x0 (u 0) (u 2) (u 15) (u 16) (u 17) (u 18) (u 19) (u 20) (u 21) (u 22) (u 23) (u 24) (u 25) (u 26) (u 27) (u 36) (u 37) (u 38) (u 130) (u 131) (u 132) (u 141) (u 144) (u 150) (u 151) (xs 1)) k_X10_bribe v_X10_bribe m1071 rfl rfl ⟨(Nat.le_of_ble_eq_true rfl), (Nat.le_of_ble_eq_true rfl)⟩ (preP hC (hP.sub (ws' := [(x0, .inr (10, [.ref (u 0), .ref (u 2), .ref (u 15), .ref (u 38), .ref (u 130), .ref (u 131), .ref (u 132), .ref (u 141), .ref (u 144), .ref (u 150), .ref (u 151)])), ((u 15), .inr (3, [.ref (u 16), .ref (u 27), .int 0, .int 0, .int 2, .long 0, .int 0, .ref (u 36), .ref (u 37)])), ((u 16), .inr (5, [.int 0, .int 0, .int 0, .int 0, .int 0, .int 0, .int 0, .int 0, .int 0, .ref (u 17), .ref (u 18), .ref (u 19), .ref (u 20), .ref (u 21), .ref (u 22), .ref (u 23), .ref (u 24), .ref (u 25), .ref (u 26)]))]) [0, 16, 17] rfl)) (va_recv hK hP (ci := 10) (q0 := 0) rfl rfl) rfl hl.1 rfl (Nat.le_of_ble_eq_true rfl) dL_law_1136 ⟨(Nat.le_of_ble_eq_true rfl), (Nat.le_of_ble_eq_true rfl)⟩) hS hP (fun r_1 H locs hw hP hS => ?_)
  have c_3 : r_1 = (-2) := hw
  refine lv_aload_n hx hb dL_law_1139 rfl (lv_at hl 1 rfl) ?_
  refine lv_aload_n hx hb dL_law_1140 rfl (lv_at hl 3 rfl) ?_
  refine lv_iload_n hx hb dL_law_1141 rfl (lv_at hl 0 rfl) ?_
  refine lv_iconst (v := 1) hx hb dL_law_1142 (by decide) ?_
  refine lv_iadd hx hb dL_law_1143 ?_
  refine eqi (v := 1) (by decide) ?_
  refine va_sld hx hb hX hbl hbA hS (by unfold vp_in; decide) dL_law_1144 ?_
  refine eqi (v := xs 1) rfl ?_
  refine mtId (wr := []) (cV (As := [.int (xs 1)]) (rest := [.int r_1]) ⟨hx, hb, hml, hown, hts⟩ (c_m_bribe l D T (v 1) (v 16) (v 17) (v 18) (v 19) (v 2) (v 20) (v 21) (v 22) (v 23) (v 24) (v 25) (v 26) (v 27) (v 28) (v 29) (v 3) (v 30) (v 31) (v 32) (v 36) (v 4) (v 40) (v 41) (v 42) (v 5) m0 (xs 1) _) k_X11_bribe v_X11_bribe m1855 rfl rfl ⟨(Nat.le_of_ble_eq_true rfl), (Nat.le_of_ble_eq_true rfl)⟩ (preM hC (hP.sub (ws' := [(m0, .inr (11, [.int 0, .ref (v 1), .ref (v 2), .ref (v 3), .ref (v 4), .ref (v 5), .int 0, .int 0, .int 0, .int 0, .int 0, .long 0, .int 0, .int 0, .int 0, .int (-1), .ref (v 16), .ref (v 17), .ref (v 18), .ref (v 19), .ref (v 20), .ref (v 21), .ref (v 22), .ref (v 23), .ref (v 24), .ref (v 25), .ref (v 26), .ref (v 27), .ref (v 28), .ref (v 29), .ref (v 30), .ref (v 31), .ref (v 32), .int 0, .int 0, .int 0, .ref (v 36), .int 0, .int 0, .int 0, .ref (v 40), .ref (v 41), .ref (v 42), .int 0, .long 0])), ((v 17), .inl (T 0, 15, .inl (fun _ => 0)))]) [154, 161] rfl) (hD.sub (ws' := [(m0, .inr (11, [.int 0, .ref (v 1), .ref (v 2), .ref (v 3), .ref (v 4), .ref (v 5), .int 0, .int 0, .int 0, .int 0, .int 0, .long 0, .int 0, .int 0, .int 0, .int (-1), .ref (v 16), .ref (v 17), .ref (v 18), .ref (v 19), .ref (v 20), .ref (v 21), .ref (v 22), .ref (v 23), .ref (v 24), .ref (v 25), .ref (v 26), .ref (v 27), .ref (v 28), .ref (v 29), .ref (v 30), .ref (v 31), .ref (v 32), .int 0, .int 0, .int 0, .ref (v 36), .int 0, .int 0, .int 0, .ref (v 40), .ref (v 41), .ref (v 42), .int 0, .long 0])), ((v 17), .inl (T 0, 15, .inl (fun _ => 0)))]) [154, 161] (by decide) rfl)) (va_recv hK hP (ci := 11) (q0 := 154) rfl rfl) rfl hl.1 rfl (Nat.le_of_ble_eq_true rfl) dL_law_1145 ⟨(Nat.le_of_ble_eq_true rfl), (Nat.le_of_ble_eq_true rfl)⟩) hS hA hP hD [154, 161] [] rfl rfl (by decide) (by decide) (fun r_4 u_5 H locs hw hP hD hS => ?_)
  have c_6 : r_4 = (-2) := hw
  refine lv_icmp_eq (tgt := 1862) hx hb dL_law_1148 (by decide) (fun _ => ?_) (fun h => absurd (c_3.trans c_6.symm) h)
  refine lv_iinc (v := 6) (lv' := [(3, .int 6), (2, .ref m0), (1, .ref x0), (0, .ref b)]) hx hb dL_law_1862 hl (k := 0) rfl (by decide) (by decide) rfl (fun ls hl => ?_)
  refine lv_goto (tgt := 18) hx hb dL_law_1865 (by decide) ?_
  refine lv_iload_n hx hb dL_law_18 rfl (lv_at hl 0 rfl) ?_
  refine lv_aload_n hx hb dL_law_19 rfl (lv_at hl 3 rfl) ?_
  refine va_slen hx hb hX hbl hbA hS dL_law_20 ?_
  refine eqi (v := 6) (by decide) ?_
  refine lv_bipush (v := 6) hx hb dL_law_21 (by decide) ?_
  refine lv_isub hx hb dL_law_23 ?_
  refine eqi (v := 0) (by decide) ?_
  refine lv_icmp_gt (tgt := 1868) hx hb dL_law_24 (by decide) (fun _ => ?_) (fun c_7 => absurd (by decide) c_7)
  refine lv_iconst (v := 1) hx hb dL_law_1868 (by decide) ?_
  refine va_forget (fun q hq => hS.2.2 q hq) ?_
  refine W.widen (k := 600000) (n := 7302250) (Nat.le_of_ble_eq_true rfl) (Nat.le_of_ble_eq_true rfl) ?_
  exact lw_ret hx hb hr hlocks dL_law_1869

set_option maxHeartbeats 4000000 in
set_option maxRecDepth 100000 in
theorem lawcase_31 {p : Program} {e : Env} {s : State} {m : MethodId} {below : List Frame} {meth : Method} {c : Code} (l : Launch) {b : Nat} {xs : Nat → Int32} (C0 : lw_At p s m meth c b 6 xs) {D : va_G} {T : Nat → ClassId} (hC : cx D T s) {H : Heap} {locs : List Loc} (x0 m0 : Nat) (u v : Nat → Nat) (hP : va_P D vwCl (lawW T x0 m0 u v) H) (hD : va_D (fun q : Nat => s.heap.size ≤ q) (lawW T x0 m0 u v)) (hS : va_S (fun q : Nat => s.heap.size ≤ q) s.heap H locs) {ls : Array Slot} (hl : lv_has ls 4 [(3, .int 0), (2, .ref m0), (1, .ref x0), (0, .ref b)]) : W p l e room_1 s m #[Value.ref b] below meth c H locs 181 83004 (lw_Z below #[Value.ref b] s) (F0 m 1153 ls []) := by
  obtain ⟨hx, hb, hr, hml, hown, hts0, hX, hbl, hlocks, hgv⟩ := id C0
  have hts : ∀ w ∈ gt, w.before #[Value.ref b] s = true := fun w hw => hts0 w (List.mem_filter.mp hw).1
  have hown : s.vm.findClass RL = some m.cls := hown
  have hb : c.code = cL_law := hb
  have hA : ∀ q : Nat, s.heap.size ≤ q → (fun q : Nat => s.heap.size ≤ q) q := fun _ h => h
  have hbA : ¬ (fun q : Nat => s.heap.size ≤ q) b := Nat.not_le.mpr hbl
  have hK := hC.1
  refine lv_aload_n hx hb dL_law_1153 rfl (lv_at hl 2 rfl) ?_
  refine lv_aload_n hx hb dL_law_1154 rfl (lv_at hl 3 rfl) ?_
  refine lv_iload_n hx hb dL_law_1155 rfl (lv_at hl 0 rfl) ?_
  refine lv_iconst (v := 1) hx hb dL_law_1156 (by decide) ?_
  refine lv_iadd hx hb dL_law_1157 ?_
  refine eqi (v := 1) (by decide) ?_
  refine va_sld hx hb hX hbl hbA hS (by unfold vp_in; decide) dL_law_1158 ?_
  refine eqi (v := xs 1) rfl ?_
  refine puI (cV (As := [.int (xs 1)]) (rest := []) ⟨hx, hb, hml, hown, hts⟩ (c_X10_tear l D T x0 (u 0) (u 2) (u 15) (u 16) (u 17) (u 18) (u 19) (u 20) (u 21) (u 22) (u 23) (u 24) (u 25) (u 26) (u 27) (u 36) (u 37) (u 38) (u 130) (u 131) (u 132) (u 141) (u 144) (u 150) (u 151) (xs 1)) k_X10_tear v_X10_tear m1083 rfl rfl ⟨(Nat.le_of_ble_eq_true rfl), (Nat.le_of_ble_eq_true rfl)⟩ (preP hC (hP.sub (ws' := [(x0, .inr (10, [.ref (u 0), .ref (u 2), .ref (u 15), .ref (u 38), .ref (u 130), .ref (u 131), .ref (u 132), .ref (u 141), .ref (u 144), .ref (u 150), .ref (u 151)])), ((u 15), .inr (3, [.ref (u 16), .ref (u 27), .int 0, .int 0, .int 2, .long 0, .int 0, .ref (u 36), .ref (u 37)])), ((u 16), .inr (5, [.int 0, .int 0, .int 0, .int 0, .int 0, .int 0, .int 0, .int 0, .int 0, .ref (u 17), .ref (u 18), .ref (u 19), .ref (u 20), .ref (u 21), .ref (u 22), .ref (u 23), .ref (u 24), .ref (u 25), .ref (u 26)]))]) [0, 16, 17] rfl)) (va_recv hK hP (ci := 10) (q0 := 0) rfl rfl) rfl hl.1 rfl (Nat.le_of_ble_eq_true rfl) dL_law_1159 ⟨(Nat.le_of_ble_eq_true rfl), (Nat.le_of_ble_eq_true rfl)⟩) hS hP (fun r_1 H locs hw hP hS => ?_)
  have c_3 : r_1 = (-2) := hw
  refine lv_aload_n hx hb dL_law_1162 rfl (lv_at hl 1 rfl) ?_
  refine lv_aload_n hx hb dL_law_1163 rfl (lv_at hl 3 rfl) ?_
  refine lv_iload_n hx hb dL_law_1164 rfl (lv_at hl 0 rfl) ?_
  refine lv_iconst (v := 1) hx hb dL_law_1165 (by decide) ?_
  refine lv_iadd hx hb dL_law_1166 ?_
  refine eqi (v := 1) (by decide) ?_
  refine va_sld hx hb hX hbl hbA hS (by unfold vp_in; decide) dL_law_1167 ?_
  refine eqi (v := xs 1) rfl ?_
  refine mtId (wr := []) (cV (As := [.int (xs 1)]) (rest := [.int r_1]) ⟨hx, hb, hml, hown, hts⟩ (c_m_tear l D T (v 1) (v 16) (v 17) (v 18) (v 19) (v 2) (v 20) (v 21) (v 22) (v 23) (v 24) (v 25) (v 26) (v 27) (v 28) (v 29) (v 3) (v 30) (v 31) (v 32) (v 36) (v 4) (v 40) (v 41) (v 42) (v 5) m0 (xs 1) _) k_X11_tear v_X11_tear m1859 rfl rfl ⟨(Nat.le_of_ble_eq_true rfl), (Nat.le_of_ble_eq_true rfl)⟩ (preM hC (hP.sub (ws' := [(m0, .inr (11, [.int 0, .ref (v 1), .ref (v 2), .ref (v 3), .ref (v 4), .ref (v 5), .int 0, .int 0, .int 0, .int 0, .int 0, .long 0, .int 0, .int 0, .int 0, .int (-1), .ref (v 16), .ref (v 17), .ref (v 18), .ref (v 19), .ref (v 20), .ref (v 21), .ref (v 22), .ref (v 23), .ref (v 24), .ref (v 25), .ref (v 26), .ref (v 27), .ref (v 28), .ref (v 29), .ref (v 30), .ref (v 31), .ref (v 32), .int 0, .int 0, .int 0, .ref (v 36), .int 0, .int 0, .int 0, .ref (v 40), .ref (v 41), .ref (v 42), .int 0, .long 0])), ((v 17), .inl (T 0, 15, .inl (fun _ => 0)))]) [154, 161] rfl) (hD.sub (ws' := [(m0, .inr (11, [.int 0, .ref (v 1), .ref (v 2), .ref (v 3), .ref (v 4), .ref (v 5), .int 0, .int 0, .int 0, .int 0, .int 0, .long 0, .int 0, .int 0, .int 0, .int (-1), .ref (v 16), .ref (v 17), .ref (v 18), .ref (v 19), .ref (v 20), .ref (v 21), .ref (v 22), .ref (v 23), .ref (v 24), .ref (v 25), .ref (v 26), .ref (v 27), .ref (v 28), .ref (v 29), .ref (v 30), .ref (v 31), .ref (v 32), .int 0, .int 0, .int 0, .ref (v 36), .int 0, .int 0, .int 0, .ref (v 40), .ref (v 41), .ref (v 42), .int 0, .long 0])), ((v 17), .inl (T 0, 15, .inl (fun _ => 0)))]) [154, 161] (by decide) rfl)) (va_recv hK hP (ci := 11) (q0 := 154) rfl rfl) rfl hl.1 rfl (Nat.le_of_ble_eq_true rfl) dL_law_1168 ⟨(Nat.le_of_ble_eq_true rfl), (Nat.le_of_ble_eq_true rfl)⟩) hS hA hP hD [154, 161] [] rfl rfl (by decide) (by decide) (fun r_4 u_5 H locs hw hP hD hS => ?_)
  have c_6 : r_4 = (-2) := hw
  refine lv_icmp_eq (tgt := 1862) hx hb dL_law_1171 (by decide) (fun _ => ?_) (fun h => absurd (c_3.trans c_6.symm) h)
  refine lv_iinc (v := 6) (lv' := [(3, .int 6), (2, .ref m0), (1, .ref x0), (0, .ref b)]) hx hb dL_law_1862 hl (k := 0) rfl (by decide) (by decide) rfl (fun ls hl => ?_)
  refine lv_goto (tgt := 18) hx hb dL_law_1865 (by decide) ?_
  refine lv_iload_n hx hb dL_law_18 rfl (lv_at hl 0 rfl) ?_
  refine lv_aload_n hx hb dL_law_19 rfl (lv_at hl 3 rfl) ?_
  refine va_slen hx hb hX hbl hbA hS dL_law_20 ?_
  refine eqi (v := 6) (by decide) ?_
  refine lv_bipush (v := 6) hx hb dL_law_21 (by decide) ?_
  refine lv_isub hx hb dL_law_23 ?_
  refine eqi (v := 0) (by decide) ?_
  refine lv_icmp_gt (tgt := 1868) hx hb dL_law_24 (by decide) (fun _ => ?_) (fun c_7 => absurd (by decide) c_7)
  refine lv_iconst (v := 1) hx hb dL_law_1868 (by decide) ?_
  refine va_forget (fun q hq => hS.2.2 q hq) ?_
  refine W.widen (k := 600000) (n := 7302250) (Nat.le_of_ble_eq_true rfl) (Nat.le_of_ble_eq_true rfl) ?_
  exact lw_ret hx hb hr hlocks dL_law_1869

set_option maxHeartbeats 4000000 in
set_option maxRecDepth 100000 in
theorem lawcase_32 {p : Program} {e : Env} {s : State} {m : MethodId} {below : List Frame} {meth : Method} {c : Code} (l : Launch) {b : Nat} {xs : Nat → Int32} (C0 : lw_At p s m meth c b 6 xs) {D : va_G} {T : Nat → ClassId} (hC : cx D T s) {H : Heap} {locs : List Loc} (x0 m0 : Nat) (u v : Nat → Nat) (hP : va_P D vwCl (lawW T x0 m0 u v) H) (hD : va_D (fun q : Nat => s.heap.size ≤ q) (lawW T x0 m0 u v)) (hS : va_S (fun q : Nat => s.heap.size ≤ q) s.heap H locs) {ls : Array Slot} (hl : lv_has ls 4 [(3, .int 0), (2, .ref m0), (1, .ref x0), (0, .ref b)]) : W p l e room_1 s m #[Value.ref b] below meth c H locs 181 83004 (lw_Z below #[Value.ref b] s) (F0 m 1176 ls []) := by
  obtain ⟨hx, hb, hr, hml, hown, hts0, hX, hbl, hlocks, hgv⟩ := id C0
  have hts : ∀ w ∈ gt, w.before #[Value.ref b] s = true := fun w hw => hts0 w (List.mem_filter.mp hw).1
  have hown : s.vm.findClass RL = some m.cls := hown
  have hb : c.code = cL_law := hb
  have hA : ∀ q : Nat, s.heap.size ≤ q → (fun q : Nat => s.heap.size ≤ q) q := fun _ h => h
  have hbA : ¬ (fun q : Nat => s.heap.size ≤ q) b := Nat.not_le.mpr hbl
  have hK := hC.1
  refine lv_aload_n hx hb dL_law_1176 rfl (lv_at hl 2 rfl) ?_
  refine lv_aload_n hx hb dL_law_1177 rfl (lv_at hl 3 rfl) ?_
  refine lv_iload_n hx hb dL_law_1178 rfl (lv_at hl 0 rfl) ?_
  refine lv_iconst (v := 1) hx hb dL_law_1179 (by decide) ?_
  refine lv_iadd hx hb dL_law_1180 ?_
  refine eqi (v := 1) (by decide) ?_
  refine va_sld hx hb hX hbl hbA hS (by unfold vp_in; decide) dL_law_1181 ?_
  refine eqi (v := xs 1) rfl ?_
  refine puL (cV (As := [.int (xs 1)]) (rest := []) ⟨hx, hb, hml, hown, hts⟩ (c_X10_gale l D T x0 (u 0) (u 2) (u 15) (u 16) (u 17) (u 18) (u 19) (u 20) (u 21) (u 22) (u 23) (u 24) (u 25) (u 26) (u 27) (u 36) (u 37) (u 38) (u 130) (u 131) (u 132) (u 141) (u 144) (u 150) (u 151) (xs 1)) k_X10_gale v_X10_gale m1108 rfl rfl ⟨(Nat.le_of_ble_eq_true rfl), (Nat.le_of_ble_eq_true rfl)⟩ (preP hC (hP.sub (ws' := [(x0, .inr (10, [.ref (u 0), .ref (u 2), .ref (u 15), .ref (u 38), .ref (u 130), .ref (u 131), .ref (u 132), .ref (u 141), .ref (u 144), .ref (u 150), .ref (u 151)])), ((u 15), .inr (3, [.ref (u 16), .ref (u 27), .int 0, .int 0, .int 2, .long 0, .int 0, .ref (u 36), .ref (u 37)])), ((u 16), .inr (5, [.int 0, .int 0, .int 0, .int 0, .int 0, .int 0, .int 0, .int 0, .int 0, .ref (u 17), .ref (u 18), .ref (u 19), .ref (u 20), .ref (u 21), .ref (u 22), .ref (u 23), .ref (u 24), .ref (u 25), .ref (u 26)]))]) [0, 16, 17] rfl)) (va_recv hK hP (ci := 10) (q0 := 0) rfl rfl) rfl hl.1 rfl (Nat.le_of_ble_eq_true rfl) dL_law_1182 ⟨(Nat.le_of_ble_eq_true rfl), (Nat.le_of_ble_eq_true rfl)⟩) hS hP (fun r_1 H locs hw hP hS => ?_)
  have c_3 : r_1 = (-2) := hw
  refine lv_aload_n hx hb dL_law_1185 rfl (lv_at hl 1 rfl) ?_
  refine lv_aload_n hx hb dL_law_1186 rfl (lv_at hl 3 rfl) ?_
  refine lv_iload_n hx hb dL_law_1187 rfl (lv_at hl 0 rfl) ?_
  refine lv_iconst (v := 1) hx hb dL_law_1188 (by decide) ?_
  refine lv_iadd hx hb dL_law_1189 ?_
  refine eqi (v := 1) (by decide) ?_
  refine va_sld hx hb hX hbl hbA hS (by unfold vp_in; decide) dL_law_1190 ?_
  refine eqi (v := xs 1) rfl ?_
  refine mtLd (wr := []) (cV (As := [.int (xs 1)]) (rest := [.long r_1]) ⟨hx, hb, hml, hown, hts⟩ (c_m_gale l D T (v 1) (v 16) (v 17) (v 18) (v 19) (v 2) (v 20) (v 21) (v 22) (v 23) (v 24) (v 25) (v 26) (v 27) (v 28) (v 29) (v 3) (v 30) (v 31) (v 32) (v 36) (v 4) (v 40) (v 41) (v 42) (v 5) m0 (xs 1) _) k_X11_gale v_X11_gale m1871 rfl rfl ⟨(Nat.le_of_ble_eq_true rfl), (Nat.le_of_ble_eq_true rfl)⟩ (preM hC (hP.sub (ws' := [(m0, .inr (11, [.int 0, .ref (v 1), .ref (v 2), .ref (v 3), .ref (v 4), .ref (v 5), .int 0, .int 0, .int 0, .int 0, .int 0, .long 0, .int 0, .int 0, .int 0, .int (-1), .ref (v 16), .ref (v 17), .ref (v 18), .ref (v 19), .ref (v 20), .ref (v 21), .ref (v 22), .ref (v 23), .ref (v 24), .ref (v 25), .ref (v 26), .ref (v 27), .ref (v 28), .ref (v 29), .ref (v 30), .ref (v 31), .ref (v 32), .int 0, .int 0, .int 0, .ref (v 36), .int 0, .int 0, .int 0, .ref (v 40), .ref (v 41), .ref (v 42), .int 0, .long 0])), ((v 17), .inl (T 0, 15, .inl (fun _ => 0)))]) [154, 161] rfl) (hD.sub (ws' := [(m0, .inr (11, [.int 0, .ref (v 1), .ref (v 2), .ref (v 3), .ref (v 4), .ref (v 5), .int 0, .int 0, .int 0, .int 0, .int 0, .long 0, .int 0, .int 0, .int 0, .int (-1), .ref (v 16), .ref (v 17), .ref (v 18), .ref (v 19), .ref (v 20), .ref (v 21), .ref (v 22), .ref (v 23), .ref (v 24), .ref (v 25), .ref (v 26), .ref (v 27), .ref (v 28), .ref (v 29), .ref (v 30), .ref (v 31), .ref (v 32), .int 0, .int 0, .int 0, .ref (v 36), .int 0, .int 0, .int 0, .ref (v 40), .ref (v 41), .ref (v 42), .int 0, .long 0])), ((v 17), .inl (T 0, 15, .inl (fun _ => 0)))]) [154, 161] (by decide) rfl)) (va_recv hK hP (ci := 11) (q0 := 154) rfl rfl) rfl hl.1 rfl (Nat.le_of_ble_eq_true rfl) dL_law_1191 ⟨(Nat.le_of_ble_eq_true rfl), (Nat.le_of_ble_eq_true rfl)⟩) hS hA hP hD [154, 161] [] rfl rfl (by decide) (by decide) (fun r_4 u_5 H locs hw hP hD hS => ?_)
  have c_6 : r_4 = (-2) := hw
  refine W.lcmp hx hb dL_law_1194 ?_
  refine eqi (v := 0) ((lc_eq _ _).mpr (c_3.trans c_6.symm)) ?_
  refine lv_if_eq (tgt := 1862) hx hb dL_law_1195 (by decide) (fun _ => ?_) (fun c_7 => absurd (by decide) c_7)
  refine lv_iinc (v := 6) (lv' := [(3, .int 6), (2, .ref m0), (1, .ref x0), (0, .ref b)]) hx hb dL_law_1862 hl (k := 0) rfl (by decide) (by decide) rfl (fun ls hl => ?_)
  refine lv_goto (tgt := 18) hx hb dL_law_1865 (by decide) ?_
  refine lv_iload_n hx hb dL_law_18 rfl (lv_at hl 0 rfl) ?_
  refine lv_aload_n hx hb dL_law_19 rfl (lv_at hl 3 rfl) ?_
  refine va_slen hx hb hX hbl hbA hS dL_law_20 ?_
  refine eqi (v := 6) (by decide) ?_
  refine lv_bipush (v := 6) hx hb dL_law_21 (by decide) ?_
  refine lv_isub hx hb dL_law_23 ?_
  refine eqi (v := 0) (by decide) ?_
  refine lv_icmp_gt (tgt := 1868) hx hb dL_law_24 (by decide) (fun _ => ?_) (fun c_8 => absurd (by decide) c_8)
  refine lv_iconst (v := 1) hx hb dL_law_1868 (by decide) ?_
  refine va_forget (fun q hq => hS.2.2 q hq) ?_
  refine W.widen (k := 600000) (n := 7302250) (Nat.le_of_ble_eq_true rfl) (Nat.le_of_ble_eq_true rfl) ?_
  exact lw_ret hx hb hr hlocks dL_law_1869

set_option maxHeartbeats 4000000 in
set_option maxRecDepth 100000 in
theorem lawcase_33 {p : Program} {e : Env} {s : State} {m : MethodId} {below : List Frame} {meth : Method} {c : Code} (l : Launch) {b : Nat} {xs : Nat → Int32} (C0 : lw_At p s m meth c b 6 xs) {D : va_G} {T : Nat → ClassId} (hC : cx D T s) {H : Heap} {locs : List Loc} (x0 m0 : Nat) (u v : Nat → Nat) (hP : va_P D vwCl (lawW T x0 m0 u v) H) (hD : va_D (fun q : Nat => s.heap.size ≤ q) (lawW T x0 m0 u v)) (hS : va_S (fun q : Nat => s.heap.size ≤ q) s.heap H locs) {ls : Array Slot} (hl : lv_has ls 4 [(3, .int 0), (2, .ref m0), (1, .ref x0), (0, .ref b)]) : W p l e room_1 s m #[Value.ref b] below meth c H locs 181 83004 (lw_Z below #[Value.ref b] s) (F0 m 1200 ls []) := by
  obtain ⟨hx, hb, hr, hml, hown, hts0, hX, hbl, hlocks, hgv⟩ := id C0
  have hts : ∀ w ∈ gt, w.before #[Value.ref b] s = true := fun w hw => hts0 w (List.mem_filter.mp hw).1
  have hown : s.vm.findClass RL = some m.cls := hown
  have hb : c.code = cL_law := hb
  have hA : ∀ q : Nat, s.heap.size ≤ q → (fun q : Nat => s.heap.size ≤ q) q := fun _ h => h
  have hbA : ¬ (fun q : Nat => s.heap.size ≤ q) b := Nat.not_le.mpr hbl
  have hK := hC.1
  refine lv_aload_n hx hb dL_law_1200 rfl (lv_at hl 2 rfl) ?_
  refine lv_aload_n hx hb dL_law_1201 rfl (lv_at hl 3 rfl) ?_
  refine lv_iload_n hx hb dL_law_1202 rfl (lv_at hl 0 rfl) ?_
  refine lv_iconst (v := 1) hx hb dL_law_1203 (by decide) ?_
  refine lv_iadd hx hb dL_law_1204 ?_
  refine eqi (v := 1) (by decide) ?_
  refine va_sld hx hb hX hbl hbA hS (by unfold vp_in; decide) dL_law_1205 ?_
  refine eqi (v := xs 1) rfl ?_
  refine puL (cV (As := [.int (xs 1)]) (rest := []) ⟨hx, hb, hml, hown, hts⟩ (c_X10_falls l D T x0 (u 0) (u 2) (u 15) (u 16) (u 17) (u 18) (u 19) (u 20) (u 21) (u 22) (u 23) (u 24) (u 25) (u 26) (u 27) (u 36) (u 37) (u 38) (u 130) (u 131) (u 132) (u 141) (u 144) (u 150) (u 151) (xs 1)) k_X10_falls v_X10_falls m1146 rfl rfl ⟨(Nat.le_of_ble_eq_true rfl), (Nat.le_of_ble_eq_true rfl)⟩ (preP hC (hP.sub (ws' := [(x0, .inr (10, [.ref (u 0), .ref (u 2), .ref (u 15), .ref (u 38), .ref (u 130), .ref (u 131), .ref (u 132), .ref (u 141), .ref (u 144), .ref (u 150), .ref (u 151)])), ((u 15), .inr (3, [.ref (u 16), .ref (u 27), .int 0, .int 0, .int 2, .long 0, .int 0, .ref (u 36), .ref (u 37)])), ((u 16), .inr (5, [.int 0, .int 0, .int 0, .int 0, .int 0, .int 0, .int 0, .int 0, .int 0, .ref (u 17), .ref (u 18), .ref (u 19), .ref (u 20), .ref (u 21), .ref (u 22), .ref (u 23), .ref (u 24), .ref (u 25), .ref (u 26)]))]) [0, 16, 17] rfl)) (va_recv hK hP (ci := 10) (q0 := 0) rfl rfl) rfl hl.1 rfl (Nat.le_of_ble_eq_true rfl) dL_law_1206 ⟨(Nat.le_of_ble_eq_true rfl), (Nat.le_of_ble_eq_true rfl)⟩) hS hP (fun r_1 H locs hw hP hS => ?_)
  have c_3 : r_1 = (-2) := hw
  refine lv_aload_n hx hb dL_law_1209 rfl (lv_at hl 1 rfl) ?_
  refine lv_aload_n hx hb dL_law_1210 rfl (lv_at hl 3 rfl) ?_
  refine lv_iload_n hx hb dL_law_1211 rfl (lv_at hl 0 rfl) ?_
  refine lv_iconst (v := 1) hx hb dL_law_1212 (by decide) ?_
  refine lv_iadd hx hb dL_law_1213 ?_
  refine eqi (v := 1) (by decide) ?_
  refine va_sld hx hb hX hbl hbA hS (by unfold vp_in; decide) dL_law_1214 ?_
  refine eqi (v := xs 1) rfl ?_
  refine mtLd (wr := []) (cV (As := [.int (xs 1)]) (rest := [.long r_1]) ⟨hx, hb, hml, hown, hts⟩ (c_m_falls l D T (v 1) (v 16) (v 17) (v 18) (v 19) (v 2) (v 20) (v 21) (v 22) (v 23) (v 24) (v 25) (v 26) (v 27) (v 28) (v 29) (v 3) (v 30) (v 31) (v 32) (v 36) (v 4) (v 40) (v 41) (v 42) (v 5) m0 (xs 1) _) k_X11_falls v_X11_falls m1885 rfl rfl ⟨(Nat.le_of_ble_eq_true rfl), (Nat.le_of_ble_eq_true rfl)⟩ (preM hC (hP.sub (ws' := [(m0, .inr (11, [.int 0, .ref (v 1), .ref (v 2), .ref (v 3), .ref (v 4), .ref (v 5), .int 0, .int 0, .int 0, .int 0, .int 0, .long 0, .int 0, .int 0, .int 0, .int (-1), .ref (v 16), .ref (v 17), .ref (v 18), .ref (v 19), .ref (v 20), .ref (v 21), .ref (v 22), .ref (v 23), .ref (v 24), .ref (v 25), .ref (v 26), .ref (v 27), .ref (v 28), .ref (v 29), .ref (v 30), .ref (v 31), .ref (v 32), .int 0, .int 0, .int 0, .ref (v 36), .int 0, .int 0, .int 0, .ref (v 40), .ref (v 41), .ref (v 42), .int 0, .long 0])), ((v 17), .inl (T 0, 15, .inl (fun _ => 0)))]) [154, 161] rfl) (hD.sub (ws' := [(m0, .inr (11, [.int 0, .ref (v 1), .ref (v 2), .ref (v 3), .ref (v 4), .ref (v 5), .int 0, .int 0, .int 0, .int 0, .int 0, .long 0, .int 0, .int 0, .int 0, .int (-1), .ref (v 16), .ref (v 17), .ref (v 18), .ref (v 19), .ref (v 20), .ref (v 21), .ref (v 22), .ref (v 23), .ref (v 24), .ref (v 25), .ref (v 26), .ref (v 27), .ref (v 28), .ref (v 29), .ref (v 30), .ref (v 31), .ref (v 32), .int 0, .int 0, .int 0, .ref (v 36), .int 0, .int 0, .int 0, .ref (v 40), .ref (v 41), .ref (v 42), .int 0, .long 0])), ((v 17), .inl (T 0, 15, .inl (fun _ => 0)))]) [154, 161] (by decide) rfl)) (va_recv hK hP (ci := 11) (q0 := 154) rfl rfl) rfl hl.1 rfl (Nat.le_of_ble_eq_true rfl) dL_law_1215 ⟨(Nat.le_of_ble_eq_true rfl), (Nat.le_of_ble_eq_true rfl)⟩) hS hA hP hD [154, 161] [] rfl rfl (by decide) (by decide) (fun r_4 u_5 H locs hw hP hD hS => ?_)
  have c_6 : r_4 = (-2) := hw
  refine W.lcmp hx hb dL_law_1218 ?_
  refine eqi (v := 0) ((lc_eq _ _).mpr (c_3.trans c_6.symm)) ?_
  refine lv_if_eq (tgt := 1862) hx hb dL_law_1219 (by decide) (fun _ => ?_) (fun c_7 => absurd (by decide) c_7)
  refine lv_iinc (v := 6) (lv' := [(3, .int 6), (2, .ref m0), (1, .ref x0), (0, .ref b)]) hx hb dL_law_1862 hl (k := 0) rfl (by decide) (by decide) rfl (fun ls hl => ?_)
  refine lv_goto (tgt := 18) hx hb dL_law_1865 (by decide) ?_
  refine lv_iload_n hx hb dL_law_18 rfl (lv_at hl 0 rfl) ?_
  refine lv_aload_n hx hb dL_law_19 rfl (lv_at hl 3 rfl) ?_
  refine va_slen hx hb hX hbl hbA hS dL_law_20 ?_
  refine eqi (v := 6) (by decide) ?_
  refine lv_bipush (v := 6) hx hb dL_law_21 (by decide) ?_
  refine lv_isub hx hb dL_law_23 ?_
  refine eqi (v := 0) (by decide) ?_
  refine lv_icmp_gt (tgt := 1868) hx hb dL_law_24 (by decide) (fun _ => ?_) (fun c_8 => absurd (by decide) c_8)
  refine lv_iconst (v := 1) hx hb dL_law_1868 (by decide) ?_
  refine va_forget (fun q hq => hS.2.2 q hq) ?_
  refine W.widen (k := 600000) (n := 7302250) (Nat.le_of_ble_eq_true rfl) (Nat.le_of_ble_eq_true rfl) ?_
  exact lw_ret hx hb hr hlocks dL_law_1869

set_option maxHeartbeats 4000000 in
set_option maxRecDepth 100000 in
theorem lawcase_34 {p : Program} {e : Env} {s : State} {m : MethodId} {below : List Frame} {meth : Method} {c : Code} (l : Launch) {b : Nat} {xs : Nat → Int32} (C0 : lw_At p s m meth c b 6 xs) {D : va_G} {T : Nat → ClassId} (hC : cx D T s) {H : Heap} {locs : List Loc} (x0 m0 : Nat) (u v : Nat → Nat) (hP : va_P D vwCl (lawW T x0 m0 u v) H) (hD : va_D (fun q : Nat => s.heap.size ≤ q) (lawW T x0 m0 u v)) (hS : va_S (fun q : Nat => s.heap.size ≤ q) s.heap H locs) {ls : Array Slot} (hl : lv_has ls 4 [(3, .int 0), (2, .ref m0), (1, .ref x0), (0, .ref b)]) : W p l e room_1 s m #[Value.ref b] below meth c H locs 181 83004 (lw_Z below #[Value.ref b] s) (F0 m 1224 ls []) := by
  obtain ⟨hx, hb, hr, hml, hown, hts0, hX, hbl, hlocks, hgv⟩ := id C0
  have hts : ∀ w ∈ gt, w.before #[Value.ref b] s = true := fun w hw => hts0 w (List.mem_filter.mp hw).1
  have hown : s.vm.findClass RL = some m.cls := hown
  have hb : c.code = cL_law := hb
  have hA : ∀ q : Nat, s.heap.size ≤ q → (fun q : Nat => s.heap.size ≤ q) q := fun _ h => h
  have hbA : ¬ (fun q : Nat => s.heap.size ≤ q) b := Nat.not_le.mpr hbl
  have hK := hC.1
  refine lv_aload_n hx hb dL_law_1224 rfl (lv_at hl 2 rfl) ?_
  refine lv_aload_n hx hb dL_law_1225 rfl (lv_at hl 3 rfl) ?_
  refine lv_iload_n hx hb dL_law_1226 rfl (lv_at hl 0 rfl) ?_
  refine lv_iconst (v := 1) hx hb dL_law_1227 (by decide) ?_
  refine lv_iadd hx hb dL_law_1228 ?_
  refine eqi (v := 1) (by decide) ?_
  refine va_sld hx hb hX hbl hbA hS (by unfold vp_in; decide) dL_law_1229 ?_
  refine eqi (v := xs 1) rfl ?_
  refine puI (cV (As := [.int (xs 1)]) (rest := []) ⟨hx, hb, hml, hown, hts⟩ (c_X10_power l D T x0 (u 0) (u 2) (u 15) (u 16) (u 17) (u 18) (u 19) (u 20) (u 21) (u 22) (u 23) (u 24) (u 25) (u 26) (u 27) (u 36) (u 37) (u 38) (u 130) (u 131) (u 132) (u 141) (u 144) (u 150) (u 151) (xs 1)) k_X10_power v_X10_power m1150 rfl rfl ⟨(Nat.le_of_ble_eq_true rfl), (Nat.le_of_ble_eq_true rfl)⟩ (preP hC (hP.sub (ws' := [(x0, .inr (10, [.ref (u 0), .ref (u 2), .ref (u 15), .ref (u 38), .ref (u 130), .ref (u 131), .ref (u 132), .ref (u 141), .ref (u 144), .ref (u 150), .ref (u 151)])), ((u 15), .inr (3, [.ref (u 16), .ref (u 27), .int 0, .int 0, .int 2, .long 0, .int 0, .ref (u 36), .ref (u 37)])), ((u 16), .inr (5, [.int 0, .int 0, .int 0, .int 0, .int 0, .int 0, .int 0, .int 0, .int 0, .ref (u 17), .ref (u 18), .ref (u 19), .ref (u 20), .ref (u 21), .ref (u 22), .ref (u 23), .ref (u 24), .ref (u 25), .ref (u 26)]))]) [0, 16, 17] rfl)) (va_recv hK hP (ci := 10) (q0 := 0) rfl rfl) rfl hl.1 rfl (Nat.le_of_ble_eq_true rfl) dL_law_1230 ⟨(Nat.le_of_ble_eq_true rfl), (Nat.le_of_ble_eq_true rfl)⟩) hS hP (fun r_1 H locs hw hP hS => ?_)
  have c_3 : r_1 = (-2) := hw
  refine lv_aload_n hx hb dL_law_1233 rfl (lv_at hl 1 rfl) ?_
  refine lv_aload_n hx hb dL_law_1234 rfl (lv_at hl 3 rfl) ?_
  refine lv_iload_n hx hb dL_law_1235 rfl (lv_at hl 0 rfl) ?_
  refine lv_iconst (v := 1) hx hb dL_law_1236 (by decide) ?_
  refine lv_iadd hx hb dL_law_1237 ?_
  refine eqi (v := 1) (by decide) ?_
  refine va_sld hx hb hX hbl hbA hS (by unfold vp_in; decide) dL_law_1238 ?_
  refine eqi (v := xs 1) rfl ?_
  refine mtId (wr := []) (cV (As := [.int (xs 1)]) (rest := [.int r_1]) ⟨hx, hb, hml, hown, hts⟩ (c_m_power l D T (v 1) (v 16) (v 17) (v 18) (v 19) (v 2) (v 20) (v 21) (v 22) (v 23) (v 24) (v 25) (v 26) (v 27) (v 28) (v 29) (v 3) (v 30) (v 31) (v 32) (v 36) (v 4) (v 40) (v 41) (v 42) (v 5) m0 (xs 1) _) k_X11_power v_X11_power m1890 rfl rfl ⟨(Nat.le_of_ble_eq_true rfl), (Nat.le_of_ble_eq_true rfl)⟩ (preM hC (hP.sub (ws' := [(m0, .inr (11, [.int 0, .ref (v 1), .ref (v 2), .ref (v 3), .ref (v 4), .ref (v 5), .int 0, .int 0, .int 0, .int 0, .int 0, .long 0, .int 0, .int 0, .int 0, .int (-1), .ref (v 16), .ref (v 17), .ref (v 18), .ref (v 19), .ref (v 20), .ref (v 21), .ref (v 22), .ref (v 23), .ref (v 24), .ref (v 25), .ref (v 26), .ref (v 27), .ref (v 28), .ref (v 29), .ref (v 30), .ref (v 31), .ref (v 32), .int 0, .int 0, .int 0, .ref (v 36), .int 0, .int 0, .int 0, .ref (v 40), .ref (v 41), .ref (v 42), .int 0, .long 0])), ((v 20), .inl (T 0, 5, .inl (fun _ => 0)))]) [154, 164] rfl) (hD.sub (ws' := [(m0, .inr (11, [.int 0, .ref (v 1), .ref (v 2), .ref (v 3), .ref (v 4), .ref (v 5), .int 0, .int 0, .int 0, .int 0, .int 0, .long 0, .int 0, .int 0, .int 0, .int (-1), .ref (v 16), .ref (v 17), .ref (v 18), .ref (v 19), .ref (v 20), .ref (v 21), .ref (v 22), .ref (v 23), .ref (v 24), .ref (v 25), .ref (v 26), .ref (v 27), .ref (v 28), .ref (v 29), .ref (v 30), .ref (v 31), .ref (v 32), .int 0, .int 0, .int 0, .ref (v 36), .int 0, .int 0, .int 0, .ref (v 40), .ref (v 41), .ref (v 42), .int 0, .long 0])), ((v 20), .inl (T 0, 5, .inl (fun _ => 0)))]) [154, 164] (by decide) rfl)) (va_recv hK hP (ci := 11) (q0 := 154) rfl rfl) rfl hl.1 rfl (Nat.le_of_ble_eq_true rfl) dL_law_1239 ⟨(Nat.le_of_ble_eq_true rfl), (Nat.le_of_ble_eq_true rfl)⟩) hS hA hP hD [154, 164] [] rfl rfl (by decide) (by decide) (fun r_4 u_5 H locs hw hP hD hS => ?_)
  have c_6 : r_4 = (-2) := hw
  refine lv_icmp_eq (tgt := 1862) hx hb dL_law_1242 (by decide) (fun _ => ?_) (fun h => absurd (c_3.trans c_6.symm) h)
  refine lv_iinc (v := 6) (lv' := [(3, .int 6), (2, .ref m0), (1, .ref x0), (0, .ref b)]) hx hb dL_law_1862 hl (k := 0) rfl (by decide) (by decide) rfl (fun ls hl => ?_)
  refine lv_goto (tgt := 18) hx hb dL_law_1865 (by decide) ?_
  refine lv_iload_n hx hb dL_law_18 rfl (lv_at hl 0 rfl) ?_
  refine lv_aload_n hx hb dL_law_19 rfl (lv_at hl 3 rfl) ?_
  refine va_slen hx hb hX hbl hbA hS dL_law_20 ?_
  refine eqi (v := 6) (by decide) ?_
  refine lv_bipush (v := 6) hx hb dL_law_21 (by decide) ?_
  refine lv_isub hx hb dL_law_23 ?_
  refine eqi (v := 0) (by decide) ?_
  refine lv_icmp_gt (tgt := 1868) hx hb dL_law_24 (by decide) (fun _ => ?_) (fun c_7 => absurd (by decide) c_7)
  refine lv_iconst (v := 1) hx hb dL_law_1868 (by decide) ?_
  refine va_forget (fun q hq => hS.2.2 q hq) ?_
  refine W.widen (k := 600000) (n := 7302250) (Nat.le_of_ble_eq_true rfl) (Nat.le_of_ble_eq_true rfl) ?_
  exact lw_ret hx hb hr hlocks dL_law_1869

set_option maxHeartbeats 4000000 in
set_option maxRecDepth 100000 in
theorem lawcase_35 {p : Program} {e : Env} {s : State} {m : MethodId} {below : List Frame} {meth : Method} {c : Code} (l : Launch) {b : Nat} {xs : Nat → Int32} (C0 : lw_At p s m meth c b 6 xs) {D : va_G} {T : Nat → ClassId} (hC : cx D T s) {H : Heap} {locs : List Loc} (x0 m0 : Nat) (u v : Nat → Nat) (hP : va_P D vwCl (lawW T x0 m0 u v) H) (hD : va_D (fun q : Nat => s.heap.size ≤ q) (lawW T x0 m0 u v)) (hS : va_S (fun q : Nat => s.heap.size ≤ q) s.heap H locs) {ls : Array Slot} (hl : lv_has ls 4 [(3, .int 0), (2, .ref m0), (1, .ref x0), (0, .ref b)]) : W p l e room_1 s m #[Value.ref b] below meth c H locs 181 83004 (lw_Z below #[Value.ref b] s) (F0 m 1247 ls []) := by
  obtain ⟨hx, hb, hr, hml, hown, hts0, hX, hbl, hlocks, hgv⟩ := id C0
  have hts : ∀ w ∈ gt, w.before #[Value.ref b] s = true := fun w hw => hts0 w (List.mem_filter.mp hw).1
  have hown : s.vm.findClass RL = some m.cls := hown
  have hb : c.code = cL_law := hb
  have hA : ∀ q : Nat, s.heap.size ≤ q → (fun q : Nat => s.heap.size ≤ q) q := fun _ h => h
  have hbA : ¬ (fun q : Nat => s.heap.size ≤ q) b := Nat.not_le.mpr hbl
  have hK := hC.1
  refine lv_aload_n hx hb dL_law_1247 rfl (lv_at hl 2 rfl) ?_
  refine lv_aload_n hx hb dL_law_1248 rfl (lv_at hl 3 rfl) ?_
  refine lv_iload_n hx hb dL_law_1249 rfl (lv_at hl 0 rfl) ?_
  refine lv_iconst (v := 1) hx hb dL_law_1250 (by decide) ?_
  refine lv_iadd hx hb dL_law_1251 ?_
  refine eqi (v := 1) (by decide) ?_
  refine va_sld hx hb hX hbl hbA hS (by unfold vp_in; decide) dL_law_1252 ?_
  refine eqi (v := xs 1) rfl ?_
  refine lv_aload_n hx hb dL_law_1253 rfl (lv_at hl 3 rfl) ?_
  refine lv_iload_n hx hb dL_law_1254 rfl (lv_at hl 0 rfl) ?_
  refine lv_iconst (v := 2) hx hb dL_law_1255 (by decide) ?_
  refine lv_iadd hx hb dL_law_1256 ?_
  refine eqi (v := 2) (by decide) ?_
  refine va_sld hx hb hX hbl hbA hS (by unfold vp_in; decide) dL_law_1257 ?_
  refine eqi (v := xs 2) rfl ?_
  refine lv_aload_n hx hb dL_law_1258 rfl (lv_at hl 3 rfl) ?_
  refine lv_iload_n hx hb dL_law_1259 rfl (lv_at hl 0 rfl) ?_
  refine lv_iconst (v := 3) hx hb dL_law_1260 (by decide) ?_
  refine lv_iadd hx hb dL_law_1261 ?_
  refine eqi (v := 3) (by decide) ?_
  refine va_sld hx hb hX hbl hbA hS (by unfold vp_in; decide) dL_law_1262 ?_
  refine eqi (v := xs 3) rfl ?_
  refine puI (cV (As := [.int (xs 1), .int (xs 2), .int (xs 3)]) (rest := []) ⟨hx, hb, hml, hown, hts⟩ (c_X10_span l D T x0 (u 0) (u 2) (u 15) (u 16) (u 27) (u 36) (u 37) (u 38) (u 130) (u 131) (u 132) (u 141) (u 144) (u 150) (u 151) (xs 1) (xs 2) (xs 3)) k_X10_span v_X10_span m1158 rfl rfl ⟨(Nat.le_of_ble_eq_true rfl), (Nat.le_of_ble_eq_true rfl)⟩ (preP hC (hP.sub (ws' := [(x0, .inr (10, [.ref (u 0), .ref (u 2), .ref (u 15), .ref (u 38), .ref (u 130), .ref (u 131), .ref (u 132), .ref (u 141), .ref (u 144), .ref (u 150), .ref (u 151)])), ((u 15), .inr (3, [.ref (u 16), .ref (u 27), .int 0, .int 0, .int 2, .long 0, .int 0, .ref (u 36), .ref (u 37)]))]) [0, 16] rfl)) (va_recv hK hP (ci := 10) (q0 := 0) rfl rfl) rfl hl.1 rfl (Nat.le_of_ble_eq_true rfl) dL_law_1263 ⟨(Nat.le_of_ble_eq_true rfl), (Nat.le_of_ble_eq_true rfl)⟩) hS hP (fun r_1 H locs hw hP hS => ?_)
  have c_3 : r_1 = (-2) := hw
  refine lv_aload_n hx hb dL_law_1266 rfl (lv_at hl 1 rfl) ?_
  refine lv_aload_n hx hb dL_law_1267 rfl (lv_at hl 3 rfl) ?_
  refine lv_iload_n hx hb dL_law_1268 rfl (lv_at hl 0 rfl) ?_
  refine lv_iconst (v := 1) hx hb dL_law_1269 (by decide) ?_
  refine lv_iadd hx hb dL_law_1270 ?_
  refine eqi (v := 1) (by decide) ?_
  refine va_sld hx hb hX hbl hbA hS (by unfold vp_in; decide) dL_law_1271 ?_
  refine eqi (v := xs 1) rfl ?_
  refine lv_aload_n hx hb dL_law_1272 rfl (lv_at hl 3 rfl) ?_
  refine lv_iload_n hx hb dL_law_1273 rfl (lv_at hl 0 rfl) ?_
  refine lv_iconst (v := 2) hx hb dL_law_1274 (by decide) ?_
  refine lv_iadd hx hb dL_law_1275 ?_
  refine eqi (v := 2) (by decide) ?_
  refine va_sld hx hb hX hbl hbA hS (by unfold vp_in; decide) dL_law_1276 ?_
  refine eqi (v := xs 2) rfl ?_
  refine lv_aload_n hx hb dL_law_1277 rfl (lv_at hl 3 rfl) ?_
  refine lv_iload_n hx hb dL_law_1278 rfl (lv_at hl 0 rfl) ?_
  refine lv_iconst (v := 3) hx hb dL_law_1279 (by decide) ?_
  refine lv_iadd hx hb dL_law_1280 ?_
  refine eqi (v := 3) (by decide) ?_
  refine va_sld hx hb hX hbl hbA hS (by unfold vp_in; decide) dL_law_1281 ?_
  refine eqi (v := xs 3) rfl ?_
  refine mtId (wr := []) (cV (As := [.int (xs 1), .int (xs 2), .int (xs 3)]) (rest := [.int r_1]) ⟨hx, hb, hml, hown, hts⟩ (c_m_span l D T (v 1) (v 16) (v 17) (v 18) (v 19) (v 2) (v 20) (v 21) (v 22) (v 23) (v 24) (v 25) (v 26) (v 27) (v 28) (v 29) (v 3) (v 30) (v 31) (v 32) (v 36) (v 4) (v 40) (v 41) (v 42) (v 5) m0 (xs 1) (xs 2) (xs 3) _) k_X11_span v_X11_span m1894 rfl rfl ⟨(Nat.le_of_ble_eq_true rfl), (Nat.le_of_ble_eq_true rfl)⟩ (preM hC (hP.sub (ws' := [(m0, .inr (11, [.int 0, .ref (v 1), .ref (v 2), .ref (v 3), .ref (v 4), .ref (v 5), .int 0, .int 0, .int 0, .int 0, .int 0, .long 0, .int 0, .int 0, .int 0, .int (-1), .ref (v 16), .ref (v 17), .ref (v 18), .ref (v 19), .ref (v 20), .ref (v 21), .ref (v 22), .ref (v 23), .ref (v 24), .ref (v 25), .ref (v 26), .ref (v 27), .ref (v 28), .ref (v 29), .ref (v 30), .ref (v 31), .ref (v 32), .int 0, .int 0, .int 0, .ref (v 36), .int 0, .int 0, .int 0, .ref (v 40), .ref (v 41), .ref (v 42), .int 0, .long 0])), ((v 17), .inl (T 0, 15, .inl (fun _ => 0)))]) [154, 161] rfl) (hD.sub (ws' := [(m0, .inr (11, [.int 0, .ref (v 1), .ref (v 2), .ref (v 3), .ref (v 4), .ref (v 5), .int 0, .int 0, .int 0, .int 0, .int 0, .long 0, .int 0, .int 0, .int 0, .int (-1), .ref (v 16), .ref (v 17), .ref (v 18), .ref (v 19), .ref (v 20), .ref (v 21), .ref (v 22), .ref (v 23), .ref (v 24), .ref (v 25), .ref (v 26), .ref (v 27), .ref (v 28), .ref (v 29), .ref (v 30), .ref (v 31), .ref (v 32), .int 0, .int 0, .int 0, .ref (v 36), .int 0, .int 0, .int 0, .ref (v 40), .ref (v 41), .ref (v 42), .int 0, .long 0])), ((v 17), .inl (T 0, 15, .inl (fun _ => 0)))]) [154, 161] (by decide) rfl)) (va_recv hK hP (ci := 11) (q0 := 154) rfl rfl) rfl hl.1 rfl (Nat.le_of_ble_eq_true rfl) dL_law_1282 ⟨(Nat.le_of_ble_eq_true rfl), (Nat.le_of_ble_eq_true rfl)⟩) hS hA hP hD [154, 161] [] rfl rfl (by decide) (by decide) (fun r_4 u_5 H locs hw hP hD hS => ?_)
  have c_6 : r_4 = (-2) := hw
  refine lv_icmp_eq (tgt := 1862) hx hb dL_law_1285 (by decide) (fun _ => ?_) (fun h => absurd (c_3.trans c_6.symm) h)
  refine lv_iinc (v := 6) (lv' := [(3, .int 6), (2, .ref m0), (1, .ref x0), (0, .ref b)]) hx hb dL_law_1862 hl (k := 0) rfl (by decide) (by decide) rfl (fun ls hl => ?_)
  refine lv_goto (tgt := 18) hx hb dL_law_1865 (by decide) ?_
  refine lv_iload_n hx hb dL_law_18 rfl (lv_at hl 0 rfl) ?_
  refine lv_aload_n hx hb dL_law_19 rfl (lv_at hl 3 rfl) ?_
  refine va_slen hx hb hX hbl hbA hS dL_law_20 ?_
  refine eqi (v := 6) (by decide) ?_
  refine lv_bipush (v := 6) hx hb dL_law_21 (by decide) ?_
  refine lv_isub hx hb dL_law_23 ?_
  refine eqi (v := 0) (by decide) ?_
  refine lv_icmp_gt (tgt := 1868) hx hb dL_law_24 (by decide) (fun _ => ?_) (fun c_7 => absurd (by decide) c_7)
  refine lv_iconst (v := 1) hx hb dL_law_1868 (by decide) ?_
  refine va_forget (fun q hq => hS.2.2 q hq) ?_
  refine W.widen (k := 600000) (n := 7302250) (Nat.le_of_ble_eq_true rfl) (Nat.le_of_ble_eq_true rfl) ?_
  exact lw_ret hx hb hr hlocks dL_law_1869

set_option maxHeartbeats 4000000 in
set_option maxRecDepth 100000 in
theorem lawcase_36 {p : Program} {e : Env} {s : State} {m : MethodId} {below : List Frame} {meth : Method} {c : Code} (l : Launch) {b : Nat} {xs : Nat → Int32} (C0 : lw_At p s m meth c b 6 xs) {D : va_G} {T : Nat → ClassId} (hC : cx D T s) {H : Heap} {locs : List Loc} (x0 m0 : Nat) (u v : Nat → Nat) (hP : va_P D vwCl (lawW T x0 m0 u v) H) (hD : va_D (fun q : Nat => s.heap.size ≤ q) (lawW T x0 m0 u v)) (hS : va_S (fun q : Nat => s.heap.size ≤ q) s.heap H locs) {ls : Array Slot} (hl : lv_has ls 4 [(3, .int 0), (2, .ref m0), (1, .ref x0), (0, .ref b)]) : W p l e room_1 s m #[Value.ref b] below meth c H locs 181 83004 (lw_Z below #[Value.ref b] s) (F0 m 1290 ls []) := by
  obtain ⟨hx, hb, hr, hml, hown, hts0, hX, hbl, hlocks, hgv⟩ := id C0
  have hts : ∀ w ∈ gt, w.before #[Value.ref b] s = true := fun w hw => hts0 w (List.mem_filter.mp hw).1
  have hown : s.vm.findClass RL = some m.cls := hown
  have hb : c.code = cL_law := hb
  have hA : ∀ q : Nat, s.heap.size ≤ q → (fun q : Nat => s.heap.size ≤ q) q := fun _ h => h
  have hbA : ¬ (fun q : Nat => s.heap.size ≤ q) b := Nat.not_le.mpr hbl
  have hK := hC.1
  refine lv_aload_n hx hb dL_law_1290 rfl (lv_at hl 2 rfl) ?_
  refine lv_aload_n hx hb dL_law_1291 rfl (lv_at hl 3 rfl) ?_
  refine lv_iload_n hx hb dL_law_1292 rfl (lv_at hl 0 rfl) ?_
  refine lv_iconst (v := 1) hx hb dL_law_1293 (by decide) ?_
  refine lv_iadd hx hb dL_law_1294 ?_
  refine eqi (v := 1) (by decide) ?_
  refine va_sld hx hb hX hbl hbA hS (by unfold vp_in; decide) dL_law_1295 ?_
  refine eqi (v := xs 1) rfl ?_
  refine puI (cV (As := [.int (xs 1)]) (rest := []) ⟨hx, hb, hml, hown, hts⟩ (c_X10_oldest l D T x0 (u 0) (u 2) (u 15) (u 16) (u 17) (u 18) (u 19) (u 20) (u 21) (u 22) (u 23) (u 24) (u 25) (u 26) (u 27) (u 36) (u 37) (u 38) (u 130) (u 131) (u 132) (u 141) (u 144) (u 150) (u 151) (xs 1)) k_X10_oldest v_X10_oldest m1162 rfl rfl ⟨(Nat.le_of_ble_eq_true rfl), (Nat.le_of_ble_eq_true rfl)⟩ (preP hC (hP.sub (ws' := [(x0, .inr (10, [.ref (u 0), .ref (u 2), .ref (u 15), .ref (u 38), .ref (u 130), .ref (u 131), .ref (u 132), .ref (u 141), .ref (u 144), .ref (u 150), .ref (u 151)])), ((u 15), .inr (3, [.ref (u 16), .ref (u 27), .int 0, .int 0, .int 2, .long 0, .int 0, .ref (u 36), .ref (u 37)])), ((u 16), .inr (5, [.int 0, .int 0, .int 0, .int 0, .int 0, .int 0, .int 0, .int 0, .int 0, .ref (u 17), .ref (u 18), .ref (u 19), .ref (u 20), .ref (u 21), .ref (u 22), .ref (u 23), .ref (u 24), .ref (u 25), .ref (u 26)]))]) [0, 16, 17] rfl)) (va_recv hK hP (ci := 10) (q0 := 0) rfl rfl) rfl hl.1 rfl (Nat.le_of_ble_eq_true rfl) dL_law_1296 ⟨(Nat.le_of_ble_eq_true rfl), (Nat.le_of_ble_eq_true rfl)⟩) hS hP (fun r_1 H locs hw hP hS => ?_)
  have c_3 : r_1 = (-2) := hw
  refine lv_aload_n hx hb dL_law_1299 rfl (lv_at hl 1 rfl) ?_
  refine lv_aload_n hx hb dL_law_1300 rfl (lv_at hl 3 rfl) ?_
  refine lv_iload_n hx hb dL_law_1301 rfl (lv_at hl 0 rfl) ?_
  refine lv_iconst (v := 1) hx hb dL_law_1302 (by decide) ?_
  refine lv_iadd hx hb dL_law_1303 ?_
  refine eqi (v := 1) (by decide) ?_
  refine va_sld hx hb hX hbl hbA hS (by unfold vp_in; decide) dL_law_1304 ?_
  refine eqi (v := xs 1) rfl ?_
  refine mtId (wr := []) (cV (As := [.int (xs 1)]) (rest := [.int r_1]) ⟨hx, hb, hml, hown, hts⟩ (c_m_oldest l D T (v 1) (v 16) (v 17) (v 18) (v 19) (v 2) (v 20) (v 21) (v 22) (v 23) (v 24) (v 25) (v 26) (v 27) (v 28) (v 29) (v 3) (v 30) (v 31) (v 32) (v 36) (v 4) (v 40) (v 41) (v 42) (v 5) m0 (xs 1) _) k_X11_oldest v_X11_oldest m1898 rfl rfl ⟨(Nat.le_of_ble_eq_true rfl), (Nat.le_of_ble_eq_true rfl)⟩ (preM hC (hP.sub (ws' := [(m0, .inr (11, [.int 0, .ref (v 1), .ref (v 2), .ref (v 3), .ref (v 4), .ref (v 5), .int 0, .int 0, .int 0, .int 0, .int 0, .long 0, .int 0, .int 0, .int 0, .int (-1), .ref (v 16), .ref (v 17), .ref (v 18), .ref (v 19), .ref (v 20), .ref (v 21), .ref (v 22), .ref (v 23), .ref (v 24), .ref (v 25), .ref (v 26), .ref (v 27), .ref (v 28), .ref (v 29), .ref (v 30), .ref (v 31), .ref (v 32), .int 0, .int 0, .int 0, .ref (v 36), .int 0, .int 0, .int 0, .ref (v 40), .ref (v 41), .ref (v 42), .int 0, .long 0])), ((v 17), .inl (T 0, 15, .inl (fun _ => 0)))]) [154, 161] rfl) (hD.sub (ws' := [(m0, .inr (11, [.int 0, .ref (v 1), .ref (v 2), .ref (v 3), .ref (v 4), .ref (v 5), .int 0, .int 0, .int 0, .int 0, .int 0, .long 0, .int 0, .int 0, .int 0, .int (-1), .ref (v 16), .ref (v 17), .ref (v 18), .ref (v 19), .ref (v 20), .ref (v 21), .ref (v 22), .ref (v 23), .ref (v 24), .ref (v 25), .ref (v 26), .ref (v 27), .ref (v 28), .ref (v 29), .ref (v 30), .ref (v 31), .ref (v 32), .int 0, .int 0, .int 0, .ref (v 36), .int 0, .int 0, .int 0, .ref (v 40), .ref (v 41), .ref (v 42), .int 0, .long 0])), ((v 17), .inl (T 0, 15, .inl (fun _ => 0)))]) [154, 161] (by decide) rfl)) (va_recv hK hP (ci := 11) (q0 := 154) rfl rfl) rfl hl.1 rfl (Nat.le_of_ble_eq_true rfl) dL_law_1305 ⟨(Nat.le_of_ble_eq_true rfl), (Nat.le_of_ble_eq_true rfl)⟩) hS hA hP hD [154, 161] [] rfl rfl (by decide) (by decide) (fun r_4 u_5 H locs hw hP hD hS => ?_)
  have c_6 : r_4 = (-2) := hw
  refine lv_icmp_eq (tgt := 1862) hx hb dL_law_1308 (by decide) (fun _ => ?_) (fun h => absurd (c_3.trans c_6.symm) h)
  refine lv_iinc (v := 6) (lv' := [(3, .int 6), (2, .ref m0), (1, .ref x0), (0, .ref b)]) hx hb dL_law_1862 hl (k := 0) rfl (by decide) (by decide) rfl (fun ls hl => ?_)
  refine lv_goto (tgt := 18) hx hb dL_law_1865 (by decide) ?_
  refine lv_iload_n hx hb dL_law_18 rfl (lv_at hl 0 rfl) ?_
  refine lv_aload_n hx hb dL_law_19 rfl (lv_at hl 3 rfl) ?_
  refine va_slen hx hb hX hbl hbA hS dL_law_20 ?_
  refine eqi (v := 6) (by decide) ?_
  refine lv_bipush (v := 6) hx hb dL_law_21 (by decide) ?_
  refine lv_isub hx hb dL_law_23 ?_
  refine eqi (v := 0) (by decide) ?_
  refine lv_icmp_gt (tgt := 1868) hx hb dL_law_24 (by decide) (fun _ => ?_) (fun c_7 => absurd (by decide) c_7)
  refine lv_iconst (v := 1) hx hb dL_law_1868 (by decide) ?_
  refine va_forget (fun q hq => hS.2.2 q hq) ?_
  refine W.widen (k := 600000) (n := 7302250) (Nat.le_of_ble_eq_true rfl) (Nat.le_of_ble_eq_true rfl) ?_
  exact lw_ret hx hb hr hlocks dL_law_1869

set_option maxHeartbeats 4000000 in
set_option maxRecDepth 100000 in
theorem lawcase_37 {p : Program} {e : Env} {s : State} {m : MethodId} {below : List Frame} {meth : Method} {c : Code} (l : Launch) {b : Nat} {xs : Nat → Int32} (C0 : lw_At p s m meth c b 6 xs) {D : va_G} {T : Nat → ClassId} (hC : cx D T s) {H : Heap} {locs : List Loc} (x0 m0 : Nat) (u v : Nat → Nat) (hP : va_P D vwCl (lawW T x0 m0 u v) H) (hD : va_D (fun q : Nat => s.heap.size ≤ q) (lawW T x0 m0 u v)) (hS : va_S (fun q : Nat => s.heap.size ≤ q) s.heap H locs) {ls : Array Slot} (hl : lv_has ls 4 [(3, .int 0), (2, .ref m0), (1, .ref x0), (0, .ref b)]) : W p l e room_1 s m #[Value.ref b] below meth c H locs 181 83004 (lw_Z below #[Value.ref b] s) (F0 m 1313 ls []) := by
  obtain ⟨hx, hb, hr, hml, hown, hts0, hX, hbl, hlocks, hgv⟩ := id C0
  have hts : ∀ w ∈ gt, w.before #[Value.ref b] s = true := fun w hw => hts0 w (List.mem_filter.mp hw).1
  have hown : s.vm.findClass RL = some m.cls := hown
  have hb : c.code = cL_law := hb
  have hA : ∀ q : Nat, s.heap.size ≤ q → (fun q : Nat => s.heap.size ≤ q) q := fun _ h => h
  have hbA : ¬ (fun q : Nat => s.heap.size ≤ q) b := Nat.not_le.mpr hbl
  have hK := hC.1
  refine lv_aload_n hx hb dL_law_1313 rfl (lv_at hl 2 rfl) ?_
  refine lv_aload_n hx hb dL_law_1314 rfl (lv_at hl 3 rfl) ?_
  refine lv_iload_n hx hb dL_law_1315 rfl (lv_at hl 0 rfl) ?_
  refine lv_iconst (v := 1) hx hb dL_law_1316 (by decide) ?_
  refine lv_iadd hx hb dL_law_1317 ?_
  refine eqi (v := 1) (by decide) ?_
  refine va_sld hx hb hX hbl hbA hS (by unfold vp_in; decide) dL_law_1318 ?_
  refine eqi (v := xs 1) rfl ?_
  refine lv_aload_n hx hb dL_law_1319 rfl (lv_at hl 3 rfl) ?_
  refine lv_iload_n hx hb dL_law_1320 rfl (lv_at hl 0 rfl) ?_
  refine lv_iconst (v := 2) hx hb dL_law_1321 (by decide) ?_
  refine lv_iadd hx hb dL_law_1322 ?_
  refine eqi (v := 2) (by decide) ?_
  refine va_sld hx hb hX hbl hbA hS (by unfold vp_in; decide) dL_law_1323 ?_
  refine eqi (v := xs 2) rfl ?_
  refine puI (cV (As := [.int (xs 1), .int (xs 2)]) (rest := []) ⟨hx, hb, hml, hown, hts⟩ (c_X10_course l D T x0 (u 0) (u 2) (u 15) (u 16) (u 17) (u 18) (u 19) (u 20) (u 21) (u 22) (u 23) (u 24) (u 25) (u 26) (u 27) (u 36) (u 37) (u 38) (u 130) (u 131) (u 132) (u 141) (u 144) (u 150) (u 151) (xs 1) (xs 2)) k_X10_course v_X10_course m1170 rfl rfl ⟨(Nat.le_of_ble_eq_true rfl), (Nat.le_of_ble_eq_true rfl)⟩ (preP hC (hP.sub (ws' := [(x0, .inr (10, [.ref (u 0), .ref (u 2), .ref (u 15), .ref (u 38), .ref (u 130), .ref (u 131), .ref (u 132), .ref (u 141), .ref (u 144), .ref (u 150), .ref (u 151)])), ((u 15), .inr (3, [.ref (u 16), .ref (u 27), .int 0, .int 0, .int 2, .long 0, .int 0, .ref (u 36), .ref (u 37)])), ((u 16), .inr (5, [.int 0, .int 0, .int 0, .int 0, .int 0, .int 0, .int 0, .int 0, .int 0, .ref (u 17), .ref (u 18), .ref (u 19), .ref (u 20), .ref (u 21), .ref (u 22), .ref (u 23), .ref (u 24), .ref (u 25), .ref (u 26)]))]) [0, 16, 17] rfl)) (va_recv hK hP (ci := 10) (q0 := 0) rfl rfl) rfl hl.1 rfl (Nat.le_of_ble_eq_true rfl) dL_law_1324 ⟨(Nat.le_of_ble_eq_true rfl), (Nat.le_of_ble_eq_true rfl)⟩) hS hP (fun r_1 H locs hw hP hS => ?_)
  have c_3 : r_1 = (-2) := hw
  refine lv_aload_n hx hb dL_law_1327 rfl (lv_at hl 1 rfl) ?_
  refine lv_aload_n hx hb dL_law_1328 rfl (lv_at hl 3 rfl) ?_
  refine lv_iload_n hx hb dL_law_1329 rfl (lv_at hl 0 rfl) ?_
  refine lv_iconst (v := 1) hx hb dL_law_1330 (by decide) ?_
  refine lv_iadd hx hb dL_law_1331 ?_
  refine eqi (v := 1) (by decide) ?_
  refine va_sld hx hb hX hbl hbA hS (by unfold vp_in; decide) dL_law_1332 ?_
  refine eqi (v := xs 1) rfl ?_
  refine lv_aload_n hx hb dL_law_1333 rfl (lv_at hl 3 rfl) ?_
  refine lv_iload_n hx hb dL_law_1334 rfl (lv_at hl 0 rfl) ?_
  refine lv_iconst (v := 2) hx hb dL_law_1335 (by decide) ?_
  refine lv_iadd hx hb dL_law_1336 ?_
  refine eqi (v := 2) (by decide) ?_
  refine va_sld hx hb hX hbl hbA hS (by unfold vp_in; decide) dL_law_1337 ?_
  refine eqi (v := xs 2) rfl ?_
  refine mtId (wr := []) (cV (As := [.int (xs 1), .int (xs 2)]) (rest := [.int r_1]) ⟨hx, hb, hml, hown, hts⟩ (c_m_course l D T (v 1) (v 16) (v 17) (v 18) (v 19) (v 2) (v 20) (v 21) (v 22) (v 23) (v 24) (v 25) (v 26) (v 27) (v 28) (v 29) (v 3) (v 30) (v 31) (v 32) (v 36) (v 4) (v 40) (v 41) (v 42) (v 5) m0 (xs 1) (xs 2) _) k_X11_course v_X11_course m1902 rfl rfl ⟨(Nat.le_of_ble_eq_true rfl), (Nat.le_of_ble_eq_true rfl)⟩ (preM hC (hP.sub (ws' := [(m0, .inr (11, [.int 0, .ref (v 1), .ref (v 2), .ref (v 3), .ref (v 4), .ref (v 5), .int 0, .int 0, .int 0, .int 0, .int 0, .long 0, .int 0, .int 0, .int 0, .int (-1), .ref (v 16), .ref (v 17), .ref (v 18), .ref (v 19), .ref (v 20), .ref (v 21), .ref (v 22), .ref (v 23), .ref (v 24), .ref (v 25), .ref (v 26), .ref (v 27), .ref (v 28), .ref (v 29), .ref (v 30), .ref (v 31), .ref (v 32), .int 0, .int 0, .int 0, .ref (v 36), .int 0, .int 0, .int 0, .ref (v 40), .ref (v 41), .ref (v 42), .int 0, .long 0])), ((v 17), .inl (T 0, 15, .inl (fun _ => 0)))]) [154, 161] rfl) (hD.sub (ws' := [(m0, .inr (11, [.int 0, .ref (v 1), .ref (v 2), .ref (v 3), .ref (v 4), .ref (v 5), .int 0, .int 0, .int 0, .int 0, .int 0, .long 0, .int 0, .int 0, .int 0, .int (-1), .ref (v 16), .ref (v 17), .ref (v 18), .ref (v 19), .ref (v 20), .ref (v 21), .ref (v 22), .ref (v 23), .ref (v 24), .ref (v 25), .ref (v 26), .ref (v 27), .ref (v 28), .ref (v 29), .ref (v 30), .ref (v 31), .ref (v 32), .int 0, .int 0, .int 0, .ref (v 36), .int 0, .int 0, .int 0, .ref (v 40), .ref (v 41), .ref (v 42), .int 0, .long 0])), ((v 17), .inl (T 0, 15, .inl (fun _ => 0)))]) [154, 161] (by decide) rfl)) (va_recv hK hP (ci := 11) (q0 := 154) rfl rfl) rfl hl.1 rfl (Nat.le_of_ble_eq_true rfl) dL_law_1338 ⟨(Nat.le_of_ble_eq_true rfl), (Nat.le_of_ble_eq_true rfl)⟩) hS hA hP hD [154, 161] [] rfl rfl (by decide) (by decide) (fun r_4 u_5 H locs hw hP hD hS => ?_)
  have c_6 : r_4 = (-2) := hw
  refine lv_icmp_eq (tgt := 1862) hx hb dL_law_1341 (by decide) (fun _ => ?_) (fun h => absurd (c_3.trans c_6.symm) h)
  refine lv_iinc (v := 6) (lv' := [(3, .int 6), (2, .ref m0), (1, .ref x0), (0, .ref b)]) hx hb dL_law_1862 hl (k := 0) rfl (by decide) (by decide) rfl (fun ls hl => ?_)
  refine lv_goto (tgt := 18) hx hb dL_law_1865 (by decide) ?_
  refine lv_iload_n hx hb dL_law_18 rfl (lv_at hl 0 rfl) ?_
  refine lv_aload_n hx hb dL_law_19 rfl (lv_at hl 3 rfl) ?_
  refine va_slen hx hb hX hbl hbA hS dL_law_20 ?_
  refine eqi (v := 6) (by decide) ?_
  refine lv_bipush (v := 6) hx hb dL_law_21 (by decide) ?_
  refine lv_isub hx hb dL_law_23 ?_
  refine eqi (v := 0) (by decide) ?_
  refine lv_icmp_gt (tgt := 1868) hx hb dL_law_24 (by decide) (fun _ => ?_) (fun c_7 => absurd (by decide) c_7)
  refine lv_iconst (v := 1) hx hb dL_law_1868 (by decide) ?_
  refine va_forget (fun q hq => hS.2.2 q hq) ?_
  refine W.widen (k := 600000) (n := 7302250) (Nat.le_of_ble_eq_true rfl) (Nat.le_of_ble_eq_true rfl) ?_
  exact lw_ret hx hb hr hlocks dL_law_1869

set_option maxHeartbeats 4000000 in
set_option maxRecDepth 100000 in
theorem lawcase_38 {p : Program} {e : Env} {s : State} {m : MethodId} {below : List Frame} {meth : Method} {c : Code} (l : Launch) {b : Nat} {xs : Nat → Int32} (C0 : lw_At p s m meth c b 6 xs) {D : va_G} {T : Nat → ClassId} (hC : cx D T s) {H : Heap} {locs : List Loc} (x0 m0 : Nat) (u v : Nat → Nat) (hP : va_P D vwCl (lawW T x0 m0 u v) H) (hD : va_D (fun q : Nat => s.heap.size ≤ q) (lawW T x0 m0 u v)) (hS : va_S (fun q : Nat => s.heap.size ≤ q) s.heap H locs) {ls : Array Slot} (hl : lv_has ls 4 [(3, .int 0), (2, .ref m0), (1, .ref x0), (0, .ref b)]) : W p l e room_1 s m #[Value.ref b] below meth c H locs 181 83004 (lw_Z below #[Value.ref b] s) (F0 m 1346 ls []) := by
  obtain ⟨hx, hb, hr, hml, hown, hts0, hX, hbl, hlocks, hgv⟩ := id C0
  have hts : ∀ w ∈ gt, w.before #[Value.ref b] s = true := fun w hw => hts0 w (List.mem_filter.mp hw).1
  have hown : s.vm.findClass RL = some m.cls := hown
  have hb : c.code = cL_law := hb
  have hA : ∀ q : Nat, s.heap.size ≤ q → (fun q : Nat => s.heap.size ≤ q) q := fun _ h => h
  have hbA : ¬ (fun q : Nat => s.heap.size ≤ q) b := Nat.not_le.mpr hbl
  have hK := hC.1
  refine lv_aload_n hx hb dL_law_1346 rfl (lv_at hl 2 rfl) ?_
  refine lv_aload_n hx hb dL_law_1347 rfl (lv_at hl 3 rfl) ?_
  refine lv_iload_n hx hb dL_law_1348 rfl (lv_at hl 0 rfl) ?_
  refine lv_iconst (v := 1) hx hb dL_law_1349 (by decide) ?_
  refine lv_iadd hx hb dL_law_1350 ?_
  refine eqi (v := 1) (by decide) ?_
  refine va_sld hx hb hX hbl hbA hS (by unfold vp_in; decide) dL_law_1351 ?_
  refine eqi (v := xs 1) rfl ?_
  refine lv_aload_n hx hb dL_law_1352 rfl (lv_at hl 3 rfl) ?_
  refine lv_iload_n hx hb dL_law_1353 rfl (lv_at hl 0 rfl) ?_
  refine lv_iconst (v := 2) hx hb dL_law_1354 (by decide) ?_
  refine lv_iadd hx hb dL_law_1355 ?_
  refine eqi (v := 2) (by decide) ?_
  refine va_sld hx hb hX hbl hbA hS (by unfold vp_in; decide) dL_law_1356 ?_
  refine eqi (v := xs 2) rfl ?_
  refine lv_aload_n hx hb dL_law_1357 rfl (lv_at hl 3 rfl) ?_
  refine lv_iload_n hx hb dL_law_1358 rfl (lv_at hl 0 rfl) ?_
  refine lv_iconst (v := 3) hx hb dL_law_1359 (by decide) ?_
  refine lv_iadd hx hb dL_law_1360 ?_
  refine eqi (v := 3) (by decide) ?_
  refine va_sld hx hb hX hbl hbA hS (by unfold vp_in; decide) dL_law_1361 ?_
  refine eqi (v := xs 3) rfl ?_
  refine puI (cV (As := [.int (xs 1), .int (xs 2), .int (xs 3)]) (rest := []) ⟨hx, hb, hml, hown, hts⟩ (c_X10_rise l D T x0 (u 0) (u 2) (u 15) (u 16) (u 17) (u 18) (u 19) (u 20) (u 21) (u 22) (u 23) (u 24) (u 25) (u 26) (u 27) (u 36) (u 37) (u 38) (u 130) (u 131) (u 132) (u 141) (u 144) (u 150) (u 151) (xs 1) (xs 2) (xs 3)) k_X10_rise v_X10_rise m1174 rfl rfl ⟨(Nat.le_of_ble_eq_true rfl), (Nat.le_of_ble_eq_true rfl)⟩ (preP hC (hP.sub (ws' := [(x0, .inr (10, [.ref (u 0), .ref (u 2), .ref (u 15), .ref (u 38), .ref (u 130), .ref (u 131), .ref (u 132), .ref (u 141), .ref (u 144), .ref (u 150), .ref (u 151)])), ((u 15), .inr (3, [.ref (u 16), .ref (u 27), .int 0, .int 0, .int 2, .long 0, .int 0, .ref (u 36), .ref (u 37)])), ((u 16), .inr (5, [.int 0, .int 0, .int 0, .int 0, .int 0, .int 0, .int 0, .int 0, .int 0, .ref (u 17), .ref (u 18), .ref (u 19), .ref (u 20), .ref (u 21), .ref (u 22), .ref (u 23), .ref (u 24), .ref (u 25), .ref (u 26)]))]) [0, 16, 17] rfl)) (va_recv hK hP (ci := 10) (q0 := 0) rfl rfl) rfl hl.1 rfl (Nat.le_of_ble_eq_true rfl) dL_law_1362 ⟨(Nat.le_of_ble_eq_true rfl), (Nat.le_of_ble_eq_true rfl)⟩) hS hP (fun r_1 H locs hw hP hS => ?_)
  have c_3 : r_1 = (-2) := hw
  refine lv_aload_n hx hb dL_law_1365 rfl (lv_at hl 1 rfl) ?_
  refine lv_aload_n hx hb dL_law_1366 rfl (lv_at hl 3 rfl) ?_
  refine lv_iload_n hx hb dL_law_1367 rfl (lv_at hl 0 rfl) ?_
  refine lv_iconst (v := 1) hx hb dL_law_1368 (by decide) ?_
  refine lv_iadd hx hb dL_law_1369 ?_
  refine eqi (v := 1) (by decide) ?_
  refine va_sld hx hb hX hbl hbA hS (by unfold vp_in; decide) dL_law_1370 ?_
  refine eqi (v := xs 1) rfl ?_
  refine lv_aload_n hx hb dL_law_1371 rfl (lv_at hl 3 rfl) ?_
  refine lv_iload_n hx hb dL_law_1372 rfl (lv_at hl 0 rfl) ?_
  refine lv_iconst (v := 2) hx hb dL_law_1373 (by decide) ?_
  refine lv_iadd hx hb dL_law_1374 ?_
  refine eqi (v := 2) (by decide) ?_
  refine va_sld hx hb hX hbl hbA hS (by unfold vp_in; decide) dL_law_1375 ?_
  refine eqi (v := xs 2) rfl ?_
  refine lv_aload_n hx hb dL_law_1376 rfl (lv_at hl 3 rfl) ?_
  refine lv_iload_n hx hb dL_law_1377 rfl (lv_at hl 0 rfl) ?_
  refine lv_iconst (v := 3) hx hb dL_law_1378 (by decide) ?_
  refine lv_iadd hx hb dL_law_1379 ?_
  refine eqi (v := 3) (by decide) ?_
  refine va_sld hx hb hX hbl hbA hS (by unfold vp_in; decide) dL_law_1380 ?_
  refine eqi (v := xs 3) rfl ?_
  refine mtId (wr := []) (cV (As := [.int (xs 1), .int (xs 2), .int (xs 3)]) (rest := [.int r_1]) ⟨hx, hb, hml, hown, hts⟩ (c_m_rise l D T (v 1) (v 16) (v 17) (v 18) (v 19) (v 2) (v 20) (v 21) (v 22) (v 23) (v 24) (v 25) (v 26) (v 27) (v 28) (v 29) (v 3) (v 30) (v 31) (v 32) (v 36) (v 4) (v 40) (v 41) (v 42) (v 5) m0 (xs 1) (xs 2) (xs 3) _) k_X11_rise v_X11_rise m1907 rfl rfl ⟨(Nat.le_of_ble_eq_true rfl), (Nat.le_of_ble_eq_true rfl)⟩ (preM hC (hP.sub (ws' := [(m0, .inr (11, [.int 0, .ref (v 1), .ref (v 2), .ref (v 3), .ref (v 4), .ref (v 5), .int 0, .int 0, .int 0, .int 0, .int 0, .long 0, .int 0, .int 0, .int 0, .int (-1), .ref (v 16), .ref (v 17), .ref (v 18), .ref (v 19), .ref (v 20), .ref (v 21), .ref (v 22), .ref (v 23), .ref (v 24), .ref (v 25), .ref (v 26), .ref (v 27), .ref (v 28), .ref (v 29), .ref (v 30), .ref (v 31), .ref (v 32), .int 0, .int 0, .int 0, .ref (v 36), .int 0, .int 0, .int 0, .ref (v 40), .ref (v 41), .ref (v 42), .int 0, .long 0])), ((v 17), .inl (T 0, 15, .inl (fun _ => 0)))]) [154, 161] rfl) (hD.sub (ws' := [(m0, .inr (11, [.int 0, .ref (v 1), .ref (v 2), .ref (v 3), .ref (v 4), .ref (v 5), .int 0, .int 0, .int 0, .int 0, .int 0, .long 0, .int 0, .int 0, .int 0, .int (-1), .ref (v 16), .ref (v 17), .ref (v 18), .ref (v 19), .ref (v 20), .ref (v 21), .ref (v 22), .ref (v 23), .ref (v 24), .ref (v 25), .ref (v 26), .ref (v 27), .ref (v 28), .ref (v 29), .ref (v 30), .ref (v 31), .ref (v 32), .int 0, .int 0, .int 0, .ref (v 36), .int 0, .int 0, .int 0, .ref (v 40), .ref (v 41), .ref (v 42), .int 0, .long 0])), ((v 17), .inl (T 0, 15, .inl (fun _ => 0)))]) [154, 161] (by decide) rfl)) (va_recv hK hP (ci := 11) (q0 := 154) rfl rfl) rfl hl.1 rfl (Nat.le_of_ble_eq_true rfl) dL_law_1381 ⟨(Nat.le_of_ble_eq_true rfl), (Nat.le_of_ble_eq_true rfl)⟩) hS hA hP hD [154, 161] [] rfl rfl (by decide) (by decide) (fun r_4 u_5 H locs hw hP hD hS => ?_)
  have c_6 : r_4 = (-2) := hw
  refine lv_icmp_eq (tgt := 1862) hx hb dL_law_1384 (by decide) (fun _ => ?_) (fun h => absurd (c_3.trans c_6.symm) h)
  refine lv_iinc (v := 6) (lv' := [(3, .int 6), (2, .ref m0), (1, .ref x0), (0, .ref b)]) hx hb dL_law_1862 hl (k := 0) rfl (by decide) (by decide) rfl (fun ls hl => ?_)
  refine lv_goto (tgt := 18) hx hb dL_law_1865 (by decide) ?_
  refine lv_iload_n hx hb dL_law_18 rfl (lv_at hl 0 rfl) ?_
  refine lv_aload_n hx hb dL_law_19 rfl (lv_at hl 3 rfl) ?_
  refine va_slen hx hb hX hbl hbA hS dL_law_20 ?_
  refine eqi (v := 6) (by decide) ?_
  refine lv_bipush (v := 6) hx hb dL_law_21 (by decide) ?_
  refine lv_isub hx hb dL_law_23 ?_
  refine eqi (v := 0) (by decide) ?_
  refine lv_icmp_gt (tgt := 1868) hx hb dL_law_24 (by decide) (fun _ => ?_) (fun c_7 => absurd (by decide) c_7)
  refine lv_iconst (v := 1) hx hb dL_law_1868 (by decide) ?_
  refine va_forget (fun q hq => hS.2.2 q hq) ?_
  refine W.widen (k := 600000) (n := 7302250) (Nat.le_of_ble_eq_true rfl) (Nat.le_of_ble_eq_true rfl) ?_
  exact lw_ret hx hb hr hlocks dL_law_1869

set_option maxHeartbeats 4000000 in
set_option maxRecDepth 100000 in
theorem lawcase_39 {p : Program} {e : Env} {s : State} {m : MethodId} {below : List Frame} {meth : Method} {c : Code} (l : Launch) {b : Nat} {xs : Nat → Int32} (C0 : lw_At p s m meth c b 6 xs) {D : va_G} {T : Nat → ClassId} (hC : cx D T s) {H : Heap} {locs : List Loc} (x0 m0 : Nat) (u v : Nat → Nat) (hP : va_P D vwCl (lawW T x0 m0 u v) H) (hD : va_D (fun q : Nat => s.heap.size ≤ q) (lawW T x0 m0 u v)) (hS : va_S (fun q : Nat => s.heap.size ≤ q) s.heap H locs) {ls : Array Slot} (hl : lv_has ls 4 [(3, .int 0), (2, .ref m0), (1, .ref x0), (0, .ref b)]) : W p l e room_1 s m #[Value.ref b] below meth c H locs 181 83004 (lw_Z below #[Value.ref b] s) (F0 m 1389 ls []) := by
  obtain ⟨hx, hb, hr, hml, hown, hts0, hX, hbl, hlocks, hgv⟩ := id C0
  have hts : ∀ w ∈ gt, w.before #[Value.ref b] s = true := fun w hw => hts0 w (List.mem_filter.mp hw).1
  have hown : s.vm.findClass RL = some m.cls := hown
  have hb : c.code = cL_law := hb
  have hA : ∀ q : Nat, s.heap.size ≤ q → (fun q : Nat => s.heap.size ≤ q) q := fun _ h => h
  have hbA : ¬ (fun q : Nat => s.heap.size ≤ q) b := Nat.not_le.mpr hbl
  have hK := hC.1
  refine lv_aload_n hx hb dL_law_1389 rfl (lv_at hl 2 rfl) ?_
  refine lv_aload_n hx hb dL_law_1390 rfl (lv_at hl 3 rfl) ?_
  refine lv_iload_n hx hb dL_law_1391 rfl (lv_at hl 0 rfl) ?_
  refine lv_iconst (v := 1) hx hb dL_law_1392 (by decide) ?_
  refine lv_iadd hx hb dL_law_1393 ?_
  refine eqi (v := 1) (by decide) ?_
  refine va_sld hx hb hX hbl hbA hS (by unfold vp_in; decide) dL_law_1394 ?_
  refine eqi (v := xs 1) rfl ?_
  refine puL (cV (As := [.int (xs 1)]) (rest := []) ⟨hx, hb, hml, hown, hts⟩ (c_X10_mean l D T x0 (u 0) (u 2) (u 15) (u 16) (u 17) (u 18) (u 19) (u 20) (u 21) (u 22) (u 23) (u 24) (u 25) (u 26) (u 27) (u 36) (u 37) (u 38) (u 130) (u 131) (u 132) (u 141) (u 144) (u 150) (u 151) (xs 1)) k_X10_mean v_X10_mean m1182 rfl rfl ⟨(Nat.le_of_ble_eq_true rfl), (Nat.le_of_ble_eq_true rfl)⟩ (preP hC (hP.sub (ws' := [(x0, .inr (10, [.ref (u 0), .ref (u 2), .ref (u 15), .ref (u 38), .ref (u 130), .ref (u 131), .ref (u 132), .ref (u 141), .ref (u 144), .ref (u 150), .ref (u 151)])), ((u 15), .inr (3, [.ref (u 16), .ref (u 27), .int 0, .int 0, .int 2, .long 0, .int 0, .ref (u 36), .ref (u 37)])), ((u 16), .inr (5, [.int 0, .int 0, .int 0, .int 0, .int 0, .int 0, .int 0, .int 0, .int 0, .ref (u 17), .ref (u 18), .ref (u 19), .ref (u 20), .ref (u 21), .ref (u 22), .ref (u 23), .ref (u 24), .ref (u 25), .ref (u 26)]))]) [0, 16, 17] rfl)) (va_recv hK hP (ci := 10) (q0 := 0) rfl rfl) rfl hl.1 rfl (Nat.le_of_ble_eq_true rfl) dL_law_1395 ⟨(Nat.le_of_ble_eq_true rfl), (Nat.le_of_ble_eq_true rfl)⟩) hS hP (fun r_1 H locs hw hP hS => ?_)
  have c_3 : r_1 = (-2) := hw
  refine lv_aload_n hx hb dL_law_1398 rfl (lv_at hl 1 rfl) ?_
  refine lv_aload_n hx hb dL_law_1399 rfl (lv_at hl 3 rfl) ?_
  refine lv_iload_n hx hb dL_law_1400 rfl (lv_at hl 0 rfl) ?_
  refine lv_iconst (v := 1) hx hb dL_law_1401 (by decide) ?_
  refine lv_iadd hx hb dL_law_1402 ?_
  refine eqi (v := 1) (by decide) ?_
  refine va_sld hx hb hX hbl hbA hS (by unfold vp_in; decide) dL_law_1403 ?_
  refine eqi (v := xs 1) rfl ?_
  refine mtLd (wr := []) (cV (As := [.int (xs 1)]) (rest := [.long r_1]) ⟨hx, hb, hml, hown, hts⟩ (c_m_mean l D T (v 1) (v 16) (v 17) (v 18) (v 19) (v 2) (v 20) (v 21) (v 22) (v 23) (v 24) (v 25) (v 26) (v 27) (v 28) (v 29) (v 3) (v 30) (v 31) (v 32) (v 36) (v 4) (v 40) (v 41) (v 42) (v 5) m0 (xs 1) _) k_X11_mean v_X11_mean m1915 rfl rfl ⟨(Nat.le_of_ble_eq_true rfl), (Nat.le_of_ble_eq_true rfl)⟩ (preM hC (hP.sub (ws' := [(m0, .inr (11, [.int 0, .ref (v 1), .ref (v 2), .ref (v 3), .ref (v 4), .ref (v 5), .int 0, .int 0, .int 0, .int 0, .int 0, .long 0, .int 0, .int 0, .int 0, .int (-1), .ref (v 16), .ref (v 17), .ref (v 18), .ref (v 19), .ref (v 20), .ref (v 21), .ref (v 22), .ref (v 23), .ref (v 24), .ref (v 25), .ref (v 26), .ref (v 27), .ref (v 28), .ref (v 29), .ref (v 30), .ref (v 31), .ref (v 32), .int 0, .int 0, .int 0, .ref (v 36), .int 0, .int 0, .int 0, .ref (v 40), .ref (v 41), .ref (v 42), .int 0, .long 0])), ((v 17), .inl (T 0, 15, .inl (fun _ => 0)))]) [154, 161] rfl) (hD.sub (ws' := [(m0, .inr (11, [.int 0, .ref (v 1), .ref (v 2), .ref (v 3), .ref (v 4), .ref (v 5), .int 0, .int 0, .int 0, .int 0, .int 0, .long 0, .int 0, .int 0, .int 0, .int (-1), .ref (v 16), .ref (v 17), .ref (v 18), .ref (v 19), .ref (v 20), .ref (v 21), .ref (v 22), .ref (v 23), .ref (v 24), .ref (v 25), .ref (v 26), .ref (v 27), .ref (v 28), .ref (v 29), .ref (v 30), .ref (v 31), .ref (v 32), .int 0, .int 0, .int 0, .ref (v 36), .int 0, .int 0, .int 0, .ref (v 40), .ref (v 41), .ref (v 42), .int 0, .long 0])), ((v 17), .inl (T 0, 15, .inl (fun _ => 0)))]) [154, 161] (by decide) rfl)) (va_recv hK hP (ci := 11) (q0 := 154) rfl rfl) rfl hl.1 rfl (Nat.le_of_ble_eq_true rfl) dL_law_1404 ⟨(Nat.le_of_ble_eq_true rfl), (Nat.le_of_ble_eq_true rfl)⟩) hS hA hP hD [154, 161] [] rfl rfl (by decide) (by decide) (fun r_4 u_5 H locs hw hP hD hS => ?_)
  have c_6 : r_4 = (-2) := hw
  refine W.lcmp hx hb dL_law_1407 ?_
  refine eqi (v := 0) ((lc_eq _ _).mpr (c_3.trans c_6.symm)) ?_
  refine lv_if_eq (tgt := 1862) hx hb dL_law_1408 (by decide) (fun _ => ?_) (fun c_7 => absurd (by decide) c_7)
  refine lv_iinc (v := 6) (lv' := [(3, .int 6), (2, .ref m0), (1, .ref x0), (0, .ref b)]) hx hb dL_law_1862 hl (k := 0) rfl (by decide) (by decide) rfl (fun ls hl => ?_)
  refine lv_goto (tgt := 18) hx hb dL_law_1865 (by decide) ?_
  refine lv_iload_n hx hb dL_law_18 rfl (lv_at hl 0 rfl) ?_
  refine lv_aload_n hx hb dL_law_19 rfl (lv_at hl 3 rfl) ?_
  refine va_slen hx hb hX hbl hbA hS dL_law_20 ?_
  refine eqi (v := 6) (by decide) ?_
  refine lv_bipush (v := 6) hx hb dL_law_21 (by decide) ?_
  refine lv_isub hx hb dL_law_23 ?_
  refine eqi (v := 0) (by decide) ?_
  refine lv_icmp_gt (tgt := 1868) hx hb dL_law_24 (by decide) (fun _ => ?_) (fun c_8 => absurd (by decide) c_8)
  refine lv_iconst (v := 1) hx hb dL_law_1868 (by decide) ?_
  refine va_forget (fun q hq => hS.2.2 q hq) ?_
  refine W.widen (k := 600000) (n := 7302250) (Nat.le_of_ble_eq_true rfl) (Nat.le_of_ble_eq_true rfl) ?_
  exact lw_ret hx hb hr hlocks dL_law_1869

set_option maxHeartbeats 4000000 in
set_option maxRecDepth 100000 in
theorem lawcase_40 {p : Program} {e : Env} {s : State} {m : MethodId} {below : List Frame} {meth : Method} {c : Code} (l : Launch) {b : Nat} {xs : Nat → Int32} (C0 : lw_At p s m meth c b 6 xs) {D : va_G} {T : Nat → ClassId} (hC : cx D T s) {H : Heap} {locs : List Loc} (x0 m0 : Nat) (u v : Nat → Nat) (hP : va_P D vwCl (lawW T x0 m0 u v) H) (hD : va_D (fun q : Nat => s.heap.size ≤ q) (lawW T x0 m0 u v)) (hS : va_S (fun q : Nat => s.heap.size ≤ q) s.heap H locs) {ls : Array Slot} (hl : lv_has ls 4 [(3, .int 0), (2, .ref m0), (1, .ref x0), (0, .ref b)]) : W p l e room_1 s m #[Value.ref b] below meth c H locs 181 83004 (lw_Z below #[Value.ref b] s) (F0 m 1413 ls []) := by
  obtain ⟨hx, hb, hr, hml, hown, hts0, hX, hbl, hlocks, hgv⟩ := id C0
  have hts : ∀ w ∈ gt, w.before #[Value.ref b] s = true := fun w hw => hts0 w (List.mem_filter.mp hw).1
  have hown : s.vm.findClass RL = some m.cls := hown
  have hb : c.code = cL_law := hb
  have hA : ∀ q : Nat, s.heap.size ≤ q → (fun q : Nat => s.heap.size ≤ q) q := fun _ h => h
  have hbA : ¬ (fun q : Nat => s.heap.size ≤ q) b := Nat.not_le.mpr hbl
  have hK := hC.1
  refine lv_aload_n hx hb dL_law_1413 rfl (lv_at hl 2 rfl) ?_
  refine lv_aload_n hx hb dL_law_1414 rfl (lv_at hl 3 rfl) ?_
  refine lv_iload_n hx hb dL_law_1415 rfl (lv_at hl 0 rfl) ?_
  refine lv_iconst (v := 1) hx hb dL_law_1416 (by decide) ?_
  refine lv_iadd hx hb dL_law_1417 ?_
  refine eqi (v := 1) (by decide) ?_
  refine va_sld hx hb hX hbl hbA hS (by unfold vp_in; decide) dL_law_1418 ?_
  refine eqi (v := xs 1) rfl ?_
  refine puI (cV (As := [.int (xs 1)]) (rest := []) ⟨hx, hb, hml, hown, hts⟩ (c_X10_storm l D T x0 (u 0) (u 2) (u 15) (u 16) (u 17) (u 18) (u 19) (u 20) (u 21) (u 22) (u 23) (u 24) (u 25) (u 26) (u 27) (u 36) (u 37) (u 38) (u 130) (u 131) (u 132) (u 141) (u 144) (u 150) (u 151) (xs 1)) k_X10_storm v_X10_storm m1187 rfl rfl ⟨(Nat.le_of_ble_eq_true rfl), (Nat.le_of_ble_eq_true rfl)⟩ (preP hC (hP.sub (ws' := [(x0, .inr (10, [.ref (u 0), .ref (u 2), .ref (u 15), .ref (u 38), .ref (u 130), .ref (u 131), .ref (u 132), .ref (u 141), .ref (u 144), .ref (u 150), .ref (u 151)])), ((u 15), .inr (3, [.ref (u 16), .ref (u 27), .int 0, .int 0, .int 2, .long 0, .int 0, .ref (u 36), .ref (u 37)])), ((u 16), .inr (5, [.int 0, .int 0, .int 0, .int 0, .int 0, .int 0, .int 0, .int 0, .int 0, .ref (u 17), .ref (u 18), .ref (u 19), .ref (u 20), .ref (u 21), .ref (u 22), .ref (u 23), .ref (u 24), .ref (u 25), .ref (u 26)]))]) [0, 16, 17] rfl)) (va_recv hK hP (ci := 10) (q0 := 0) rfl rfl) rfl hl.1 rfl (Nat.le_of_ble_eq_true rfl) dL_law_1419 ⟨(Nat.le_of_ble_eq_true rfl), (Nat.le_of_ble_eq_true rfl)⟩) hS hP (fun r_1 H locs hw hP hS => ?_)
  have c_3 : r_1 = (-2) := hw
  refine lv_aload_n hx hb dL_law_1422 rfl (lv_at hl 1 rfl) ?_
  refine lv_aload_n hx hb dL_law_1423 rfl (lv_at hl 3 rfl) ?_
  refine lv_iload_n hx hb dL_law_1424 rfl (lv_at hl 0 rfl) ?_
  refine lv_iconst (v := 1) hx hb dL_law_1425 (by decide) ?_
  refine lv_iadd hx hb dL_law_1426 ?_
  refine eqi (v := 1) (by decide) ?_
  refine va_sld hx hb hX hbl hbA hS (by unfold vp_in; decide) dL_law_1427 ?_
  refine eqi (v := xs 1) rfl ?_
  refine mtId (wr := []) (cV (As := [.int (xs 1)]) (rest := [.int r_1]) ⟨hx, hb, hml, hown, hts⟩ (c_m_storm l D T (v 1) (v 16) (v 17) (v 18) (v 19) (v 2) (v 20) (v 21) (v 22) (v 23) (v 24) (v 25) (v 26) (v 27) (v 28) (v 29) (v 3) (v 30) (v 31) (v 32) (v 36) (v 4) (v 40) (v 41) (v 42) (v 5) m0 (xs 1) _) k_X11_storm v_X11_storm m1920 rfl rfl ⟨(Nat.le_of_ble_eq_true rfl), (Nat.le_of_ble_eq_true rfl)⟩ (preM hC (hP.sub (ws' := [(m0, .inr (11, [.int 0, .ref (v 1), .ref (v 2), .ref (v 3), .ref (v 4), .ref (v 5), .int 0, .int 0, .int 0, .int 0, .int 0, .long 0, .int 0, .int 0, .int 0, .int (-1), .ref (v 16), .ref (v 17), .ref (v 18), .ref (v 19), .ref (v 20), .ref (v 21), .ref (v 22), .ref (v 23), .ref (v 24), .ref (v 25), .ref (v 26), .ref (v 27), .ref (v 28), .ref (v 29), .ref (v 30), .ref (v 31), .ref (v 32), .int 0, .int 0, .int 0, .ref (v 36), .int 0, .int 0, .int 0, .ref (v 40), .ref (v 41), .ref (v 42), .int 0, .long 0])), ((v 17), .inl (T 0, 15, .inl (fun _ => 0)))]) [154, 161] rfl) (hD.sub (ws' := [(m0, .inr (11, [.int 0, .ref (v 1), .ref (v 2), .ref (v 3), .ref (v 4), .ref (v 5), .int 0, .int 0, .int 0, .int 0, .int 0, .long 0, .int 0, .int 0, .int 0, .int (-1), .ref (v 16), .ref (v 17), .ref (v 18), .ref (v 19), .ref (v 20), .ref (v 21), .ref (v 22), .ref (v 23), .ref (v 24), .ref (v 25), .ref (v 26), .ref (v 27), .ref (v 28), .ref (v 29), .ref (v 30), .ref (v 31), .ref (v 32), .int 0, .int 0, .int 0, .ref (v 36), .int 0, .int 0, .int 0, .ref (v 40), .ref (v 41), .ref (v 42), .int 0, .long 0])), ((v 17), .inl (T 0, 15, .inl (fun _ => 0)))]) [154, 161] (by decide) rfl)) (va_recv hK hP (ci := 11) (q0 := 154) rfl rfl) rfl hl.1 rfl (Nat.le_of_ble_eq_true rfl) dL_law_1428 ⟨(Nat.le_of_ble_eq_true rfl), (Nat.le_of_ble_eq_true rfl)⟩) hS hA hP hD [154, 161] [] rfl rfl (by decide) (by decide) (fun r_4 u_5 H locs hw hP hD hS => ?_)
  have c_6 : r_4 = (-2) := hw
  refine lv_icmp_eq (tgt := 1862) hx hb dL_law_1431 (by decide) (fun _ => ?_) (fun h => absurd (c_3.trans c_6.symm) h)
  refine lv_iinc (v := 6) (lv' := [(3, .int 6), (2, .ref m0), (1, .ref x0), (0, .ref b)]) hx hb dL_law_1862 hl (k := 0) rfl (by decide) (by decide) rfl (fun ls hl => ?_)
  refine lv_goto (tgt := 18) hx hb dL_law_1865 (by decide) ?_
  refine lv_iload_n hx hb dL_law_18 rfl (lv_at hl 0 rfl) ?_
  refine lv_aload_n hx hb dL_law_19 rfl (lv_at hl 3 rfl) ?_
  refine va_slen hx hb hX hbl hbA hS dL_law_20 ?_
  refine eqi (v := 6) (by decide) ?_
  refine lv_bipush (v := 6) hx hb dL_law_21 (by decide) ?_
  refine lv_isub hx hb dL_law_23 ?_
  refine eqi (v := 0) (by decide) ?_
  refine lv_icmp_gt (tgt := 1868) hx hb dL_law_24 (by decide) (fun _ => ?_) (fun c_7 => absurd (by decide) c_7)
  refine lv_iconst (v := 1) hx hb dL_law_1868 (by decide) ?_
  refine va_forget (fun q hq => hS.2.2 q hq) ?_
  refine W.widen (k := 600000) (n := 7302250) (Nat.le_of_ble_eq_true rfl) (Nat.le_of_ble_eq_true rfl) ?_
  exact lw_ret hx hb hr hlocks dL_law_1869

set_option maxHeartbeats 4000000 in
set_option maxRecDepth 100000 in
theorem lawcase_41 {p : Program} {e : Env} {s : State} {m : MethodId} {below : List Frame} {meth : Method} {c : Code} (l : Launch) {b : Nat} {xs : Nat → Int32} (C0 : lw_At p s m meth c b 6 xs) {D : va_G} {T : Nat → ClassId} (hC : cx D T s) {H : Heap} {locs : List Loc} (x0 m0 : Nat) (u v : Nat → Nat) (hP : va_P D vwCl (lawW T x0 m0 u v) H) (hD : va_D (fun q : Nat => s.heap.size ≤ q) (lawW T x0 m0 u v)) (hS : va_S (fun q : Nat => s.heap.size ≤ q) s.heap H locs) {ls : Array Slot} (hl : lv_has ls 4 [(3, .int 0), (2, .ref m0), (1, .ref x0), (0, .ref b)]) : W p l e room_1 s m #[Value.ref b] below meth c H locs 181 83004 (lw_Z below #[Value.ref b] s) (F0 m 1436 ls []) := by
  obtain ⟨hx, hb, hr, hml, hown, hts0, hX, hbl, hlocks, hgv⟩ := id C0
  have hts : ∀ w ∈ gt, w.before #[Value.ref b] s = true := fun w hw => hts0 w (List.mem_filter.mp hw).1
  have hown : s.vm.findClass RL = some m.cls := hown
  have hb : c.code = cL_law := hb
  have hA : ∀ q : Nat, s.heap.size ≤ q → (fun q : Nat => s.heap.size ≤ q) q := fun _ h => h
  have hbA : ¬ (fun q : Nat => s.heap.size ≤ q) b := Nat.not_le.mpr hbl
  have hK := hC.1
  refine lv_aload_n hx hb dL_law_1436 rfl (lv_at hl 2 rfl) ?_
  refine lv_aload_n hx hb dL_law_1437 rfl (lv_at hl 3 rfl) ?_
  refine lv_iload_n hx hb dL_law_1438 rfl (lv_at hl 0 rfl) ?_
  refine lv_iconst (v := 1) hx hb dL_law_1439 (by decide) ?_
  refine lv_iadd hx hb dL_law_1440 ?_
  refine eqi (v := 1) (by decide) ?_
  refine va_sld hx hb hX hbl hbA hS (by unfold vp_in; decide) dL_law_1441 ?_
  refine eqi (v := xs 1) rfl ?_
  refine lv_aload_n hx hb dL_law_1442 rfl (lv_at hl 3 rfl) ?_
  refine lv_iload_n hx hb dL_law_1443 rfl (lv_at hl 0 rfl) ?_
  refine lv_iconst (v := 2) hx hb dL_law_1444 (by decide) ?_
  refine lv_iadd hx hb dL_law_1445 ?_
  refine eqi (v := 2) (by decide) ?_
  refine va_sld hx hb hX hbl hbA hS (by unfold vp_in; decide) dL_law_1446 ?_
  refine eqi (v := xs 2) rfl ?_
  refine puI (cV (As := [.int (xs 1), .int (xs 2)]) (rest := []) ⟨hx, hb, hml, hown, hts⟩ (c_X10_run l D T x0 (u 0) (u 2) (u 15) (u 16) (u 17) (u 18) (u 19) (u 20) (u 21) (u 22) (u 23) (u 24) (u 25) (u 26) (u 27) (u 36) (u 37) (u 38) (u 130) (u 131) (u 132) (u 141) (u 144) (u 150) (u 151) (xs 1) (xs 2)) k_X10_run v_X10_run m1209 rfl rfl ⟨(Nat.le_of_ble_eq_true rfl), (Nat.le_of_ble_eq_true rfl)⟩ (preP hC (hP.sub (ws' := [(x0, .inr (10, [.ref (u 0), .ref (u 2), .ref (u 15), .ref (u 38), .ref (u 130), .ref (u 131), .ref (u 132), .ref (u 141), .ref (u 144), .ref (u 150), .ref (u 151)])), ((u 15), .inr (3, [.ref (u 16), .ref (u 27), .int 0, .int 0, .int 2, .long 0, .int 0, .ref (u 36), .ref (u 37)])), ((u 16), .inr (5, [.int 0, .int 0, .int 0, .int 0, .int 0, .int 0, .int 0, .int 0, .int 0, .ref (u 17), .ref (u 18), .ref (u 19), .ref (u 20), .ref (u 21), .ref (u 22), .ref (u 23), .ref (u 24), .ref (u 25), .ref (u 26)]))]) [0, 16, 17] rfl)) (va_recv hK hP (ci := 10) (q0 := 0) rfl rfl) rfl hl.1 rfl (Nat.le_of_ble_eq_true rfl) dL_law_1447 ⟨(Nat.le_of_ble_eq_true rfl), (Nat.le_of_ble_eq_true rfl)⟩) hS hP (fun r_1 H locs hw hP hS => ?_)
  have c_3 : r_1 = (-2) := hw
  refine lv_aload_n hx hb dL_law_1450 rfl (lv_at hl 1 rfl) ?_
  refine lv_aload_n hx hb dL_law_1451 rfl (lv_at hl 3 rfl) ?_
  refine lv_iload_n hx hb dL_law_1452 rfl (lv_at hl 0 rfl) ?_
  refine lv_iconst (v := 1) hx hb dL_law_1453 (by decide) ?_
  refine lv_iadd hx hb dL_law_1454 ?_
  refine eqi (v := 1) (by decide) ?_
  refine va_sld hx hb hX hbl hbA hS (by unfold vp_in; decide) dL_law_1455 ?_
  refine eqi (v := xs 1) rfl ?_
  refine lv_aload_n hx hb dL_law_1456 rfl (lv_at hl 3 rfl) ?_
  refine lv_iload_n hx hb dL_law_1457 rfl (lv_at hl 0 rfl) ?_
  refine lv_iconst (v := 2) hx hb dL_law_1458 (by decide) ?_
  refine lv_iadd hx hb dL_law_1459 ?_
  refine eqi (v := 2) (by decide) ?_
  refine va_sld hx hb hX hbl hbA hS (by unfold vp_in; decide) dL_law_1460 ?_
  refine eqi (v := xs 2) rfl ?_
  refine mtId (wr := []) (cV (As := [.int (xs 1), .int (xs 2)]) (rest := [.int r_1]) ⟨hx, hb, hml, hown, hts⟩ (c_m_run l D T (v 1) (v 16) (v 17) (v 18) (v 19) (v 2) (v 20) (v 21) (v 22) (v 23) (v 24) (v 25) (v 26) (v 27) (v 28) (v 29) (v 3) (v 30) (v 31) (v 32) (v 36) (v 4) (v 40) (v 41) (v 42) (v 5) m0 (xs 1) (xs 2) _) k_X11_run v_X11_run m1940 rfl rfl ⟨(Nat.le_of_ble_eq_true rfl), (Nat.le_of_ble_eq_true rfl)⟩ (preM hC (hP.sub (ws' := [(m0, .inr (11, [.int 0, .ref (v 1), .ref (v 2), .ref (v 3), .ref (v 4), .ref (v 5), .int 0, .int 0, .int 0, .int 0, .int 0, .long 0, .int 0, .int 0, .int 0, .int (-1), .ref (v 16), .ref (v 17), .ref (v 18), .ref (v 19), .ref (v 20), .ref (v 21), .ref (v 22), .ref (v 23), .ref (v 24), .ref (v 25), .ref (v 26), .ref (v 27), .ref (v 28), .ref (v 29), .ref (v 30), .ref (v 31), .ref (v 32), .int 0, .int 0, .int 0, .ref (v 36), .int 0, .int 0, .int 0, .ref (v 40), .ref (v 41), .ref (v 42), .int 0, .long 0])), ((v 17), .inl (T 0, 15, .inl (fun _ => 0)))]) [154, 161] rfl) (hD.sub (ws' := [(m0, .inr (11, [.int 0, .ref (v 1), .ref (v 2), .ref (v 3), .ref (v 4), .ref (v 5), .int 0, .int 0, .int 0, .int 0, .int 0, .long 0, .int 0, .int 0, .int 0, .int (-1), .ref (v 16), .ref (v 17), .ref (v 18), .ref (v 19), .ref (v 20), .ref (v 21), .ref (v 22), .ref (v 23), .ref (v 24), .ref (v 25), .ref (v 26), .ref (v 27), .ref (v 28), .ref (v 29), .ref (v 30), .ref (v 31), .ref (v 32), .int 0, .int 0, .int 0, .ref (v 36), .int 0, .int 0, .int 0, .ref (v 40), .ref (v 41), .ref (v 42), .int 0, .long 0])), ((v 17), .inl (T 0, 15, .inl (fun _ => 0)))]) [154, 161] (by decide) rfl)) (va_recv hK hP (ci := 11) (q0 := 154) rfl rfl) rfl hl.1 rfl (Nat.le_of_ble_eq_true rfl) dL_law_1461 ⟨(Nat.le_of_ble_eq_true rfl), (Nat.le_of_ble_eq_true rfl)⟩) hS hA hP hD [154, 161] [] rfl rfl (by decide) (by decide) (fun r_4 u_5 H locs hw hP hD hS => ?_)
  have c_6 : r_4 = (-2) := hw
  refine lv_icmp_eq (tgt := 1862) hx hb dL_law_1464 (by decide) (fun _ => ?_) (fun h => absurd (c_3.trans c_6.symm) h)
  refine lv_iinc (v := 6) (lv' := [(3, .int 6), (2, .ref m0), (1, .ref x0), (0, .ref b)]) hx hb dL_law_1862 hl (k := 0) rfl (by decide) (by decide) rfl (fun ls hl => ?_)
  refine lv_goto (tgt := 18) hx hb dL_law_1865 (by decide) ?_
  refine lv_iload_n hx hb dL_law_18 rfl (lv_at hl 0 rfl) ?_
  refine lv_aload_n hx hb dL_law_19 rfl (lv_at hl 3 rfl) ?_
  refine va_slen hx hb hX hbl hbA hS dL_law_20 ?_
  refine eqi (v := 6) (by decide) ?_
  refine lv_bipush (v := 6) hx hb dL_law_21 (by decide) ?_
  refine lv_isub hx hb dL_law_23 ?_
  refine eqi (v := 0) (by decide) ?_
  refine lv_icmp_gt (tgt := 1868) hx hb dL_law_24 (by decide) (fun _ => ?_) (fun c_7 => absurd (by decide) c_7)
  refine lv_iconst (v := 1) hx hb dL_law_1868 (by decide) ?_
  refine va_forget (fun q hq => hS.2.2 q hq) ?_
  refine W.widen (k := 600000) (n := 7302250) (Nat.le_of_ble_eq_true rfl) (Nat.le_of_ble_eq_true rfl) ?_
  exact lw_ret hx hb hr hlocks dL_law_1869

set_option maxHeartbeats 4000000 in
set_option maxRecDepth 100000 in
theorem lawcase_42 {p : Program} {e : Env} {s : State} {m : MethodId} {below : List Frame} {meth : Method} {c : Code} (l : Launch) {b : Nat} {xs : Nat → Int32} (C0 : lw_At p s m meth c b 6 xs) {D : va_G} {T : Nat → ClassId} (hC : cx D T s) {H : Heap} {locs : List Loc} (x0 m0 : Nat) (u v : Nat → Nat) (hP : va_P D vwCl (lawW T x0 m0 u v) H) (hD : va_D (fun q : Nat => s.heap.size ≤ q) (lawW T x0 m0 u v)) (hS : va_S (fun q : Nat => s.heap.size ≤ q) s.heap H locs) {ls : Array Slot} (hl : lv_has ls 4 [(3, .int 0), (2, .ref m0), (1, .ref x0), (0, .ref b)]) : W p l e room_1 s m #[Value.ref b] below meth c H locs 181 83004 (lw_Z below #[Value.ref b] s) (F0 m 1469 ls []) := by
  obtain ⟨hx, hb, hr, hml, hown, hts0, hX, hbl, hlocks, hgv⟩ := id C0
  have hts : ∀ w ∈ gt, w.before #[Value.ref b] s = true := fun w hw => hts0 w (List.mem_filter.mp hw).1
  have hown : s.vm.findClass RL = some m.cls := hown
  have hb : c.code = cL_law := hb
  have hA : ∀ q : Nat, s.heap.size ≤ q → (fun q : Nat => s.heap.size ≤ q) q := fun _ h => h
  have hbA : ¬ (fun q : Nat => s.heap.size ≤ q) b := Nat.not_le.mpr hbl
  have hK := hC.1
  refine lv_aload_n hx hb dL_law_1469 rfl (lv_at hl 2 rfl) ?_
  refine lv_aload_n hx hb dL_law_1470 rfl (lv_at hl 3 rfl) ?_
  refine lv_iload_n hx hb dL_law_1471 rfl (lv_at hl 0 rfl) ?_
  refine lv_iconst (v := 1) hx hb dL_law_1472 (by decide) ?_
  refine lv_iadd hx hb dL_law_1473 ?_
  refine eqi (v := 1) (by decide) ?_
  refine va_sld hx hb hX hbl hbA hS (by unfold vp_in; decide) dL_law_1474 ?_
  refine eqi (v := xs 1) rfl ?_
  refine lv_aload_n hx hb dL_law_1475 rfl (lv_at hl 3 rfl) ?_
  refine lv_iload_n hx hb dL_law_1476 rfl (lv_at hl 0 rfl) ?_
  refine lv_iconst (v := 2) hx hb dL_law_1477 (by decide) ?_
  refine lv_iadd hx hb dL_law_1478 ?_
  refine eqi (v := 2) (by decide) ?_
  refine va_sld hx hb hX hbl hbA hS (by unfold vp_in; decide) dL_law_1479 ?_
  refine eqi (v := xs 2) rfl ?_
  refine lv_aload_n hx hb dL_law_1480 rfl (lv_at hl 3 rfl) ?_
  refine lv_iload_n hx hb dL_law_1481 rfl (lv_at hl 0 rfl) ?_
  refine lv_iconst (v := 3) hx hb dL_law_1482 (by decide) ?_
  refine lv_iadd hx hb dL_law_1483 ?_
  refine eqi (v := 3) (by decide) ?_
  refine va_sld hx hb hX hbl hbA hS (by unfold vp_in; decide) dL_law_1484 ?_
  refine eqi (v := xs 3) rfl ?_
  refine lv_aload_n hx hb dL_law_1485 rfl (lv_at hl 3 rfl) ?_
  refine lv_iload_n hx hb dL_law_1486 rfl (lv_at hl 0 rfl) ?_
  refine lv_iconst (v := 4) hx hb dL_law_1487 (by decide) ?_
  refine lv_iadd hx hb dL_law_1488 ?_
  refine eqi (v := 4) (by decide) ?_
  refine va_sld hx hb hX hbl hbA hS (by unfold vp_in; decide) dL_law_1489 ?_
  refine eqi (v := xs 4) rfl ?_
  refine puI (cV (As := [.int (xs 1), .int (xs 2), .int (xs 3), .int (xs 4)]) (rest := []) ⟨hx, hb, hml, hown, hts⟩ (c_X10_runs l D T x0 (u 0) (u 2) (u 15) (u 16) (u 17) (u 18) (u 19) (u 20) (u 21) (u 22) (u 23) (u 24) (u 25) (u 26) (u 27) (u 36) (u 37) (u 38) (u 130) (u 131) (u 132) (u 141) (u 144) (u 150) (u 151) (xs 1) (xs 2) (xs 3) (xs 4)) k_X10_runs v_X10_runs m1219 rfl rfl ⟨(Nat.le_of_ble_eq_true rfl), (Nat.le_of_ble_eq_true rfl)⟩ (preP hC (hP.sub (ws' := [(x0, .inr (10, [.ref (u 0), .ref (u 2), .ref (u 15), .ref (u 38), .ref (u 130), .ref (u 131), .ref (u 132), .ref (u 141), .ref (u 144), .ref (u 150), .ref (u 151)])), ((u 15), .inr (3, [.ref (u 16), .ref (u 27), .int 0, .int 0, .int 2, .long 0, .int 0, .ref (u 36), .ref (u 37)])), ((u 16), .inr (5, [.int 0, .int 0, .int 0, .int 0, .int 0, .int 0, .int 0, .int 0, .int 0, .ref (u 17), .ref (u 18), .ref (u 19), .ref (u 20), .ref (u 21), .ref (u 22), .ref (u 23), .ref (u 24), .ref (u 25), .ref (u 26)]))]) [0, 16, 17] rfl)) (va_recv hK hP (ci := 10) (q0 := 0) rfl rfl) rfl hl.1 rfl (Nat.le_of_ble_eq_true rfl) dL_law_1490 ⟨(Nat.le_of_ble_eq_true rfl), (Nat.le_of_ble_eq_true rfl)⟩) hS hP (fun r_1 H locs hw hP hS => ?_)
  have c_3 : r_1 = (-2) := hw
  refine lv_aload_n hx hb dL_law_1493 rfl (lv_at hl 1 rfl) ?_
  refine lv_aload_n hx hb dL_law_1494 rfl (lv_at hl 3 rfl) ?_
  refine lv_iload_n hx hb dL_law_1495 rfl (lv_at hl 0 rfl) ?_
  refine lv_iconst (v := 1) hx hb dL_law_1496 (by decide) ?_
  refine lv_iadd hx hb dL_law_1497 ?_
  refine eqi (v := 1) (by decide) ?_
  refine va_sld hx hb hX hbl hbA hS (by unfold vp_in; decide) dL_law_1498 ?_
  refine eqi (v := xs 1) rfl ?_
  refine lv_aload_n hx hb dL_law_1499 rfl (lv_at hl 3 rfl) ?_
  refine lv_iload_n hx hb dL_law_1500 rfl (lv_at hl 0 rfl) ?_
  refine lv_iconst (v := 2) hx hb dL_law_1501 (by decide) ?_
  refine lv_iadd hx hb dL_law_1502 ?_
  refine eqi (v := 2) (by decide) ?_
  refine va_sld hx hb hX hbl hbA hS (by unfold vp_in; decide) dL_law_1503 ?_
  refine eqi (v := xs 2) rfl ?_
  refine lv_aload_n hx hb dL_law_1504 rfl (lv_at hl 3 rfl) ?_
  refine lv_iload_n hx hb dL_law_1505 rfl (lv_at hl 0 rfl) ?_
  refine lv_iconst (v := 3) hx hb dL_law_1506 (by decide) ?_
  refine lv_iadd hx hb dL_law_1507 ?_
  refine eqi (v := 3) (by decide) ?_
  refine va_sld hx hb hX hbl hbA hS (by unfold vp_in; decide) dL_law_1508 ?_
  refine eqi (v := xs 3) rfl ?_
  refine lv_aload_n hx hb dL_law_1509 rfl (lv_at hl 3 rfl) ?_
  refine lv_iload_n hx hb dL_law_1510 rfl (lv_at hl 0 rfl) ?_
  refine lv_iconst (v := 4) hx hb dL_law_1511 (by decide) ?_
  refine lv_iadd hx hb dL_law_1512 ?_
  refine eqi (v := 4) (by decide) ?_
  refine va_sld hx hb hX hbl hbA hS (by unfold vp_in; decide) dL_law_1513 ?_
  refine eqi (v := xs 4) rfl ?_
  refine mtId (wr := []) (cV (As := [.int (xs 1), .int (xs 2), .int (xs 3), .int (xs 4)]) (rest := [.int r_1]) ⟨hx, hb, hml, hown, hts⟩ (c_m_runs l D T (v 1) (v 16) (v 17) (v 18) (v 19) (v 2) (v 20) (v 21) (v 22) (v 23) (v 24) (v 25) (v 26) (v 27) (v 28) (v 29) (v 3) (v 30) (v 31) (v 32) (v 36) (v 4) (v 40) (v 41) (v 42) (v 5) m0 (xs 1) (xs 2) (xs 3) (xs 4) _) k_X11_runs v_X11_runs m1953 rfl rfl ⟨(Nat.le_of_ble_eq_true rfl), (Nat.le_of_ble_eq_true rfl)⟩ (preM hC (hP.sub (ws' := [(m0, .inr (11, [.int 0, .ref (v 1), .ref (v 2), .ref (v 3), .ref (v 4), .ref (v 5), .int 0, .int 0, .int 0, .int 0, .int 0, .long 0, .int 0, .int 0, .int 0, .int (-1), .ref (v 16), .ref (v 17), .ref (v 18), .ref (v 19), .ref (v 20), .ref (v 21), .ref (v 22), .ref (v 23), .ref (v 24), .ref (v 25), .ref (v 26), .ref (v 27), .ref (v 28), .ref (v 29), .ref (v 30), .ref (v 31), .ref (v 32), .int 0, .int 0, .int 0, .ref (v 36), .int 0, .int 0, .int 0, .ref (v 40), .ref (v 41), .ref (v 42), .int 0, .long 0])), ((v 17), .inl (T 0, 15, .inl (fun _ => 0)))]) [154, 161] rfl) (hD.sub (ws' := [(m0, .inr (11, [.int 0, .ref (v 1), .ref (v 2), .ref (v 3), .ref (v 4), .ref (v 5), .int 0, .int 0, .int 0, .int 0, .int 0, .long 0, .int 0, .int 0, .int 0, .int (-1), .ref (v 16), .ref (v 17), .ref (v 18), .ref (v 19), .ref (v 20), .ref (v 21), .ref (v 22), .ref (v 23), .ref (v 24), .ref (v 25), .ref (v 26), .ref (v 27), .ref (v 28), .ref (v 29), .ref (v 30), .ref (v 31), .ref (v 32), .int 0, .int 0, .int 0, .ref (v 36), .int 0, .int 0, .int 0, .ref (v 40), .ref (v 41), .ref (v 42), .int 0, .long 0])), ((v 17), .inl (T 0, 15, .inl (fun _ => 0)))]) [154, 161] (by decide) rfl)) (va_recv hK hP (ci := 11) (q0 := 154) rfl rfl) rfl hl.1 rfl (Nat.le_of_ble_eq_true rfl) dL_law_1514 ⟨(Nat.le_of_ble_eq_true rfl), (Nat.le_of_ble_eq_true rfl)⟩) hS hA hP hD [154, 161] [] rfl rfl (by decide) (by decide) (fun r_4 u_5 H locs hw hP hD hS => ?_)
  have c_6 : r_4 = (-2) := hw
  refine lv_icmp_eq (tgt := 1862) hx hb dL_law_1517 (by decide) (fun _ => ?_) (fun h => absurd (c_3.trans c_6.symm) h)
  refine lv_iinc (v := 6) (lv' := [(3, .int 6), (2, .ref m0), (1, .ref x0), (0, .ref b)]) hx hb dL_law_1862 hl (k := 0) rfl (by decide) (by decide) rfl (fun ls hl => ?_)
  refine lv_goto (tgt := 18) hx hb dL_law_1865 (by decide) ?_
  refine lv_iload_n hx hb dL_law_18 rfl (lv_at hl 0 rfl) ?_
  refine lv_aload_n hx hb dL_law_19 rfl (lv_at hl 3 rfl) ?_
  refine va_slen hx hb hX hbl hbA hS dL_law_20 ?_
  refine eqi (v := 6) (by decide) ?_
  refine lv_bipush (v := 6) hx hb dL_law_21 (by decide) ?_
  refine lv_isub hx hb dL_law_23 ?_
  refine eqi (v := 0) (by decide) ?_
  refine lv_icmp_gt (tgt := 1868) hx hb dL_law_24 (by decide) (fun _ => ?_) (fun c_7 => absurd (by decide) c_7)
  refine lv_iconst (v := 1) hx hb dL_law_1868 (by decide) ?_
  refine va_forget (fun q hq => hS.2.2 q hq) ?_
  refine W.widen (k := 600000) (n := 7302250) (Nat.le_of_ble_eq_true rfl) (Nat.le_of_ble_eq_true rfl) ?_
  exact lw_ret hx hb hr hlocks dL_law_1869

set_option maxHeartbeats 4000000 in
set_option maxRecDepth 100000 in
theorem lawcase_43 {p : Program} {e : Env} {s : State} {m : MethodId} {below : List Frame} {meth : Method} {c : Code} (l : Launch) {b : Nat} {xs : Nat → Int32} (C0 : lw_At p s m meth c b 6 xs) {D : va_G} {T : Nat → ClassId} (hC : cx D T s) {H : Heap} {locs : List Loc} (x0 m0 : Nat) (u v : Nat → Nat) (hP : va_P D vwCl (lawW T x0 m0 u v) H) (hD : va_D (fun q : Nat => s.heap.size ≤ q) (lawW T x0 m0 u v)) (hS : va_S (fun q : Nat => s.heap.size ≤ q) s.heap H locs) {ls : Array Slot} (hl : lv_has ls 4 [(3, .int 0), (2, .ref m0), (1, .ref x0), (0, .ref b)]) : W p l e room_1 s m #[Value.ref b] below meth c H locs 181 83004 (lw_Z below #[Value.ref b] s) (F0 m 1522 ls []) := by
  obtain ⟨hx, hb, hr, hml, hown, hts0, hX, hbl, hlocks, hgv⟩ := id C0
  have hts : ∀ w ∈ gt, w.before #[Value.ref b] s = true := fun w hw => hts0 w (List.mem_filter.mp hw).1
  have hown : s.vm.findClass RL = some m.cls := hown
  have hb : c.code = cL_law := hb
  have hA : ∀ q : Nat, s.heap.size ≤ q → (fun q : Nat => s.heap.size ≤ q) q := fun _ h => h
  have hbA : ¬ (fun q : Nat => s.heap.size ≤ q) b := Nat.not_le.mpr hbl
  have hK := hC.1
  refine lv_aload_n hx hb dL_law_1522 rfl (lv_at hl 2 rfl) ?_
  refine lv_aload_n hx hb dL_law_1523 rfl (lv_at hl 3 rfl) ?_
  refine lv_iload_n hx hb dL_law_1524 rfl (lv_at hl 0 rfl) ?_
  refine lv_iconst (v := 1) hx hb dL_law_1525 (by decide) ?_
  refine lv_iadd hx hb dL_law_1526 ?_
  refine eqi (v := 1) (by decide) ?_
  refine va_sld hx hb hX hbl hbA hS (by unfold vp_in; decide) dL_law_1527 ?_
  refine eqi (v := xs 1) rfl ?_
  refine puI (cV (As := [.int (xs 1)]) (rest := []) ⟨hx, hb, hml, hown, hts⟩ (c_X10_rule l D T x0 (u 0) (u 2) (u 15) (u 16) (u 17) (u 18) (u 19) (u 20) (u 21) (u 22) (u 23) (u 24) (u 25) (u 26) (u 27) (u 36) (u 37) (u 38) (u 130) (u 131) (u 132) (u 141) (u 144) (u 150) (u 151) (xs 1)) k_X10_rule v_X10_rule m1227 rfl rfl ⟨(Nat.le_of_ble_eq_true rfl), (Nat.le_of_ble_eq_true rfl)⟩ (preP hC (hP.sub (ws' := [(x0, .inr (10, [.ref (u 0), .ref (u 2), .ref (u 15), .ref (u 38), .ref (u 130), .ref (u 131), .ref (u 132), .ref (u 141), .ref (u 144), .ref (u 150), .ref (u 151)])), ((u 15), .inr (3, [.ref (u 16), .ref (u 27), .int 0, .int 0, .int 2, .long 0, .int 0, .ref (u 36), .ref (u 37)])), ((u 16), .inr (5, [.int 0, .int 0, .int 0, .int 0, .int 0, .int 0, .int 0, .int 0, .int 0, .ref (u 17), .ref (u 18), .ref (u 19), .ref (u 20), .ref (u 21), .ref (u 22), .ref (u 23), .ref (u 24), .ref (u 25), .ref (u 26)]))]) [0, 16, 17] rfl)) (va_recv hK hP (ci := 10) (q0 := 0) rfl rfl) rfl hl.1 rfl (Nat.le_of_ble_eq_true rfl) dL_law_1528 ⟨(Nat.le_of_ble_eq_true rfl), (Nat.le_of_ble_eq_true rfl)⟩) hS hP (fun r_1 H locs hw hP hS => ?_)
  have c_3 : r_1 = (-2) := hw
  refine lv_aload_n hx hb dL_law_1531 rfl (lv_at hl 1 rfl) ?_
  refine lv_aload_n hx hb dL_law_1532 rfl (lv_at hl 3 rfl) ?_
  refine lv_iload_n hx hb dL_law_1533 rfl (lv_at hl 0 rfl) ?_
  refine lv_iconst (v := 1) hx hb dL_law_1534 (by decide) ?_
  refine lv_iadd hx hb dL_law_1535 ?_
  refine eqi (v := 1) (by decide) ?_
  refine va_sld hx hb hX hbl hbA hS (by unfold vp_in; decide) dL_law_1536 ?_
  refine eqi (v := xs 1) rfl ?_
  refine mtId (wr := []) (cV (As := [.int (xs 1)]) (rest := [.int r_1]) ⟨hx, hb, hml, hown, hts⟩ (c_m_rule l D T (v 1) (v 16) (v 17) (v 18) (v 19) (v 2) (v 20) (v 21) (v 22) (v 23) (v 24) (v 25) (v 26) (v 27) (v 28) (v 29) (v 3) (v 30) (v 31) (v 32) (v 36) (v 4) (v 40) (v 41) (v 42) (v 5) m0 (xs 1) _) k_X11_rule v_X11_rule m1958 rfl rfl ⟨(Nat.le_of_ble_eq_true rfl), (Nat.le_of_ble_eq_true rfl)⟩ (preM hC (hP.sub (ws' := [(m0, .inr (11, [.int 0, .ref (v 1), .ref (v 2), .ref (v 3), .ref (v 4), .ref (v 5), .int 0, .int 0, .int 0, .int 0, .int 0, .long 0, .int 0, .int 0, .int 0, .int (-1), .ref (v 16), .ref (v 17), .ref (v 18), .ref (v 19), .ref (v 20), .ref (v 21), .ref (v 22), .ref (v 23), .ref (v 24), .ref (v 25), .ref (v 26), .ref (v 27), .ref (v 28), .ref (v 29), .ref (v 30), .ref (v 31), .ref (v 32), .int 0, .int 0, .int 0, .ref (v 36), .int 0, .int 0, .int 0, .ref (v 40), .ref (v 41), .ref (v 42), .int 0, .long 0])), ((v 17), .inl (T 0, 15, .inl (fun _ => 0)))]) [154, 161] rfl) (hD.sub (ws' := [(m0, .inr (11, [.int 0, .ref (v 1), .ref (v 2), .ref (v 3), .ref (v 4), .ref (v 5), .int 0, .int 0, .int 0, .int 0, .int 0, .long 0, .int 0, .int 0, .int 0, .int (-1), .ref (v 16), .ref (v 17), .ref (v 18), .ref (v 19), .ref (v 20), .ref (v 21), .ref (v 22), .ref (v 23), .ref (v 24), .ref (v 25), .ref (v 26), .ref (v 27), .ref (v 28), .ref (v 29), .ref (v 30), .ref (v 31), .ref (v 32), .int 0, .int 0, .int 0, .ref (v 36), .int 0, .int 0, .int 0, .ref (v 40), .ref (v 41), .ref (v 42), .int 0, .long 0])), ((v 17), .inl (T 0, 15, .inl (fun _ => 0)))]) [154, 161] (by decide) rfl)) (va_recv hK hP (ci := 11) (q0 := 154) rfl rfl) rfl hl.1 rfl (Nat.le_of_ble_eq_true rfl) dL_law_1537 ⟨(Nat.le_of_ble_eq_true rfl), (Nat.le_of_ble_eq_true rfl)⟩) hS hA hP hD [154, 161] [] rfl rfl (by decide) (by decide) (fun r_4 u_5 H locs hw hP hD hS => ?_)
  have c_6 : r_4 = (-2) := hw
  refine lv_icmp_eq (tgt := 1862) hx hb dL_law_1540 (by decide) (fun _ => ?_) (fun h => absurd (c_3.trans c_6.symm) h)
  refine lv_iinc (v := 6) (lv' := [(3, .int 6), (2, .ref m0), (1, .ref x0), (0, .ref b)]) hx hb dL_law_1862 hl (k := 0) rfl (by decide) (by decide) rfl (fun ls hl => ?_)
  refine lv_goto (tgt := 18) hx hb dL_law_1865 (by decide) ?_
  refine lv_iload_n hx hb dL_law_18 rfl (lv_at hl 0 rfl) ?_
  refine lv_aload_n hx hb dL_law_19 rfl (lv_at hl 3 rfl) ?_
  refine va_slen hx hb hX hbl hbA hS dL_law_20 ?_
  refine eqi (v := 6) (by decide) ?_
  refine lv_bipush (v := 6) hx hb dL_law_21 (by decide) ?_
  refine lv_isub hx hb dL_law_23 ?_
  refine eqi (v := 0) (by decide) ?_
  refine lv_icmp_gt (tgt := 1868) hx hb dL_law_24 (by decide) (fun _ => ?_) (fun c_7 => absurd (by decide) c_7)
  refine lv_iconst (v := 1) hx hb dL_law_1868 (by decide) ?_
  refine va_forget (fun q hq => hS.2.2 q hq) ?_
  refine W.widen (k := 600000) (n := 7302250) (Nat.le_of_ble_eq_true rfl) (Nat.le_of_ble_eq_true rfl) ?_
  exact lw_ret hx hb hr hlocks dL_law_1869

set_option maxHeartbeats 4000000 in
set_option maxRecDepth 100000 in
theorem lawcase_44 {p : Program} {e : Env} {s : State} {m : MethodId} {below : List Frame} {meth : Method} {c : Code} (l : Launch) {b : Nat} {xs : Nat → Int32} (C0 : lw_At p s m meth c b 6 xs) {D : va_G} {T : Nat → ClassId} (hC : cx D T s) {H : Heap} {locs : List Loc} (x0 m0 : Nat) (u v : Nat → Nat) (hP : va_P D vwCl (lawW T x0 m0 u v) H) (hD : va_D (fun q : Nat => s.heap.size ≤ q) (lawW T x0 m0 u v)) (hS : va_S (fun q : Nat => s.heap.size ≤ q) s.heap H locs) {ls : Array Slot} (hl : lv_has ls 4 [(3, .int 0), (2, .ref m0), (1, .ref x0), (0, .ref b)]) : W p l e room_1 s m #[Value.ref b] below meth c H locs 181 83004 (lw_Z below #[Value.ref b] s) (F0 m 1545 ls []) := by
  obtain ⟨hx, hb, hr, hml, hown, hts0, hX, hbl, hlocks, hgv⟩ := id C0
  have hts : ∀ w ∈ gt, w.before #[Value.ref b] s = true := fun w hw => hts0 w (List.mem_filter.mp hw).1
  have hown : s.vm.findClass RL = some m.cls := hown
  have hb : c.code = cL_law := hb
  have hA : ∀ q : Nat, s.heap.size ≤ q → (fun q : Nat => s.heap.size ≤ q) q := fun _ h => h
  have hbA : ¬ (fun q : Nat => s.heap.size ≤ q) b := Nat.not_le.mpr hbl
  have hK := hC.1
  refine lv_aload_n hx hb dL_law_1545 rfl (lv_at hl 2 rfl) ?_
  refine lv_aload_n hx hb dL_law_1546 rfl (lv_at hl 3 rfl) ?_
  refine lv_iload_n hx hb dL_law_1547 rfl (lv_at hl 0 rfl) ?_
  refine lv_iconst (v := 1) hx hb dL_law_1548 (by decide) ?_
  refine lv_iadd hx hb dL_law_1549 ?_
  refine eqi (v := 1) (by decide) ?_
  refine va_sld hx hb hX hbl hbA hS (by unfold vp_in; decide) dL_law_1550 ?_
  refine eqi (v := xs 1) rfl ?_
  refine puI (cV (As := [.int (xs 1)]) (rest := []) ⟨hx, hb, hml, hown, hts⟩ (c_X10_suits l D T x0 (u 0) (u 2) (u 15) (u 16) (u 17) (u 18) (u 19) (u 20) (u 21) (u 22) (u 23) (u 24) (u 25) (u 26) (u 27) (u 36) (u 37) (u 38) (u 130) (u 131) (u 132) (u 141) (u 144) (u 150) (u 151) (xs 1)) k_X10_suits v_X10_suits m1231 rfl rfl ⟨(Nat.le_of_ble_eq_true rfl), (Nat.le_of_ble_eq_true rfl)⟩ (preP hC (hP.sub (ws' := [(x0, .inr (10, [.ref (u 0), .ref (u 2), .ref (u 15), .ref (u 38), .ref (u 130), .ref (u 131), .ref (u 132), .ref (u 141), .ref (u 144), .ref (u 150), .ref (u 151)])), ((u 15), .inr (3, [.ref (u 16), .ref (u 27), .int 0, .int 0, .int 2, .long 0, .int 0, .ref (u 36), .ref (u 37)])), ((u 16), .inr (5, [.int 0, .int 0, .int 0, .int 0, .int 0, .int 0, .int 0, .int 0, .int 0, .ref (u 17), .ref (u 18), .ref (u 19), .ref (u 20), .ref (u 21), .ref (u 22), .ref (u 23), .ref (u 24), .ref (u 25), .ref (u 26)]))]) [0, 16, 17] rfl)) (va_recv hK hP (ci := 10) (q0 := 0) rfl rfl) rfl hl.1 rfl (Nat.le_of_ble_eq_true rfl) dL_law_1551 ⟨(Nat.le_of_ble_eq_true rfl), (Nat.le_of_ble_eq_true rfl)⟩) hS hP (fun r_1 H locs hw hP hS => ?_)
  have c_3 : r_1 = (-2) := hw
  refine lv_aload_n hx hb dL_law_1554 rfl (lv_at hl 1 rfl) ?_
  refine lv_aload_n hx hb dL_law_1555 rfl (lv_at hl 3 rfl) ?_
  refine lv_iload_n hx hb dL_law_1556 rfl (lv_at hl 0 rfl) ?_
  refine lv_iconst (v := 1) hx hb dL_law_1557 (by decide) ?_
  refine lv_iadd hx hb dL_law_1558 ?_
  refine eqi (v := 1) (by decide) ?_
  refine va_sld hx hb hX hbl hbA hS (by unfold vp_in; decide) dL_law_1559 ?_
  refine eqi (v := xs 1) rfl ?_
  refine mtId (wr := []) (cV (As := [.int (xs 1)]) (rest := [.int r_1]) ⟨hx, hb, hml, hown, hts⟩ (c_m_suits l D T (v 1) (v 16) (v 17) (v 18) (v 19) (v 2) (v 20) (v 21) (v 22) (v 23) (v 24) (v 25) (v 26) (v 27) (v 28) (v 29) (v 3) (v 30) (v 31) (v 32) (v 36) (v 4) (v 40) (v 41) (v 42) (v 5) m0 (xs 1) _) k_X11_suits v_X11_suits m1962 rfl rfl ⟨(Nat.le_of_ble_eq_true rfl), (Nat.le_of_ble_eq_true rfl)⟩ (preM hC (hP.sub (ws' := [(m0, .inr (11, [.int 0, .ref (v 1), .ref (v 2), .ref (v 3), .ref (v 4), .ref (v 5), .int 0, .int 0, .int 0, .int 0, .int 0, .long 0, .int 0, .int 0, .int 0, .int (-1), .ref (v 16), .ref (v 17), .ref (v 18), .ref (v 19), .ref (v 20), .ref (v 21), .ref (v 22), .ref (v 23), .ref (v 24), .ref (v 25), .ref (v 26), .ref (v 27), .ref (v 28), .ref (v 29), .ref (v 30), .ref (v 31), .ref (v 32), .int 0, .int 0, .int 0, .ref (v 36), .int 0, .int 0, .int 0, .ref (v 40), .ref (v 41), .ref (v 42), .int 0, .long 0])), ((v 17), .inl (T 0, 15, .inl (fun _ => 0)))]) [154, 161] rfl) (hD.sub (ws' := [(m0, .inr (11, [.int 0, .ref (v 1), .ref (v 2), .ref (v 3), .ref (v 4), .ref (v 5), .int 0, .int 0, .int 0, .int 0, .int 0, .long 0, .int 0, .int 0, .int 0, .int (-1), .ref (v 16), .ref (v 17), .ref (v 18), .ref (v 19), .ref (v 20), .ref (v 21), .ref (v 22), .ref (v 23), .ref (v 24), .ref (v 25), .ref (v 26), .ref (v 27), .ref (v 28), .ref (v 29), .ref (v 30), .ref (v 31), .ref (v 32), .int 0, .int 0, .int 0, .ref (v 36), .int 0, .int 0, .int 0, .ref (v 40), .ref (v 41), .ref (v 42), .int 0, .long 0])), ((v 17), .inl (T 0, 15, .inl (fun _ => 0)))]) [154, 161] (by decide) rfl)) (va_recv hK hP (ci := 11) (q0 := 154) rfl rfl) rfl hl.1 rfl (Nat.le_of_ble_eq_true rfl) dL_law_1560 ⟨(Nat.le_of_ble_eq_true rfl), (Nat.le_of_ble_eq_true rfl)⟩) hS hA hP hD [154, 161] [] rfl rfl (by decide) (by decide) (fun r_4 u_5 H locs hw hP hD hS => ?_)
  have c_6 : r_4 = (-2) := hw
  refine lv_icmp_eq (tgt := 1862) hx hb dL_law_1563 (by decide) (fun _ => ?_) (fun h => absurd (c_3.trans c_6.symm) h)
  refine lv_iinc (v := 6) (lv' := [(3, .int 6), (2, .ref m0), (1, .ref x0), (0, .ref b)]) hx hb dL_law_1862 hl (k := 0) rfl (by decide) (by decide) rfl (fun ls hl => ?_)
  refine lv_goto (tgt := 18) hx hb dL_law_1865 (by decide) ?_
  refine lv_iload_n hx hb dL_law_18 rfl (lv_at hl 0 rfl) ?_
  refine lv_aload_n hx hb dL_law_19 rfl (lv_at hl 3 rfl) ?_
  refine va_slen hx hb hX hbl hbA hS dL_law_20 ?_
  refine eqi (v := 6) (by decide) ?_
  refine lv_bipush (v := 6) hx hb dL_law_21 (by decide) ?_
  refine lv_isub hx hb dL_law_23 ?_
  refine eqi (v := 0) (by decide) ?_
  refine lv_icmp_gt (tgt := 1868) hx hb dL_law_24 (by decide) (fun _ => ?_) (fun c_7 => absurd (by decide) c_7)
  refine lv_iconst (v := 1) hx hb dL_law_1868 (by decide) ?_
  refine va_forget (fun q hq => hS.2.2 q hq) ?_
  refine W.widen (k := 600000) (n := 7302250) (Nat.le_of_ble_eq_true rfl) (Nat.le_of_ble_eq_true rfl) ?_
  exact lw_ret hx hb hr hlocks dL_law_1869

set_option maxHeartbeats 4000000 in
set_option maxRecDepth 100000 in
theorem lawcase_45 {p : Program} {e : Env} {s : State} {m : MethodId} {below : List Frame} {meth : Method} {c : Code} (l : Launch) {b : Nat} {xs : Nat → Int32} (C0 : lw_At p s m meth c b 6 xs) {D : va_G} {T : Nat → ClassId} (hC : cx D T s) {H : Heap} {locs : List Loc} (x0 m0 : Nat) (u v : Nat → Nat) (hP : va_P D vwCl (lawW T x0 m0 u v) H) (hD : va_D (fun q : Nat => s.heap.size ≤ q) (lawW T x0 m0 u v)) (hS : va_S (fun q : Nat => s.heap.size ≤ q) s.heap H locs) {ls : Array Slot} (hl : lv_has ls 4 [(3, .int 0), (2, .ref m0), (1, .ref x0), (0, .ref b)]) : W p l e room_1 s m #[Value.ref b] below meth c H locs 181 83004 (lw_Z below #[Value.ref b] s) (F0 m 1568 ls []) := by
  obtain ⟨hx, hb, hr, hml, hown, hts0, hX, hbl, hlocks, hgv⟩ := id C0
  have hts : ∀ w ∈ gt, w.before #[Value.ref b] s = true := fun w hw => hts0 w (List.mem_filter.mp hw).1
  have hown : s.vm.findClass RL = some m.cls := hown
  have hb : c.code = cL_law := hb
  have hA : ∀ q : Nat, s.heap.size ≤ q → (fun q : Nat => s.heap.size ≤ q) q := fun _ h => h
  have hbA : ¬ (fun q : Nat => s.heap.size ≤ q) b := Nat.not_le.mpr hbl
  have hK := hC.1
  refine lv_aload_n hx hb dL_law_1568 rfl (lv_at hl 2 rfl) ?_
  refine lv_aload_n hx hb dL_law_1569 rfl (lv_at hl 3 rfl) ?_
  refine lv_iload_n hx hb dL_law_1570 rfl (lv_at hl 0 rfl) ?_
  refine lv_iconst (v := 1) hx hb dL_law_1571 (by decide) ?_
  refine lv_iadd hx hb dL_law_1572 ?_
  refine eqi (v := 1) (by decide) ?_
  refine va_sld hx hb hX hbl hbA hS (by unfold vp_in; decide) dL_law_1573 ?_
  refine eqi (v := xs 1) rfl ?_
  refine puI (cV (As := [.int (xs 1)]) (rest := []) ⟨hx, hb, hml, hown, hts⟩ (c_X10_judge l D T x0 (u 0) (u 2) (u 15) (u 16) (u 17) (u 18) (u 19) (u 20) (u 21) (u 22) (u 23) (u 24) (u 25) (u 26) (u 27) (u 36) (u 37) (u 38) (u 130) (u 131) (u 132) (u 141) (u 144) (u 150) (u 151) (xs 1)) k_X10_judge v_X10_judge m1235 rfl rfl ⟨(Nat.le_of_ble_eq_true rfl), (Nat.le_of_ble_eq_true rfl)⟩ (preP hC (hP.sub (ws' := [(x0, .inr (10, [.ref (u 0), .ref (u 2), .ref (u 15), .ref (u 38), .ref (u 130), .ref (u 131), .ref (u 132), .ref (u 141), .ref (u 144), .ref (u 150), .ref (u 151)])), ((u 15), .inr (3, [.ref (u 16), .ref (u 27), .int 0, .int 0, .int 2, .long 0, .int 0, .ref (u 36), .ref (u 37)])), ((u 16), .inr (5, [.int 0, .int 0, .int 0, .int 0, .int 0, .int 0, .int 0, .int 0, .int 0, .ref (u 17), .ref (u 18), .ref (u 19), .ref (u 20), .ref (u 21), .ref (u 22), .ref (u 23), .ref (u 24), .ref (u 25), .ref (u 26)]))]) [0, 16, 17] rfl)) (va_recv hK hP (ci := 10) (q0 := 0) rfl rfl) rfl hl.1 rfl (Nat.le_of_ble_eq_true rfl) dL_law_1574 ⟨(Nat.le_of_ble_eq_true rfl), (Nat.le_of_ble_eq_true rfl)⟩) hS hP (fun r_1 H locs hw hP hS => ?_)
  have c_3 : r_1 = (-2) := hw
  refine lv_aload_n hx hb dL_law_1577 rfl (lv_at hl 1 rfl) ?_
  refine lv_aload_n hx hb dL_law_1578 rfl (lv_at hl 3 rfl) ?_
  refine lv_iload_n hx hb dL_law_1579 rfl (lv_at hl 0 rfl) ?_
  refine lv_iconst (v := 1) hx hb dL_law_1580 (by decide) ?_
  refine lv_iadd hx hb dL_law_1581 ?_
  refine eqi (v := 1) (by decide) ?_
  refine va_sld hx hb hX hbl hbA hS (by unfold vp_in; decide) dL_law_1582 ?_
  refine eqi (v := xs 1) rfl ?_
  refine mtId (wr := []) (cV (As := [.int (xs 1)]) (rest := [.int r_1]) ⟨hx, hb, hml, hown, hts⟩ (c_m_judge l D T (v 1) (v 16) (v 17) (v 18) (v 19) (v 2) (v 20) (v 21) (v 22) (v 23) (v 24) (v 25) (v 26) (v 27) (v 28) (v 29) (v 3) (v 30) (v 31) (v 32) (v 36) (v 4) (v 40) (v 41) (v 42) (v 5) m0 (xs 1) _) k_X11_judge v_X11_judge m1966 rfl rfl ⟨(Nat.le_of_ble_eq_true rfl), (Nat.le_of_ble_eq_true rfl)⟩ (preM hC (hP.sub (ws' := [(m0, .inr (11, [.int 0, .ref (v 1), .ref (v 2), .ref (v 3), .ref (v 4), .ref (v 5), .int 0, .int 0, .int 0, .int 0, .int 0, .long 0, .int 0, .int 0, .int 0, .int (-1), .ref (v 16), .ref (v 17), .ref (v 18), .ref (v 19), .ref (v 20), .ref (v 21), .ref (v 22), .ref (v 23), .ref (v 24), .ref (v 25), .ref (v 26), .ref (v 27), .ref (v 28), .ref (v 29), .ref (v 30), .ref (v 31), .ref (v 32), .int 0, .int 0, .int 0, .ref (v 36), .int 0, .int 0, .int 0, .ref (v 40), .ref (v 41), .ref (v 42), .int 0, .long 0])), ((v 17), .inl (T 0, 15, .inl (fun _ => 0)))]) [154, 161] rfl) (hD.sub (ws' := [(m0, .inr (11, [.int 0, .ref (v 1), .ref (v 2), .ref (v 3), .ref (v 4), .ref (v 5), .int 0, .int 0, .int 0, .int 0, .int 0, .long 0, .int 0, .int 0, .int 0, .int (-1), .ref (v 16), .ref (v 17), .ref (v 18), .ref (v 19), .ref (v 20), .ref (v 21), .ref (v 22), .ref (v 23), .ref (v 24), .ref (v 25), .ref (v 26), .ref (v 27), .ref (v 28), .ref (v 29), .ref (v 30), .ref (v 31), .ref (v 32), .int 0, .int 0, .int 0, .ref (v 36), .int 0, .int 0, .int 0, .ref (v 40), .ref (v 41), .ref (v 42), .int 0, .long 0])), ((v 17), .inl (T 0, 15, .inl (fun _ => 0)))]) [154, 161] (by decide) rfl)) (va_recv hK hP (ci := 11) (q0 := 154) rfl rfl) rfl hl.1 rfl (Nat.le_of_ble_eq_true rfl) dL_law_1583 ⟨(Nat.le_of_ble_eq_true rfl), (Nat.le_of_ble_eq_true rfl)⟩) hS hA hP hD [154, 161] [] rfl rfl (by decide) (by decide) (fun r_4 u_5 H locs hw hP hD hS => ?_)
  have c_6 : r_4 = (-2) := hw
  refine lv_icmp_eq (tgt := 1862) hx hb dL_law_1586 (by decide) (fun _ => ?_) (fun h => absurd (c_3.trans c_6.symm) h)
  refine lv_iinc (v := 6) (lv' := [(3, .int 6), (2, .ref m0), (1, .ref x0), (0, .ref b)]) hx hb dL_law_1862 hl (k := 0) rfl (by decide) (by decide) rfl (fun ls hl => ?_)
  refine lv_goto (tgt := 18) hx hb dL_law_1865 (by decide) ?_
  refine lv_iload_n hx hb dL_law_18 rfl (lv_at hl 0 rfl) ?_
  refine lv_aload_n hx hb dL_law_19 rfl (lv_at hl 3 rfl) ?_
  refine va_slen hx hb hX hbl hbA hS dL_law_20 ?_
  refine eqi (v := 6) (by decide) ?_
  refine lv_bipush (v := 6) hx hb dL_law_21 (by decide) ?_
  refine lv_isub hx hb dL_law_23 ?_
  refine eqi (v := 0) (by decide) ?_
  refine lv_icmp_gt (tgt := 1868) hx hb dL_law_24 (by decide) (fun _ => ?_) (fun c_7 => absurd (by decide) c_7)
  refine lv_iconst (v := 1) hx hb dL_law_1868 (by decide) ?_
  refine va_forget (fun q hq => hS.2.2 q hq) ?_
  refine W.widen (k := 600000) (n := 7302250) (Nat.le_of_ble_eq_true rfl) (Nat.le_of_ble_eq_true rfl) ?_
  exact lw_ret hx hb hr hlocks dL_law_1869

set_option maxHeartbeats 4000000 in
set_option maxRecDepth 100000 in
theorem lawcase_46 {p : Program} {e : Env} {s : State} {m : MethodId} {below : List Frame} {meth : Method} {c : Code} (l : Launch) {b : Nat} {xs : Nat → Int32} (C0 : lw_At p s m meth c b 6 xs) {D : va_G} {T : Nat → ClassId} (hC : cx D T s) {H : Heap} {locs : List Loc} (x0 m0 : Nat) (u v : Nat → Nat) (hP : va_P D vwCl (lawW T x0 m0 u v) H) (hD : va_D (fun q : Nat => s.heap.size ≤ q) (lawW T x0 m0 u v)) (hS : va_S (fun q : Nat => s.heap.size ≤ q) s.heap H locs) {ls : Array Slot} (hl : lv_has ls 4 [(3, .int 0), (2, .ref m0), (1, .ref x0), (0, .ref b)]) : W p l e room_1 s m #[Value.ref b] below meth c H locs 181 83004 (lw_Z below #[Value.ref b] s) (F0 m 1591 ls []) := by
  obtain ⟨hx, hb, hr, hml, hown, hts0, hX, hbl, hlocks, hgv⟩ := id C0
  have hts : ∀ w ∈ gt, w.before #[Value.ref b] s = true := fun w hw => hts0 w (List.mem_filter.mp hw).1
  have hown : s.vm.findClass RL = some m.cls := hown
  have hb : c.code = cL_law := hb
  have hA : ∀ q : Nat, s.heap.size ≤ q → (fun q : Nat => s.heap.size ≤ q) q := fun _ h => h
  have hbA : ¬ (fun q : Nat => s.heap.size ≤ q) b := Nat.not_le.mpr hbl
  have hK := hC.1
  refine lv_aload_n hx hb dL_law_1591 rfl (lv_at hl 2 rfl) ?_
  refine lv_aload_n hx hb dL_law_1592 rfl (lv_at hl 3 rfl) ?_
  refine lv_iload_n hx hb dL_law_1593 rfl (lv_at hl 0 rfl) ?_
  refine lv_iconst (v := 1) hx hb dL_law_1594 (by decide) ?_
  refine lv_iadd hx hb dL_law_1595 ?_
  refine eqi (v := 1) (by decide) ?_
  refine va_sld hx hb hX hbl hbA hS (by unfold vp_in; decide) dL_law_1596 ?_
  refine eqi (v := xs 1) rfl ?_
  refine puI (cV (As := [.int (xs 1)]) (rest := []) ⟨hx, hb, hml, hown, hts⟩ (c_X10_then l D T x0 (u 0) (u 2) (u 15) (u 16) (u 17) (u 18) (u 19) (u 20) (u 21) (u 22) (u 23) (u 24) (u 25) (u 26) (u 27) (u 36) (u 37) (u 38) (u 130) (u 131) (u 132) (u 141) (u 144) (u 150) (u 151) (xs 1)) k_X10_then v_X10_then m1257 rfl rfl ⟨(Nat.le_of_ble_eq_true rfl), (Nat.le_of_ble_eq_true rfl)⟩ (preP hC (hP.sub (ws' := [(x0, .inr (10, [.ref (u 0), .ref (u 2), .ref (u 15), .ref (u 38), .ref (u 130), .ref (u 131), .ref (u 132), .ref (u 141), .ref (u 144), .ref (u 150), .ref (u 151)])), ((u 15), .inr (3, [.ref (u 16), .ref (u 27), .int 0, .int 0, .int 2, .long 0, .int 0, .ref (u 36), .ref (u 37)])), ((u 16), .inr (5, [.int 0, .int 0, .int 0, .int 0, .int 0, .int 0, .int 0, .int 0, .int 0, .ref (u 17), .ref (u 18), .ref (u 19), .ref (u 20), .ref (u 21), .ref (u 22), .ref (u 23), .ref (u 24), .ref (u 25), .ref (u 26)]))]) [0, 16, 17] rfl)) (va_recv hK hP (ci := 10) (q0 := 0) rfl rfl) rfl hl.1 rfl (Nat.le_of_ble_eq_true rfl) dL_law_1597 ⟨(Nat.le_of_ble_eq_true rfl), (Nat.le_of_ble_eq_true rfl)⟩) hS hP (fun r_1 H locs hw hP hS => ?_)
  have c_3 : r_1 = (-2) := hw
  refine lv_aload_n hx hb dL_law_1600 rfl (lv_at hl 1 rfl) ?_
  refine lv_aload_n hx hb dL_law_1601 rfl (lv_at hl 3 rfl) ?_
  refine lv_iload_n hx hb dL_law_1602 rfl (lv_at hl 0 rfl) ?_
  refine lv_iconst (v := 1) hx hb dL_law_1603 (by decide) ?_
  refine lv_iadd hx hb dL_law_1604 ?_
  refine eqi (v := 1) (by decide) ?_
  refine va_sld hx hb hX hbl hbA hS (by unfold vp_in; decide) dL_law_1605 ?_
  refine eqi (v := xs 1) rfl ?_
  refine mtId (wr := []) (cV (As := [.int (xs 1)]) (rest := [.int r_1]) ⟨hx, hb, hml, hown, hts⟩ (c_m_then l D T (v 1) (v 16) (v 17) (v 18) (v 19) (v 2) (v 20) (v 21) (v 22) (v 23) (v 24) (v 25) (v 26) (v 27) (v 28) (v 29) (v 3) (v 30) (v 31) (v 32) (v 36) (v 4) (v 40) (v 41) (v 42) (v 5) m0 (xs 1) _) k_X11_then v_X11_then m1979 rfl rfl ⟨(Nat.le_of_ble_eq_true rfl), (Nat.le_of_ble_eq_true rfl)⟩ (preM hC (hP.sub (ws' := [(m0, .inr (11, [.int 0, .ref (v 1), .ref (v 2), .ref (v 3), .ref (v 4), .ref (v 5), .int 0, .int 0, .int 0, .int 0, .int 0, .long 0, .int 0, .int 0, .int 0, .int (-1), .ref (v 16), .ref (v 17), .ref (v 18), .ref (v 19), .ref (v 20), .ref (v 21), .ref (v 22), .ref (v 23), .ref (v 24), .ref (v 25), .ref (v 26), .ref (v 27), .ref (v 28), .ref (v 29), .ref (v 30), .ref (v 31), .ref (v 32), .int 0, .int 0, .int 0, .ref (v 36), .int 0, .int 0, .int 0, .ref (v 40), .ref (v 41), .ref (v 42), .int 0, .long 0])), ((v 17), .inl (T 0, 15, .inl (fun _ => 0)))]) [154, 161] rfl) (hD.sub (ws' := [(m0, .inr (11, [.int 0, .ref (v 1), .ref (v 2), .ref (v 3), .ref (v 4), .ref (v 5), .int 0, .int 0, .int 0, .int 0, .int 0, .long 0, .int 0, .int 0, .int 0, .int (-1), .ref (v 16), .ref (v 17), .ref (v 18), .ref (v 19), .ref (v 20), .ref (v 21), .ref (v 22), .ref (v 23), .ref (v 24), .ref (v 25), .ref (v 26), .ref (v 27), .ref (v 28), .ref (v 29), .ref (v 30), .ref (v 31), .ref (v 32), .int 0, .int 0, .int 0, .ref (v 36), .int 0, .int 0, .int 0, .ref (v 40), .ref (v 41), .ref (v 42), .int 0, .long 0])), ((v 17), .inl (T 0, 15, .inl (fun _ => 0)))]) [154, 161] (by decide) rfl)) (va_recv hK hP (ci := 11) (q0 := 154) rfl rfl) rfl hl.1 rfl (Nat.le_of_ble_eq_true rfl) dL_law_1606 ⟨(Nat.le_of_ble_eq_true rfl), (Nat.le_of_ble_eq_true rfl)⟩) hS hA hP hD [154, 161] [] rfl rfl (by decide) (by decide) (fun r_4 u_5 H locs hw hP hD hS => ?_)
  have c_6 : r_4 = (-2) := hw
  refine lv_icmp_eq (tgt := 1862) hx hb dL_law_1609 (by decide) (fun _ => ?_) (fun h => absurd (c_3.trans c_6.symm) h)
  refine lv_iinc (v := 6) (lv' := [(3, .int 6), (2, .ref m0), (1, .ref x0), (0, .ref b)]) hx hb dL_law_1862 hl (k := 0) rfl (by decide) (by decide) rfl (fun ls hl => ?_)
  refine lv_goto (tgt := 18) hx hb dL_law_1865 (by decide) ?_
  refine lv_iload_n hx hb dL_law_18 rfl (lv_at hl 0 rfl) ?_
  refine lv_aload_n hx hb dL_law_19 rfl (lv_at hl 3 rfl) ?_
  refine va_slen hx hb hX hbl hbA hS dL_law_20 ?_
  refine eqi (v := 6) (by decide) ?_
  refine lv_bipush (v := 6) hx hb dL_law_21 (by decide) ?_
  refine lv_isub hx hb dL_law_23 ?_
  refine eqi (v := 0) (by decide) ?_
  refine lv_icmp_gt (tgt := 1868) hx hb dL_law_24 (by decide) (fun _ => ?_) (fun c_7 => absurd (by decide) c_7)
  refine lv_iconst (v := 1) hx hb dL_law_1868 (by decide) ?_
  refine va_forget (fun q hq => hS.2.2 q hq) ?_
  refine W.widen (k := 600000) (n := 7302250) (Nat.le_of_ble_eq_true rfl) (Nat.le_of_ble_eq_true rfl) ?_
  exact lw_ret hx hb hr hlocks dL_law_1869

set_option maxHeartbeats 4000000 in
set_option maxRecDepth 100000 in
theorem lawcase_47 {p : Program} {e : Env} {s : State} {m : MethodId} {below : List Frame} {meth : Method} {c : Code} (l : Launch) {b : Nat} {xs : Nat → Int32} (C0 : lw_At p s m meth c b 6 xs) {D : va_G} {T : Nat → ClassId} (hC : cx D T s) {H : Heap} {locs : List Loc} (x0 m0 : Nat) (u v : Nat → Nat) (hP : va_P D vwCl (lawW T x0 m0 u v) H) (hD : va_D (fun q : Nat => s.heap.size ≤ q) (lawW T x0 m0 u v)) (hS : va_S (fun q : Nat => s.heap.size ≤ q) s.heap H locs) {ls : Array Slot} (hl : lv_has ls 4 [(3, .int 0), (2, .ref m0), (1, .ref x0), (0, .ref b)]) : W p l e room_1 s m #[Value.ref b] below meth c H locs 181 83004 (lw_Z below #[Value.ref b] s) (F0 m 1614 ls []) := by
  obtain ⟨hx, hb, hr, hml, hown, hts0, hX, hbl, hlocks, hgv⟩ := id C0
  have hts : ∀ w ∈ gt, w.before #[Value.ref b] s = true := fun w hw => hts0 w (List.mem_filter.mp hw).1
  have hown : s.vm.findClass RL = some m.cls := hown
  have hb : c.code = cL_law := hb
  have hA : ∀ q : Nat, s.heap.size ≤ q → (fun q : Nat => s.heap.size ≤ q) q := fun _ h => h
  have hbA : ¬ (fun q : Nat => s.heap.size ≤ q) b := Nat.not_le.mpr hbl
  have hK := hC.1
  refine lv_aload_n hx hb dL_law_1614 rfl (lv_at hl 2 rfl) ?_
  refine lv_aload_n hx hb dL_law_1615 rfl (lv_at hl 3 rfl) ?_
  refine lv_iload_n hx hb dL_law_1616 rfl (lv_at hl 0 rfl) ?_
  refine lv_iconst (v := 1) hx hb dL_law_1617 (by decide) ?_
  refine lv_iadd hx hb dL_law_1618 ?_
  refine eqi (v := 1) (by decide) ?_
  refine va_sld hx hb hX hbl hbA hS (by unfold vp_in; decide) dL_law_1619 ?_
  refine eqi (v := xs 1) rfl ?_
  refine puI (cV (As := [.int (xs 1)]) (rest := []) ⟨hx, hb, hml, hown, hts⟩ (c_X10_count l D T x0 (u 0) (u 1) (u 2) (u 15) (u 16) (u 17) (u 18) (u 19) (u 20) (u 21) (u 22) (u 23) (u 24) (u 25) (u 26) (u 27) (u 36) (u 37) (u 38) (u 130) (u 131) (u 132) (u 133) (u 134) (u 135) (u 136) (u 137) (u 138) (u 139) (u 140) (u 141) (u 144) (u 150) (u 151) (xs 1)) k_X10_count v_X10_count m1261 rfl rfl ⟨(Nat.le_of_ble_eq_true rfl), (Nat.le_of_ble_eq_true rfl)⟩ (preP hC (hP.sub (ws' := [(x0, .inr (10, [.ref (u 0), .ref (u 2), .ref (u 15), .ref (u 38), .ref (u 130), .ref (u 131), .ref (u 132), .ref (u 141), .ref (u 144), .ref (u 150), .ref (u 151)])), ((u 0), .inr (4, [.ref (u 1), .int 0])), ((u 15), .inr (3, [.ref (u 16), .ref (u 27), .int 0, .int 0, .int 2, .long 0, .int 0, .ref (u 36), .ref (u 37)])), ((u 16), .inr (5, [.int 0, .int 0, .int 0, .int 0, .int 0, .int 0, .int 0, .int 0, .int 0, .ref (u 17), .ref (u 18), .ref (u 19), .ref (u 20), .ref (u 21), .ref (u 22), .ref (u 23), .ref (u 24), .ref (u 25), .ref (u 26)])), ((u 132), .inl (T 4, 4, .inr (.inr (.inr (.inr (va_up (va_up (va_up (va_up (fun _ => none) 0 (some (u 133))) 1 (some (u 135))) 2 (some (u 137))) 3 (some (u 139)))))))), ((u 133), .inr (2, [.ref (u 134), .int 0, .int (-1)])), ((u 135), .inr (2, [.ref (u 136), .int 0, .int (-1)])), ((u 137), .inr (2, [.ref (u 138), .int 0, .int (-1)])), ((u 139), .inr (2, [.ref (u 140), .int 0, .int (-1)]))]) [0, 1, 16, 17, 133, 134, 136, 138, 140] rfl)) (va_recv hK hP (ci := 10) (q0 := 0) rfl rfl) rfl hl.1 rfl (Nat.le_of_ble_eq_true rfl) dL_law_1620 ⟨(Nat.le_of_ble_eq_true rfl), (Nat.le_of_ble_eq_true rfl)⟩) hS hP (fun r_1 H locs hw hP hS => ?_)
  have c_3 : r_1 = a_count (xs 1) := hw
  refine lv_aload_n hx hb dL_law_1623 rfl (lv_at hl 1 rfl) ?_
  refine lv_aload_n hx hb dL_law_1624 rfl (lv_at hl 3 rfl) ?_
  refine lv_iload_n hx hb dL_law_1625 rfl (lv_at hl 0 rfl) ?_
  refine lv_iconst (v := 1) hx hb dL_law_1626 (by decide) ?_
  refine lv_iadd hx hb dL_law_1627 ?_
  refine eqi (v := 1) (by decide) ?_
  refine va_sld hx hb hX hbl hbA hS (by unfold vp_in; decide) dL_law_1628 ?_
  refine eqi (v := xs 1) rfl ?_
  refine mtId (wr := []) (cV (As := [.int (xs 1)]) (rest := [.int r_1]) ⟨hx, hb, hml, hown, hts⟩ (c_m_count l D T (v 1) (v 16) (v 17) (v 18) (v 19) (v 2) (v 20) (v 21) (v 22) (v 23) (v 24) (v 25) (v 26) (v 27) (v 28) (v 29) (v 3) (v 30) (v 31) (v 32) (v 36) (v 4) (v 40) (v 41) (v 42) (v 5) m0 (xs 1) _) k_X11_count v_X11_count m1983 rfl rfl ⟨(Nat.le_of_ble_eq_true rfl), (Nat.le_of_ble_eq_true rfl)⟩ (preM hC (hP.sub (ws' := [(m0, .inr (11, [.int 0, .ref (v 1), .ref (v 2), .ref (v 3), .ref (v 4), .ref (v 5), .int 0, .int 0, .int 0, .int 0, .int 0, .long 0, .int 0, .int 0, .int 0, .int (-1), .ref (v 16), .ref (v 17), .ref (v 18), .ref (v 19), .ref (v 20), .ref (v 21), .ref (v 22), .ref (v 23), .ref (v 24), .ref (v 25), .ref (v 26), .ref (v 27), .ref (v 28), .ref (v 29), .ref (v 30), .ref (v 31), .ref (v 32), .int 0, .int 0, .int 0, .ref (v 36), .int 0, .int 0, .int 0, .ref (v 40), .ref (v 41), .ref (v 42), .int 0, .long 0])), ((v 1), .inl (T 0, 4, .inl (upd (upd (upd (upd (fun _ => 0) 0 (-1)) 1 (-1)) 2 (-1)) 3 (-1)))), ((v 16), .inl (T 0, 5, .inl (fun _ => 0))), ((v 17), .inl (T 0, 15, .inl (fun _ => 0))), ((v 18), .inl (T 0, 5, .inl (fun _ => 0))), ((v 20), .inl (T 0, 5, .inl (fun _ => 0))), ((v 22), .inl (T 0, 15, .inl (fun _ => 0))), ((v 29), .inl (T 0, 15, .inl (upd (upd (upd (fun _ => 0) 0 0) 1 2) 2 0)))]) [154, 155, 160, 161, 162, 164, 166, 173] rfl) (hD.sub (ws' := [(m0, .inr (11, [.int 0, .ref (v 1), .ref (v 2), .ref (v 3), .ref (v 4), .ref (v 5), .int 0, .int 0, .int 0, .int 0, .int 0, .long 0, .int 0, .int 0, .int 0, .int (-1), .ref (v 16), .ref (v 17), .ref (v 18), .ref (v 19), .ref (v 20), .ref (v 21), .ref (v 22), .ref (v 23), .ref (v 24), .ref (v 25), .ref (v 26), .ref (v 27), .ref (v 28), .ref (v 29), .ref (v 30), .ref (v 31), .ref (v 32), .int 0, .int 0, .int 0, .ref (v 36), .int 0, .int 0, .int 0, .ref (v 40), .ref (v 41), .ref (v 42), .int 0, .long 0])), ((v 1), .inl (T 0, 4, .inl (upd (upd (upd (upd (fun _ => 0) 0 (-1)) 1 (-1)) 2 (-1)) 3 (-1)))), ((v 16), .inl (T 0, 5, .inl (fun _ => 0))), ((v 17), .inl (T 0, 15, .inl (fun _ => 0))), ((v 18), .inl (T 0, 5, .inl (fun _ => 0))), ((v 20), .inl (T 0, 5, .inl (fun _ => 0))), ((v 22), .inl (T 0, 15, .inl (fun _ => 0))), ((v 29), .inl (T 0, 15, .inl (upd (upd (upd (fun _ => 0) 0 0) 1 2) 2 0)))]) [154, 155, 160, 161, 162, 164, 166, 173] (by decide) rfl)) (va_recv hK hP (ci := 11) (q0 := 154) rfl rfl) rfl hl.1 rfl (Nat.le_of_ble_eq_true rfl) dL_law_1629 ⟨(Nat.le_of_ble_eq_true rfl), (Nat.le_of_ble_eq_true rfl)⟩) hS hA hP hD [154, 155, 160, 161, 162, 164, 166, 173] [] rfl rfl (by decide) (by decide) (fun r_4 u_5 H locs hw hP hD hS => ?_)
  have c_6 : r_4 = a_count (xs 1) := hw
  refine lv_icmp_eq (tgt := 1862) hx hb dL_law_1632 (by decide) (fun _ => ?_) (fun h => absurd (c_3.trans c_6.symm) h)
  refine lv_iinc (v := 6) (lv' := [(3, .int 6), (2, .ref m0), (1, .ref x0), (0, .ref b)]) hx hb dL_law_1862 hl (k := 0) rfl (by decide) (by decide) rfl (fun ls hl => ?_)
  refine lv_goto (tgt := 18) hx hb dL_law_1865 (by decide) ?_
  refine lv_iload_n hx hb dL_law_18 rfl (lv_at hl 0 rfl) ?_
  refine lv_aload_n hx hb dL_law_19 rfl (lv_at hl 3 rfl) ?_
  refine va_slen hx hb hX hbl hbA hS dL_law_20 ?_
  refine eqi (v := 6) (by decide) ?_
  refine lv_bipush (v := 6) hx hb dL_law_21 (by decide) ?_
  refine lv_isub hx hb dL_law_23 ?_
  refine eqi (v := 0) (by decide) ?_
  refine lv_icmp_gt (tgt := 1868) hx hb dL_law_24 (by decide) (fun _ => ?_) (fun c_7 => absurd (by decide) c_7)
  refine lv_iconst (v := 1) hx hb dL_law_1868 (by decide) ?_
  refine va_forget (fun q hq => hS.2.2 q hq) ?_
  refine W.widen (k := 600000) (n := 7302250) (Nat.le_of_ble_eq_true rfl) (Nat.le_of_ble_eq_true rfl) ?_
  exact lw_ret hx hb hr hlocks dL_law_1869

set_option maxHeartbeats 4000000 in
set_option maxRecDepth 100000 in
theorem lawcase_48 {p : Program} {e : Env} {s : State} {m : MethodId} {below : List Frame} {meth : Method} {c : Code} (l : Launch) {b : Nat} {xs : Nat → Int32} (C0 : lw_At p s m meth c b 6 xs) {D : va_G} {T : Nat → ClassId} (hC : cx D T s) {H : Heap} {locs : List Loc} (x0 m0 : Nat) (u v : Nat → Nat) (hP : va_P D vwCl (lawW T x0 m0 u v) H) (hD : va_D (fun q : Nat => s.heap.size ≤ q) (lawW T x0 m0 u v)) (hS : va_S (fun q : Nat => s.heap.size ≤ q) s.heap H locs) {ls : Array Slot} (hl : lv_has ls 4 [(3, .int 0), (2, .ref m0), (1, .ref x0), (0, .ref b)]) : W p l e room_1 s m #[Value.ref b] below meth c H locs 181 83004 (lw_Z below #[Value.ref b] s) (F0 m 1637 ls []) := by
  obtain ⟨hx, hb, hr, hml, hown, hts0, hX, hbl, hlocks, hgv⟩ := id C0
  have hts : ∀ w ∈ gt, w.before #[Value.ref b] s = true := fun w hw => hts0 w (List.mem_filter.mp hw).1
  have hown : s.vm.findClass RL = some m.cls := hown
  have hb : c.code = cL_law := hb
  have hA : ∀ q : Nat, s.heap.size ≤ q → (fun q : Nat => s.heap.size ≤ q) q := fun _ h => h
  have hbA : ¬ (fun q : Nat => s.heap.size ≤ q) b := Nat.not_le.mpr hbl
  have hK := hC.1
  refine lv_aload_n hx hb dL_law_1637 rfl (lv_at hl 2 rfl) ?_
  refine lv_aload_n hx hb dL_law_1638 rfl (lv_at hl 3 rfl) ?_
  refine lv_iload_n hx hb dL_law_1639 rfl (lv_at hl 0 rfl) ?_
  refine lv_iconst (v := 1) hx hb dL_law_1640 (by decide) ?_
  refine lv_iadd hx hb dL_law_1641 ?_
  refine eqi (v := 1) (by decide) ?_
  refine va_sld hx hb hX hbl hbA hS (by unfold vp_in; decide) dL_law_1642 ?_
  refine eqi (v := xs 1) rfl ?_
  refine mtId (wr := [(m0, .inr (11, [.int 0, .ref (v 1), .ref (v 2), .ref (v 3), .ref (v 4), .ref (v 5), .int 0, .int 0, .int 0, .int 0, .int 0, .long 0, .int 0, .int 0, .int 0, .int (-1), .ref (v 16), .ref (v 17), .ref (v 18), .ref (v 19), .ref (v 20), .ref (v 21), .ref (v 22), .ref (v 23), .ref (v 24), .ref (v 25), .ref (v 26), .ref (v 27), .ref (v 28), .ref (v 29), .ref (v 30), .ref (v 31), .ref (v 32), .int 0, .int 0, .int 0, .ref (v 36), .int 0, .int 0, .int 0, .ref (v 40), .ref (v 41), .ref (v 42), .int 0, .long 0])), ((v 1), .inl (T 0, 4, .inl (upd (upd (upd (upd (fun _ => 0) 0 (-1)) 1 (-1)) 2 (-1)) 3 (-1)))), ((v 2), .inl (T 0, 4, .inl (fun _ => 0))), ((v 3), .inl (T 2, 240, .inr (.inl (fun _ => 0)))), ((v 4), .inl (T 2, 60, .inr (.inl (fun _ => 0)))), ((v 5), .inl (T 1, 1600, .inl (fun _ => 0))), ((v 16), .inl (T 0, 5, .inl (fun _ => 0))), ((v 17), .inl (T 0, 15, .inl (fun _ => 0))), ((v 18), .inl (T 0, 5, .inl (fun _ => 0))), ((v 19), .inl (T 0, 75, .inl (fun _ => 0))), ((v 20), .inl (T 0, 5, .inl (fun _ => 0))), ((v 21), .inl (T 0, 400, .inl (fun _ => 0))), ((v 22), .inl (T 0, 15, .inl (fun _ => 0))), ((v 23), .inl (T 3, 15, .inl (fun _ => 0))), ((v 24), .inl (T 0, 80, .inl (fun _ => 0))), ((v 25), .inl (T 0, 960, .inl (fun _ => 0))), ((v 26), .inl (T 0, 960, .inl (fun _ => 0))), ((v 27), .inl (T 0, 960, .inl (fun _ => 0))), ((v 28), .inl (T 0, 25, .inl (fun _ => 0))), ((v 29), .inl (T 0, 15, .inl (upd (upd (upd (fun _ => 0) 0 0) 1 2) 2 0))), ((v 30), .inl (T 0, 500, .inl (fun _ => 0))), ((v 31), .inl (T 0, 1000, .inl (fun _ => 0))), ((v 32), .inl (T 3, 3, .inl (fun _ => 0))), ((v 36), .inl (T 0, 3, .inl (fun _ => 0))), ((v 40), .inl (T 0, 97, .inl (fun _ => 0))), ((v 41), .inl (T 2, 65536, .inr (.inl (fun _ => 0)))), ((v 42), .inl (T 0, 16, .inl (fun _ => 0)))]) (cV (As := [.int (xs 1)]) (rest := []) ⟨hx, hb, hml, hown, hts⟩ (c_X10_keep l D T x0 (u 0) (u 2) (u 15) (u 16) (u 17) (u 18) (u 19) (u 20) (u 21) (u 22) (u 23) (u 24) (u 25) (u 26) (u 27) (u 28) (u 29) (u 30) (u 31) (u 32) (u 33) (u 34) (u 35) (u 36) (u 37) (u 38) (u 61) (u 62) (u 63) (u 64) (u 65) (u 66) (u 67) (u 68) (u 69) (u 70) (u 71) (u 72) (u 73) (u 74) (u 75) (u 76) (u 77) (u 78) (u 79) (u 80) (u 81) (u 82) (u 83) (u 84) (u 85) (u 86) (u 87) (u 88) (u 89) (u 90) (u 91) (u 92) (u 93) (u 94) (u 95) (u 96) (u 97) (u 98) (u 99) (u 100) (u 101) (u 102) (u 103) (u 104) (u 105) (u 106) (u 107) (u 108) (u 109) (u 110) (u 111) (u 112) (u 113) (u 114) (u 115) (u 116) (u 117) (u 118) (u 119) (u 120) (u 121) (u 122) (u 123) (u 124) (u 125) (u 126) (u 127) (u 128) (u 129) (u 130) (u 131) (u 132) (u 141) (u 144) (u 150) (u 151) (xs 1) _) k_X10_keep v_X10_keep m1273 rfl rfl ⟨(Nat.le_of_ble_eq_true rfl), (Nat.le_of_ble_eq_true rfl)⟩ (preM hC (hP.sub (ws' := [(x0, .inr (10, [.ref (u 0), .ref (u 2), .ref (u 15), .ref (u 38), .ref (u 130), .ref (u 131), .ref (u 132), .ref (u 141), .ref (u 144), .ref (u 150), .ref (u 151)])), ((u 15), .inr (3, [.ref (u 16), .ref (u 27), .int 0, .int 0, .int 2, .long 0, .int 0, .ref (u 36), .ref (u 37)])), ((u 16), .inr (5, [.int 0, .int 0, .int 0, .int 0, .int 0, .int 0, .int 0, .int 0, .int 0, .ref (u 17), .ref (u 18), .ref (u 19), .ref (u 20), .ref (u 21), .ref (u 22), .ref (u 23), .ref (u 24), .ref (u 25), .ref (u 26)])), ((u 17), .inl (T 0, 5, .inl (fun _ => 0))), ((u 18), .inl (T 0, 5, .inl (fun _ => 0))), ((u 19), .inl (T 0, 5, .inl (fun _ => 0))), ((u 20), .inl (T 0, 10, .inl (fun _ => 0))), ((u 21), .inl (T 0, 10, .inl (fun _ => 0))), ((u 22), .inl (T 0, 10, .inl (fun _ => 0))), ((u 23), .inl (T 0, 10, .inl (fun _ => 0))), ((u 24), .inl (T 0, 10, .inl (fun _ => 0))), ((u 25), .inl (T 0, 10, .inl (fun _ => 0))), ((u 26), .inl (T 0, 10, .inl (fun _ => 0))), ((u 27), .inr (7, [.ref (u 16), .ref (u 28), .ref (u 29), .ref (u 30), .ref (u 31), .ref (u 32), .ref (u 33), .ref (u 34), .ref (u 35)])), ((u 28), .inl (T 0, 16, .inl (fun _ => 0))), ((u 29), .inl (T 0, 5, .inl (fun _ => 0))), ((u 30), .inl (T 0, 192, .inl (fun _ => 0))), ((u 31), .inl (T 0, 192, .inl (fun _ => 0))), ((u 32), .inl (T 0, 192, .inl (fun _ => 0))), ((u 33), .inl (T 0, 2, .inl (fun _ => 0))), ((u 34), .inl (T 0, 2, .inl (fun _ => 0))), ((u 35), .inl (T 0, 208, .inl (fun _ => 0))), ((u 36), .inl (T 0, 100, .inl (fun _ => 0))), ((u 37), .inl (T 0, 200, .inl (fun _ => 0))), ((u 61), .inr (3, [.ref (u 62), .ref (u 73), .int 0, .int 0, .int 2, .long 0, .int 0, .ref (u 82), .ref (u 83)])), ((u 62), .inr (5, [.int 0, .int 0, .int 0, .int 0, .int 0, .int 0, .int 0, .int 0, .int 0, .ref (u 63), .ref (u 64), .ref (u 65), .ref (u 66), .ref (u 67), .ref (u 68), .ref (u 69), .ref (u 70), .ref (u 71), .ref (u 72)])), ((u 63), .inl (T 0, 5, .inl (fun _ => 0))), ((u 64), .inl (T 0, 5, .inl (fun _ => 0))), ((u 65), .inl (T 0, 5, .inl (fun _ => 0))), ((u 66), .inl (T 0, 10, .inl (fun _ => 0))), ((u 67), .inl (T 0, 10, .inl (fun _ => 0))), ((u 68), .inl (T 0, 10, .inl (fun _ => 0))), ((u 69), .inl (T 0, 10, .inl (fun _ => 0))), ((u 70), .inl (T 0, 10, .inl (fun _ => 0))), ((u 71), .inl (T 0, 10, .inl (fun _ => 0))), ((u 72), .inl (T 0, 10, .inl (fun _ => 0))), ((u 73), .inr (7, [.ref (u 62), .ref (u 74), .ref (u 75), .ref (u 76), .ref (u 77), .ref (u 78), .ref (u 79), .ref (u 80), .ref (u 81)])), ((u 74), .inl (T 0, 16, .inl (fun _ => 0))), ((u 75), .inl (T 0, 5, .inl (fun _ => 0))), ((u 76), .inl (T 0, 192, .inl (fun _ => 0))), ((u 77), .inl (T 0, 192, .inl (fun _ => 0))), ((u 78), .inl (T 0, 192, .inl (fun _ => 0))), ((u 79), .inl (T 0, 2, .inl (fun _ => 0))), ((u 80), .inl (T 0, 2, .inl (fun _ => 0))), ((u 81), .inl (T 0, 208, .inl (fun _ => 0))), ((u 82), .inl (T 0, 100, .inl (fun _ => 0))), ((u 83), .inl (T 0, 200, .inl (fun _ => 0))), ((u 84), .inr (3, [.ref (u 85), .ref (u 96), .int 0, .int 0, .int 2, .long 0, .int 0, .ref (u 105), .ref (u 106)])), ((u 85), .inr (5, [.int 0, .int 0, .int 0, .int 0, .int 0, .int 0, .int 0, .int 0, .int 0, .ref (u 86), .ref (u 87), .ref (u 88), .ref (u 89), .ref (u 90), .ref (u 91), .ref (u 92), .ref (u 93), .ref (u 94), .ref (u 95)])), ((u 86), .inl (T 0, 5, .inl (fun _ => 0))), ((u 87), .inl (T 0, 5, .inl (fun _ => 0))), ((u 88), .inl (T 0, 5, .inl (fun _ => 0))), ((u 89), .inl (T 0, 10, .inl (fun _ => 0))), ((u 90), .inl (T 0, 10, .inl (fun _ => 0))), ((u 91), .inl (T 0, 10, .inl (fun _ => 0))), ((u 92), .inl (T 0, 10, .inl (fun _ => 0))), ((u 93), .inl (T 0, 10, .inl (fun _ => 0))), ((u 94), .inl (T 0, 10, .inl (fun _ => 0))), ((u 95), .inl (T 0, 10, .inl (fun _ => 0))), ((u 96), .inr (7, [.ref (u 85), .ref (u 97), .ref (u 98), .ref (u 99), .ref (u 100), .ref (u 101), .ref (u 102), .ref (u 103), .ref (u 104)])), ((u 97), .inl (T 0, 16, .inl (fun _ => 0))), ((u 98), .inl (T 0, 5, .inl (fun _ => 0))), ((u 99), .inl (T 0, 192, .inl (fun _ => 0))), ((u 100), .inl (T 0, 192, .inl (fun _ => 0))), ((u 101), .inl (T 0, 192, .inl (fun _ => 0))), ((u 102), .inl (T 0, 2, .inl (fun _ => 0))), ((u 103), .inl (T 0, 2, .inl (fun _ => 0))), ((u 104), .inl (T 0, 208, .inl (fun _ => 0))), ((u 105), .inl (T 0, 100, .inl (fun _ => 0))), ((u 106), .inl (T 0, 200, .inl (fun _ => 0))), ((u 107), .inr (3, [.ref (u 108), .ref (u 119), .int 0, .int 0, .int 2, .long 0, .int 0, .ref (u 128), .ref (u 129)])), ((u 108), .inr (5, [.int 0, .int 0, .int 0, .int 0, .int 0, .int 0, .int 0, .int 0, .int 0, .ref (u 109), .ref (u 110), .ref (u 111), .ref (u 112), .ref (u 113), .ref (u 114), .ref (u 115), .ref (u 116), .ref (u 117), .ref (u 118)])), ((u 109), .inl (T 0, 5, .inl (fun _ => 0))), ((u 110), .inl (T 0, 5, .inl (fun _ => 0))), ((u 111), .inl (T 0, 5, .inl (fun _ => 0))), ((u 112), .inl (T 0, 10, .inl (fun _ => 0))), ((u 113), .inl (T 0, 10, .inl (fun _ => 0))), ((u 114), .inl (T 0, 10, .inl (fun _ => 0))), ((u 115), .inl (T 0, 10, .inl (fun _ => 0))), ((u 116), .inl (T 0, 10, .inl (fun _ => 0))), ((u 117), .inl (T 0, 10, .inl (fun _ => 0))), ((u 118), .inl (T 0, 10, .inl (fun _ => 0))), ((u 119), .inr (7, [.ref (u 108), .ref (u 120), .ref (u 121), .ref (u 122), .ref (u 123), .ref (u 124), .ref (u 125), .ref (u 126), .ref (u 127)])), ((u 120), .inl (T 0, 16, .inl (fun _ => 0))), ((u 121), .inl (T 0, 5, .inl (fun _ => 0))), ((u 122), .inl (T 0, 192, .inl (fun _ => 0))), ((u 123), .inl (T 0, 192, .inl (fun _ => 0))), ((u 124), .inl (T 0, 192, .inl (fun _ => 0))), ((u 125), .inl (T 0, 2, .inl (fun _ => 0))), ((u 126), .inl (T 0, 2, .inl (fun _ => 0))), ((u 127), .inl (T 0, 208, .inl (fun _ => 0))), ((u 128), .inl (T 0, 100, .inl (fun _ => 0))), ((u 129), .inl (T 0, 200, .inl (fun _ => 0))), ((u 130), .inl (T 5, 3, .inr (.inr (.inr (.inr (va_up (va_up (va_up (fun _ => none) 0 (some (u 61))) 1 (some (u 84))) 2 (some (u 107)))))))), ((u 131), .inl (T 3, 3, .inl (fun _ => 0)))]) [0, 16, 17, 18, 19, 20, 21, 22, 23, 24, 25, 26, 27, 28, 29, 30, 31, 32, 33, 34, 35, 36, 37, 38, 62, 63, 64, 65, 66, 67, 68, 69, 70, 71, 72, 73, 74, 75, 76, 77, 78, 79, 80, 81, 82, 83, 84, 85, 86, 87, 88, 89, 90, 91, 92, 93, 94, 95, 96, 97, 98, 99, 100, 101, 102, 103, 104, 105, 106, 107, 108, 109, 110, 111, 112, 113, 114, 115, 116, 117, 118, 119, 120, 121, 122, 123, 124, 125, 126, 127, 128, 129, 130, 131, 132] rfl) (hD.sub (ws' := [(x0, .inr (10, [.ref (u 0), .ref (u 2), .ref (u 15), .ref (u 38), .ref (u 130), .ref (u 131), .ref (u 132), .ref (u 141), .ref (u 144), .ref (u 150), .ref (u 151)])), ((u 15), .inr (3, [.ref (u 16), .ref (u 27), .int 0, .int 0, .int 2, .long 0, .int 0, .ref (u 36), .ref (u 37)])), ((u 16), .inr (5, [.int 0, .int 0, .int 0, .int 0, .int 0, .int 0, .int 0, .int 0, .int 0, .ref (u 17), .ref (u 18), .ref (u 19), .ref (u 20), .ref (u 21), .ref (u 22), .ref (u 23), .ref (u 24), .ref (u 25), .ref (u 26)])), ((u 17), .inl (T 0, 5, .inl (fun _ => 0))), ((u 18), .inl (T 0, 5, .inl (fun _ => 0))), ((u 19), .inl (T 0, 5, .inl (fun _ => 0))), ((u 20), .inl (T 0, 10, .inl (fun _ => 0))), ((u 21), .inl (T 0, 10, .inl (fun _ => 0))), ((u 22), .inl (T 0, 10, .inl (fun _ => 0))), ((u 23), .inl (T 0, 10, .inl (fun _ => 0))), ((u 24), .inl (T 0, 10, .inl (fun _ => 0))), ((u 25), .inl (T 0, 10, .inl (fun _ => 0))), ((u 26), .inl (T 0, 10, .inl (fun _ => 0))), ((u 27), .inr (7, [.ref (u 16), .ref (u 28), .ref (u 29), .ref (u 30), .ref (u 31), .ref (u 32), .ref (u 33), .ref (u 34), .ref (u 35)])), ((u 28), .inl (T 0, 16, .inl (fun _ => 0))), ((u 29), .inl (T 0, 5, .inl (fun _ => 0))), ((u 30), .inl (T 0, 192, .inl (fun _ => 0))), ((u 31), .inl (T 0, 192, .inl (fun _ => 0))), ((u 32), .inl (T 0, 192, .inl (fun _ => 0))), ((u 33), .inl (T 0, 2, .inl (fun _ => 0))), ((u 34), .inl (T 0, 2, .inl (fun _ => 0))), ((u 35), .inl (T 0, 208, .inl (fun _ => 0))), ((u 36), .inl (T 0, 100, .inl (fun _ => 0))), ((u 37), .inl (T 0, 200, .inl (fun _ => 0))), ((u 61), .inr (3, [.ref (u 62), .ref (u 73), .int 0, .int 0, .int 2, .long 0, .int 0, .ref (u 82), .ref (u 83)])), ((u 62), .inr (5, [.int 0, .int 0, .int 0, .int 0, .int 0, .int 0, .int 0, .int 0, .int 0, .ref (u 63), .ref (u 64), .ref (u 65), .ref (u 66), .ref (u 67), .ref (u 68), .ref (u 69), .ref (u 70), .ref (u 71), .ref (u 72)])), ((u 63), .inl (T 0, 5, .inl (fun _ => 0))), ((u 64), .inl (T 0, 5, .inl (fun _ => 0))), ((u 65), .inl (T 0, 5, .inl (fun _ => 0))), ((u 66), .inl (T 0, 10, .inl (fun _ => 0))), ((u 67), .inl (T 0, 10, .inl (fun _ => 0))), ((u 68), .inl (T 0, 10, .inl (fun _ => 0))), ((u 69), .inl (T 0, 10, .inl (fun _ => 0))), ((u 70), .inl (T 0, 10, .inl (fun _ => 0))), ((u 71), .inl (T 0, 10, .inl (fun _ => 0))), ((u 72), .inl (T 0, 10, .inl (fun _ => 0))), ((u 73), .inr (7, [.ref (u 62), .ref (u 74), .ref (u 75), .ref (u 76), .ref (u 77), .ref (u 78), .ref (u 79), .ref (u 80), .ref (u 81)])), ((u 74), .inl (T 0, 16, .inl (fun _ => 0))), ((u 75), .inl (T 0, 5, .inl (fun _ => 0))), ((u 76), .inl (T 0, 192, .inl (fun _ => 0))), ((u 77), .inl (T 0, 192, .inl (fun _ => 0))), ((u 78), .inl (T 0, 192, .inl (fun _ => 0))), ((u 79), .inl (T 0, 2, .inl (fun _ => 0))), ((u 80), .inl (T 0, 2, .inl (fun _ => 0))), ((u 81), .inl (T 0, 208, .inl (fun _ => 0))), ((u 82), .inl (T 0, 100, .inl (fun _ => 0))), ((u 83), .inl (T 0, 200, .inl (fun _ => 0))), ((u 84), .inr (3, [.ref (u 85), .ref (u 96), .int 0, .int 0, .int 2, .long 0, .int 0, .ref (u 105), .ref (u 106)])), ((u 85), .inr (5, [.int 0, .int 0, .int 0, .int 0, .int 0, .int 0, .int 0, .int 0, .int 0, .ref (u 86), .ref (u 87), .ref (u 88), .ref (u 89), .ref (u 90), .ref (u 91), .ref (u 92), .ref (u 93), .ref (u 94), .ref (u 95)])), ((u 86), .inl (T 0, 5, .inl (fun _ => 0))), ((u 87), .inl (T 0, 5, .inl (fun _ => 0))), ((u 88), .inl (T 0, 5, .inl (fun _ => 0))), ((u 89), .inl (T 0, 10, .inl (fun _ => 0))), ((u 90), .inl (T 0, 10, .inl (fun _ => 0))), ((u 91), .inl (T 0, 10, .inl (fun _ => 0))), ((u 92), .inl (T 0, 10, .inl (fun _ => 0))), ((u 93), .inl (T 0, 10, .inl (fun _ => 0))), ((u 94), .inl (T 0, 10, .inl (fun _ => 0))), ((u 95), .inl (T 0, 10, .inl (fun _ => 0))), ((u 96), .inr (7, [.ref (u 85), .ref (u 97), .ref (u 98), .ref (u 99), .ref (u 100), .ref (u 101), .ref (u 102), .ref (u 103), .ref (u 104)])), ((u 97), .inl (T 0, 16, .inl (fun _ => 0))), ((u 98), .inl (T 0, 5, .inl (fun _ => 0))), ((u 99), .inl (T 0, 192, .inl (fun _ => 0))), ((u 100), .inl (T 0, 192, .inl (fun _ => 0))), ((u 101), .inl (T 0, 192, .inl (fun _ => 0))), ((u 102), .inl (T 0, 2, .inl (fun _ => 0))), ((u 103), .inl (T 0, 2, .inl (fun _ => 0))), ((u 104), .inl (T 0, 208, .inl (fun _ => 0))), ((u 105), .inl (T 0, 100, .inl (fun _ => 0))), ((u 106), .inl (T 0, 200, .inl (fun _ => 0))), ((u 107), .inr (3, [.ref (u 108), .ref (u 119), .int 0, .int 0, .int 2, .long 0, .int 0, .ref (u 128), .ref (u 129)])), ((u 108), .inr (5, [.int 0, .int 0, .int 0, .int 0, .int 0, .int 0, .int 0, .int 0, .int 0, .ref (u 109), .ref (u 110), .ref (u 111), .ref (u 112), .ref (u 113), .ref (u 114), .ref (u 115), .ref (u 116), .ref (u 117), .ref (u 118)])), ((u 109), .inl (T 0, 5, .inl (fun _ => 0))), ((u 110), .inl (T 0, 5, .inl (fun _ => 0))), ((u 111), .inl (T 0, 5, .inl (fun _ => 0))), ((u 112), .inl (T 0, 10, .inl (fun _ => 0))), ((u 113), .inl (T 0, 10, .inl (fun _ => 0))), ((u 114), .inl (T 0, 10, .inl (fun _ => 0))), ((u 115), .inl (T 0, 10, .inl (fun _ => 0))), ((u 116), .inl (T 0, 10, .inl (fun _ => 0))), ((u 117), .inl (T 0, 10, .inl (fun _ => 0))), ((u 118), .inl (T 0, 10, .inl (fun _ => 0))), ((u 119), .inr (7, [.ref (u 108), .ref (u 120), .ref (u 121), .ref (u 122), .ref (u 123), .ref (u 124), .ref (u 125), .ref (u 126), .ref (u 127)])), ((u 120), .inl (T 0, 16, .inl (fun _ => 0))), ((u 121), .inl (T 0, 5, .inl (fun _ => 0))), ((u 122), .inl (T 0, 192, .inl (fun _ => 0))), ((u 123), .inl (T 0, 192, .inl (fun _ => 0))), ((u 124), .inl (T 0, 192, .inl (fun _ => 0))), ((u 125), .inl (T 0, 2, .inl (fun _ => 0))), ((u 126), .inl (T 0, 2, .inl (fun _ => 0))), ((u 127), .inl (T 0, 208, .inl (fun _ => 0))), ((u 128), .inl (T 0, 100, .inl (fun _ => 0))), ((u 129), .inl (T 0, 200, .inl (fun _ => 0))), ((u 130), .inl (T 5, 3, .inr (.inr (.inr (.inr (va_up (va_up (va_up (fun _ => none) 0 (some (u 61))) 1 (some (u 84))) 2 (some (u 107)))))))), ((u 131), .inl (T 3, 3, .inl (fun _ => 0)))]) [0, 16, 17, 18, 19, 20, 21, 22, 23, 24, 25, 26, 27, 28, 29, 30, 31, 32, 33, 34, 35, 36, 37, 38, 62, 63, 64, 65, 66, 67, 68, 69, 70, 71, 72, 73, 74, 75, 76, 77, 78, 79, 80, 81, 82, 83, 84, 85, 86, 87, 88, 89, 90, 91, 92, 93, 94, 95, 96, 97, 98, 99, 100, 101, 102, 103, 104, 105, 106, 107, 108, 109, 110, 111, 112, 113, 114, 115, 116, 117, 118, 119, 120, 121, 122, 123, 124, 125, 126, 127, 128, 129, 130, 131, 132] (by decide +kernel) rfl)) (va_recv hK hP (ci := 10) (q0 := 0) rfl rfl) rfl hl.1 rfl (Nat.le_of_ble_eq_true rfl) dL_law_1643 ⟨(Nat.le_of_ble_eq_true rfl), (Nat.le_of_ble_eq_true rfl)⟩) hS hA hP hD [0, 16, 17, 18, 19, 20, 21, 22, 23, 24, 25, 26, 27, 28, 29, 30, 31, 32, 33, 34, 35, 36, 37, 38, 62, 63, 64, 65, 66, 67, 68, 69, 70, 71, 72, 73, 74, 75, 76, 77, 78, 79, 80, 81, 82, 83, 84, 85, 86, 87, 88, 89, 90, 91, 92, 93, 94, 95, 96, 97, 98, 99, 100, 101, 102, 103, 104, 105, 106, 107, 108, 109, 110, 111, 112, 113, 114, 115, 116, 117, 118, 119, 120, 121, 122, 123, 124, 125, 126, 127, 128, 129, 130, 131, 132] [154, 155, 156, 157, 158, 159, 160, 161, 162, 163, 164, 165, 166, 167, 168, 169, 170, 171, 172, 173, 174, 175, 176, 177, 178, 179, 180] rfl rfl (by decide) (by decide) (fun r_1 u_2 H locs hw hP hD hS => ?_)
  have c_3 : r_1 = a_keep (xs 1) := hw
  refine lv_aload_n hx hb dL_law_1646 rfl (lv_at hl 1 rfl) ?_
  refine lv_aload_n hx hb dL_law_1647 rfl (lv_at hl 3 rfl) ?_
  refine lv_iload_n hx hb dL_law_1648 rfl (lv_at hl 0 rfl) ?_
  refine lv_iconst (v := 1) hx hb dL_law_1649 (by decide) ?_
  refine lv_iadd hx hb dL_law_1650 ?_
  refine eqi (v := 1) (by decide) ?_
  refine va_sld hx hb hX hbl hbA hS (by unfold vp_in; decide) dL_law_1651 ?_
  refine eqi (v := xs 1) rfl ?_
  refine mtId (wr := []) (cV (As := [.int (xs 1)]) (rest := [.int r_1]) ⟨hx, hb, hml, hown, hts⟩ (c_m_keep l D T (v 1) (v 16) (v 17) (v 18) (v 19) (v 2) (v 20) (v 21) (v 22) (v 23) (v 24) (v 25) (v 26) (v 27) (v 28) (v 29) (v 3) (v 30) (v 31) (v 32) (v 36) (v 4) (v 40) (v 41) (v 42) (v 5) m0 (xs 1) _) k_X11_keep v_X11_keep m1991 rfl rfl ⟨(Nat.le_of_ble_eq_true rfl), (Nat.le_of_ble_eq_true rfl)⟩ (preM hC (hP.sub (ws' := [(m0, .inr (11, [.int 0, .ref (v 1), .ref (v 2), .ref (v 3), .ref (v 4), .ref (v 5), .int 0, .int 0, .int 0, .int 0, .int 0, .long 0, .int 0, .int 0, .int 0, .int (-1), .ref (v 16), .ref (v 17), .ref (v 18), .ref (v 19), .ref (v 20), .ref (v 21), .ref (v 22), .ref (v 23), .ref (v 24), .ref (v 25), .ref (v 26), .ref (v 27), .ref (v 28), .ref (v 29), .ref (v 30), .ref (v 31), .ref (v 32), .int 0, .int 0, .int 0, .ref (v 36), .int 0, .int 0, .int 0, .ref (v 40), .ref (v 41), .ref (v 42), .int 0, .long 0])), ((v 16), .inl (T 0, 5, .inl (fun _ => 0))), ((v 17), .inl (T 0, 15, .inl (fun _ => 0))), ((v 18), .inl (T 0, 5, .inl (fun _ => 0))), ((v 19), .inl (T 0, 75, .inl (fun _ => 0))), ((v 20), .inl (T 0, 5, .inl (fun _ => 0))), ((v 21), .inl (T 0, 400, .inl (fun _ => 0))), ((v 22), .inl (T 0, 15, .inl (fun _ => 0))), ((v 24), .inl (T 0, 80, .inl (fun _ => 0))), ((v 25), .inl (T 0, 960, .inl (fun _ => 0))), ((v 26), .inl (T 0, 960, .inl (fun _ => 0))), ((v 27), .inl (T 0, 960, .inl (fun _ => 0))), ((v 28), .inl (T 0, 25, .inl (fun _ => 0))), ((v 29), .inl (T 0, 15, .inl (upd (upd (upd (fun _ => 0) 0 0) 1 2) 2 0))), ((v 30), .inl (T 0, 500, .inl (fun _ => 0))), ((v 31), .inl (T 0, 1000, .inl (fun _ => 0))), ((v 32), .inl (T 3, 3, .inl (fun _ => 0)))]) [0, 6, 7, 8, 9, 10, 11, 12, 14, 15, 16, 17, 18, 19, 20, 21, 22] rfl) (hD.sub (ws' := [(m0, .inr (11, [.int 0, .ref (v 1), .ref (v 2), .ref (v 3), .ref (v 4), .ref (v 5), .int 0, .int 0, .int 0, .int 0, .int 0, .long 0, .int 0, .int 0, .int 0, .int (-1), .ref (v 16), .ref (v 17), .ref (v 18), .ref (v 19), .ref (v 20), .ref (v 21), .ref (v 22), .ref (v 23), .ref (v 24), .ref (v 25), .ref (v 26), .ref (v 27), .ref (v 28), .ref (v 29), .ref (v 30), .ref (v 31), .ref (v 32), .int 0, .int 0, .int 0, .ref (v 36), .int 0, .int 0, .int 0, .ref (v 40), .ref (v 41), .ref (v 42), .int 0, .long 0])), ((v 16), .inl (T 0, 5, .inl (fun _ => 0))), ((v 17), .inl (T 0, 15, .inl (fun _ => 0))), ((v 18), .inl (T 0, 5, .inl (fun _ => 0))), ((v 19), .inl (T 0, 75, .inl (fun _ => 0))), ((v 20), .inl (T 0, 5, .inl (fun _ => 0))), ((v 21), .inl (T 0, 400, .inl (fun _ => 0))), ((v 22), .inl (T 0, 15, .inl (fun _ => 0))), ((v 24), .inl (T 0, 80, .inl (fun _ => 0))), ((v 25), .inl (T 0, 960, .inl (fun _ => 0))), ((v 26), .inl (T 0, 960, .inl (fun _ => 0))), ((v 27), .inl (T 0, 960, .inl (fun _ => 0))), ((v 28), .inl (T 0, 25, .inl (fun _ => 0))), ((v 29), .inl (T 0, 15, .inl (upd (upd (upd (fun _ => 0) 0 0) 1 2) 2 0))), ((v 30), .inl (T 0, 500, .inl (fun _ => 0))), ((v 31), .inl (T 0, 1000, .inl (fun _ => 0))), ((v 32), .inl (T 3, 3, .inl (fun _ => 0)))]) [0, 6, 7, 8, 9, 10, 11, 12, 14, 15, 16, 17, 18, 19, 20, 21, 22] (by decide) rfl)) (va_recv hK hP (ci := 11) (q0 := 0) rfl rfl) rfl hl.1 rfl (Nat.le_of_ble_eq_true rfl) dL_law_1652 ⟨(Nat.le_of_ble_eq_true rfl), (Nat.le_of_ble_eq_true rfl)⟩) hS hA hP hD [0, 6, 7, 8, 9, 10, 11, 12, 14, 15, 16, 17, 18, 19, 20, 21, 22] [] rfl rfl (by decide) (by decide) (fun r_4 u_5 H locs hw hP hD hS => ?_)
  have c_6 : r_4 = a_keep (xs 1) := hw
  refine lv_icmp_eq (tgt := 1862) hx hb dL_law_1655 (by decide) (fun _ => ?_) (fun h => absurd (c_3.trans c_6.symm) h)
  refine lv_iinc (v := 6) (lv' := [(3, .int 6), (2, .ref m0), (1, .ref x0), (0, .ref b)]) hx hb dL_law_1862 hl (k := 0) rfl (by decide) (by decide) rfl (fun ls hl => ?_)
  refine lv_goto (tgt := 18) hx hb dL_law_1865 (by decide) ?_
  refine lv_iload_n hx hb dL_law_18 rfl (lv_at hl 0 rfl) ?_
  refine lv_aload_n hx hb dL_law_19 rfl (lv_at hl 3 rfl) ?_
  refine va_slen hx hb hX hbl hbA hS dL_law_20 ?_
  refine eqi (v := 6) (by decide) ?_
  refine lv_bipush (v := 6) hx hb dL_law_21 (by decide) ?_
  refine lv_isub hx hb dL_law_23 ?_
  refine eqi (v := 0) (by decide) ?_
  refine lv_icmp_gt (tgt := 1868) hx hb dL_law_24 (by decide) (fun _ => ?_) (fun c_7 => absurd (by decide) c_7)
  refine lv_iconst (v := 1) hx hb dL_law_1868 (by decide) ?_
  refine va_forget (fun q hq => hS.2.2 q hq) ?_
  refine W.widen (k := 600000) (n := 7302250) (Nat.le_of_ble_eq_true rfl) (Nat.le_of_ble_eq_true rfl) ?_
  exact lw_ret hx hb hr hlocks dL_law_1869

set_option maxHeartbeats 4000000 in
set_option maxRecDepth 100000 in
theorem lawcase_49 {p : Program} {e : Env} {s : State} {m : MethodId} {below : List Frame} {meth : Method} {c : Code} (l : Launch) {b : Nat} {xs : Nat → Int32} (C0 : lw_At p s m meth c b 6 xs) {D : va_G} {T : Nat → ClassId} (hC : cx D T s) {H : Heap} {locs : List Loc} (x0 m0 : Nat) (u v : Nat → Nat) (hP : va_P D vwCl (lawW T x0 m0 u v) H) (hD : va_D (fun q : Nat => s.heap.size ≤ q) (lawW T x0 m0 u v)) (hS : va_S (fun q : Nat => s.heap.size ≤ q) s.heap H locs) {ls : Array Slot} (hl : lv_has ls 4 [(3, .int 0), (2, .ref m0), (1, .ref x0), (0, .ref b)]) : W p l e room_1 s m #[Value.ref b] below meth c H locs 181 83004 (lw_Z below #[Value.ref b] s) (F0 m 1660 ls []) := by
  obtain ⟨hx, hb, hr, hml, hown, hts0, hX, hbl, hlocks, hgv⟩ := id C0
  have hts : ∀ w ∈ gt, w.before #[Value.ref b] s = true := fun w hw => hts0 w (List.mem_filter.mp hw).1
  have hown : s.vm.findClass RL = some m.cls := hown
  have hb : c.code = cL_law := hb
  have hA : ∀ q : Nat, s.heap.size ≤ q → (fun q : Nat => s.heap.size ≤ q) q := fun _ h => h
  have hbA : ¬ (fun q : Nat => s.heap.size ≤ q) b := Nat.not_le.mpr hbl
  have hK := hC.1
  refine lv_aload_n hx hb dL_law_1660 rfl (lv_at hl 2 rfl) ?_
  refine lv_aload_n hx hb dL_law_1661 rfl (lv_at hl 3 rfl) ?_
  refine lv_iload_n hx hb dL_law_1662 rfl (lv_at hl 0 rfl) ?_
  refine lv_iconst (v := 1) hx hb dL_law_1663 (by decide) ?_
  refine lv_iadd hx hb dL_law_1664 ?_
  refine eqi (v := 1) (by decide) ?_
  refine va_sld hx hb hX hbl hbA hS (by unfold vp_in; decide) dL_law_1665 ?_
  refine eqi (v := xs 1) rfl ?_
  refine puI (cV (As := [.int (xs 1)]) (rest := []) ⟨hx, hb, hml, hown, hts⟩ (c_X10_back l D T x0 (u 0) (u 2) (u 15) (u 38) (u 130) (u 131) (u 132) (u 141) (u 144) (u 150) (u 151) (xs 1)) k_X10_back v_X10_back m1277 rfl rfl ⟨(Nat.le_of_ble_eq_true rfl), (Nat.le_of_ble_eq_true rfl)⟩ (preP hC (hP.sub (ws' := [(x0, .inr (10, [.ref (u 0), .ref (u 2), .ref (u 15), .ref (u 38), .ref (u 130), .ref (u 131), .ref (u 132), .ref (u 141), .ref (u 144), .ref (u 150), .ref (u 151)])), ((u 131), .inl (T 3, 3, .inl (fun _ => 0)))]) [0, 132] rfl)) (va_recv hK hP (ci := 10) (q0 := 0) rfl rfl) rfl hl.1 rfl (Nat.le_of_ble_eq_true rfl) dL_law_1666 ⟨(Nat.le_of_ble_eq_true rfl), (Nat.le_of_ble_eq_true rfl)⟩) hS hP (fun r_1 H locs hw hP hS => ?_)
  have c_3 : r_1 = a_back (xs 1) := hw
  refine lv_aload_n hx hb dL_law_1669 rfl (lv_at hl 1 rfl) ?_
  refine lv_aload_n hx hb dL_law_1670 rfl (lv_at hl 3 rfl) ?_
  refine lv_iload_n hx hb dL_law_1671 rfl (lv_at hl 0 rfl) ?_
  refine lv_iconst (v := 1) hx hb dL_law_1672 (by decide) ?_
  refine lv_iadd hx hb dL_law_1673 ?_
  refine eqi (v := 1) (by decide) ?_
  refine va_sld hx hb hX hbl hbA hS (by unfold vp_in; decide) dL_law_1674 ?_
  refine eqi (v := xs 1) rfl ?_
  refine mtId (wr := []) (cV (As := [.int (xs 1)]) (rest := [.int r_1]) ⟨hx, hb, hml, hown, hts⟩ (c_m_back l D T (v 1) (v 16) (v 17) (v 18) (v 19) (v 2) (v 20) (v 21) (v 22) (v 23) (v 24) (v 25) (v 26) (v 27) (v 28) (v 29) (v 3) (v 30) (v 31) (v 32) (v 36) (v 4) (v 40) (v 41) (v 42) (v 5) m0 (xs 1) _) k_X11_back v_X11_back m1995 rfl rfl ⟨(Nat.le_of_ble_eq_true rfl), (Nat.le_of_ble_eq_true rfl)⟩ (preM hC (hP.sub (ws' := [(m0, .inr (11, [.int 0, .ref (v 1), .ref (v 2), .ref (v 3), .ref (v 4), .ref (v 5), .int 0, .int 0, .int 0, .int 0, .int 0, .long 0, .int 0, .int 0, .int 0, .int (-1), .ref (v 16), .ref (v 17), .ref (v 18), .ref (v 19), .ref (v 20), .ref (v 21), .ref (v 22), .ref (v 23), .ref (v 24), .ref (v 25), .ref (v 26), .ref (v 27), .ref (v 28), .ref (v 29), .ref (v 30), .ref (v 31), .ref (v 32), .int 0, .int 0, .int 0, .ref (v 36), .int 0, .int 0, .int 0, .ref (v 40), .ref (v 41), .ref (v 42), .int 0, .long 0])), ((v 32), .inl (T 3, 3, .inl (fun _ => 0)))]) [154, 176] rfl) (hD.sub (ws' := [(m0, .inr (11, [.int 0, .ref (v 1), .ref (v 2), .ref (v 3), .ref (v 4), .ref (v 5), .int 0, .int 0, .int 0, .int 0, .int 0, .long 0, .int 0, .int 0, .int 0, .int (-1), .ref (v 16), .ref (v 17), .ref (v 18), .ref (v 19), .ref (v 20), .ref (v 21), .ref (v 22), .ref (v 23), .ref (v 24), .ref (v 25), .ref (v 26), .ref (v 27), .ref (v 28), .ref (v 29), .ref (v 30), .ref (v 31), .ref (v 32), .int 0, .int 0, .int 0, .ref (v 36), .int 0, .int 0, .int 0, .ref (v 40), .ref (v 41), .ref (v 42), .int 0, .long 0])), ((v 32), .inl (T 3, 3, .inl (fun _ => 0)))]) [154, 176] (by decide) rfl)) (va_recv hK hP (ci := 11) (q0 := 154) rfl rfl) rfl hl.1 rfl (Nat.le_of_ble_eq_true rfl) dL_law_1675 ⟨(Nat.le_of_ble_eq_true rfl), (Nat.le_of_ble_eq_true rfl)⟩) hS hA hP hD [154, 176] [] rfl rfl (by decide) (by decide) (fun r_4 u_5 H locs hw hP hD hS => ?_)
  have c_6 : r_4 = a_back (xs 1) := hw
  refine lv_icmp_eq (tgt := 1862) hx hb dL_law_1678 (by decide) (fun _ => ?_) (fun h => absurd (c_3.trans c_6.symm) h)
  refine lv_iinc (v := 6) (lv' := [(3, .int 6), (2, .ref m0), (1, .ref x0), (0, .ref b)]) hx hb dL_law_1862 hl (k := 0) rfl (by decide) (by decide) rfl (fun ls hl => ?_)
  refine lv_goto (tgt := 18) hx hb dL_law_1865 (by decide) ?_
  refine lv_iload_n hx hb dL_law_18 rfl (lv_at hl 0 rfl) ?_
  refine lv_aload_n hx hb dL_law_19 rfl (lv_at hl 3 rfl) ?_
  refine va_slen hx hb hX hbl hbA hS dL_law_20 ?_
  refine eqi (v := 6) (by decide) ?_
  refine lv_bipush (v := 6) hx hb dL_law_21 (by decide) ?_
  refine lv_isub hx hb dL_law_23 ?_
  refine eqi (v := 0) (by decide) ?_
  refine lv_icmp_gt (tgt := 1868) hx hb dL_law_24 (by decide) (fun _ => ?_) (fun c_7 => absurd (by decide) c_7)
  refine lv_iconst (v := 1) hx hb dL_law_1868 (by decide) ?_
  refine va_forget (fun q hq => hS.2.2 q hq) ?_
  refine W.widen (k := 600000) (n := 7302250) (Nat.le_of_ble_eq_true rfl) (Nat.le_of_ble_eq_true rfl) ?_
  exact lw_ret hx hb hr hlocks dL_law_1869

set_option maxHeartbeats 4000000 in
set_option maxRecDepth 100000 in
theorem lawcase_50 {p : Program} {e : Env} {s : State} {m : MethodId} {below : List Frame} {meth : Method} {c : Code} (l : Launch) {b : Nat} {xs : Nat → Int32} (C0 : lw_At p s m meth c b 6 xs) {D : va_G} {T : Nat → ClassId} (hC : cx D T s) {H : Heap} {locs : List Loc} (x0 m0 : Nat) (u v : Nat → Nat) (hP : va_P D vwCl (lawW T x0 m0 u v) H) (hD : va_D (fun q : Nat => s.heap.size ≤ q) (lawW T x0 m0 u v)) (hS : va_S (fun q : Nat => s.heap.size ≤ q) s.heap H locs) {ls : Array Slot} (hl : lv_has ls 4 [(3, .int 0), (2, .ref m0), (1, .ref x0), (0, .ref b)]) : W p l e room_1 s m #[Value.ref b] below meth c H locs 181 83004 (lw_Z below #[Value.ref b] s) (F0 m 1683 ls []) := by
  obtain ⟨hx, hb, hr, hml, hown, hts0, hX, hbl, hlocks, hgv⟩ := id C0
  have hts : ∀ w ∈ gt, w.before #[Value.ref b] s = true := fun w hw => hts0 w (List.mem_filter.mp hw).1
  have hown : s.vm.findClass RL = some m.cls := hown
  have hb : c.code = cL_law := hb
  have hA : ∀ q : Nat, s.heap.size ≤ q → (fun q : Nat => s.heap.size ≤ q) q := fun _ h => h
  have hbA : ¬ (fun q : Nat => s.heap.size ≤ q) b := Nat.not_le.mpr hbl
  have hK := hC.1
  refine lv_aload_n hx hb dL_law_1683 rfl (lv_at hl 2 rfl) ?_
  refine lv_aload_n hx hb dL_law_1684 rfl (lv_at hl 3 rfl) ?_
  refine lv_iload_n hx hb dL_law_1685 rfl (lv_at hl 0 rfl) ?_
  refine lv_iconst (v := 1) hx hb dL_law_1686 (by decide) ?_
  refine lv_iadd hx hb dL_law_1687 ?_
  refine eqi (v := 1) (by decide) ?_
  refine va_sld hx hb hX hbl hbA hS (by unfold vp_in; decide) dL_law_1688 ?_
  refine eqi (v := xs 1) rfl ?_
  refine lv_aload_n hx hb dL_law_1689 rfl (lv_at hl 3 rfl) ?_
  refine lv_iload_n hx hb dL_law_1690 rfl (lv_at hl 0 rfl) ?_
  refine lv_iconst (v := 2) hx hb dL_law_1691 (by decide) ?_
  refine lv_iadd hx hb dL_law_1692 ?_
  refine eqi (v := 2) (by decide) ?_
  refine va_sld hx hb hX hbl hbA hS (by unfold vp_in; decide) dL_law_1693 ?_
  refine eqi (v := xs 2) rfl ?_
  refine lv_aload_n hx hb dL_law_1694 rfl (lv_at hl 3 rfl) ?_
  refine lv_iload_n hx hb dL_law_1695 rfl (lv_at hl 0 rfl) ?_
  refine lv_iconst (v := 3) hx hb dL_law_1696 (by decide) ?_
  refine lv_iadd hx hb dL_law_1697 ?_
  refine eqi (v := 3) (by decide) ?_
  refine va_sld hx hb hX hbl hbA hS (by unfold vp_in; decide) dL_law_1698 ?_
  refine eqi (v := xs 3) rfl ?_
  refine mtId (wr := [(m0, .inr (11, [.int 0, .ref (v 1), .ref (v 2), .ref (v 3), .ref (v 4), .ref (v 5), .int 0, .int 0, .int 0, .int 0, .int 0, .long 0, .int 0, .int 0, .int 0, .int (-1), .ref (v 16), .ref (v 17), .ref (v 18), .ref (v 19), .ref (v 20), .ref (v 21), .ref (v 22), .ref (v 23), .ref (v 24), .ref (v 25), .ref (v 26), .ref (v 27), .ref (v 28), .ref (v 29), .ref (v 30), .ref (v 31), .ref (v 32), .int 0, .int 0, .int 0, .ref (v 36), .int 0, .int 0, .int 0, .ref (v 40), .ref (v 41), .ref (v 42), .int 0, .long 0])), ((v 1), .inl (T 0, 4, .inl (upd (upd (upd (upd (fun _ => 0) 0 (-1)) 1 (-1)) 2 (-1)) 3 (-1)))), ((v 2), .inl (T 0, 4, .inl (fun _ => 0))), ((v 3), .inl (T 2, 240, .inr (.inl (fun _ => 0)))), ((v 4), .inl (T 2, 60, .inr (.inl (fun _ => 0)))), ((v 5), .inl (T 1, 1600, .inl (fun _ => 0))), ((v 16), .inl (T 0, 5, .inl (fun _ => 0))), ((v 17), .inl (T 0, 15, .inl (fun _ => 0))), ((v 18), .inl (T 0, 5, .inl (fun _ => 0))), ((v 19), .inl (T 0, 75, .inl (fun _ => 0))), ((v 20), .inl (T 0, 5, .inl (fun _ => 0))), ((v 21), .inl (T 0, 400, .inl (fun _ => 0))), ((v 22), .inl (T 0, 15, .inl (fun _ => 0))), ((v 23), .inl (T 3, 15, .inl (fun _ => 0))), ((v 24), .inl (T 0, 80, .inl (fun _ => 0))), ((v 25), .inl (T 0, 960, .inl (fun _ => 0))), ((v 26), .inl (T 0, 960, .inl (fun _ => 0))), ((v 27), .inl (T 0, 960, .inl (fun _ => 0))), ((v 28), .inl (T 0, 25, .inl (fun _ => 0))), ((v 29), .inl (T 0, 15, .inl (upd (upd (upd (fun _ => 0) 0 0) 1 2) 2 0))), ((v 30), .inl (T 0, 500, .inl (fun _ => 0))), ((v 31), .inl (T 0, 1000, .inl (fun _ => 0))), ((v 32), .inl (T 3, 3, .inl (fun _ => 0))), ((v 36), .inl (T 0, 3, .inl (fun _ => 0))), ((v 40), .inl (T 0, 97, .inl (fun _ => 0))), ((v 41), .inl (T 2, 65536, .inr (.inl (fun _ => 0)))), ((v 42), .inl (T 0, 16, .inl (fun _ => 0)))]) (cV (As := [.int (xs 1), .int (xs 2), .int (xs 3)]) (rest := []) ⟨hx, hb, hml, hown, hts⟩ (c_X10_row l D T x0 (u 0) (u 2) (u 15) (u 38) (u 130) (u 131) (u 132) (u 133) (u 134) (u 135) (u 136) (u 137) (u 138) (u 139) (u 140) (u 141) (u 144) (u 150) (u 151) (xs 1) (xs 2) (xs 3) _) k_X10_row v_X10_row m1281 rfl rfl ⟨(Nat.le_of_ble_eq_true rfl), (Nat.le_of_ble_eq_true rfl)⟩ (preM hC (hP.sub (ws' := [(x0, .inr (10, [.ref (u 0), .ref (u 2), .ref (u 15), .ref (u 38), .ref (u 130), .ref (u 131), .ref (u 132), .ref (u 141), .ref (u 144), .ref (u 150), .ref (u 151)])), ((u 132), .inl (T 4, 4, .inr (.inr (.inr (.inr (va_up (va_up (va_up (va_up (fun _ => none) 0 (some (u 133))) 1 (some (u 135))) 2 (some (u 137))) 3 (some (u 139)))))))), ((u 133), .inr (2, [.ref (u 134), .int 0, .int (-1)])), ((u 134), .inl (T 2, 60, .inr (.inl (fun _ => 0)))), ((u 135), .inr (2, [.ref (u 136), .int 0, .int (-1)])), ((u 136), .inl (T 2, 60, .inr (.inl (fun _ => 0)))), ((u 137), .inr (2, [.ref (u 138), .int 0, .int (-1)])), ((u 138), .inl (T 2, 60, .inr (.inl (fun _ => 0)))), ((u 139), .inr (2, [.ref (u 140), .int 0, .int (-1)])), ((u 140), .inl (T 2, 60, .inr (.inl (fun _ => 0))))]) [0, 133, 134, 135, 136, 137, 138, 139, 140, 141] rfl) (hD.sub (ws' := [(x0, .inr (10, [.ref (u 0), .ref (u 2), .ref (u 15), .ref (u 38), .ref (u 130), .ref (u 131), .ref (u 132), .ref (u 141), .ref (u 144), .ref (u 150), .ref (u 151)])), ((u 132), .inl (T 4, 4, .inr (.inr (.inr (.inr (va_up (va_up (va_up (va_up (fun _ => none) 0 (some (u 133))) 1 (some (u 135))) 2 (some (u 137))) 3 (some (u 139)))))))), ((u 133), .inr (2, [.ref (u 134), .int 0, .int (-1)])), ((u 134), .inl (T 2, 60, .inr (.inl (fun _ => 0)))), ((u 135), .inr (2, [.ref (u 136), .int 0, .int (-1)])), ((u 136), .inl (T 2, 60, .inr (.inl (fun _ => 0)))), ((u 137), .inr (2, [.ref (u 138), .int 0, .int (-1)])), ((u 138), .inl (T 2, 60, .inr (.inl (fun _ => 0)))), ((u 139), .inr (2, [.ref (u 140), .int 0, .int (-1)])), ((u 140), .inl (T 2, 60, .inr (.inl (fun _ => 0))))]) [0, 133, 134, 135, 136, 137, 138, 139, 140, 141] (by decide) rfl)) (va_recv hK hP (ci := 10) (q0 := 0) rfl rfl) rfl hl.1 rfl (Nat.le_of_ble_eq_true rfl) dL_law_1699 ⟨(Nat.le_of_ble_eq_true rfl), (Nat.le_of_ble_eq_true rfl)⟩) hS hA hP hD [0, 133, 134, 135, 136, 137, 138, 139, 140, 141] [154, 155, 156, 157, 158, 159, 160, 161, 162, 163, 164, 165, 166, 167, 168, 169, 170, 171, 172, 173, 174, 175, 176, 177, 178, 179, 180] rfl rfl (by decide) (by decide) (fun r_1 u_2 H locs hw hP hD hS => ?_)
  have c_3 : r_1 = a_row (xs 1) (xs 2) (xs 3) := hw
  refine lv_aload_n hx hb dL_law_1702 rfl (lv_at hl 1 rfl) ?_
  refine lv_aload_n hx hb dL_law_1703 rfl (lv_at hl 3 rfl) ?_
  refine lv_iload_n hx hb dL_law_1704 rfl (lv_at hl 0 rfl) ?_
  refine lv_iconst (v := 1) hx hb dL_law_1705 (by decide) ?_
  refine lv_iadd hx hb dL_law_1706 ?_
  refine eqi (v := 1) (by decide) ?_
  refine va_sld hx hb hX hbl hbA hS (by unfold vp_in; decide) dL_law_1707 ?_
  refine eqi (v := xs 1) rfl ?_
  refine lv_aload_n hx hb dL_law_1708 rfl (lv_at hl 3 rfl) ?_
  refine lv_iload_n hx hb dL_law_1709 rfl (lv_at hl 0 rfl) ?_
  refine lv_iconst (v := 2) hx hb dL_law_1710 (by decide) ?_
  refine lv_iadd hx hb dL_law_1711 ?_
  refine eqi (v := 2) (by decide) ?_
  refine va_sld hx hb hX hbl hbA hS (by unfold vp_in; decide) dL_law_1712 ?_
  refine eqi (v := xs 2) rfl ?_
  refine lv_aload_n hx hb dL_law_1713 rfl (lv_at hl 3 rfl) ?_
  refine lv_iload_n hx hb dL_law_1714 rfl (lv_at hl 0 rfl) ?_
  refine lv_iconst (v := 3) hx hb dL_law_1715 (by decide) ?_
  refine lv_iadd hx hb dL_law_1716 ?_
  refine eqi (v := 3) (by decide) ?_
  refine va_sld hx hb hX hbl hbA hS (by unfold vp_in; decide) dL_law_1717 ?_
  refine eqi (v := xs 3) rfl ?_
  refine mtId (wr := []) (cV (As := [.int (xs 1), .int (xs 2), .int (xs 3)]) (rest := [.int r_1]) ⟨hx, hb, hml, hown, hts⟩ (c_m_row l D T (v 1) (v 16) (v 17) (v 18) (v 19) (v 2) (v 20) (v 21) (v 22) (v 23) (v 24) (v 25) (v 26) (v 27) (v 28) (v 29) (v 3) (v 30) (v 31) (v 32) (v 36) (v 4) (v 40) (v 41) (v 42) (v 5) m0 (xs 1) (xs 2) (xs 3) _) k_X11_row v_X11_row m1453 rfl rfl ⟨(Nat.le_of_ble_eq_true rfl), (Nat.le_of_ble_eq_true rfl)⟩ (preM hC (hP.sub (ws' := [(m0, .inr (11, [.int 0, .ref (v 1), .ref (v 2), .ref (v 3), .ref (v 4), .ref (v 5), .int 0, .int 0, .int 0, .int 0, .int 0, .long 0, .int 0, .int 0, .int 0, .int (-1), .ref (v 16), .ref (v 17), .ref (v 18), .ref (v 19), .ref (v 20), .ref (v 21), .ref (v 22), .ref (v 23), .ref (v 24), .ref (v 25), .ref (v 26), .ref (v 27), .ref (v 28), .ref (v 29), .ref (v 30), .ref (v 31), .ref (v 32), .int 0, .int 0, .int 0, .ref (v 36), .int 0, .int 0, .int 0, .ref (v 40), .ref (v 41), .ref (v 42), .int 0, .long 0])), ((v 1), .inl (T 0, 4, .inl (upd (upd (upd (upd (fun _ => 0) 0 (-1)) 1 (-1)) 2 (-1)) 3 (-1)))), ((v 2), .inl (T 0, 4, .inl (fun _ => 0))), ((v 3), .inl (T 2, 240, .inr (.inl (fun _ => 0))))]) [0, 1, 2, 3] rfl) (hD.sub (ws' := [(m0, .inr (11, [.int 0, .ref (v 1), .ref (v 2), .ref (v 3), .ref (v 4), .ref (v 5), .int 0, .int 0, .int 0, .int 0, .int 0, .long 0, .int 0, .int 0, .int 0, .int (-1), .ref (v 16), .ref (v 17), .ref (v 18), .ref (v 19), .ref (v 20), .ref (v 21), .ref (v 22), .ref (v 23), .ref (v 24), .ref (v 25), .ref (v 26), .ref (v 27), .ref (v 28), .ref (v 29), .ref (v 30), .ref (v 31), .ref (v 32), .int 0, .int 0, .int 0, .ref (v 36), .int 0, .int 0, .int 0, .ref (v 40), .ref (v 41), .ref (v 42), .int 0, .long 0])), ((v 1), .inl (T 0, 4, .inl (upd (upd (upd (upd (fun _ => 0) 0 (-1)) 1 (-1)) 2 (-1)) 3 (-1)))), ((v 2), .inl (T 0, 4, .inl (fun _ => 0))), ((v 3), .inl (T 2, 240, .inr (.inl (fun _ => 0))))]) [0, 1, 2, 3] (by decide) rfl)) (va_recv hK hP (ci := 11) (q0 := 0) rfl rfl) rfl hl.1 rfl (Nat.le_of_ble_eq_true rfl) dL_law_1718 ⟨(Nat.le_of_ble_eq_true rfl), (Nat.le_of_ble_eq_true rfl)⟩) hS hA hP hD [0, 1, 2, 3] [] rfl rfl (by decide) (by decide) (fun r_4 u_5 H locs hw hP hD hS => ?_)
  have c_6 : r_4 = a_row (xs 1) (xs 2) (xs 3) := hw
  refine lv_icmp_eq (tgt := 1862) hx hb dL_law_1721 (by decide) (fun _ => ?_) (fun h => absurd (c_3.trans c_6.symm) h)
  refine lv_iinc (v := 6) (lv' := [(3, .int 6), (2, .ref m0), (1, .ref x0), (0, .ref b)]) hx hb dL_law_1862 hl (k := 0) rfl (by decide) (by decide) rfl (fun ls hl => ?_)
  refine lv_goto (tgt := 18) hx hb dL_law_1865 (by decide) ?_
  refine lv_iload_n hx hb dL_law_18 rfl (lv_at hl 0 rfl) ?_
  refine lv_aload_n hx hb dL_law_19 rfl (lv_at hl 3 rfl) ?_
  refine va_slen hx hb hX hbl hbA hS dL_law_20 ?_
  refine eqi (v := 6) (by decide) ?_
  refine lv_bipush (v := 6) hx hb dL_law_21 (by decide) ?_
  refine lv_isub hx hb dL_law_23 ?_
  refine eqi (v := 0) (by decide) ?_
  refine lv_icmp_gt (tgt := 1868) hx hb dL_law_24 (by decide) (fun _ => ?_) (fun c_7 => absurd (by decide) c_7)
  refine lv_iconst (v := 1) hx hb dL_law_1868 (by decide) ?_
  refine va_forget (fun q hq => hS.2.2 q hq) ?_
  refine W.widen (k := 600000) (n := 7302250) (Nat.le_of_ble_eq_true rfl) (Nat.le_of_ble_eq_true rfl) ?_
  exact lw_ret hx hb hr hlocks dL_law_1869

set_option maxHeartbeats 4000000 in
set_option maxRecDepth 100000 in
theorem lawcase_51 {p : Program} {e : Env} {s : State} {m : MethodId} {below : List Frame} {meth : Method} {c : Code} (l : Launch) {b : Nat} {xs : Nat → Int32} (C0 : lw_At p s m meth c b 6 xs) {D : va_G} {T : Nat → ClassId} (hC : cx D T s) {H : Heap} {locs : List Loc} (x0 m0 : Nat) (u v : Nat → Nat) (hP : va_P D vwCl (lawW T x0 m0 u v) H) (hD : va_D (fun q : Nat => s.heap.size ≤ q) (lawW T x0 m0 u v)) (hS : va_S (fun q : Nat => s.heap.size ≤ q) s.heap H locs) {ls : Array Slot} (hl : lv_has ls 4 [(3, .int 0), (2, .ref m0), (1, .ref x0), (0, .ref b)]) : W p l e room_1 s m #[Value.ref b] below meth c H locs 181 83004 (lw_Z below #[Value.ref b] s) (F0 m 1726 ls []) := by
  obtain ⟨hx, hb, hr, hml, hown, hts0, hX, hbl, hlocks, hgv⟩ := id C0
  have hts : ∀ w ∈ gt, w.before #[Value.ref b] s = true := fun w hw => hts0 w (List.mem_filter.mp hw).1
  have hown : s.vm.findClass RL = some m.cls := hown
  have hb : c.code = cL_law := hb
  have hA : ∀ q : Nat, s.heap.size ≤ q → (fun q : Nat => s.heap.size ≤ q) q := fun _ h => h
  have hbA : ¬ (fun q : Nat => s.heap.size ≤ q) b := Nat.not_le.mpr hbl
  have hK := hC.1
  refine lv_aload_n hx hb dL_law_1726 rfl (lv_at hl 2 rfl) ?_
  refine lv_aload_n hx hb dL_law_1727 rfl (lv_at hl 3 rfl) ?_
  refine lv_iload_n hx hb dL_law_1728 rfl (lv_at hl 0 rfl) ?_
  refine lv_iconst (v := 1) hx hb dL_law_1729 (by decide) ?_
  refine lv_iadd hx hb dL_law_1730 ?_
  refine eqi (v := 1) (by decide) ?_
  refine va_sld hx hb hX hbl hbA hS (by unfold vp_in; decide) dL_law_1731 ?_
  refine eqi (v := xs 1) rfl ?_
  refine lv_aload_n hx hb dL_law_1732 rfl (lv_at hl 3 rfl) ?_
  refine lv_iload_n hx hb dL_law_1733 rfl (lv_at hl 0 rfl) ?_
  refine lv_iconst (v := 2) hx hb dL_law_1734 (by decide) ?_
  refine lv_iadd hx hb dL_law_1735 ?_
  refine eqi (v := 2) (by decide) ?_
  refine va_sld hx hb hX hbl hbA hS (by unfold vp_in; decide) dL_law_1736 ?_
  refine eqi (v := xs 2) rfl ?_
  refine lv_aload_n hx hb dL_law_1737 rfl (lv_at hl 3 rfl) ?_
  refine lv_iload_n hx hb dL_law_1738 rfl (lv_at hl 0 rfl) ?_
  refine lv_iconst (v := 3) hx hb dL_law_1739 (by decide) ?_
  refine lv_iadd hx hb dL_law_1740 ?_
  refine eqi (v := 3) (by decide) ?_
  refine va_sld hx hb hX hbl hbA hS (by unfold vp_in; decide) dL_law_1741 ?_
  refine eqi (v := xs 3) rfl ?_
  refine lv_i2l hx hb dL_law_1742 rfl ?_
  refine lv_bipush (v := 32) hx hb dL_law_1743 (by decide) ?_
  refine lv_lshl (v := ((xs 3).toInt64) <<< ((32 : Int32).toInt64 &&& 63)) hx hb dL_law_1745 rfl ?_
  refine lv_aload_n hx hb dL_law_1746 rfl (lv_at hl 3 rfl) ?_
  refine lv_iload_n hx hb dL_law_1747 rfl (lv_at hl 0 rfl) ?_
  refine lv_iconst (v := 4) hx hb dL_law_1748 (by decide) ?_
  refine lv_iadd hx hb dL_law_1749 ?_
  refine eqi (v := 4) (by decide) ?_
  refine va_sld hx hb hX hbl hbA hS (by unfold vp_in; decide) dL_law_1750 ?_
  refine eqi (v := xs 4) rfl ?_
  refine lv_i2l hx hb dL_law_1751 rfl ?_
  refine lv_ldc2 (v := 4294967295) hx hb hown (hts _ m1999) dL_law_1752 ?_
  refine lv_land hx hb dL_law_1755 ?_
  refine lv_lor hx hb dL_law_1756 ?_
  refine puI (cV (As := [.int (xs 1), .int (xs 2), .long ((((xs 3).toInt64) <<< ((32 : Int32).toInt64 &&& 63)) ||| (((xs 4).toInt64) &&& 4294967295))]) (rest := []) ⟨hx, hb, hml, hown, hts⟩ (c_X10_write l D T x0 (u 0) (u 2) (u 15) (u 38) (u 130) (u 131) (u 132) (u 133) (u 134) (u 135) (u 136) (u 137) (u 138) (u 139) (u 140) (u 141) (u 144) (u 150) (u 151) (xs 1) (xs 2) ((((xs 3).toInt64) <<< ((32 : Int32).toInt64 &&& 63)) ||| (((xs 4).toInt64) &&& 4294967295))) k_X10_write v_X10_write m1290 rfl rfl ⟨(Nat.le_of_ble_eq_true rfl), (Nat.le_of_ble_eq_true rfl)⟩ (preP hC (hP.sub (ws' := [(x0, .inr (10, [.ref (u 0), .ref (u 2), .ref (u 15), .ref (u 38), .ref (u 130), .ref (u 131), .ref (u 132), .ref (u 141), .ref (u 144), .ref (u 150), .ref (u 151)])), ((u 132), .inl (T 4, 4, .inr (.inr (.inr (.inr (va_up (va_up (va_up (va_up (fun _ => none) 0 (some (u 133))) 1 (some (u 135))) 2 (some (u 137))) 3 (some (u 139)))))))), ((u 133), .inr (2, [.ref (u 134), .int 0, .int (-1)])), ((u 135), .inr (2, [.ref (u 136), .int 0, .int (-1)])), ((u 137), .inr (2, [.ref (u 138), .int 0, .int (-1)])), ((u 139), .inr (2, [.ref (u 140), .int 0, .int (-1)]))]) [0, 133, 134, 136, 138, 140] rfl)) (va_recv hK hP (ci := 10) (q0 := 0) rfl rfl) rfl hl.1 rfl (Nat.le_of_ble_eq_true rfl) dL_law_1757 ⟨(Nat.le_of_ble_eq_true rfl), (Nat.le_of_ble_eq_true rfl)⟩) hS hP (fun r_1 H locs hw hP hS => ?_)
  have c_3 : r_1 = a_write (xs 1) := hw
  refine lv_aload_n hx hb dL_law_1760 rfl (lv_at hl 1 rfl) ?_
  refine lv_aload_n hx hb dL_law_1761 rfl (lv_at hl 3 rfl) ?_
  refine lv_iload_n hx hb dL_law_1762 rfl (lv_at hl 0 rfl) ?_
  refine lv_iconst (v := 1) hx hb dL_law_1763 (by decide) ?_
  refine lv_iadd hx hb dL_law_1764 ?_
  refine eqi (v := 1) (by decide) ?_
  refine va_sld hx hb hX hbl hbA hS (by unfold vp_in; decide) dL_law_1765 ?_
  refine eqi (v := xs 1) rfl ?_
  refine lv_aload_n hx hb dL_law_1766 rfl (lv_at hl 3 rfl) ?_
  refine lv_iload_n hx hb dL_law_1767 rfl (lv_at hl 0 rfl) ?_
  refine lv_iconst (v := 2) hx hb dL_law_1768 (by decide) ?_
  refine lv_iadd hx hb dL_law_1769 ?_
  refine eqi (v := 2) (by decide) ?_
  refine va_sld hx hb hX hbl hbA hS (by unfold vp_in; decide) dL_law_1770 ?_
  refine eqi (v := xs 2) rfl ?_
  refine lv_aload_n hx hb dL_law_1771 rfl (lv_at hl 3 rfl) ?_
  refine lv_iload_n hx hb dL_law_1772 rfl (lv_at hl 0 rfl) ?_
  refine lv_iconst (v := 3) hx hb dL_law_1773 (by decide) ?_
  refine lv_iadd hx hb dL_law_1774 ?_
  refine eqi (v := 3) (by decide) ?_
  refine va_sld hx hb hX hbl hbA hS (by unfold vp_in; decide) dL_law_1775 ?_
  refine eqi (v := xs 3) rfl ?_
  refine lv_i2l hx hb dL_law_1776 rfl ?_
  refine lv_bipush (v := 32) hx hb dL_law_1777 (by decide) ?_
  refine lv_lshl (v := ((xs 3).toInt64) <<< ((32 : Int32).toInt64 &&& 63)) hx hb dL_law_1779 rfl ?_
  refine lv_aload_n hx hb dL_law_1780 rfl (lv_at hl 3 rfl) ?_
  refine lv_iload_n hx hb dL_law_1781 rfl (lv_at hl 0 rfl) ?_
  refine lv_iconst (v := 4) hx hb dL_law_1782 (by decide) ?_
  refine lv_iadd hx hb dL_law_1783 ?_
  refine eqi (v := 4) (by decide) ?_
  refine va_sld hx hb hX hbl hbA hS (by unfold vp_in; decide) dL_law_1784 ?_
  refine eqi (v := xs 4) rfl ?_
  refine lv_i2l hx hb dL_law_1785 rfl ?_
  refine lv_ldc2 (v := 4294967295) hx hb hown (hts _ m1999) dL_law_1786 ?_
  refine lv_land hx hb dL_law_1789 ?_
  refine lv_lor hx hb dL_law_1790 ?_
  refine mtId (wr := []) (cV (As := [.int (xs 1), .int (xs 2), .long ((((xs 3).toInt64) <<< ((32 : Int32).toInt64 &&& 63)) ||| (((xs 4).toInt64) &&& 4294967295))]) (rest := [.int r_1]) ⟨hx, hb, hml, hown, hts⟩ (c_m_write l D T (v 1) (v 16) (v 17) (v 18) (v 19) (v 2) (v 20) (v 21) (v 22) (v 23) (v 24) (v 25) (v 26) (v 27) (v 28) (v 29) (v 3) (v 30) (v 31) (v 32) (v 36) (v 4) (v 40) (v 41) (v 42) (v 5) m0 (xs 1) (xs 2) ((((xs 3).toInt64) <<< ((32 : Int32).toInt64 &&& 63)) ||| (((xs 4).toInt64) &&& 4294967295)) _) k_X11_write v_X11_write m1464 rfl rfl ⟨(Nat.le_of_ble_eq_true rfl), (Nat.le_of_ble_eq_true rfl)⟩ (preM hC (hP.sub (ws' := [(m0, .inr (11, [.int 0, .ref (v 1), .ref (v 2), .ref (v 3), .ref (v 4), .ref (v 5), .int 0, .int 0, .int 0, .int 0, .int 0, .long 0, .int 0, .int 0, .int 0, .int (-1), .ref (v 16), .ref (v 17), .ref (v 18), .ref (v 19), .ref (v 20), .ref (v 21), .ref (v 22), .ref (v 23), .ref (v 24), .ref (v 25), .ref (v 26), .ref (v 27), .ref (v 28), .ref (v 29), .ref (v 30), .ref (v 31), .ref (v 32), .int 0, .int 0, .int 0, .ref (v 36), .int 0, .int 0, .int 0, .ref (v 40), .ref (v 41), .ref (v 42), .int 0, .long 0])), ((v 1), .inl (T 0, 4, .inl (upd (upd (upd (upd (fun _ => 0) 0 (-1)) 1 (-1)) 2 (-1)) 3 (-1))))]) [154, 155] rfl) (hD.sub (ws' := [(m0, .inr (11, [.int 0, .ref (v 1), .ref (v 2), .ref (v 3), .ref (v 4), .ref (v 5), .int 0, .int 0, .int 0, .int 0, .int 0, .long 0, .int 0, .int 0, .int 0, .int (-1), .ref (v 16), .ref (v 17), .ref (v 18), .ref (v 19), .ref (v 20), .ref (v 21), .ref (v 22), .ref (v 23), .ref (v 24), .ref (v 25), .ref (v 26), .ref (v 27), .ref (v 28), .ref (v 29), .ref (v 30), .ref (v 31), .ref (v 32), .int 0, .int 0, .int 0, .ref (v 36), .int 0, .int 0, .int 0, .ref (v 40), .ref (v 41), .ref (v 42), .int 0, .long 0])), ((v 1), .inl (T 0, 4, .inl (upd (upd (upd (upd (fun _ => 0) 0 (-1)) 1 (-1)) 2 (-1)) 3 (-1))))]) [154, 155] (by decide) rfl)) (va_recv hK hP (ci := 11) (q0 := 154) rfl rfl) rfl hl.1 rfl (Nat.le_of_ble_eq_true rfl) dL_law_1791 ⟨(Nat.le_of_ble_eq_true rfl), (Nat.le_of_ble_eq_true rfl)⟩) hS hA hP hD [154, 155] [] rfl rfl (by decide) (by decide) (fun r_4 u_5 H locs hw hP hD hS => ?_)
  have c_6 : r_4 = a_write (xs 1) := hw
  refine lv_icmp_eq (tgt := 1862) hx hb dL_law_1794 (by decide) (fun _ => ?_) (fun h => absurd (c_3.trans c_6.symm) h)
  refine lv_iinc (v := 6) (lv' := [(3, .int 6), (2, .ref m0), (1, .ref x0), (0, .ref b)]) hx hb dL_law_1862 hl (k := 0) rfl (by decide) (by decide) rfl (fun ls hl => ?_)
  refine lv_goto (tgt := 18) hx hb dL_law_1865 (by decide) ?_
  refine lv_iload_n hx hb dL_law_18 rfl (lv_at hl 0 rfl) ?_
  refine lv_aload_n hx hb dL_law_19 rfl (lv_at hl 3 rfl) ?_
  refine va_slen hx hb hX hbl hbA hS dL_law_20 ?_
  refine eqi (v := 6) (by decide) ?_
  refine lv_bipush (v := 6) hx hb dL_law_21 (by decide) ?_
  refine lv_isub hx hb dL_law_23 ?_
  refine eqi (v := 0) (by decide) ?_
  refine lv_icmp_gt (tgt := 1868) hx hb dL_law_24 (by decide) (fun _ => ?_) (fun c_7 => absurd (by decide) c_7)
  refine lv_iconst (v := 1) hx hb dL_law_1868 (by decide) ?_
  refine va_forget (fun q hq => hS.2.2 q hq) ?_
  refine W.widen (k := 600000) (n := 7302250) (Nat.le_of_ble_eq_true rfl) (Nat.le_of_ble_eq_true rfl) ?_
  exact lw_ret hx hb hr hlocks dL_law_1869

set_option maxHeartbeats 4000000 in
set_option maxRecDepth 100000 in
theorem lawcase_52 {p : Program} {e : Env} {s : State} {m : MethodId} {below : List Frame} {meth : Method} {c : Code} (l : Launch) {b : Nat} {xs : Nat → Int32} (C0 : lw_At p s m meth c b 6 xs) {D : va_G} {T : Nat → ClassId} (hC : cx D T s) {H : Heap} {locs : List Loc} (x0 m0 : Nat) (u v : Nat → Nat) (hP : va_P D vwCl (lawW T x0 m0 u v) H) (hD : va_D (fun q : Nat => s.heap.size ≤ q) (lawW T x0 m0 u v)) (hS : va_S (fun q : Nat => s.heap.size ≤ q) s.heap H locs) {ls : Array Slot} (hl : lv_has ls 4 [(3, .int 0), (2, .ref m0), (1, .ref x0), (0, .ref b)]) : W p l e room_1 s m #[Value.ref b] below meth c H locs 181 83004 (lw_Z below #[Value.ref b] s) (F0 m 1799 ls []) := by
  obtain ⟨hx, hb, hr, hml, hown, hts0, hX, hbl, hlocks, hgv⟩ := id C0
  have hts : ∀ w ∈ gt, w.before #[Value.ref b] s = true := fun w hw => hts0 w (List.mem_filter.mp hw).1
  have hown : s.vm.findClass RL = some m.cls := hown
  have hb : c.code = cL_law := hb
  have hA : ∀ q : Nat, s.heap.size ≤ q → (fun q : Nat => s.heap.size ≤ q) q := fun _ h => h
  have hbA : ¬ (fun q : Nat => s.heap.size ≤ q) b := Nat.not_le.mpr hbl
  have hK := hC.1
  refine lv_aload_n hx hb dL_law_1799 rfl (lv_at hl 2 rfl) ?_
  refine lv_aload_n hx hb dL_law_1800 rfl (lv_at hl 3 rfl) ?_
  refine lv_iload_n hx hb dL_law_1801 rfl (lv_at hl 0 rfl) ?_
  refine lv_iconst (v := 1) hx hb dL_law_1802 (by decide) ?_
  refine lv_iadd hx hb dL_law_1803 ?_
  refine eqi (v := 1) (by decide) ?_
  refine va_sld hx hb hX hbl hbA hS (by unfold vp_in; decide) dL_law_1804 ?_
  refine eqi (v := xs 1) rfl ?_
  refine lv_aload_n hx hb dL_law_1805 rfl (lv_at hl 3 rfl) ?_
  refine lv_iload_n hx hb dL_law_1806 rfl (lv_at hl 0 rfl) ?_
  refine lv_iconst (v := 2) hx hb dL_law_1807 (by decide) ?_
  refine lv_iadd hx hb dL_law_1808 ?_
  refine eqi (v := 2) (by decide) ?_
  refine va_sld hx hb hX hbl hbA hS (by unfold vp_in; decide) dL_law_1809 ?_
  refine eqi (v := xs 2) rfl ?_
  refine lv_aload_n hx hb dL_law_1810 rfl (lv_at hl 3 rfl) ?_
  refine lv_iload_n hx hb dL_law_1811 rfl (lv_at hl 0 rfl) ?_
  refine lv_iconst (v := 3) hx hb dL_law_1812 (by decide) ?_
  refine lv_iadd hx hb dL_law_1813 ?_
  refine eqi (v := 3) (by decide) ?_
  refine va_sld hx hb hX hbl hbA hS (by unfold vp_in; decide) dL_law_1814 ?_
  refine eqi (v := xs 3) rfl ?_
  refine lv_aload_n hx hb dL_law_1815 rfl (lv_at hl 3 rfl) ?_
  refine lv_iload_n hx hb dL_law_1816 rfl (lv_at hl 0 rfl) ?_
  refine lv_iconst (v := 4) hx hb dL_law_1817 (by decide) ?_
  refine lv_iadd hx hb dL_law_1818 ?_
  refine eqi (v := 4) (by decide) ?_
  refine va_sld hx hb hX hbl hbA hS (by unfold vp_in; decide) dL_law_1819 ?_
  refine eqi (v := xs 4) rfl ?_
  refine lv_aload_n hx hb dL_law_1820 rfl (lv_at hl 3 rfl) ?_
  refine lv_iload_n hx hb dL_law_1821 rfl (lv_at hl 0 rfl) ?_
  refine lv_iconst (v := 5) hx hb dL_law_1822 (by decide) ?_
  refine lv_iadd hx hb dL_law_1823 ?_
  refine eqi (v := 5) (by decide) ?_
  refine va_sld hx hb hX hbl hbA hS (by unfold vp_in; decide) dL_law_1824 ?_
  refine eqi (v := xs 5) rfl ?_
  refine puI (cV (As := [.int (xs 1), .int (xs 2), .int (xs 3), .int (xs 4), .int (xs 5)]) (rest := []) ⟨hx, hb, hml, hown, hts⟩ (c_X10_paste l D T x0 (u 0) (u 2) (u 15) (u 38) (u 130) (u 131) (u 132) (u 133) (u 134) (u 135) (u 136) (u 137) (u 138) (u 139) (u 140) (u 141) (u 144) (u 150) (u 151) (xs 1) (xs 2) (xs 3) (xs 4) (xs 5)) k_X10_paste v_X10_paste m1298 rfl rfl ⟨(Nat.le_of_ble_eq_true rfl), (Nat.le_of_ble_eq_true rfl)⟩ (preP hC (hP.sub (ws' := [(x0, .inr (10, [.ref (u 0), .ref (u 2), .ref (u 15), .ref (u 38), .ref (u 130), .ref (u 131), .ref (u 132), .ref (u 141), .ref (u 144), .ref (u 150), .ref (u 151)])), ((u 132), .inl (T 4, 4, .inr (.inr (.inr (.inr (va_up (va_up (va_up (va_up (fun _ => none) 0 (some (u 133))) 1 (some (u 135))) 2 (some (u 137))) 3 (some (u 139)))))))), ((u 133), .inr (2, [.ref (u 134), .int 0, .int (-1)])), ((u 135), .inr (2, [.ref (u 136), .int 0, .int (-1)])), ((u 137), .inr (2, [.ref (u 138), .int 0, .int (-1)])), ((u 139), .inr (2, [.ref (u 140), .int 0, .int (-1)]))]) [0, 133, 134, 136, 138, 140] rfl)) (va_recv hK hP (ci := 10) (q0 := 0) rfl rfl) rfl hl.1 rfl (Nat.le_of_ble_eq_true rfl) dL_law_1825 ⟨(Nat.le_of_ble_eq_true rfl), (Nat.le_of_ble_eq_true rfl)⟩) hS hP (fun r_1 H locs hw hP hS => ?_)
  have c_3 : r_1 = a_paste (xs 1) (xs 3) := hw
  refine lv_aload_n hx hb dL_law_1828 rfl (lv_at hl 1 rfl) ?_
  refine lv_aload_n hx hb dL_law_1829 rfl (lv_at hl 3 rfl) ?_
  refine lv_iload_n hx hb dL_law_1830 rfl (lv_at hl 0 rfl) ?_
  refine lv_iconst (v := 1) hx hb dL_law_1831 (by decide) ?_
  refine lv_iadd hx hb dL_law_1832 ?_
  refine eqi (v := 1) (by decide) ?_
  refine va_sld hx hb hX hbl hbA hS (by unfold vp_in; decide) dL_law_1833 ?_
  refine eqi (v := xs 1) rfl ?_
  refine lv_aload_n hx hb dL_law_1834 rfl (lv_at hl 3 rfl) ?_
  refine lv_iload_n hx hb dL_law_1835 rfl (lv_at hl 0 rfl) ?_
  refine lv_iconst (v := 2) hx hb dL_law_1836 (by decide) ?_
  refine lv_iadd hx hb dL_law_1837 ?_
  refine eqi (v := 2) (by decide) ?_
  refine va_sld hx hb hX hbl hbA hS (by unfold vp_in; decide) dL_law_1838 ?_
  refine eqi (v := xs 2) rfl ?_
  refine lv_aload_n hx hb dL_law_1839 rfl (lv_at hl 3 rfl) ?_
  refine lv_iload_n hx hb dL_law_1840 rfl (lv_at hl 0 rfl) ?_
  refine lv_iconst (v := 3) hx hb dL_law_1841 (by decide) ?_
  refine lv_iadd hx hb dL_law_1842 ?_
  refine eqi (v := 3) (by decide) ?_
  refine va_sld hx hb hX hbl hbA hS (by unfold vp_in; decide) dL_law_1843 ?_
  refine eqi (v := xs 3) rfl ?_
  refine lv_aload_n hx hb dL_law_1844 rfl (lv_at hl 3 rfl) ?_
  refine lv_iload_n hx hb dL_law_1845 rfl (lv_at hl 0 rfl) ?_
  refine lv_iconst (v := 4) hx hb dL_law_1846 (by decide) ?_
  refine lv_iadd hx hb dL_law_1847 ?_
  refine eqi (v := 4) (by decide) ?_
  refine va_sld hx hb hX hbl hbA hS (by unfold vp_in; decide) dL_law_1848 ?_
  refine eqi (v := xs 4) rfl ?_
  refine lv_aload_n hx hb dL_law_1849 rfl (lv_at hl 3 rfl) ?_
  refine lv_iload_n hx hb dL_law_1850 rfl (lv_at hl 0 rfl) ?_
  refine lv_iconst (v := 5) hx hb dL_law_1851 (by decide) ?_
  refine lv_iadd hx hb dL_law_1852 ?_
  refine eqi (v := 5) (by decide) ?_
  refine va_sld hx hb hX hbl hbA hS (by unfold vp_in; decide) dL_law_1853 ?_
  refine eqi (v := xs 5) rfl ?_
  refine mtId (wr := []) (cV (As := [.int (xs 1), .int (xs 2), .int (xs 3), .int (xs 4), .int (xs 5)]) (rest := [.int r_1]) ⟨hx, hb, hml, hown, hts⟩ (c_m_paste l D T (v 1) (v 16) (v 17) (v 18) (v 19) (v 2) (v 20) (v 21) (v 22) (v 23) (v 24) (v 25) (v 26) (v 27) (v 28) (v 29) (v 3) (v 30) (v 31) (v 32) (v 36) (v 4) (v 40) (v 41) (v 42) (v 5) m0 (xs 1) (xs 2) (xs 3) (xs 4) (xs 5) _) k_X11_paste v_X11_paste m1471 rfl rfl ⟨(Nat.le_of_ble_eq_true rfl), (Nat.le_of_ble_eq_true rfl)⟩ (preM hC (hP.sub (ws' := [(m0, .inr (11, [.int 0, .ref (v 1), .ref (v 2), .ref (v 3), .ref (v 4), .ref (v 5), .int 0, .int 0, .int 0, .int 0, .int 0, .long 0, .int 0, .int 0, .int 0, .int (-1), .ref (v 16), .ref (v 17), .ref (v 18), .ref (v 19), .ref (v 20), .ref (v 21), .ref (v 22), .ref (v 23), .ref (v 24), .ref (v 25), .ref (v 26), .ref (v 27), .ref (v 28), .ref (v 29), .ref (v 30), .ref (v 31), .ref (v 32), .int 0, .int 0, .int 0, .ref (v 36), .int 0, .int 0, .int 0, .ref (v 40), .ref (v 41), .ref (v 42), .int 0, .long 0])), ((v 1), .inl (T 0, 4, .inl (upd (upd (upd (upd (fun _ => 0) 0 (-1)) 1 (-1)) 2 (-1)) 3 (-1))))]) [154, 155] rfl) (hD.sub (ws' := [(m0, .inr (11, [.int 0, .ref (v 1), .ref (v 2), .ref (v 3), .ref (v 4), .ref (v 5), .int 0, .int 0, .int 0, .int 0, .int 0, .long 0, .int 0, .int 0, .int 0, .int (-1), .ref (v 16), .ref (v 17), .ref (v 18), .ref (v 19), .ref (v 20), .ref (v 21), .ref (v 22), .ref (v 23), .ref (v 24), .ref (v 25), .ref (v 26), .ref (v 27), .ref (v 28), .ref (v 29), .ref (v 30), .ref (v 31), .ref (v 32), .int 0, .int 0, .int 0, .ref (v 36), .int 0, .int 0, .int 0, .ref (v 40), .ref (v 41), .ref (v 42), .int 0, .long 0])), ((v 1), .inl (T 0, 4, .inl (upd (upd (upd (upd (fun _ => 0) 0 (-1)) 1 (-1)) 2 (-1)) 3 (-1))))]) [154, 155] (by decide) rfl)) (va_recv hK hP (ci := 11) (q0 := 154) rfl rfl) rfl hl.1 rfl (Nat.le_of_ble_eq_true rfl) dL_law_1854 ⟨(Nat.le_of_ble_eq_true rfl), (Nat.le_of_ble_eq_true rfl)⟩) hS hA hP hD [154, 155] [] rfl rfl (by decide) (by decide) (fun r_4 u_5 H locs hw hP hD hS => ?_)
  have c_6 : r_4 = a_paste (xs 1) (xs 3) := hw
  refine lv_icmp_eq (tgt := 1862) hx hb dL_law_1857 (by decide) (fun _ => ?_) (fun h => absurd (c_3.trans c_6.symm) h)
  refine lv_iinc (v := 6) (lv' := [(3, .int 6), (2, .ref m0), (1, .ref x0), (0, .ref b)]) hx hb dL_law_1862 hl (k := 0) rfl (by decide) (by decide) rfl (fun ls hl => ?_)
  refine lv_goto (tgt := 18) hx hb dL_law_1865 (by decide) ?_
  refine lv_iload_n hx hb dL_law_18 rfl (lv_at hl 0 rfl) ?_
  refine lv_aload_n hx hb dL_law_19 rfl (lv_at hl 3 rfl) ?_
  refine va_slen hx hb hX hbl hbA hS dL_law_20 ?_
  refine eqi (v := 6) (by decide) ?_
  refine lv_bipush (v := 6) hx hb dL_law_21 (by decide) ?_
  refine lv_isub hx hb dL_law_23 ?_
  refine eqi (v := 0) (by decide) ?_
  refine lv_icmp_gt (tgt := 1868) hx hb dL_law_24 (by decide) (fun _ => ?_) (fun c_7 => absurd (by decide) c_7)
  refine lv_iconst (v := 1) hx hb dL_law_1868 (by decide) ?_
  refine va_forget (fun q hq => hS.2.2 q hq) ?_
  refine W.widen (k := 600000) (n := 7302250) (Nat.le_of_ble_eq_true rfl) (Nat.le_of_ble_eq_true rfl) ?_
  exact lw_ret hx hb hr hlocks dL_law_1869

set_option maxHeartbeats 4000000 in
set_option maxRecDepth 100000 in
theorem lawcase_53 {p : Program} {e : Env} {s : State} {m : MethodId} {below : List Frame} {meth : Method} {c : Code} (l : Launch) {b : Nat} {xs : Nat → Int32} (C0 : lw_At p s m meth c b 6 xs) {D : va_G} {T : Nat → ClassId} (hC : cx D T s) {H : Heap} {locs : List Loc} (x0 m0 : Nat) (u v : Nat → Nat) (hP : va_P D vwCl (lawW T x0 m0 u v) H) (hD : va_D (fun q : Nat => s.heap.size ≤ q) (lawW T x0 m0 u v)) (hS : va_S (fun q : Nat => s.heap.size ≤ q) s.heap H locs) {ls : Array Slot} (hl : lv_has ls 4 [(3, .int 0), (2, .ref m0), (1, .ref x0), (0, .ref b)]) : W p l e room_1 s m #[Value.ref b] below meth c H locs 181 83004 (lw_Z below #[Value.ref b] s) (F0 m 1862 ls []) := by
  obtain ⟨hx, hb, hr, hml, hown, hts0, hX, hbl, hlocks, hgv⟩ := id C0
  have hts : ∀ w ∈ gt, w.before #[Value.ref b] s = true := fun w hw => hts0 w (List.mem_filter.mp hw).1
  have hown : s.vm.findClass RL = some m.cls := hown
  have hb : c.code = cL_law := hb
  have hA : ∀ q : Nat, s.heap.size ≤ q → (fun q : Nat => s.heap.size ≤ q) q := fun _ h => h
  have hbA : ¬ (fun q : Nat => s.heap.size ≤ q) b := Nat.not_le.mpr hbl
  have hK := hC.1
  refine lv_iinc (v := 6) (lv' := [(3, .int 6), (2, .ref m0), (1, .ref x0), (0, .ref b)]) hx hb dL_law_1862 hl (k := 0) rfl (by decide) (by decide) rfl (fun ls hl => ?_)
  refine lv_goto (tgt := 18) hx hb dL_law_1865 (by decide) ?_
  refine lv_iload_n hx hb dL_law_18 rfl (lv_at hl 0 rfl) ?_
  refine lv_aload_n hx hb dL_law_19 rfl (lv_at hl 3 rfl) ?_
  refine va_slen hx hb hX hbl hbA hS dL_law_20 ?_
  refine eqi (v := 6) (by decide) ?_
  refine lv_bipush (v := 6) hx hb dL_law_21 (by decide) ?_
  refine lv_isub hx hb dL_law_23 ?_
  refine eqi (v := 0) (by decide) ?_
  refine lv_icmp_gt (tgt := 1868) hx hb dL_law_24 (by decide) (fun _ => ?_) (fun c_1 => absurd (by decide) c_1)
  refine lv_iconst (v := 1) hx hb dL_law_1868 (by decide) ?_
  refine va_forget (fun q hq => hS.2.2 q hq) ?_
  refine W.widen (k := 600000) (n := 7302250) (Nat.le_of_ble_eq_true rfl) (Nat.le_of_ble_eq_true rfl) ?_
  exact lw_ret hx hb hr hlocks dL_law_1869
