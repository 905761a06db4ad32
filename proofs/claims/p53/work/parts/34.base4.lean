/-! the strings of the Reader, by their places -/
abbrev SKT : Type := (Nat → Nat) × (Nat → Nat)
def sIx : List Nat := [113, 115, 119, 123, 104, 45, 134, 138, 142, 54, 183, 185, 187, 189, 191, 193, 162, 164, 169, 173, 177, 181, 59, 195, 200, 202, 64, 84]
def sTx : List String := ["wall", "wide", "high", "bond", ";", "sort", "weight", "bears", "many", "voter", "west", "winner", "loser", "east", "near", "low", "heavy", "light", "carries", "far", "from", "to", "rule", "heavier", "higher", "more", "storm", "mason"]
def sLen : List Nat := [4, 4, 4, 4, 1, 4, 6, 5, 4, 5, 4, 6, 5, 4, 4, 3, 5, 5, 7, 3, 4, 2, 4, 7, 6, 4, 5, 5]
def sBy : List (List Int32) := [[119, 97, 108, 108], [119, 105, 100, 101], [104, 105, 103, 104], [98, 111, 110, 100], [59], [115, 111, 114, 116], [119, 101, 105, 103, 104, 116], [98, 101, 97, 114, 115], [109, 97, 110, 121], [118, 111, 116, 101, 114], [119, 101, 115, 116], [119, 105, 110, 110, 101, 114], [108, 111, 115, 101, 114], [101, 97, 115, 116], [110, 101, 97, 114], [108, 111, 119], [104, 101, 97, 118, 121], [108, 105, 103, 104, 116], [99, 97, 114, 114, 105, 101, 115], [102, 97, 114], [102, 114, 111, 109], [116, 111], [114, 117, 108, 101], [104, 101, 97, 118, 105, 101, 114], [104, 105, 103, 104, 101, 114], [109, 111, 114, 101], [115, 116, 111, 114, 109], [109, 97, 115, 111, 110]]
theorem sLen_le (j : Nat) : sLen.getD j 0 ≤ 7 := by
  have key : ∀ x ∈ sLen, x ≤ 7 := by decide
  rw [List.getD_eq_getElem?_getD]
  cases h : sLen[j]? with
  | none => simp
  | some x => simpa using key x (List.mem_of_getElem? h)
def sx (K : SKT) (A : Nat → Prop) (U : State) (H : Heap) : Prop := (∀ i : Nat, i < 28 → vk_R RX1 (sIx.getD i 0) (sTx.getD i "") (K.1 i) U) ∧ vk_S 28 sLen sBy K.1 K.2 A U H ∧ va_Z "java/lang/String" "COMPACT_STRINGS" "Z" (.int 1) A U H ∧ va_Zq "jdk/internal/util/Preconditions" "SIOOBE_FORMATTER" "Ljava/util/function/BiFunction;" A U H
theorem sx.keep {K : SKT} {A : Nat → Prop} {U : State} {H H1 : Heap} (h : sx K A U H) (hq : ∀ a : Nat, a < H.size → ¬ A a → H1[a]? = H[a]?) : sx K A U H1 := ⟨h.1, h.2.1.kept hq, h.2.2.1.kept hq, h.2.2.2.kept hq⟩
theorem sx.less {K : SKT} {A B : Nat → Prop} {U : State} {H : Heap} (h : sx K A U H) (hAB : ∀ q, B q → A q) : sx K B U H := ⟨h.1, h.2.1.narrow hAB, h.2.2.1.narrow hAB, h.2.2.2.narrow hAB⟩
theorem sx.calling {K : SKT} {A : Nat → Prop} {U : State} {H : Heap} (h : sx K A U H) (a : Array Value) (g : JFrame) (mk : MethodId) : sx K A (U.calling g mk a) H :=
  ⟨fun i hi => vk_R.same (u := U) (U := U.calling g mk a) rfl (h.1 i hi), vk_S.moved (u := U) (U := U.calling g mk a) (Vm.Alike.refl U.vm) h.2.1, va_Z.moved (u := U) (U := U.calling g mk a) (Vm.Alike.refl U.vm) h.2.2.1, va_Zq.moved (u := U) (U := U.calling g mk a) (Vm.Alike.refl U.vm) h.2.2.2⟩
theorem sx.warm {K : SKT} {A : Nat → Prop} {s U : State} {H : Heap} (hW : s.WarmedH U.vm) (h : sx K A s H) : sx K A U H :=
  ⟨fun i hi => vk_R.warm hW (h.1 i hi), vk_S.moved hW.alike h.2.1, va_Z.moved hW.alike h.2.2.1, va_Zq.moved hW.alike h.2.2.2⟩
def pwPs (D : va_G) (T : Nat → ClassId) (ws : va_W) (K : SKT) (U : State) : Prop := pwP D T ws U ∧ sx K (fun _ => False) U U.heap
def pwMs (D : va_G) (T : Nat → ClassId) (ws : va_W) (sz : Nat) (K : SKT) (U : State) : Prop := pwM D T ws sz U ∧ sx K (va_A ws sz) U U.heap
theorem prePs {D : va_G} {T : Nat → ClassId} {s : State} {H : Heap} {locs : List Loc} {wc : va_W} {A : Nat → Prop} {K : SKT} (hC : cx D T s) (hP : va_P D vwCl wc H) (hX : sx K A s s.heap) (hS : va_S A s.heap H locs) : PreB s H (pwPs D T wc K) :=
  ⟨fun a U g mk q => ⟨⟨q.1.1, q.1.2.calling a g mk⟩, q.2.calling a g mk⟩, fun U hU hW => ⟨⟨by rw [hU]; exact hP, hC.warm hW⟩, by rw [hU]; exact ((hX.keep hS.2.1).less (fun _ h => h.elim)).warm hW⟩⟩
theorem preMs {D : va_G} {T : Nat → ClassId} {s : State} {H : Heap} {locs : List Loc} {wc : va_W} {A : Nat → Prop} {K : SKT} (hC : cx D T s) (hP : va_P D vwCl wc H) (hD : va_D A wc) (hX : sx K A s s.heap) (hS : va_S A s.heap H locs) (hA : ∀ q, s.heap.size ≤ q → A q) : PreB s H (pwMs D T wc H.size K) :=
  ⟨fun a U g mk q => ⟨⟨q.1.1, q.1.2.1, q.1.2.2.1.calling a g mk, q.1.2.2.2⟩, q.2.calling a g mk⟩, fun U hU hW => ⟨⟨by rw [hU], by rw [hU]; exact hP, hC.warm hW, hD.weaken (fun _ _ _ _ => trivial)⟩, by
    rw [hU]
    refine ((hX.keep hS.2.1).less (fun q h => ?_)).warm hW
    rcases h with ⟨k, e, h⟩ | h
    · exact hD.2 k _ h
    · exact hA q (Nat.le_trans hS.1 h)⟩⟩
section PV
variable {p : Program} {l : Launch} {e : Env} {R : Room} {s : State} {m : MethodId} {args : Array Value} {below : List Frame} {meth : Method} {c : Code} {H : Heap} {locs : List Loc} {cells slots : Nat} {Q : State → Prop} {rest : List Value} {pc : Nat} {ls : Array Slot} {st0 : List Value} {D : va_G} {ws : va_W} {A0 : Nat → Prop} {H0 : Heap} {a : Array Value}
theorem puV {post : Unit → Prop} (hr : va_Run p l e R s m args below meth c H locs cells slots 0 0 (F0 m pc ls st0) rest (va_Qv post (fun _ _ => True) (fun _ => False) a) (fun _ => False)) (hS : va_S A0 H0 H locs) (hP : va_P D vwCl ws H)
    (kk : ∀ (H1 : Heap) (locs1 : List Loc), post () → va_P D vwCl ws H1 → va_S A0 H0 H1 locs1 → W p l e R s m args below meth c H1 locs1 cells slots Q (F0 m (pc + 3) ls rest)) : W p l e R s m args below meth c H locs cells slots Q (F0 m pc ls st0) :=
  va_callv hr hS (fun _ _ h => h.elim) (fun _ h => h.elim) (fun _ t H1 locs1 _ _ hp _ _ hk hS1 => kk H1 locs1 hp (hP.kept (fun k q hq => hk q.1 (hP k q hq).lt (fun h => h))) hS1)
end PV
