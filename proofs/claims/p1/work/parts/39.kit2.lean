
/-! small facts (rows of this claim) -/
theorem z_ge {c d x : Int32} (hd : d.toInt = c.toInt + 1) (h : c < x) : d ≤ x := by
  rw [Int32.le_iff_toInt_le, hd]; exact Int.add_one_le_iff.mpr (Int32.lt_iff_toInt_lt.mp h)
theorem z_sub1 (k : Int32) : k - (k - 1) = 1 := by grind
theorem z_splitZ (x : Int32) : x < 0 ∨ 0 < x ∨ x = 0 := by
  by_cases h : x = 0
  · exact Or.inr (Or.inr h)
  rcases Int32.lt_or_lt_of_ne h with h | h
  · exact Or.inl h
  · exact Or.inr (Or.inl h)
theorem z_ok3 {x : Int32} (h0 : ¬ x < 0) (h1 : ¬ 2 < x) : x = 0 ∨ x = 1 ∨ x = 2 := by
  rcases z_split3 x with h | h | h
  · exact absurd h h0
  · exact absurd h.2 h1
  · exact h
theorem z_ok1 {x : Int32} (h0 : ¬ x < 0) (h1 : ¬ 1 < x) : x = 0 ∨ x = 1 := by
  rcases z_split2 x with h | h | h
  · exact absurd h h0
  · exact absurd h.2 h1
  · exact h
theorem z_ok2 {x : Int32} (h0 : ¬ x < 0) (h1 : ¬ 2 < x) : x = 2 ∨ ¬ 1 < x := by
  rcases z_ok3 h0 h1 with rfl | rfl | rfl <;> decide
theorem z_ne_lt {x : Int32} (h : x < 0) : ¬ x = 0 := fun e => Int32.ne_of_lt h e
theorem z_ne_gt {x : Int32} (h : 0 < x) : ¬ x = 0 := fun e => Int32.ne_of_lt h e.symm
section ZB
variable {s : State} {H : Heap} {locs : List Loc} {eD eI : Nat} {ad : Nat → Nat} {D : va_G} {A : Nat → Prop} {ws wc : va_W} {tys tysC : List (ClassId × FieldType)}
theorem z_box (hE : zEnv eD eI ad A s) (hS : va_S A s.heap H locs) {k : Nat} (hk : k < 256) : ∃ cell : Cell, H[ad k]? = some cell ∧ cell.vm.isStatics = false ∧ s.vm.findClass "java/lang/Integer" = some cell.cls := by
  obtain ⟨cell, h1, h2, h3, -⟩ := (hE.2.2.2.2.2.2.2.2.2.2.2.2.1 k hk).kept hS.2.1
  exact ⟨cell, h1, h2, h3⟩
theorem z_preVB {As : List Value} {k : Nat} (hP : va_P D vwCl ws H) (hD : va_D A ws) (hK : va_K D vwCl tys s) (hS : va_S A s.heap H locs) (hA : ∀ q, s.heap.size ≤ q → A q) (hE : zEnv eD eI ad A s) (isC isT : List Nat) (hC : isC.map (fun i => ws[i]?) = wc.map some) (hn : va_nd isC = true) (hT : isT.filterMap (fun i => tys[i]?) = tysC) (hk : k < 256) : PreV s H "java/lang/Integer" (ad k) (va_Pc (.ref (ad k) :: As) (zPre eD eI ad D wc tysC H.size)) As := by
  obtain ⟨h1, h2⟩ := z_preS (As := .ref (ad k) :: As) hP hD hK hS hA hE isC isT hC hn hT
  exact ⟨h1, z_box hE hS hk, h2⟩
end ZB
