
/-! The environment of every contract; ends; calls (rows of this claim, by wip/p1/mkkit.py) -/
def zNest : List Cond := [.methodLinkNest "Hornbook" 202 ⟨"Hornbook$Method", "<init>", "()V"⟩ "Hornbook", .methodLinkNest "Hornbook" 375 ⟨"Hornbook$Expression", "<init>", "()V"⟩ "Hornbook", .methodLinkNest "Hornbook" 45 ⟨"Hornbook$Flaws", "<init>", "()V"⟩ "Hornbook", .methodLinkNest "Hornbook" 84 ⟨"Hornbook$Sort", "<init>", "()V"⟩ "Hornbook", .methodLinkNest "Hornbook$Chooser" 52 ⟨"Hornbook$Candidate", "<init>", "()V"⟩ "Hornbook", .methodLinkNest "Hornbook$Room" 238 ⟨"Hornbook$Step", "<init>", "()V"⟩ "Hornbook", .methodLinkNest "Hornbook$Room" 41 ⟨"Hornbook$Pairs", "<init>", "()V"⟩ "Hornbook", .methodLinkNest "Hornbook$Room" 67 ⟨"Hornbook$Sizes", "<init>", "()V"⟩ "Hornbook", .methodLinkNest "HornbookModel" 226 ⟨"HornbookModel$Word", "<init>", "()V"⟩ "HornbookModel", .methodLinkNest "HornbookModel$View" 188 ⟨"HornbookModel$Word", "<init>", "()V"⟩ "HornbookModel", .fieldLinkNest "HornbookModel$View" 112 "HornbookModel" "methods" "Ljava/util/ArrayList;" "HornbookModel", .fieldLinkNest "HornbookModel$View" 208 "HornbookModel" "expressions" "Ljava/util/ArrayList;" "HornbookModel", .fieldLinkNest "HornbookModel$View" 28 "HornbookModel" "sorts" "Ljava/util/ArrayList;" "HornbookModel"]
def zStrs : List (String × Nat × String) := [("Hornbook", 142, "no PARENT for this SORT"), ("Hornbook", 147, "no more PARENTS"), ("Hornbook", 165, "not as many as the PARAMETERS"), ("Hornbook", 170, "too deep"), ("Hornbook", 191, "no such PARAMETER"), ("Hornbook", 196, "in one is what the METHOD must not use"), ("Hornbook", 198, "no more METHODS"), ("Hornbook", 237, "no such thing to count"), ("Hornbook", 279, "no such FAULT"), ("Hornbook", 282, "nothing to tell of a FAULT"), ("Hornbook", 297, "no such FLAW"), ("Hornbook", 299, "nothing to tell of a FLAW"), ("Hornbook", 316, "no such METHOD"), ("Hornbook", 351, "no such SORT"), ("Hornbook", 353, "no such TYPE"), ("Hornbook", 355, "no such EXPRESSION"), ("Hornbook", 357, "not CLOSED"), ("Hornbook", 359, "no more TYPES"), ("Hornbook", 361, "no NAME"), ("Hornbook", 363, "the second one without the first one"), ("Hornbook", 365, "no PARAMETER is so"), ("Hornbook", 373, "no more EXPRESSIONS"), ("Hornbook", 68, "no such PARAMETERS"), ("Hornbook", 79, "no more SORTS")]
def zOver : List String := ["Hornbook$Candidate", "HornbookModel$Tree", "java/lang/Object"]
def zCast : List (String × String) := [("Hornbook", "java/lang/Object"), ("Hornbook$Candidate", "java/lang/Object"), ("Hornbook$Chooser", "java/lang/Object"), ("Hornbook$Expression", "java/lang/Object"), ("Hornbook$Flaws", "java/lang/Object"), ("Hornbook$Method", "java/lang/Object"), ("Hornbook$Nodes", "java/lang/Object"), ("Hornbook$Pairs", "java/lang/Object"), ("Hornbook$Room", "java/lang/Object"), ("Hornbook$Sizes", "java/lang/Object"), ("Hornbook$Sort", "java/lang/Object"), ("Hornbook$Step", "java/lang/Object"), ("HornbookModel", "java/lang/Object"), ("HornbookModel$Expression", "java/lang/Object"), ("HornbookModel$Method", "java/lang/Object"), ("HornbookModel$Sort", "java/lang/Object"), ("HornbookModel$Taking", "java/lang/Object"), ("HornbookModel$Tree", "java/lang/Object"), ("HornbookModel$View", "java/lang/Object"), ("HornbookModel$Word", "java/lang/Object"), ("[B", "java/lang/Object"), ("[I", "java/lang/Cloneable"), ("[I", "java/lang/Object"), ("[J", "java/lang/Cloneable"), ("[J", "java/lang/Object"), ("[LHornbook$Candidate;", "java/lang/Object"), ("[LHornbookModel$Tree;", "java/lang/Object"), ("[Ljava/lang/Object;", "java/lang/Object"), ("java/lang/IllegalArgumentException", "java/lang/IllegalArgumentException"), ("java/lang/IllegalArgumentException", "java/lang/Object"), ("java/lang/IllegalStateException", "java/lang/IllegalStateException"), ("java/lang/IllegalStateException", "java/lang/Object"), ("java/lang/IndexOutOfBoundsException", "java/lang/IndexOutOfBoundsException"), ("java/lang/IndexOutOfBoundsException", "java/lang/Object"), ("java/lang/Integer", "java/lang/Object"), ("java/lang/String", "java/lang/Object"), ("java/lang/Throwable", "java/lang/Object"), ("java/util/ArrayList", "java/lang/Object")]
def zNot : List (String × String) := [("java/lang/IllegalArgumentException", "java/lang/IllegalStateException"), ("java/lang/IllegalArgumentException", "java/lang/IndexOutOfBoundsException"), ("java/lang/IllegalStateException", "java/lang/IllegalArgumentException"), ("java/lang/IllegalStateException", "java/lang/IndexOutOfBoundsException"), ("java/lang/IndexOutOfBoundsException", "java/lang/IllegalArgumentException"), ("java/lang/IndexOutOfBoundsException", "java/lang/IllegalStateException")]
theorem zNest_on : ∀ w ∈ zNest, w.onTables = true := by decide +kernel
theorem zNest_warm {s U : State} (hW : s.WarmedH U.vm) : ∀ w ∈ zNest, va_Nw w s → va_Nw w U := by
  intro w hw h
  simp only [zNest, List.mem_cons, List.not_mem_nil, or_false] at hw
  rcases hw with rfl | rfl | rfl | rfl | rfl | rfl | rfl | rfl | rfl | rfl | rfl | rfl | rfl
  · exact va_Nw.warmM hW h
  · exact va_Nw.warmM hW h
  · exact va_Nw.warmM hW h
  · exact va_Nw.warmM hW h
  · exact va_Nw.warmM hW h
  · exact va_Nw.warmM hW h
  · exact va_Nw.warmM hW h
  · exact va_Nw.warmM hW h
  · exact va_Nw.warmM hW h
  · exact va_Nw.warmM hW h
  · exact va_Nw.warmF hW h
  · exact va_Nw.warmF hW h
  · exact va_Nw.warmF hW h
/-- the boxes of small numbers -/
def zInt (eI : Nat) (ad : Nat → Nat) (A : Nat → Prop) (U : State) (H : Heap) : Prop :=
  va_Z "java/lang/Integer$IntegerCache" "high" "I" (.int 127) A U H ∧ va_Z "java/lang/Integer$IntegerCache" "cache" "[Ljava/lang/Integer;" (.ref eI) A U H ∧ va_T (.object "java/lang/Integer") eI 256 (fun k => .ref (ad k)) A U H ∧ vb_C ad A U H
theorem zInt.moved {eI : Nat} {ad : Nat → Nat} {A : Nat → Prop} {u U : State} {H : Heap} (hv : u.vm.Alike U.vm) (h : zInt eI ad A u H) : zInt eI ad A U H := ⟨va_Z.moved hv h.1, va_Z.moved hv h.2.1, va_T.moved hv h.2.2.1, vb_C.moved hv h.2.2.2⟩
theorem zInt.kept {eI : Nat} {ad : Nat → Nat} {A : Nat → Prop} {U : State} {H H1 : Heap} (h : zInt eI ad A U H) (hq : ∀ a : Nat, a < H.size → ¬ A a → H1[a]? = H[a]?) : zInt eI ad A U H1 := ⟨va_Z.kept h.1 hq, va_Z.kept h.2.1 hq, va_T.kept h.2.2.1 hq, vb_C.kept h.2.2.2 hq⟩
theorem zInt.narrow {eI : Nat} {ad : Nat → Nat} {A B : Nat → Prop} {U : State} {H : Heap} (h : zInt eI ad A U H) (hAB : ∀ q, B q → A q) : zInt eI ad B U H := ⟨va_Z.narrow h.1 hAB, va_Z.narrow h.2.1 hAB, va_T.narrow h.2.2.1 hAB, vb_C.narrow h.2.2.2 hAB⟩
/-- what every method may need beside its own cells: where exceptions are made, private links, texts, the empty list's row; A is what may be written -/
def zEnv (eD eI : Nat) (ad : Nat → Nat) (A : Nat → Prop) (U : State) : Prop :=
  vx_Zq Bundle.tN "UNASSIGNED_STACK" Bundle.steD A U U.heap ∧ vx_Zq Bundle.tN "SUPPRESSED_SENTINEL" Bundle.listD A U U.heap ∧ (∀ w ∈ zNest, va_Nw w U) ∧ (∀ q ∈ zStrs, ∃ sa : Nat, vk_R q.1 q.2.1 q.2.2 sa U) ∧
  va_Z "java/util/ArrayList" "DEFAULTCAPACITY_EMPTY_ELEMENTDATA" "[Ljava/lang/Object;" (.ref eD) A U U.heap ∧ va_T (.object "java/lang/Object") eD 0 (fun _ => .null) A U U.heap ∧ (∀ C ∈ zOver, va_AO C U) ∧ (∀ q ∈ zCast, va_Nw (.castable q.1 q.2) U) ∧ (∀ q ∈ zNot, va_Nc q.1 q.2 U) ∧ zInt eI ad A U U.heap
theorem zEnv.call {eD eI : Nat} {ad : Nat → Nat} {s U : State} {H : Heap} {locs : List Loc} {A A1 : Nat → Prop} (h : zEnv eD eI ad A s) (hS : va_S A s.heap H locs) (hsub : ∀ q, A1 q → A q) (hU : U.heap = H) (hW : s.WarmedH U.vm) : zEnv eD eI ad A1 U := by
  obtain ⟨h1, h2, h3, h4, h5, h6, h7, h8, h9, h10⟩ := h
  have hk := hS.2.1
  have ha := hW.alike
  refine ⟨?_, ?_, fun w hw => zNest_warm hW w hw (h3 w hw), ?_, ?_, ?_, fun C hC => va_AO.moved ha (h7 C hC), fun q hq => va_Nw.warmC hW (h8 q hq), fun q hq => va_Nc.moved ha (h9 q hq), by rw [hU]; exact ((h10.moved ha).kept hk).narrow hsub⟩
  · rw [hU]; exact vx_Zq.narrow (vx_Zq.kept (vx_Zq.moved ha h1) hk) hsub
  · rw [hU]; exact vx_Zq.narrow (vx_Zq.kept (vx_Zq.moved ha h2) hk) hsub
  · intro q hq
    obtain ⟨sa, hs⟩ := h4 q hq
    exact ⟨sa, vk_R.warm hW hs⟩
  · rw [hU]; exact va_Z.narrow (va_Z.kept (va_Z.moved ha h5) hk) hsub
  · rw [hU]; exact va_T.narrow (va_T.kept (va_T.moved ha h6) hk) hsub
theorem zEnv.same {eD eI : Nat} {ad : Nat → Nat} {u U : State} {A : Nat → Prop} (h : zEnv eD eI ad A u) (hv : U.vm = u.vm) (hh : U.heap = u.heap) : zEnv eD eI ad A U := by
  obtain ⟨h1, h2, h3, h4, h5, h6, h7, h8, h9, h10⟩ := h
  have ha : u.vm.Alike U.vm := by rw [hv]; exact Vm.Alike.refl u.vm
  refine ⟨?_, ?_, fun w hw => va_tabs (zNest_on w hw) hv.symm (h3 w hw), ?_, ?_, ?_, fun C hC => va_AO.moved ha (h7 C hC), fun q hq => va_tabs rfl hv.symm (h8 q hq), fun q hq => va_Nc.moved ha (h9 q hq), by rw [hh]; exact h10.moved ha⟩
  · rw [hh]; exact vx_Zq.moved ha h1
  · rw [hh]; exact vx_Zq.moved ha h2
  · intro q hq
    obtain ⟨sa, hs⟩ := h4 q hq
    exact ⟨sa, vk_R.same hv hs⟩
  · rw [hh]; exact va_Z.moved ha h5
  · rw [hh]; exact va_T.moved ha h6
theorem zEnv.narrow {eD eI : Nat} {ad : Nat → Nat} {s : State} {A A1 : Nat → Prop} (h : zEnv eD eI ad A s) (hsub : ∀ q, A1 q → A q) : zEnv eD eI ad A1 s := by
  obtain ⟨h1, h2, h3, h4, h5, h6, h7, h8, h9, h10⟩ := h
  exact ⟨vx_Zq.narrow h1 hsub, vx_Zq.narrow h2 hsub, h3, h4, va_Z.narrow h5 hsub, va_T.narrow h6 hsub, h7, h8, h9, h10.narrow hsub⟩
/-- a contract's start -/
abbrev zPre (eD eI : Nat) (ad : Nat → Nat) (D : va_G) (ws : va_W) (tys : List (ClassId × FieldType)) (sz : Nat) (U : State) : Prop := U.heap.size = sz ∧ va_P D vwCl ws U.heap ∧ va_K D vwCl tys U ∧ va_D (fun _ => True) ws ∧ zEnv eD eI ad (va_A ws sz) U
/-- a contract's end -/
abbrev zEnd (D : va_G) (A : Nat → Prop) (ws : va_W) (tys : List (ClassId × FieldType)) (t : State) : Prop := va_P D vwCl ws t.heap ∧ va_K D vwCl tys t ∧ va_D A ws
/-- it throws: the class of what is thrown -/
def zX (bad : String → Prop) (A : Nat → Prop) : String → State → State → Prop := vx_X (S := Unit) (fun _ => True) (fun E _ _ => bad E) A
theorem zPre.blind {eD eI : Nat} {ad : Nat → Nat} {D : va_G} {ws : va_W} {tys : List (ClassId × FieldType)} {sz : Nat} {av : List Value} : FrameBlind (va_Pc av (zPre eD eI ad D ws tys sz)) := by
  intro a U g mk h
  obtain ⟨h0, h1, h2, h3, h4, h5⟩ := h
  exact ⟨h0, h1, h2, va_K.moved (u := U) (U := U.calling g mk a) (Vm.Alike.refl U.vm) h3, h4, h5.same rfl rfl⟩
theorem z_fm {α : Type} {f : Nat → Option α} : ∀ {is : List Nat} {wc : List α}, is.map f = wc.map some → is.filterMap f = wc
  | [], [], _ => rfl
  | [], _ :: _, h => by simp at h
  | _ :: _, [], h => by simp at h
  | i :: is, w :: wc, h => by
    simp only [List.map_cons, List.cons.injEq] at h
    rw [List.filterMap_cons, h.1, z_fm h.2]
theorem z_clsAt {D : va_G} {cl : List vw_C} {tys : List (ClassId × FieldType)} {U : State} (hK : va_K D cl tys U) {ci : Nat} {q : vw_C} (hc : cl[ci]? = some q) : ClassAt U q.1 (D.1 ci) := by
  exact (hK.1 ci q hc).2
theorem z_traces {l : Launch} (h : l.flags = flags0) : l.stackTraces = false := by
  unfold Launch.stackTraces; rw [h]; decide
theorem z_splitS (x : Int32) : x < 0 ∨ ¬ x < 0 := Decidable.em _
theorem z_le (x M : Int32) (n : Nat) (hM : M.toInt = n) (h0 : ¬ x < 0) (h1 : ¬ M < x) : ∃ j : Nat, j ≤ n ∧ x = nI j := nI_of2 hM h0 (Int32.not_lt.mp h1)
theorem z_split2 (x : Int32) : x < 0 ∨ (¬ x < 0 ∧ 1 < x) ∨ x = 0 ∨ x = 1 := by
  by_cases h0 : x < 0
  · exact Or.inl h0
  by_cases h1 : 1 < x
  · exact Or.inr (Or.inl ⟨h0, h1⟩)
  obtain ⟨j, hj, rfl⟩ := z_le x 1 1 (by decide) h0 h1
  have : j = 0 ∨ j = 1 := by omega
  rcases this with rfl | rfl <;> decide
theorem z_split3 (x : Int32) : x < 0 ∨ (¬ x < 0 ∧ 2 < x) ∨ x = 0 ∨ x = 1 ∨ x = 2 := by
  by_cases h0 : x < 0
  · exact Or.inl h0
  by_cases h1 : 2 < x
  · exact Or.inr (Or.inl ⟨h0, h1⟩)
  obtain ⟨j, hj, rfl⟩ := z_le x 2 2 (by decide) h0 h1
  have : j = 0 ∨ j = 1 ∨ j = 2 := by omega
  rcases this with rfl | rfl | rfl <;> decide
theorem z_split4 (x : Int32) : x < 0 ∨ (¬ x < 0 ∧ 3 < x) ∨ x = 0 ∨ x = 1 ∨ x = 2 ∨ x = 3 := by
  by_cases h0 : x < 0
  · exact Or.inl h0
  by_cases h1 : 3 < x
  · exact Or.inr (Or.inl ⟨h0, h1⟩)
  obtain ⟨j, hj, rfl⟩ := z_le x 3 3 (by decide) h0 h1
  have : j = 0 ∨ j = 1 ∨ j = 2 ∨ j = 3 := by omega
  rcases this with rfl | rfl | rfl | rfl <;> decide
theorem z_splitN (x : Int32) : x = (-1) ∨ (¬ x = (-1) ∧ x < 0) ∨ (¬ x = (-1) ∧ ¬ x < 0 ∧ 2 < x) ∨ x = 0 ∨ x = 1 ∨ x = 2 := by
  by_cases h9 : x = (-1)
  · exact Or.inl h9
  rcases z_split3 x with h | ⟨h0, h⟩ | h
  · exact Or.inr (Or.inl ⟨h9, h⟩)
  · exact Or.inr (Or.inr (Or.inl ⟨h9, h0, h⟩))
  · exact Or.inr (Or.inr (Or.inr h))
theorem z_splitQ (x : Int32) : x < 0 ∨ (¬ x < 0 ∧ 2 < x) ∨ (¬ x < 0 ∧ ¬ 2 < x) := by
  by_cases h0 : x < 0
  · exact Or.inl h0
  by_cases h1 : 2 < x
  · exact Or.inr (Or.inl ⟨h0, h1⟩)
  · exact Or.inr (Or.inr ⟨h0, h1⟩)
theorem z_splitP (x : Int32) : x = (-1) ∨ (¬ x = (-1) ∧ x < 0) ∨ (¬ x = (-1) ∧ ¬ x < 0 ∧ 2 < x) ∨ (¬ x = (-1) ∧ ¬ x < 0 ∧ ¬ 2 < x) := by
  by_cases h9 : x = (-1)
  · exact Or.inl h9
  rcases z_splitQ x with h | ⟨h0, h⟩ | ⟨h0, h⟩
  · exact Or.inr (Or.inl ⟨h9, h⟩)
  · exact Or.inr (Or.inr (Or.inl ⟨h9, h0, h⟩))
  · exact Or.inr (Or.inr (Or.inr ⟨h9, h0, h⟩))
theorem z_splitM (x : Int32) : x < 0 ∨ (¬ x < 0 ∧ 9 < x) ∨ (¬ x < 0 ∧ ¬ 9 < x) := by
  by_cases h0 : x < 0
  · exact Or.inl h0
  by_cases h1 : 9 < x
  · exact Or.inr (Or.inl ⟨h0, h1⟩)
  · exact Or.inr (Or.inr ⟨h0, h1⟩)
theorem z_F {A : Nat → Prop} {s t : State} {H : Heap} {locs : List Loc} (hS : va_S A s.heap H locs) (h1 : H.size ≤ t.heap.size) (h2 : ∀ q : Nat, q < H.size → t.heap[q]? = H[q]?) : va_F A s t := ⟨Nat.le_trans hS.1 h1, fun q h3 h4 => (h2 q (Nat.lt_of_lt_of_le h3 hS.1)).trans (hS.2.1 q h3 h4)⟩
theorem z_or (o : Option Nat) : va_rf o = .null ∨ ∃ a, va_rf o = .ref a := by cases o with | none => exact Or.inl rfl | some a => exact Or.inr ⟨a, rfl⟩
def zAt70 : List Cond := (vx_atS RX11 70 "java/lang/IllegalArgumentException" ["java/lang/RuntimeException", "java/lang/Exception"]).filter goodWord
def zAt81 : List Cond := (vx_atS RX11 81 "java/lang/IllegalStateException" ["java/lang/RuntimeException", "java/lang/Exception"]).filter goodWord
def zAt281 : List Cond := (vx_atS RX11 281 "java/lang/IndexOutOfBoundsException" ["java/lang/RuntimeException", "java/lang/Exception"]).filter goodWord
def zAt : List Cond := zAt70 ++ zAt81 ++ zAt281
theorem zAt_good : zAt.all goodWord = true := by
  rw [List.all_eq_true]; intro w h; simp only [zAt, List.mem_append] at h
  rcases h with ((h | h) | h) <;> exact (List.mem_filter.mp h).2
theorem zAt_70 : ∀ w ∈ (vx_atS RX11 70 "java/lang/IllegalArgumentException" ["java/lang/RuntimeException", "java/lang/Exception"]).filter goodWord, w ∈ zAt := fun w h => List.mem_append_left _ (List.mem_append_left _ (h))
theorem zAt_81 : ∀ w ∈ (vx_atS RX11 81 "java/lang/IllegalStateException" ["java/lang/RuntimeException", "java/lang/Exception"]).filter goodWord, w ∈ zAt := fun w h => List.mem_append_left _ (List.mem_append_right _ h)
theorem zAt_281 : ∀ w ∈ (vx_atS RX11 281 "java/lang/IndexOutOfBoundsException" ["java/lang/RuntimeException", "java/lang/Exception"]).filter goodWord, w ∈ zAt := fun w h => List.mem_append_right _ h
section ZC
variable {p : Program} {l : Launch} {e : Env} {R : Room} {s : State} {m : MethodId} {args : Array Value} {below : List Frame} {meth : Method} {c : Code} {H : Heap} {locs : List Loc} {cells slots : Nat} {Q : State → Prop} {eD eI : Nat} {ad : Nat → Nat} {D : va_G} {A : Nat → Prop} {ws wc wr : va_W} {tys tysC : List (ClassId × FieldType)} {mc ms pc : Nat} {ls : Array Slot} {st0 rest : List Value} {a : Array Value} {H0 : Heap}
theorem z_top {v v' : Value} (h : v = v') (k : W p l e R s m args below meth c H locs cells slots Q (F0 m pc ls (v' :: rest))) : W p l e R s m args below meth c H locs cells slots Q (F0 m pc ls (v :: rest)) := h ▸ k
theorem z_preS {As : List Value} (hP : va_P D vwCl ws H) (hD : va_D A ws) (hK : va_K D vwCl tys s) (hS : va_S A s.heap H locs) (hA : ∀ q, s.heap.size ≤ q → A q) (hE : zEnv eD eI ad A s) (isC isT : List Nat) (hC : isC.map (fun i => ws[i]?) = wc.map some) (hn : va_nd isC = true) (hT : isT.filterMap (fun i => tys[i]?) = tysC) : PreS s H (va_Pc As (zPre eD eI ad D wc tysC H.size)) As := by
  have hF := va_free (wc := wc) hD hS hA isC hC
  have hPc := hP.sub isC (z_fm hC)
  have hDc := hD.sub isC hn hC
  have hKc := hK.sub isT hT
  exact ⟨zPre.blind, fun U hU hW => ⟨rfl, by rw [hU], by rw [hU]; exact hPc, va_K.moved hW.alike hKc, hDc.weaken (fun _ _ _ _ => trivial), hE.call hS hF hU hW⟩⟩
theorem z_preV {As : List Value} {b q0 ci : Nat} {q : vw_C} {fs : List Value} (hP : va_P D vwCl ws H) (hD : va_D A ws) (hK : va_K D vwCl tys s) (hS : va_S A s.heap H locs) (hA : ∀ q, s.heap.size ≤ q → A q) (hE : zEnv eD eI ad A s) (isC isT : List Nat) (hC : isC.map (fun i => ws[i]?) = wc.map some) (hn : va_nd isC = true) (hT : isT.filterMap (fun i => tys[i]?) = tysC) (hc : vwCl[ci]? = some q) (he : wc[q0]? = some (b, .inr (ci, fs))) : PreV s H q.1 b (va_Pc (.ref b :: As) (zPre eD eI ad D wc tysC H.size)) As := by
  obtain ⟨h1, h2⟩ := z_preS (As := .ref b :: As) hP hD hK hS hA hE isC isT hC hn hT
  exact ⟨h1, va_recv hK (hP.sub isC (z_fm hC)) hc he, h2⟩
theorem z_i {S : Type} {post : Int32 → S → Prop} {out : S → va_W} {outT : S → List (ClassId × FieldType)} (hr : va_Run p l e R s m args below meth c H locs cells slots mc ms (F0 m pc ls st0) rest (va_Qi post (fun u => zEnd D (va_A wc H.size) (out u) (outT u)) (va_A wc H.size) a) (va_A wc H.size)) (hP : va_P D vwCl ws H) (hD : va_D A ws) (hK : va_K D vwCl tys s) (hS : va_S A H0 H locs) (hA : ∀ q, H0.size ≤ q → A q) (isC isR : List Nat) (hC : isC.map (fun i => ws[i]?) = wc.map some) (hR : isR.map (fun i => ws[i]?) = wr.map some) (hn : va_nd isR = true) (hdis : ∀ i ∈ isR, i ∉ isC) (kk : ∀ (r : Int32) (u : S) (H1 : Heap) (locs1 : List Loc), post r u → va_P D vwCl (wr ++ out u) H1 → va_D A (wr ++ out u) → va_K D vwCl (tys ++ outT u) s → va_S A H0 H1 locs1 → W p l e R s m args below meth c H1 locs1 (cells + mc) (slots + ms) Q (F0 m (pc + 3) ls (.int r :: rest))) : W p l e R s m args below meth c H locs cells slots Q (F0 m pc ls st0) := by
  have hF := va_free (wc := wc) hD hS hA isC hC
  refine va_calli hr hS (fun q _ h => hF q h) hF (fun r u t H1 locs1 ht hvm hw hB hz1 hk1 hS1 => ?_)
  obtain ⟨hP1, hK1, hD1⟩ := hB
  rw [ht] at hP1
  have hK1 := va_K.moved hvm.symm hK1
  obtain ⟨hP2, hD2⟩ := va_join hP hD isC isR hC hR hn hdis hk1 hF hP1 hD1
  exact kk r u H1 locs1 hw hP2 hD2 (hK.app hK1) hS1
theorem zx_i {S : Type} {post : Int32 → S → Prop} {out : S → va_W} {outT : S → List (ClassId × FieldType)} {bad : String → Prop} (hr : vx_Run p l e R s m args below meth c H locs cells slots mc ms (F0 m pc ls st0) rest (va_Qi post (fun u => zEnd D (va_A wc H.size) (out u) (outT u)) (va_A wc H.size) a) (zX bad (va_A wc H.size)) (va_A wc H.size)) (hP : va_P D vwCl ws H) (hD : va_D A ws) (hK : va_K D vwCl tys s) (hS : va_S A H0 H locs) (hA : ∀ q, H0.size ≤ q → A q) (isC isR : List Nat) (hC : isC.map (fun i => ws[i]?) = wc.map some) (hR : isR.map (fun i => ws[i]?) = wr.map some) (hn : va_nd isR = true) (hdis : ∀ i ∈ isR, i ∉ isC) (kx : ∀ (E : String) (ce : Cell) (q9 : Addr) (H1 : Heap) (locs1 : List Loc), bad E → va_P D vwCl wr H1 → va_D A wr → va_S A H0 H1 locs1 → H1[q9]? = some ce → ce.vm = .none → s.vm.findClass E = some ce.cls → vx_W p l e R s m args below meth c H1 locs1 (cells + mc) (slots + ms) Q (F0 m pc ls rest) q9) (kk : ∀ (r : Int32) (u : S) (H1 : Heap) (locs1 : List Loc), post r u → va_P D vwCl (wr ++ out u) H1 → va_D A (wr ++ out u) → va_K D vwCl (tys ++ outT u) s → va_S A H0 H1 locs1 → W p l e R s m args below meth c H1 locs1 (cells + mc) (slots + ms) Q (F0 m (pc + 3) ls (.int r :: rest))) : W p l e R s m args below meth c H locs cells slots Q (F0 m pc ls st0) := by
  have hF := va_free (wc := wc) hD hS hA isC hC
  refine vx_calli hr hS (fun q _ h => hF q h) hF (fun q _ h => hF q h) (fun E ce q9 u t H1 locs1 ht hvm _ hB hz1 hk1 hS1 h1 h2 h3 => ?_) (fun r u t H1 locs1 ht hvm hw hB hz1 hk1 hS1 => ?_)
  · obtain ⟨hP2, hD2⟩ := va_join (w1 := []) hP hD isC isR hC hR hn hdis hk1 hF (fun k q h => by simp at h) ⟨fun i j p q h => by simp at h, fun k q h => by simp at h⟩
    rw [List.append_nil] at hP2 hD2
    exact kx E ce q9 H1 locs1 hB hP2 hD2 hS1 h1 h2 h3
  · obtain ⟨hP1, hK1, hD1⟩ := hB
    rw [ht] at hP1
    have hK1 := va_K.moved hvm.symm hK1
    obtain ⟨hP2, hD2⟩ := va_join hP hD isC isR hC hR hn hdis hk1 hF hP1 hD1
    exact kk r u H1 locs1 hw hP2 hD2 (hK.app hK1) hS1
theorem z_l {S : Type} {post : Int64 → S → Prop} {out : S → va_W} {outT : S → List (ClassId × FieldType)} (hr : va_Run p l e R s m args below meth c H locs cells slots mc ms (F0 m pc ls st0) rest (va_Ql post (fun u => zEnd D (va_A wc H.size) (out u) (outT u)) (va_A wc H.size) a) (va_A wc H.size)) (hP : va_P D vwCl ws H) (hD : va_D A ws) (hK : va_K D vwCl tys s) (hS : va_S A H0 H locs) (hA : ∀ q, H0.size ≤ q → A q) (isC isR : List Nat) (hC : isC.map (fun i => ws[i]?) = wc.map some) (hR : isR.map (fun i => ws[i]?) = wr.map some) (hn : va_nd isR = true) (hdis : ∀ i ∈ isR, i ∉ isC) (kk : ∀ (r : Int64) (u : S) (H1 : Heap) (locs1 : List Loc), post r u → va_P D vwCl (wr ++ out u) H1 → va_D A (wr ++ out u) → va_K D vwCl (tys ++ outT u) s → va_S A H0 H1 locs1 → W p l e R s m args below meth c H1 locs1 (cells + mc) (slots + ms) Q (F0 m (pc + 3) ls (.long r :: rest))) : W p l e R s m args below meth c H locs cells slots Q (F0 m pc ls st0) := by
  have hF := va_free (wc := wc) hD hS hA isC hC
  refine va_calll hr hS (fun q _ h => hF q h) hF (fun r u t H1 locs1 ht hvm hw hB hz1 hk1 hS1 => ?_)
  obtain ⟨hP1, hK1, hD1⟩ := hB
  rw [ht] at hP1
  have hK1 := va_K.moved hvm.symm hK1
  obtain ⟨hP2, hD2⟩ := va_join hP hD isC isR hC hR hn hdis hk1 hF hP1 hD1
  exact kk r u H1 locs1 hw hP2 hD2 (hK.app hK1) hS1
theorem zx_l {S : Type} {post : Int64 → S → Prop} {out : S → va_W} {outT : S → List (ClassId × FieldType)} {bad : String → Prop} (hr : vx_Run p l e R s m args below meth c H locs cells slots mc ms (F0 m pc ls st0) rest (va_Ql post (fun u => zEnd D (va_A wc H.size) (out u) (outT u)) (va_A wc H.size) a) (zX bad (va_A wc H.size)) (va_A wc H.size)) (hP : va_P D vwCl ws H) (hD : va_D A ws) (hK : va_K D vwCl tys s) (hS : va_S A H0 H locs) (hA : ∀ q, H0.size ≤ q → A q) (isC isR : List Nat) (hC : isC.map (fun i => ws[i]?) = wc.map some) (hR : isR.map (fun i => ws[i]?) = wr.map some) (hn : va_nd isR = true) (hdis : ∀ i ∈ isR, i ∉ isC) (kx : ∀ (E : String) (ce : Cell) (q9 : Addr) (H1 : Heap) (locs1 : List Loc), bad E → va_P D vwCl wr H1 → va_D A wr → va_S A H0 H1 locs1 → H1[q9]? = some ce → ce.vm = .none → s.vm.findClass E = some ce.cls → vx_W p l e R s m args below meth c H1 locs1 (cells + mc) (slots + ms) Q (F0 m pc ls rest) q9) (kk : ∀ (r : Int64) (u : S) (H1 : Heap) (locs1 : List Loc), post r u → va_P D vwCl (wr ++ out u) H1 → va_D A (wr ++ out u) → va_K D vwCl (tys ++ outT u) s → va_S A H0 H1 locs1 → W p l e R s m args below meth c H1 locs1 (cells + mc) (slots + ms) Q (F0 m (pc + 3) ls (.long r :: rest))) : W p l e R s m args below meth c H locs cells slots Q (F0 m pc ls st0) := by
  have hF := va_free (wc := wc) hD hS hA isC hC
  refine vx_calll hr hS (fun q _ h => hF q h) hF (fun q _ h => hF q h) (fun E ce q9 u t H1 locs1 ht hvm _ hB hz1 hk1 hS1 h1 h2 h3 => ?_) (fun r u t H1 locs1 ht hvm hw hB hz1 hk1 hS1 => ?_)
  · obtain ⟨hP2, hD2⟩ := va_join (w1 := []) hP hD isC isR hC hR hn hdis hk1 hF (fun k q h => by simp at h) ⟨fun i j p q h => by simp at h, fun k q h => by simp at h⟩
    rw [List.append_nil] at hP2 hD2
    exact kx E ce q9 H1 locs1 hB hP2 hD2 hS1 h1 h2 h3
  · obtain ⟨hP1, hK1, hD1⟩ := hB
    rw [ht] at hP1
    have hK1 := va_K.moved hvm.symm hK1
    obtain ⟨hP2, hD2⟩ := va_join hP hD isC isR hC hR hn hdis hk1 hF hP1 hD1
    exact kk r u H1 locs1 hw hP2 hD2 (hK.app hK1) hS1
theorem z_d {S : Type} {post : UInt64 → S → Prop} {out : S → va_W} {outT : S → List (ClassId × FieldType)} (hr : va_Run p l e R s m args below meth c H locs cells slots mc ms (F0 m pc ls st0) rest (va_Qd post (fun u => zEnd D (va_A wc H.size) (out u) (outT u)) (va_A wc H.size) a) (va_A wc H.size)) (hP : va_P D vwCl ws H) (hD : va_D A ws) (hK : va_K D vwCl tys s) (hS : va_S A H0 H locs) (hA : ∀ q, H0.size ≤ q → A q) (isC isR : List Nat) (hC : isC.map (fun i => ws[i]?) = wc.map some) (hR : isR.map (fun i => ws[i]?) = wr.map some) (hn : va_nd isR = true) (hdis : ∀ i ∈ isR, i ∉ isC) (kk : ∀ (r : UInt64) (u : S) (H1 : Heap) (locs1 : List Loc), post r u → va_P D vwCl (wr ++ out u) H1 → va_D A (wr ++ out u) → va_K D vwCl (tys ++ outT u) s → va_S A H0 H1 locs1 → W p l e R s m args below meth c H1 locs1 (cells + mc) (slots + ms) Q (F0 m (pc + 3) ls (.double r :: rest))) : W p l e R s m args below meth c H locs cells slots Q (F0 m pc ls st0) := by
  have hF := va_free (wc := wc) hD hS hA isC hC
  refine va_calld hr hS (fun q _ h => hF q h) hF (fun r u t H1 locs1 ht hvm hw hB hz1 hk1 hS1 => ?_)
  obtain ⟨hP1, hK1, hD1⟩ := hB
  rw [ht] at hP1
  have hK1 := va_K.moved hvm.symm hK1
  obtain ⟨hP2, hD2⟩ := va_join hP hD isC isR hC hR hn hdis hk1 hF hP1 hD1
  exact kk r u H1 locs1 hw hP2 hD2 (hK.app hK1) hS1
theorem zx_d {S : Type} {post : UInt64 → S → Prop} {out : S → va_W} {outT : S → List (ClassId × FieldType)} {bad : String → Prop} (hr : vx_Run p l e R s m args below meth c H locs cells slots mc ms (F0 m pc ls st0) rest (va_Qd post (fun u => zEnd D (va_A wc H.size) (out u) (outT u)) (va_A wc H.size) a) (zX bad (va_A wc H.size)) (va_A wc H.size)) (hP : va_P D vwCl ws H) (hD : va_D A ws) (hK : va_K D vwCl tys s) (hS : va_S A H0 H locs) (hA : ∀ q, H0.size ≤ q → A q) (isC isR : List Nat) (hC : isC.map (fun i => ws[i]?) = wc.map some) (hR : isR.map (fun i => ws[i]?) = wr.map some) (hn : va_nd isR = true) (hdis : ∀ i ∈ isR, i ∉ isC) (kx : ∀ (E : String) (ce : Cell) (q9 : Addr) (H1 : Heap) (locs1 : List Loc), bad E → va_P D vwCl wr H1 → va_D A wr → va_S A H0 H1 locs1 → H1[q9]? = some ce → ce.vm = .none → s.vm.findClass E = some ce.cls → vx_W p l e R s m args below meth c H1 locs1 (cells + mc) (slots + ms) Q (F0 m pc ls rest) q9) (kk : ∀ (r : UInt64) (u : S) (H1 : Heap) (locs1 : List Loc), post r u → va_P D vwCl (wr ++ out u) H1 → va_D A (wr ++ out u) → va_K D vwCl (tys ++ outT u) s → va_S A H0 H1 locs1 → W p l e R s m args below meth c H1 locs1 (cells + mc) (slots + ms) Q (F0 m (pc + 3) ls (.double r :: rest))) : W p l e R s m args below meth c H locs cells slots Q (F0 m pc ls st0) := by
  have hF := va_free (wc := wc) hD hS hA isC hC
  refine vx_calld hr hS (fun q _ h => hF q h) hF (fun q _ h => hF q h) (fun E ce q9 u t H1 locs1 ht hvm _ hB hz1 hk1 hS1 h1 h2 h3 => ?_) (fun r u t H1 locs1 ht hvm hw hB hz1 hk1 hS1 => ?_)
  · obtain ⟨hP2, hD2⟩ := va_join (w1 := []) hP hD isC isR hC hR hn hdis hk1 hF (fun k q h => by simp at h) ⟨fun i j p q h => by simp at h, fun k q h => by simp at h⟩
    rw [List.append_nil] at hP2 hD2
    exact kx E ce q9 H1 locs1 hB hP2 hD2 hS1 h1 h2 h3
  · obtain ⟨hP1, hK1, hD1⟩ := hB
    rw [ht] at hP1
    have hK1 := va_K.moved hvm.symm hK1
    obtain ⟨hP2, hD2⟩ := va_join hP hD isC isR hC hR hn hdis hk1 hF hP1 hD1
    exact kk r u H1 locs1 hw hP2 hD2 (hK.app hK1) hS1
theorem z_q {S : Type} {post : Option Nat → S → Prop} {out : S → va_W} {outT : S → List (ClassId × FieldType)} (hr : va_Run p l e R s m args below meth c H locs cells slots mc ms (F0 m pc ls st0) rest (va_Qq post (fun u => zEnd D (va_A wc H.size) (out u) (outT u)) (va_A wc H.size) a) (va_A wc H.size)) (hP : va_P D vwCl ws H) (hD : va_D A ws) (hK : va_K D vwCl tys s) (hS : va_S A H0 H locs) (hA : ∀ q, H0.size ≤ q → A q) (isC isR : List Nat) (hC : isC.map (fun i => ws[i]?) = wc.map some) (hR : isR.map (fun i => ws[i]?) = wr.map some) (hn : va_nd isR = true) (hdis : ∀ i ∈ isR, i ∉ isC) (kk : ∀ (r : Option Nat) (u : S) (H1 : Heap) (locs1 : List Loc), post r u → va_P D vwCl (wr ++ out u) H1 → va_D A (wr ++ out u) → va_K D vwCl (tys ++ outT u) s → va_S A H0 H1 locs1 → W p l e R s m args below meth c H1 locs1 (cells + mc) (slots + ms) Q (F0 m (pc + 3) ls (va_rf r :: rest))) : W p l e R s m args below meth c H locs cells slots Q (F0 m pc ls st0) := by
  have hF := va_free (wc := wc) hD hS hA isC hC
  refine va_callq hr hS (fun q _ h => hF q h) hF (fun r u t H1 locs1 ht hvm hw hB hz1 hk1 hS1 => ?_)
  obtain ⟨hP1, hK1, hD1⟩ := hB
  rw [ht] at hP1
  have hK1 := va_K.moved hvm.symm hK1
  obtain ⟨hP2, hD2⟩ := va_join hP hD isC isR hC hR hn hdis hk1 hF hP1 hD1
  exact kk r u H1 locs1 hw hP2 hD2 (hK.app hK1) hS1
theorem z_v {S : Type} {post : S → Prop} {out : S → va_W} {outT : S → List (ClassId × FieldType)} (hr : va_Run p l e R s m args below meth c H locs cells slots mc ms (F0 m pc ls st0) rest (va_Qv post (fun u => zEnd D (va_A wc H.size) (out u) (outT u)) (va_A wc H.size) a) (va_A wc H.size)) (hP : va_P D vwCl ws H) (hD : va_D A ws) (hK : va_K D vwCl tys s) (hS : va_S A H0 H locs) (hA : ∀ q, H0.size ≤ q → A q) (isC isR : List Nat) (hC : isC.map (fun i => ws[i]?) = wc.map some) (hR : isR.map (fun i => ws[i]?) = wr.map some) (hn : va_nd isR = true) (hdis : ∀ i ∈ isR, i ∉ isC) (kk : ∀ (u : S) (H1 : Heap) (locs1 : List Loc), post u → va_P D vwCl (wr ++ out u) H1 → va_D A (wr ++ out u) → va_K D vwCl (tys ++ outT u) s → va_S A H0 H1 locs1 → W p l e R s m args below meth c H1 locs1 (cells + mc) (slots + ms) Q (F0 m (pc + 3) ls (rest))) : W p l e R s m args below meth c H locs cells slots Q (F0 m pc ls st0) := by
  have hF := va_free (wc := wc) hD hS hA isC hC
  refine va_callv hr hS (fun q _ h => hF q h) hF (fun u t H1 locs1 ht hvm hw hB hz1 hk1 hS1 => ?_)
  obtain ⟨hP1, hK1, hD1⟩ := hB
  rw [ht] at hP1
  have hK1 := va_K.moved hvm.symm hK1
  obtain ⟨hP2, hD2⟩ := va_join hP hD isC isR hC hR hn hdis hk1 hF hP1 hD1
  exact kk u H1 locs1 hw hP2 hD2 (hK.app hK1) hS1
theorem zx_v {S : Type} {post : S → Prop} {out : S → va_W} {outT : S → List (ClassId × FieldType)} {bad : String → Prop} (hr : vx_Run p l e R s m args below meth c H locs cells slots mc ms (F0 m pc ls st0) rest (va_Qv post (fun u => zEnd D (va_A wc H.size) (out u) (outT u)) (va_A wc H.size) a) (zX bad (va_A wc H.size)) (va_A wc H.size)) (hP : va_P D vwCl ws H) (hD : va_D A ws) (hK : va_K D vwCl tys s) (hS : va_S A H0 H locs) (hA : ∀ q, H0.size ≤ q → A q) (isC isR : List Nat) (hC : isC.map (fun i => ws[i]?) = wc.map some) (hR : isR.map (fun i => ws[i]?) = wr.map some) (hn : va_nd isR = true) (hdis : ∀ i ∈ isR, i ∉ isC) (kx : ∀ (E : String) (ce : Cell) (q9 : Addr) (H1 : Heap) (locs1 : List Loc), bad E → va_P D vwCl wr H1 → va_D A wr → va_S A H0 H1 locs1 → H1[q9]? = some ce → ce.vm = .none → s.vm.findClass E = some ce.cls → vx_W p l e R s m args below meth c H1 locs1 (cells + mc) (slots + ms) Q (F0 m pc ls rest) q9) (kk : ∀ (u : S) (H1 : Heap) (locs1 : List Loc), post u → va_P D vwCl (wr ++ out u) H1 → va_D A (wr ++ out u) → va_K D vwCl (tys ++ outT u) s → va_S A H0 H1 locs1 → W p l e R s m args below meth c H1 locs1 (cells + mc) (slots + ms) Q (F0 m (pc + 3) ls (rest))) : W p l e R s m args below meth c H locs cells slots Q (F0 m pc ls st0) := by
  have hF := va_free (wc := wc) hD hS hA isC hC
  refine vx_callv hr hS (fun q _ h => hF q h) hF (fun q _ h => hF q h) (fun E ce q9 u t H1 locs1 ht hvm _ hB hz1 hk1 hS1 h1 h2 h3 => ?_) (fun u t H1 locs1 ht hvm hw hB hz1 hk1 hS1 => ?_)
  · obtain ⟨hP2, hD2⟩ := va_join (w1 := []) hP hD isC isR hC hR hn hdis hk1 hF (fun k q h => by simp at h) ⟨fun i j p q h => by simp at h, fun k q h => by simp at h⟩
    rw [List.append_nil] at hP2 hD2
    exact kx E ce q9 H1 locs1 hB hP2 hD2 hS1 h1 h2 h3
  · obtain ⟨hP1, hK1, hD1⟩ := hB
    rw [ht] at hP1
    have hK1 := va_K.moved hvm.symm hK1
    obtain ⟨hP2, hD2⟩ := va_join hP hD isC isR hC hR hn hdis hk1 hF hP1 hD1
    exact kk u H1 locs1 hw hP2 hD2 (hK.app hK1) hS1
end ZC
