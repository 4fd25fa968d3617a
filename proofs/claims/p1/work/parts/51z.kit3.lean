
/-! what a throw needs of the tables beside the environment (rows of this claim) -/
def zDecs : List Cond := [Cond.declares (Bundle.initS "java/lang/RuntimeException"), Cond.declares (Bundle.initS "java/lang/Exception"), Cond.declares (Bundle.initS Bundle.tN)]
def zDec (U : State) : Prop := ∀ w ∈ zDecs, va_Nw w U
theorem zDecs_on : ∀ w ∈ zDecs, w.onTables = true := by decide +kernel
theorem zDec.warm {s U : State} (h : zDec s) (hW : s.WarmedH U.vm) : zDec U := by
  intro w hw
  have h1 := h w hw
  simp only [zDecs, List.mem_cons, List.not_mem_nil, or_false] at hw
  rcases hw with rfl | rfl | rfl <;> exact va_Nw.warmD hW h1
theorem zDec.use {args : Array Value} {s : State} (h : zDec s) : ∀ w ∈ zDecs, w.before args s = true := fun w hw => va_Nw.use (zDecs_on w hw) (h w hw)
theorem zDec.same {u U : State} (h : zDec u) (hv : U.vm = u.vm) : zDec U := fun w hw => va_tabs (zDecs_on w hw) hv.symm (h w hw)
abbrev zPreD (eD eI : Nat) (ad : Nat → Nat) (D : va_G) (ws : va_W) (tys : List (ClassId × FieldType)) (sz : Nat) (U : State) : Prop := zPre eD eI ad D ws tys sz U ∧ zDec U
theorem zPreD.blind {eD eI : Nat} {ad : Nat → Nat} {D : va_G} {ws : va_W} {tys : List (ClassId × FieldType)} {sz : Nat} {av : List Value} : FrameBlind (va_Pc av (zPreD eD eI ad D ws tys sz)) := by
  intro a U g mk h
  obtain ⟨h0, h1, h2⟩ := h
  have h3 := zPre.blind (eD := eD) (eI := eI) (ad := ad) (D := D) (ws := ws) (tys := tys) (sz := sz) (av := av) a U g mk ⟨h0, h1⟩
  exact ⟨h0, h3.2, h2.same rfl⟩
section ZD
variable {s : State} {H : Heap} {locs : List Loc} {eD eI : Nat} {ad : Nat → Nat} {D : va_G} {A : Nat → Prop} {ws wc : va_W} {tys tysC : List (ClassId × FieldType)}
theorem z_preSD {As : List Value} (hP : va_P D vwCl ws H) (hD : va_D A ws) (hK : va_K D vwCl tys s) (hS : va_S A s.heap H locs) (hA : ∀ q, s.heap.size ≤ q → A q) (hE : zEnv eD eI ad A s) (isC isT : List Nat) (hC : isC.map (fun i => ws[i]?) = wc.map some) (hn : va_nd isC = true) (hT : isT.filterMap (fun i => tys[i]?) = tysC) (hDc : zDec s) : PreS s H (va_Pc As (zPreD eD eI ad D wc tysC H.size)) As := by
  obtain ⟨h1, h2⟩ := z_preS (As := As) hP hD hK hS hA hE isC isT hC hn hT
  exact ⟨zPreD.blind, fun U hU hW => ⟨(h2 U hU hW).1, (h2 U hU hW).2, hDc.warm hW⟩⟩
theorem z_preVD {As : List Value} {b q0 ci : Nat} {q : vw_C} {fs : List Value} (hP : va_P D vwCl ws H) (hD : va_D A ws) (hK : va_K D vwCl tys s) (hS : va_S A s.heap H locs) (hA : ∀ q, s.heap.size ≤ q → A q) (hE : zEnv eD eI ad A s) (isC isT : List Nat) (hC : isC.map (fun i => ws[i]?) = wc.map some) (hn : va_nd isC = true) (hT : isT.filterMap (fun i => tys[i]?) = tysC) (hc : vwCl[ci]? = some q) (he : wc[q0]? = some (b, .inr (ci, fs))) (hDc : zDec s) : PreV s H q.1 b (va_Pc (.ref b :: As) (zPreD eD eI ad D wc tysC H.size)) As := by
  obtain ⟨h1, h2⟩ := z_preSD (As := .ref b :: As) hP hD hK hS hA hE isC isT hC hn hT hDc
  exact ⟨h1, va_recv hK (hP.sub isC (z_fm hC)) hc he, h2⟩
end ZD
