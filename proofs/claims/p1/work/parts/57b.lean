
set_option maxHeartbeats 4000000 in
set_option maxRecDepth 100000 in
theorem c_M_would_Fkn02 (l : Launch) (eD eI : Nat) (ad : Nat → Nat) (dC : Nat → ClassId) (dI : Nat → Nat → Nat) (sz : Nat) (mm : Nat) (ms : Nat) (mt : Nat) (mh : Nat) (me : Nat) (mo : Int32) (ma : Nat) (kO : ClassId) (kT : ClassId) (t0 : Nat) (t1 : Nat) (t2 : Nat) (i0 : Nat) (i1 : Nat) (i2 : Nat) (th : Int32) (x2 : Int32) (hx20 : ¬ x2 < 0) (hx21 : ¬ 9 < x2) : Met l yX19_wouldChoose w_c_M_would ({ frames := 6, cells := 7, slots := 22, locals := 123 }) (va_Pc [.ref mm, .int 0, .int x2, .int 2, .int (-1)] (zPre eD eI ad (dC, dI) [(mm, .inr (21, [.int th, .ref ms, .ref mt, .ref mh, .ref me])), (ms, .inr (1, [.int 0, .ref eD, .int 0])), (mt, .inr (1, [.int mo, .ref ma, .int 3])), (mh, .inr (1, [.int 0, .ref eD, .int 0])), (me, .inr (1, [.int 0, .ref eD, .int 0])), (ma, .inl (kO, 10, .inr (.inr (.inr (.inr (zfT t0 t1 t2)))))), (t0, .inr (18, [.int (-1), .ref i0])), (t1, .inr (18, [.int (-2), .ref i1])), (t2, .inr (18, [.int (-3), .ref i2])), (i0, .inl (kT, 0, .inr (.inr (.inr (.inr (fun _ => none)))))), (i1, .inl (kT, 0, .inr (.inr (.inr (.inr (fun _ => none)))))), (i2, .inl (kT, 0, .inr (.inr (.inr (.inr (fun _ => none))))))] [(kO, .object "java/lang/Object"), (kT, .object "HornbookModel$Tree")] sz)) (va_Qi (fun (r : Int32) (u : Int32 × Int32) => match u with | (th2, v2) => r = v2 ∧ th2 = (if (0 : Int32) < 0 ∨ 2 < (0 : Int32) then 1 else if ¬ (2 : Int32) = (-1) ∧ ((2 : Int32) < 0 ∨ 2 < (2 : Int32)) then 1 else if ¬ (-1 : Int32) = (-1) ∧ ((-1 : Int32) < 0 ∨ 2 < (-1 : Int32)) then 1 else if x2 < 0 ∨ 9 < x2 then 2 else if (2 : Int32) = (-1) ∧ ¬ (-1 : Int32) = (-1) then 2 else if (0 : Int32) = 2 ∨ (2 : Int32) = 2 ∨ (-1 : Int32) = 2 then 2 else 0) ∧ (th2 = 0 → v2 = (-1))) (fun (u : Int32 × Int32) => match u with | (th2, v2) => zEnd (dC, dI) (va_A [(mm, .inr (21, [.int th, .ref ms, .ref mt, .ref mh, .ref me])), (ms, .inr (1, [.int 0, .ref eD, .int 0])), (mt, .inr (1, [.int mo, .ref ma, .int 3])), (mh, .inr (1, [.int 0, .ref eD, .int 0])), (me, .inr (1, [.int 0, .ref eD, .int 0])), (ma, .inl (kO, 10, .inr (.inr (.inr (.inr (zfT t0 t1 t2)))))), (t0, .inr (18, [.int (-1), .ref i0])), (t1, .inr (18, [.int (-2), .ref i1])), (t2, .inr (18, [.int (-3), .ref i2])), (i0, .inl (kT, 0, .inr (.inr (.inr (.inr (fun _ => none)))))), (i1, .inl (kT, 0, .inr (.inr (.inr (.inr (fun _ => none)))))), (i2, .inl (kT, 0, .inr (.inr (.inr (.inr (fun _ => none))))))] sz) [(mm, .inr (21, [.int th2, .ref ms, .ref mt, .ref mh, .ref me]))] []) (va_A [(mm, .inr (21, [.int th, .ref ms, .ref mt, .ref mh, .ref me])), (ms, .inr (1, [.int 0, .ref eD, .int 0])), (mt, .inr (1, [.int mo, .ref ma, .int 3])), (mh, .inr (1, [.int 0, .ref eD, .int 0])), (me, .inr (1, [.int 0, .ref eD, .int 0])), (ma, .inl (kO, 10, .inr (.inr (.inr (.inr (zfT t0 t1 t2)))))), (t0, .inr (18, [.int (-1), .ref i0])), (t1, .inr (18, [.int (-2), .ref i1])), (t2, .inr (18, [.int (-3), .ref i2])), (i0, .inl (kT, 0, .inr (.inr (.inr (.inr (fun _ => none)))))), (i1, .inl (kT, 0, .inr (.inr (.inr (.inr (fun _ => none)))))), (i2, .inl (kT, 0, .inr (.inr (.inr (.inr (fun _ => none))))))] sz)) 7 22 (va_A [(mm, .inr (21, [.int th, .ref ms, .ref mt, .ref mh, .ref me])), (ms, .inr (1, [.int 0, .ref eD, .int 0])), (mt, .inr (1, [.int mo, .ref ma, .int 3])), (mh, .inr (1, [.int 0, .ref eD, .int 0])), (me, .inr (1, [.int 0, .ref eD, .int 0])), (ma, .inl (kO, 10, .inr (.inr (.inr (.inr (zfT t0 t1 t2)))))), (t0, .inr (18, [.int (-1), .ref i0])), (t1, .inr (18, [.int (-2), .ref i1])), (t2, .inr (18, [.int (-3), .ref i2])), (i0, .inl (kT, 0, .inr (.inr (.inr (.inr (fun _ => none)))))), (i1, .inl (kT, 0, .inr (.inr (.inr (.inr (fun _ => none)))))), (i2, .inl (kT, 0, .inr (.inr (.inr (.inr (fun _ => none))))))] sz) := by
  refine Met.ofW (cc := cX19_wouldChoose) (maxL := 11) (ret := (some .int)) (by decide) rfl ?_
  intro p e s m args below meth c s₁ B hml hv
  obtain ⟨rfl, hsz, hP, hK, hD0, hE⟩ := hv
  have hx := B.exec
  have hb := B.bytes
  have hr := B.returns
  have hts := atoms_spec (ws := w_c_M_would) B.pre
  have hown : s.vm.findClass RX19 = some m.cls := findClass_of_methodNamed B.named
  have hlocks := B.notSynchronized
  subst hsz
  have hD := hD0.self (sz := s.heap.size)
  generalize hAe : va_A [(mm, .inr (21, [.int th, .ref ms, .ref mt, .ref mh, .ref me])), (ms, .inr (1, [.int 0, .ref eD, .int 0])), (mt, .inr (1, [.int mo, .ref ma, .int 3])), (mh, .inr (1, [.int 0, .ref eD, .int 0])), (me, .inr (1, [.int 0, .ref eD, .int 0])), (ma, .inl (kO, 10, .inr (.inr (.inr (.inr (zfT t0 t1 t2)))))), (t0, .inr (18, [.int (-1), .ref i0])), (t1, .inr (18, [.int (-2), .ref i1])), (t2, .inr (18, [.int (-3), .ref i2])), (i0, .inl (kT, 0, .inr (.inr (.inr (.inr (fun _ => none)))))), (i1, .inl (kT, 0, .inr (.inr (.inr (.inr (fun _ => none)))))), (i2, .inl (kT, 0, .inr (.inr (.inr (.inr (fun _ => none))))))] s.heap.size = A at hD hE ⊢
  have hA : ∀ q : Nat, s.heap.size ≤ q → A q := fun q h => by rw [← hAe]; exact Or.inr h
  have hS : va_S A s.heap s.heap [] := va_S.rf
  have hP : va_P (dC, dI) vwCl [(mm, .inr (21, [.int th, .ref ms, .ref mt, .ref mh, .ref me])), (ms, .inr (1, [.int 0, .ref eD, .int 0])), (mt, .inr (1, [.int mo, .ref ma, .int 3])), (mh, .inr (1, [.int 0, .ref eD, .int 0])), (me, .inr (1, [.int 0, .ref eD, .int 0])), (ma, .inl (kO, 10, .inr (.inr (.inr (.inr (zfT t0 t1 t2)))))), (t0, .inr (18, [.int (-1), .ref i0])), (t1, .inr (18, [.int (-2), .ref i1])), (t2, .inr (18, [.int (-3), .ref i2])), (i0, .inl (kT, 0, .inr (.inr (.inr (.inr (fun _ => none)))))), (i1, .inl (kT, 0, .inr (.inr (.inr (.inr (fun _ => none)))))), (i2, .inl (kT, 0, .inr (.inr (.inr (.inr (fun _ => none))))))] s.heap := hP
  have hl := lv_entry ([.ref mm, .int 0, .int x2, .int 2, .int (-1)]) (n := 11) (Nat.le_of_ble_eq_true rfl)
  rw [lg_entry_eq]
  generalize (lg_sl ([.ref mm, .int 0, .int x2, .int 2, .int (-1)]) ++ List.replicate (11 - (lg_sl ([.ref mm, .int 0, .int x2, .int 2, .int (-1)])).length) Slot.unset).toArray = ls at hl ⊢
  have hl : lv_has ls 11 [(0, .ref mm), (1, .int 0), (2, .int x2), (3, .int 2), (4, .int (-1))] := hl
  have in_RJx4a65c : ∀ w ∈ u_ws RJx4a65c TJx4a65c 3, w ∈ w_c_M_would := by decide +kernel
  have in_RX19 : ∀ w ∈ u_ws RX19 TX19 5, w ∈ w_c_M_would := by decide +kernel
  have hP := hP.sub (ws' := [(mm, .inr (21, [.int th, .ref ms, .ref mt, .ref mh, .ref me])), (mt, .inr (1, [.int mo, .ref ma, .int 3])), (mh, .inr (1, [.int 0, .ref eD, .int 0])), (ma, .inl (kO, 10, .inr (.inr (.inr (.inr (zfT t0 t1 t2)))))), (t0, .inr (18, [.int (-1), .ref i0])), (t2, .inr (18, [.int (-3), .ref i2])), (i0, .inl (kT, 0, .inr (.inr (.inr (.inr (fun _ => none)))))), (i2, .inl (kT, 0, .inr (.inr (.inr (.inr (fun _ => none))))))]) [0, 2, 3, 5, 6, 8, 9, 11] rfl
  have hD := hD.sub (ws' := [(mm, .inr (21, [.int th, .ref ms, .ref mt, .ref mh, .ref me])), (mt, .inr (1, [.int mo, .ref ma, .int 3])), (mh, .inr (1, [.int 0, .ref eD, .int 0])), (ma, .inl (kO, 10, .inr (.inr (.inr (.inr (zfT t0 t1 t2)))))), (t0, .inr (18, [.int (-1), .ref i0])), (t2, .inr (18, [.int (-3), .ref i2])), (i0, .inl (kT, 0, .inr (.inr (.inr (.inr (fun _ => none)))))), (i2, .inl (kT, 0, .inr (.inr (.inr (.inr (fun _ => none))))))]) [0, 2, 3, 5, 6, 8, 9, 11] (by decide) rfl
  refine lv_aload_n hx hb dX19_wouldChoose_0 rfl (lv_at hl 0 rfl) ?_
  refine lv_aload_n hx hb dX19_wouldChoose_1 rfl (lv_at hl 0 rfl) ?_
  refine lv_iload_n hx hb dX19_wouldChoose_2 rfl (lv_at hl 1 rfl) ?_
  refine z_i (wr := [(mh, .inr (1, [.int 0, .ref eD, .int 0])), (ma, .inl (kO, 10, .inr (.inr (.inr (.inr (zfT t0 t1 t2)))))), (t0, .inr (18, [.int (-1), .ref i0])), (t2, .inr (18, [.int (-3), .ref i2])), (i0, .inl (kT, 0, .inr (.inr (.inr (.inr (fun _ => none)))))), (i2, .inl (kT, 0, .inr (.inr (.inr (.inr (fun _ => none))))))]) (va_runV (As := [.int 0]) (rest := [.ref mm]) ⟨hx, hb, hml, hown, hts⟩ (c_M_isNoType_ok l eD eI ad dC dI s.heap.size mm ms mt mh me th ((.int mo)) ((.ref ma)) 0 (by decide) (by decide)) (cwV 1 hts g_c_M_would_3 rfl rfl rfl (by decide +kernel) ⟨Nat.le_of_ble_eq_true rfl, Nat.le_of_ble_eq_true rfl⟩) (z_preV (wc := [(mm, .inr (21, [.int th, .ref ms, .ref mt, .ref mh, .ref me])), (mt, .inr (1, [.int mo, .ref ma, .int 3]))]) hP hD hK hS hA hE [0, 1] [] rfl (by decide) rfl (ci := 21) (q0 := 0) rfl rfl) rfl rfl hl.1 rfl (lv_room (Nat.le_of_ble_eq_true rfl)) dX19_wouldChoose_3 ⟨Nat.le_of_ble_eq_true rfl, Nat.le_of_ble_eq_true rfl⟩) hP hD hK hS hA [0, 1] [2, 3, 4, 5, 6, 7] rfl rfl (by decide) (by decide) (fun r_1 u H locs hw_2 hP hD hK hS => ?_)
  obtain ⟨⟩ := u
  have hP : va_P (dC, dI) vwCl [(mh, .inr (1, [.int 0, .ref eD, .int 0])), (ma, .inl (kO, 10, .inr (.inr (.inr (.inr (zfT t0 t1 t2)))))), (t0, .inr (18, [.int (-1), .ref i0])), (t2, .inr (18, [.int (-3), .ref i2])), (i0, .inl (kT, 0, .inr (.inr (.inr (.inr (fun _ => none)))))), (i2, .inl (kT, 0, .inr (.inr (.inr (.inr (fun _ => none)))))), (mm, .inr (21, [.int th, .ref ms, .ref mt, .ref mh, .ref me])), (mt, .inr (1, [.int mo, .ref ma, .int 3]))] H := hP
  have hD : va_D A [(mh, .inr (1, [.int 0, .ref eD, .int 0])), (ma, .inl (kO, 10, .inr (.inr (.inr (.inr (zfT t0 t1 t2)))))), (t0, .inr (18, [.int (-1), .ref i0])), (t2, .inr (18, [.int (-3), .ref i2])), (i0, .inl (kT, 0, .inr (.inr (.inr (.inr (fun _ => none)))))), (i2, .inl (kT, 0, .inr (.inr (.inr (.inr (fun _ => none)))))), (mm, .inr (21, [.int th, .ref ms, .ref mt, .ref mh, .ref me])), (mt, .inr (1, [.int mo, .ref ma, .int 3]))] := hD
  have hK : va_K (dC, dI) vwCl [(kO, .object "java/lang/Object"), (kT, .object "HornbookModel$Tree")] s := by simpa using hK
  have hw_2 : r_1 = 0 := hw_2
  have hw_2 := hw_2.symm
  subst hw_2
  refine lv_if_ne (tgt := 26) hx hb dX19_wouldChoose_6 (by decide) (fun c_3 => ?_) (fun c_3 => ?_)
  · exact absurd (by decide) c_3
  refine lv_aload_n hx hb dX19_wouldChoose_9 rfl (lv_at hl 0 rfl) ?_
  refine lv_iload_n hx hb dX19_wouldChoose_10 rfl (lv_at hl 3 rfl) ?_
  refine z_i (wr := [(mh, .inr (1, [.int 0, .ref eD, .int 0])), (ma, .inl (kO, 10, .inr (.inr (.inr (.inr (zfT t0 t1 t2)))))), (t0, .inr (18, [.int (-1), .ref i0])), (t2, .inr (18, [.int (-3), .ref i2])), (i0, .inl (kT, 0, .inr (.inr (.inr (.inr (fun _ => none)))))), (i2, .inl (kT, 0, .inr (.inr (.inr (.inr (fun _ => none))))))]) (va_runV (As := [.int 2]) (rest := [.ref mm]) ⟨hx, hb, hml, hown, hts⟩ (c_M_isNoTypeN_ok l eD eI ad dC dI H.size mm ms mt mh me th ((.int mo)) ((.ref ma)) 2 (by decide) (by decide) (by decide)) (cwV 1 hts g_c_M_would_23 rfl rfl rfl (by decide +kernel) ⟨Nat.le_of_ble_eq_true rfl, Nat.le_of_ble_eq_true rfl⟩) (z_preV (wc := [(mm, .inr (21, [.int th, .ref ms, .ref mt, .ref mh, .ref me])), (mt, .inr (1, [.int mo, .ref ma, .int 3]))]) hP hD hK hS hA hE [6, 7] [] rfl (by decide) rfl (ci := 21) (q0 := 0) rfl rfl) rfl rfl hl.1 rfl (lv_room (Nat.le_of_ble_eq_true rfl)) dX19_wouldChoose_11 ⟨Nat.le_of_ble_eq_true rfl, Nat.le_of_ble_eq_true rfl⟩) hP hD hK hS hA [6, 7] [0, 1, 2, 3, 4, 5] rfl rfl (by decide) (by decide) (fun r_4 u H locs hw_5 hP hD hK hS => ?_)
  obtain ⟨⟩ := u
  have hP : va_P (dC, dI) vwCl [(mh, .inr (1, [.int 0, .ref eD, .int 0])), (ma, .inl (kO, 10, .inr (.inr (.inr (.inr (zfT t0 t1 t2)))))), (t0, .inr (18, [.int (-1), .ref i0])), (t2, .inr (18, [.int (-3), .ref i2])), (i0, .inl (kT, 0, .inr (.inr (.inr (.inr (fun _ => none)))))), (i2, .inl (kT, 0, .inr (.inr (.inr (.inr (fun _ => none)))))), (mm, .inr (21, [.int th, .ref ms, .ref mt, .ref mh, .ref me])), (mt, .inr (1, [.int mo, .ref ma, .int 3]))] H := hP
  have hD : va_D A [(mh, .inr (1, [.int 0, .ref eD, .int 0])), (ma, .inl (kO, 10, .inr (.inr (.inr (.inr (zfT t0 t1 t2)))))), (t0, .inr (18, [.int (-1), .ref i0])), (t2, .inr (18, [.int (-3), .ref i2])), (i0, .inl (kT, 0, .inr (.inr (.inr (.inr (fun _ => none)))))), (i2, .inl (kT, 0, .inr (.inr (.inr (.inr (fun _ => none)))))), (mm, .inr (21, [.int th, .ref ms, .ref mt, .ref mh, .ref me])), (mt, .inr (1, [.int mo, .ref ma, .int 3]))] := hD
  have hK : va_K (dC, dI) vwCl [(kO, .object "java/lang/Object"), (kT, .object "HornbookModel$Tree")] s := by simpa using hK
  have hw_5 : r_4 = 0 := hw_5
  have hw_5 := hw_5.symm
  subst hw_5
  refine lv_if_ne (tgt := 26) hx hb dX19_wouldChoose_14 (by decide) (fun c_6 => ?_) (fun c_6 => ?_)
  · exact absurd (by decide) c_6
  refine lv_aload_n hx hb dX19_wouldChoose_17 rfl (lv_at hl 0 rfl) ?_
  refine lv_iload hx hb dX19_wouldChoose_18 (lv_at hl 4 rfl) ?_
  refine z_i (wr := [(mh, .inr (1, [.int 0, .ref eD, .int 0])), (ma, .inl (kO, 10, .inr (.inr (.inr (.inr (zfT t0 t1 t2)))))), (t0, .inr (18, [.int (-1), .ref i0])), (t2, .inr (18, [.int (-3), .ref i2])), (i0, .inl (kT, 0, .inr (.inr (.inr (.inr (fun _ => none)))))), (i2, .inl (kT, 0, .inr (.inr (.inr (.inr (fun _ => none))))))]) (va_runV (As := [.int (-1)]) (rest := [.ref mm]) ⟨hx, hb, hml, hown, hts⟩ (c_M_isNoTypeN_none l eD eI ad dC dI H.size mm ms mt mh me th ((.int mo)) ((.ref ma))) (cwV 1 hts g_c_M_would_4 rfl rfl rfl (by decide +kernel) ⟨Nat.le_of_ble_eq_true rfl, Nat.le_of_ble_eq_true rfl⟩) (z_preV (wc := [(mm, .inr (21, [.int th, .ref ms, .ref mt, .ref mh, .ref me])), (mt, .inr (1, [.int mo, .ref ma, .int 3]))]) hP hD hK hS hA hE [6, 7] [] rfl (by decide) rfl (ci := 21) (q0 := 0) rfl rfl) rfl rfl hl.1 rfl (lv_room (Nat.le_of_ble_eq_true rfl)) dX19_wouldChoose_20 ⟨Nat.le_of_ble_eq_true rfl, Nat.le_of_ble_eq_true rfl⟩) hP hD hK hS hA [6, 7] [0, 1, 2, 3, 4, 5] rfl rfl (by decide) (by decide) (fun r_7 u H locs hw_8 hP hD hK hS => ?_)
  obtain ⟨⟩ := u
  have hP : va_P (dC, dI) vwCl [(mh, .inr (1, [.int 0, .ref eD, .int 0])), (ma, .inl (kO, 10, .inr (.inr (.inr (.inr (zfT t0 t1 t2)))))), (t0, .inr (18, [.int (-1), .ref i0])), (t2, .inr (18, [.int (-3), .ref i2])), (i0, .inl (kT, 0, .inr (.inr (.inr (.inr (fun _ => none)))))), (i2, .inl (kT, 0, .inr (.inr (.inr (.inr (fun _ => none)))))), (mm, .inr (21, [.int th, .ref ms, .ref mt, .ref mh, .ref me])), (mt, .inr (1, [.int mo, .ref ma, .int 3]))] H := hP
  have hD : va_D A [(mh, .inr (1, [.int 0, .ref eD, .int 0])), (ma, .inl (kO, 10, .inr (.inr (.inr (.inr (zfT t0 t1 t2)))))), (t0, .inr (18, [.int (-1), .ref i0])), (t2, .inr (18, [.int (-3), .ref i2])), (i0, .inl (kT, 0, .inr (.inr (.inr (.inr (fun _ => none)))))), (i2, .inl (kT, 0, .inr (.inr (.inr (.inr (fun _ => none)))))), (mm, .inr (21, [.int th, .ref ms, .ref mt, .ref mh, .ref me])), (mt, .inr (1, [.int mo, .ref ma, .int 3]))] := hD
  have hK : va_K (dC, dI) vwCl [(kO, .object "java/lang/Object"), (kT, .object "HornbookModel$Tree")] s := by simpa using hK
  have hw_8 : r_7 = 0 := hw_8
  have hw_8 := hw_8.symm
  subst hw_8
  refine lv_if_eq (tgt := 30) hx hb dX19_wouldChoose_23 (by decide) (fun c_9 => ?_) (fun c_9 => ?_)
  rotate_left
  · exact absurd (by decide) c_9
  refine lv_iconst (v := 0) hx hb dX19_wouldChoose_30 (by decide) ?_
  refine lv_iconst (v := 1) hx hb dX19_wouldChoose_31 (by decide) ?_
  refine z_i (wr := [(mh, .inr (1, [.int 0, .ref eD, .int 0])), (ma, .inl (kO, 10, .inr (.inr (.inr (.inr (zfT t0 t1 t2)))))), (t0, .inr (18, [.int (-1), .ref i0])), (t2, .inr (18, [.int (-3), .ref i2])), (i0, .inl (kT, 0, .inr (.inr (.inr (.inr (fun _ => none)))))), (i2, .inl (kT, 0, .inr (.inr (.inr (.inr (fun _ => none)))))), (mt, .inr (1, [.int mo, .ref ma, .int 3]))]) (va_runV (As := [.int 0, .int 1]) (rest := []) ⟨hx, hb, hml, hown, hts⟩ (c_M_start_no l eD eI ad dC dI H.size mm ((.ref ms)) ((.ref mt)) ((.ref mh)) ((.ref me)) 1 th) (cwV 2 hts g_c_M_would_5 rfl rfl rfl (by decide +kernel) ⟨Nat.le_of_ble_eq_true rfl, Nat.le_of_ble_eq_true rfl⟩) (z_preV (wc := [(mm, .inr (21, [.int th, .ref ms, .ref mt, .ref mh, .ref me]))]) hP hD hK hS hA hE [6] [] rfl (by decide) rfl (ci := 21) (q0 := 0) rfl rfl) rfl rfl hl.1 rfl (lv_room (Nat.le_of_ble_eq_true rfl)) dX19_wouldChoose_32 ⟨Nat.le_of_ble_eq_true rfl, Nat.le_of_ble_eq_true rfl⟩) hP hD hK hS hA [6] [0, 1, 2, 3, 4, 5, 7] rfl rfl (by decide) (by decide) (fun r_10 u H locs hw_11 hP hD hK hS => ?_)
  obtain ⟨⟩ := u
  have hP : va_P (dC, dI) vwCl [(mh, .inr (1, [.int 0, .ref eD, .int 0])), (ma, .inl (kO, 10, .inr (.inr (.inr (.inr (zfT t0 t1 t2)))))), (t0, .inr (18, [.int (-1), .ref i0])), (t2, .inr (18, [.int (-3), .ref i2])), (i0, .inl (kT, 0, .inr (.inr (.inr (.inr (fun _ => none)))))), (i2, .inl (kT, 0, .inr (.inr (.inr (.inr (fun _ => none)))))), (mt, .inr (1, [.int mo, .ref ma, .int 3])), (mm, .inr (21, [.int 0, .ref ms, .ref mt, .ref mh, .ref me]))] H := hP
  have hD : va_D A [(mh, .inr (1, [.int 0, .ref eD, .int 0])), (ma, .inl (kO, 10, .inr (.inr (.inr (.inr (zfT t0 t1 t2)))))), (t0, .inr (18, [.int (-1), .ref i0])), (t2, .inr (18, [.int (-3), .ref i2])), (i0, .inl (kT, 0, .inr (.inr (.inr (.inr (fun _ => none)))))), (i2, .inl (kT, 0, .inr (.inr (.inr (.inr (fun _ => none)))))), (mt, .inr (1, [.int mo, .ref ma, .int 3])), (mm, .inr (21, [.int 0, .ref ms, .ref mt, .ref mh, .ref me]))] := hD
  have hK : va_K (dC, dI) vwCl [(kO, .object "java/lang/Object"), (kT, .object "HornbookModel$Tree")] s := by simpa using hK
  have hw_11 : r_10 = 0 := hw_11
  have hw_11 := hw_11.symm
  subst hw_11
  refine lv_if_ne (tgt := 72) hx hb dX19_wouldChoose_35 (by decide) (fun c_12 => ?_) (fun c_12 => ?_)
  · exact absurd (by decide) c_12
  refine lv_aload_n hx hb dX19_wouldChoose_38 rfl (lv_at hl 0 rfl) ?_
  refine lv_iload_n hx hb dX19_wouldChoose_39 rfl (lv_at hl 2 rfl) ?_
  refine lv_iconst (v := 0) hx hb dX19_wouldChoose_40 (by decide) ?_
  refine lv_bipush (v := 9) hx hb dX19_wouldChoose_41 (by decide) ?_
  refine z_i (wr := [(mh, .inr (1, [.int 0, .ref eD, .int 0])), (ma, .inl (kO, 10, .inr (.inr (.inr (.inr (zfT t0 t1 t2)))))), (t0, .inr (18, [.int (-1), .ref i0])), (t2, .inr (18, [.int (-3), .ref i2])), (i0, .inl (kT, 0, .inr (.inr (.inr (.inr (fun _ => none)))))), (i2, .inl (kT, 0, .inr (.inr (.inr (.inr (fun _ => none)))))), (mt, .inr (1, [.int mo, .ref ma, .int 3])), (mm, .inr (21, [.int 0, .ref ms, .ref mt, .ref mh, .ref me]))]) (va_runS (As := [.int x2, .int 0, .int 9]) (rest := [.ref mm]) ⟨hx, hb, hml, hown, hts⟩ (c_M_isIn_ok l eD eI ad dC dI H.size x2 0 9 (hx20) (hx21)) (va_cwS 3 hts g_c_M_would_9 rfl rfl rfl (by decide +kernel) ⟨Nat.le_of_ble_eq_true rfl, Nat.le_of_ble_eq_true rfl⟩) (z_preS (wc := []) hP hD hK hS hA hE [] [] rfl (by decide) rfl) rfl rfl hl.1 rfl (lv_room (Nat.le_of_ble_eq_true rfl)) dX19_wouldChoose_43 ⟨Nat.le_of_ble_eq_true rfl, Nat.le_of_ble_eq_true rfl⟩) hP hD hK hS hA [] [0, 1, 2, 3, 4, 5, 6, 7] rfl rfl (by decide) (by decide) (fun r_13 u H locs hw_14 hP hD hK hS => ?_)
  obtain ⟨⟩ := u
  have hP : va_P (dC, dI) vwCl [(mh, .inr (1, [.int 0, .ref eD, .int 0])), (ma, .inl (kO, 10, .inr (.inr (.inr (.inr (zfT t0 t1 t2)))))), (t0, .inr (18, [.int (-1), .ref i0])), (t2, .inr (18, [.int (-3), .ref i2])), (i0, .inl (kT, 0, .inr (.inr (.inr (.inr (fun _ => none)))))), (i2, .inl (kT, 0, .inr (.inr (.inr (.inr (fun _ => none)))))), (mt, .inr (1, [.int mo, .ref ma, .int 3])), (mm, .inr (21, [.int 0, .ref ms, .ref mt, .ref mh, .ref me]))] H := hP
  have hD : va_D A [(mh, .inr (1, [.int 0, .ref eD, .int 0])), (ma, .inl (kO, 10, .inr (.inr (.inr (.inr (zfT t0 t1 t2)))))), (t0, .inr (18, [.int (-1), .ref i0])), (t2, .inr (18, [.int (-3), .ref i2])), (i0, .inl (kT, 0, .inr (.inr (.inr (.inr (fun _ => none)))))), (i2, .inl (kT, 0, .inr (.inr (.inr (.inr (fun _ => none)))))), (mt, .inr (1, [.int mo, .ref ma, .int 3])), (mm, .inr (21, [.int 0, .ref ms, .ref mt, .ref mh, .ref me]))] := hD
  have hK : va_K (dC, dI) vwCl [(kO, .object "java/lang/Object"), (kT, .object "HornbookModel$Tree")] s := by simpa using hK
  have hw_14 : r_13 = 1 := hw_14
  have hw_14 := hw_14.symm
  subst hw_14
  refine lv_if_eq (tgt := 60) hx hb dX19_wouldChoose_46 (by decide) (fun c_15 => ?_) (fun c_15 => ?_)
  · exact absurd c_15 (by decide)
  refine lv_iload_n hx hb dX19_wouldChoose_49 rfl (lv_at hl 3 rfl) ?_
  refine lv_iconst (v := (-1)) hx hb dX19_wouldChoose_50 (by decide) ?_
  refine lv_icmp_ne (tgt := 64) hx hb dX19_wouldChoose_51 (by decide) (fun c_16 => ?_) (fun c_16 => ?_)
  rotate_left
  · exact absurd c_16 (by decide)
  refine lv_iconst (v := 0) hx hb dX19_wouldChoose_64 (by decide) ?_
  refine lv_iconst (v := 2) hx hb dX19_wouldChoose_65 (by decide) ?_
  refine z_i (wr := [(mh, .inr (1, [.int 0, .ref eD, .int 0])), (ma, .inl (kO, 10, .inr (.inr (.inr (.inr (zfT t0 t1 t2)))))), (t0, .inr (18, [.int (-1), .ref i0])), (t2, .inr (18, [.int (-3), .ref i2])), (i0, .inl (kT, 0, .inr (.inr (.inr (.inr (fun _ => none)))))), (i2, .inl (kT, 0, .inr (.inr (.inr (.inr (fun _ => none)))))), (mt, .inr (1, [.int mo, .ref ma, .int 3]))]) (va_runV (As := [.int 0, .int 2]) (rest := []) ⟨hx, hb, hml, hown, hts⟩ (c_M_refuse_no l eD eI ad dC dI H.size mm ((.ref ms)) ((.ref mt)) ((.ref mh)) ((.ref me)) 2) (cwV 2 hts g_c_M_would_10 rfl rfl rfl (by decide +kernel) ⟨Nat.le_of_ble_eq_true rfl, Nat.le_of_ble_eq_true rfl⟩) (z_preV (wc := [(mm, .inr (21, [.int 0, .ref ms, .ref mt, .ref mh, .ref me]))]) hP hD hK hS hA hE [7] [] rfl (by decide) rfl (ci := 21) (q0 := 0) rfl rfl) rfl rfl hl.1 rfl (lv_room (Nat.le_of_ble_eq_true rfl)) dX19_wouldChoose_66 ⟨Nat.le_of_ble_eq_true rfl, Nat.le_of_ble_eq_true rfl⟩) hP hD hK hS hA [7] [0, 1, 2, 3, 4, 5, 6] rfl rfl (by decide) (by decide) (fun r_17 u H locs hw_18 hP hD hK hS => ?_)
  obtain ⟨⟩ := u
  have hP : va_P (dC, dI) vwCl [(mh, .inr (1, [.int 0, .ref eD, .int 0])), (ma, .inl (kO, 10, .inr (.inr (.inr (.inr (zfT t0 t1 t2)))))), (t0, .inr (18, [.int (-1), .ref i0])), (t2, .inr (18, [.int (-3), .ref i2])), (i0, .inl (kT, 0, .inr (.inr (.inr (.inr (fun _ => none)))))), (i2, .inl (kT, 0, .inr (.inr (.inr (.inr (fun _ => none)))))), (mt, .inr (1, [.int mo, .ref ma, .int 3])), (mm, .inr (21, [.int 0, .ref ms, .ref mt, .ref mh, .ref me]))] H := hP
  have hD : va_D A [(mh, .inr (1, [.int 0, .ref eD, .int 0])), (ma, .inl (kO, 10, .inr (.inr (.inr (.inr (zfT t0 t1 t2)))))), (t0, .inr (18, [.int (-1), .ref i0])), (t2, .inr (18, [.int (-3), .ref i2])), (i0, .inl (kT, 0, .inr (.inr (.inr (.inr (fun _ => none)))))), (i2, .inl (kT, 0, .inr (.inr (.inr (.inr (fun _ => none)))))), (mt, .inr (1, [.int mo, .ref ma, .int 3])), (mm, .inr (21, [.int 0, .ref ms, .ref mt, .ref mh, .ref me]))] := hD
  have hK : va_K (dC, dI) vwCl [(kO, .object "java/lang/Object"), (kT, .object "HornbookModel$Tree")] s := by simpa using hK
  have hw_18 : r_17 = 0 := hw_18
  have hw_18 := hw_18.symm
  subst hw_18
  refine lv_if_eq (tgt := 74) hx hb dX19_wouldChoose_69 (by decide) (fun c_19 => ?_) (fun c_19 => ?_)
  rotate_left
  · exact absurd (by decide) c_19
  refine lv_aload_n hx hb dX19_wouldChoose_74 rfl (lv_at hl 0 rfl) ?_
  refine lv_iload_n hx hb dX19_wouldChoose_75 rfl (lv_at hl 3 rfl) ?_
  refine lv_iload hx hb dX19_wouldChoose_76 (lv_at hl 4 rfl) ?_
  refine z_q (wr := [(mh, .inr (1, [.int 0, .ref eD, .int 0])), (t0, .inr (18, [.int (-1), .ref i0])), (i0, .inl (kT, 0, .inr (.inr (.inr (.inr (fun _ => none)))))), (i2, .inl (kT, 0, .inr (.inr (.inr (.inr (fun _ => none))))))]) (va_runV (As := [.int 2, .int (-1)]) (rest := []) ⟨hx, hb, hml, hown, hts⟩ (c_M_trees_2 l eD eI ad dC dI H.size mm ms mt mh me 0 mo ma kO t0 t1 t2 ((.ref i2))) (cwV 2 hts g_c_M_would_26 rfl rfl rfl (by decide +kernel) ⟨Nat.le_of_ble_eq_true rfl, Nat.le_of_ble_eq_true rfl⟩) (z_preV (wc := [(mm, .inr (21, [.int 0, .ref ms, .ref mt, .ref mh, .ref me])), (mt, .inr (1, [.int mo, .ref ma, .int 3])), (ma, .inl (kO, 10, .inr (.inr (.inr (.inr (zfT t0 t1 t2)))))), (t2, .inr (18, [.int (-3), .ref i2]))]) hP hD hK hS hA hE [7, 6, 1, 3] [0] rfl (by decide) rfl (ci := 21) (q0 := 0) rfl rfl) rfl rfl hl.1 rfl (lv_room (Nat.le_of_ble_eq_true rfl)) dX19_wouldChoose_78 ⟨Nat.le_of_ble_eq_true rfl, Nat.le_of_ble_eq_true rfl⟩) hP hD hK hS hA [7, 6, 1, 3] [0, 2, 4, 5] rfl rfl (by decide) (by decide) (fun r_22 u H locs hw_23 hP hD hK hS => ?_)
  obtain ⟨u_20, u_21⟩ := u
  have hP : va_P (dC, dI) vwCl [(mh, .inr (1, [.int 0, .ref eD, .int 0])), (t0, .inr (18, [.int (-1), .ref i0])), (i0, .inl (kT, 0, .inr (.inr (.inr (.inr (fun _ => none)))))), (i2, .inl (kT, 0, .inr (.inr (.inr (.inr (fun _ => none)))))), (mm, .inr (21, [.int 0, .ref ms, .ref mt, .ref mh, .ref me])), (mt, .inr (1, [.int mo, .ref ma, .int 3])), (ma, .inl (kO, 10, .inr (.inr (.inr (.inr (zfT t0 t1 t2)))))), (t2, .inr (18, [.int (-3), .ref i2])), (u_20, .inl (u_21, 1, .inr (.inr (.inr (.inr (va_up (fun _ => none) (0 : Int32).toNatClampNeg (some t2)))))))] H := hP
  have hD : va_D A [(mh, .inr (1, [.int 0, .ref eD, .int 0])), (t0, .inr (18, [.int (-1), .ref i0])), (i0, .inl (kT, 0, .inr (.inr (.inr (.inr (fun _ => none)))))), (i2, .inl (kT, 0, .inr (.inr (.inr (.inr (fun _ => none)))))), (mm, .inr (21, [.int 0, .ref ms, .ref mt, .ref mh, .ref me])), (mt, .inr (1, [.int mo, .ref ma, .int 3])), (ma, .inl (kO, 10, .inr (.inr (.inr (.inr (zfT t0 t1 t2)))))), (t2, .inr (18, [.int (-3), .ref i2])), (u_20, .inl (u_21, 1, .inr (.inr (.inr (.inr (va_up (fun _ => none) (0 : Int32).toNatClampNeg (some t2)))))))] := hD
  have hK : va_K (dC, dI) vwCl [(kO, .object "java/lang/Object"), (kT, .object "HornbookModel$Tree"), (kO, .object "java/lang/Object"), (u_21, .object "HornbookModel$Tree")] s := hK
  have hw_23 : r_22 = some u_20 := hw_23
  have hw_23 := hw_23.symm
  subst hw_23
  refine W.eq (g2 := F0 m 81 ls (.ref u_20 :: [])) rfl ?_
  refine lv_astore (lv' := [(5, .ref u_20), (0, .ref mm), (1, .int 0), (2, .int x2), (3, .int 2), (4, .int (-1))]) hx hb dX19_wouldChoose_81 hl (by decide) rfl (fun ls hl => ?_)
  refine lv_aload_n hx hb dX19_wouldChoose_83 rfl (lv_at hl 1 rfl) ?_
  refine lv_iload_n hx hb dX19_wouldChoose_84 rfl (lv_at hl 2 rfl) ?_
  refine z_q (wr := [(mh, .inr (1, [.int 0, .ref eD, .int 0])), (i0, .inl (kT, 0, .inr (.inr (.inr (.inr (fun _ => none)))))), (i2, .inl (kT, 0, .inr (.inr (.inr (.inr (fun _ => none)))))), (t2, .inr (18, [.int (-3), .ref i2])), (u_20, .inl (u_21, 1, .inr (.inr (.inr (.inr (va_up (fun _ => none) (0 : Int32).toNatClampNeg (some t2)))))))]) (va_runV (As := [.int 0]) (rest := []) ⟨hx, hb, hml, hown, hts⟩ (c_M_type_0 l eD eI ad dC dI H.size mm ms mt mh me 0 mo ma kO t0 t1 t2 ((.ref i0))) (cwV 1 hts g_c_M_would_12 rfl rfl rfl (by decide +kernel) ⟨Nat.le_of_ble_eq_true rfl, Nat.le_of_ble_eq_true rfl⟩) (z_preV (wc := [(mm, .inr (21, [.int 0, .ref ms, .ref mt, .ref mh, .ref me])), (mt, .inr (1, [.int mo, .ref ma, .int 3])), (ma, .inl (kO, 10, .inr (.inr (.inr (.inr (zfT t0 t1 t2)))))), (t0, .inr (18, [.int (-1), .ref i0]))]) hP hD hK hS hA hE [4, 5, 6, 1] [0] rfl (by decide) rfl (ci := 21) (q0 := 0) rfl rfl) rfl rfl hl.1 rfl (lv_room (Nat.le_of_ble_eq_true rfl)) dX19_wouldChoose_85 ⟨Nat.le_of_ble_eq_true rfl, Nat.le_of_ble_eq_true rfl⟩) hP hD hK hS hA [4, 5, 6, 1] [0, 2, 3, 7, 8] rfl rfl (by decide) (by decide) (fun r_24 u H locs hw_25 hP hD hK hS => ?_)
  obtain ⟨⟩ := u
  have hP : va_P (dC, dI) vwCl [(mh, .inr (1, [.int 0, .ref eD, .int 0])), (i0, .inl (kT, 0, .inr (.inr (.inr (.inr (fun _ => none)))))), (i2, .inl (kT, 0, .inr (.inr (.inr (.inr (fun _ => none)))))), (t2, .inr (18, [.int (-3), .ref i2])), (u_20, .inl (u_21, 1, .inr (.inr (.inr (.inr (va_up (fun _ => none) (0 : Int32).toNatClampNeg (some t2))))))), (mm, .inr (21, [.int 0, .ref ms, .ref mt, .ref mh, .ref me])), (mt, .inr (1, [.int mo, .ref ma, .int 3])), (ma, .inl (kO, 10, .inr (.inr (.inr (.inr (zfT t0 t1 t2)))))), (t0, .inr (18, [.int (-1), .ref i0]))] H := hP
  have hD : va_D A [(mh, .inr (1, [.int 0, .ref eD, .int 0])), (i0, .inl (kT, 0, .inr (.inr (.inr (.inr (fun _ => none)))))), (i2, .inl (kT, 0, .inr (.inr (.inr (.inr (fun _ => none)))))), (t2, .inr (18, [.int (-3), .ref i2])), (u_20, .inl (u_21, 1, .inr (.inr (.inr (.inr (va_up (fun _ => none) (0 : Int32).toNatClampNeg (some t2))))))), (mm, .inr (21, [.int 0, .ref ms, .ref mt, .ref mh, .ref me])), (mt, .inr (1, [.int mo, .ref ma, .int 3])), (ma, .inl (kO, 10, .inr (.inr (.inr (.inr (zfT t0 t1 t2)))))), (t0, .inr (18, [.int (-1), .ref i0]))] := hD
  have hK : va_K (dC, dI) vwCl [(kO, .object "java/lang/Object"), (kT, .object "HornbookModel$Tree"), (kO, .object "java/lang/Object"), (u_21, .object "HornbookModel$Tree")] s := by simpa using hK
  have hw_25 : r_24 = some t0 := hw_25
  have hw_25 := hw_25.symm
  subst hw_25
  refine W.eq (g2 := F0 m 88 ls (.ref t0 :: [])) rfl ?_
  refine z_i (wr := [(mh, .inr (1, [.int 0, .ref eD, .int 0])), (i2, .inl (kT, 0, .inr (.inr (.inr (.inr (fun _ => none)))))), (t2, .inr (18, [.int (-3), .ref i2])), (u_20, .inl (u_21, 1, .inr (.inr (.inr (.inr (va_up (fun _ => none) (0 : Int32).toNatClampNeg (some t2))))))), (mm, .inr (21, [.int 0, .ref ms, .ref mt, .ref mh, .ref me])), (mt, .inr (1, [.int mo, .ref ma, .int 3])), (ma, .inl (kO, 10, .inr (.inr (.inr (.inr (zfT t0 t1 t2))))))]) (va_runV (As := []) (rest := []) ⟨hx, hb, hml, hown, hts⟩ (c_T_isClosed_1 l eD eI ad dC dI H.size t0 i0 kT) (cwV 0 hts g_c_M_would_13 rfl rfl rfl (by decide +kernel) ⟨Nat.le_of_ble_eq_true rfl, Nat.le_of_ble_eq_true rfl⟩) (z_preV (wc := [(t0, .inr (18, [.int (-1), .ref i0])), (i0, .inl (kT, 0, .inr (.inr (.inr (.inr (fun _ => none))))))]) hP hD hK hS hA hE [8, 1] [1] rfl (by decide) rfl (ci := 18) (q0 := 0) rfl rfl) rfl rfl hl.1 rfl (lv_room (Nat.le_of_ble_eq_true rfl)) dX19_wouldChoose_88 ⟨Nat.le_of_ble_eq_true rfl, Nat.le_of_ble_eq_true rfl⟩) hP hD hK hS hA [8, 1] [0, 2, 3, 4, 5, 6, 7] rfl rfl (by decide) (by decide) (fun r_26 u H locs hw_27 hP hD hK hS => ?_)
  obtain ⟨⟩ := u
  have hP : va_P (dC, dI) vwCl [(mh, .inr (1, [.int 0, .ref eD, .int 0])), (i2, .inl (kT, 0, .inr (.inr (.inr (.inr (fun _ => none)))))), (t2, .inr (18, [.int (-3), .ref i2])), (u_20, .inl (u_21, 1, .inr (.inr (.inr (.inr (va_up (fun _ => none) (0 : Int32).toNatClampNeg (some t2))))))), (mm, .inr (21, [.int 0, .ref ms, .ref mt, .ref mh, .ref me])), (mt, .inr (1, [.int mo, .ref ma, .int 3])), (ma, .inl (kO, 10, .inr (.inr (.inr (.inr (zfT t0 t1 t2)))))), (t0, .inr (18, [.int (-1), .ref i0])), (i0, .inl (kT, 0, .inr (.inr (.inr (.inr (fun _ => none))))))] H := hP
  have hD : va_D A [(mh, .inr (1, [.int 0, .ref eD, .int 0])), (i2, .inl (kT, 0, .inr (.inr (.inr (.inr (fun _ => none)))))), (t2, .inr (18, [.int (-3), .ref i2])), (u_20, .inl (u_21, 1, .inr (.inr (.inr (.inr (va_up (fun _ => none) (0 : Int32).toNatClampNeg (some t2))))))), (mm, .inr (21, [.int 0, .ref ms, .ref mt, .ref mh, .ref me])), (mt, .inr (1, [.int mo, .ref ma, .int 3])), (ma, .inl (kO, 10, .inr (.inr (.inr (.inr (zfT t0 t1 t2)))))), (t0, .inr (18, [.int (-1), .ref i0])), (i0, .inl (kT, 0, .inr (.inr (.inr (.inr (fun _ => none))))))] := hD
  have hK : va_K (dC, dI) vwCl [(kO, .object "java/lang/Object"), (kT, .object "HornbookModel$Tree"), (kO, .object "java/lang/Object"), (u_21, .object "HornbookModel$Tree")] s := by simpa using hK
  have hw_27 : r_26 = 1 := hw_27
  have hw_27 := hw_27.symm
  subst hw_27
  refine lv_istore (lv' := [(6, .int 1), (5, .ref u_20), (0, .ref mm), (1, .int 0), (2, .int x2), (3, .int 2), (4, .int (-1))]) hx hb dX19_wouldChoose_91 hl (by decide) rfl (fun ls hl => ?_)
  refine lv_aload hx hb dX19_wouldChoose_93 (lv_at hl 1 rfl) ?_
  refine lv_astore (lv' := [(7, .ref u_20), (6, .int 1), (5, .ref u_20), (0, .ref mm), (1, .int 0), (2, .int x2), (3, .int 2), (4, .int (-1))]) hx hb dX19_wouldChoose_95 hl (by decide) rfl (fun ls hl => ?_)
  refine lv_aload hx hb dX19_wouldChoose_97 (lv_at hl 0 rfl) ?_
  refine va_alen (D := (dC, dI)) (v := 1) hx hb hK hP 3 3 rfl rfl rfl dX19_wouldChoose_99 ?_
  refine lv_istore (lv' := [(8, .int 1), (7, .ref u_20), (6, .int 1), (5, .ref u_20), (0, .ref mm), (1, .int 0), (2, .int x2), (3, .int 2), (4, .int (-1))]) hx hb dX19_wouldChoose_100 hl (by decide) rfl (fun ls hl => ?_)
  refine lv_iconst (v := 0) hx hb dX19_wouldChoose_102 (by decide) ?_
  refine lv_istore (lv' := [(9, .int 0), (8, .int 1), (7, .ref u_20), (6, .int 1), (5, .ref u_20), (0, .ref mm), (1, .int 0), (2, .int x2), (3, .int 2), (4, .int (-1))]) hx hb dX19_wouldChoose_103 hl (by decide) rfl (fun ls hl => ?_)
  refine lv_iload hx hb dX19_wouldChoose_105 (lv_at hl 0 rfl) ?_
  refine lv_iload hx hb dX19_wouldChoose_107 (lv_at hl 1 rfl) ?_
  refine lv_icmp_ge (tgt := 135) hx hb dX19_wouldChoose_109 (by decide) (fun c_28 => ?_) (fun c_28 => ?_)
  · exact absurd c_28 (by decide)
  refine lv_aload hx hb dX19_wouldChoose_112 (lv_at hl 2 rfl) ?_
  refine lv_iload hx hb dX19_wouldChoose_114 (lv_at hl 0 rfl) ?_
  refine va_aldq (D := (dC, dI)) hx hb hK hP 3 3 rfl rfl (by unfold vp_in; decide) dX19_wouldChoose_116 ?_
  refine z_top (v' := .ref t2) (by first | rfl | decide | simp [va_up, va_rf]) ?_
  refine lv_astore (lv' := [(10, .ref t2), (9, .int 0), (8, .int 1), (7, .ref u_20), (6, .int 1), (5, .ref u_20), (0, .ref mm), (1, .int 0), (2, .int x2), (3, .int 2), (4, .int (-1))]) hx hb dX19_wouldChoose_117 hl (by decide) rfl (fun ls hl => ?_)
  refine lv_iload hx hb dX19_wouldChoose_119 (lv_at hl 4 rfl) ?_
  refine lv_aload hx hb dX19_wouldChoose_121 (lv_at hl 0 rfl) ?_
  refine z_i (wr := [(mh, .inr (1, [.int 0, .ref eD, .int 0])), (u_20, .inl (u_21, 1, .inr (.inr (.inr (.inr (va_up (fun _ => none) (0 : Int32).toNatClampNeg (some t2))))))), (mm, .inr (21, [.int 0, .ref ms, .ref mt, .ref mh, .ref me])), (mt, .inr (1, [.int mo, .ref ma, .int 3])), (ma, .inl (kO, 10, .inr (.inr (.inr (.inr (zfT t0 t1 t2)))))), (t0, .inr (18, [.int (-1), .ref i0])), (i0, .inl (kT, 0, .inr (.inr (.inr (.inr (fun _ => none))))))]) (va_runV (As := []) (rest := [.int 1]) ⟨hx, hb, hml, hown, hts⟩ (c_T_isClosed_3 l eD eI ad dC dI H.size t2 i2 kT) (cwV 0 hts g_c_M_would_20 rfl rfl rfl (by decide +kernel) ⟨Nat.le_of_ble_eq_true rfl, Nat.le_of_ble_eq_true rfl⟩) (z_preV (wc := [(t2, .inr (18, [.int (-3), .ref i2])), (i2, .inl (kT, 0, .inr (.inr (.inr (.inr (fun _ => none))))))]) hP hD hK hS hA hE [2, 1] [1] rfl (by decide) rfl (ci := 18) (q0 := 0) rfl rfl) rfl rfl hl.1 rfl (lv_room (Nat.le_of_ble_eq_true rfl)) dX19_wouldChoose_123 ⟨Nat.le_of_ble_eq_true rfl, Nat.le_of_ble_eq_true rfl⟩) hP hD hK hS hA [2, 1] [0, 3, 4, 5, 6, 7, 8] rfl rfl (by decide) (by decide) (fun r_29 u H locs hw_30 hP hD hK hS => ?_)
  obtain ⟨⟩ := u
  have hP : va_P (dC, dI) vwCl [(mh, .inr (1, [.int 0, .ref eD, .int 0])), (u_20, .inl (u_21, 1, .inr (.inr (.inr (.inr (va_up (fun _ => none) (0 : Int32).toNatClampNeg (some t2))))))), (mm, .inr (21, [.int 0, .ref ms, .ref mt, .ref mh, .ref me])), (mt, .inr (1, [.int mo, .ref ma, .int 3])), (ma, .inl (kO, 10, .inr (.inr (.inr (.inr (zfT t0 t1 t2)))))), (t0, .inr (18, [.int (-1), .ref i0])), (i0, .inl (kT, 0, .inr (.inr (.inr (.inr (fun _ => none)))))), (t2, .inr (18, [.int (-3), .ref i2])), (i2, .inl (kT, 0, .inr (.inr (.inr (.inr (fun _ => none))))))] H := hP
  have hD : va_D A [(mh, .inr (1, [.int 0, .ref eD, .int 0])), (u_20, .inl (u_21, 1, .inr (.inr (.inr (.inr (va_up (fun _ => none) (0 : Int32).toNatClampNeg (some t2))))))), (mm, .inr (21, [.int 0, .ref ms, .ref mt, .ref mh, .ref me])), (mt, .inr (1, [.int mo, .ref ma, .int 3])), (ma, .inl (kO, 10, .inr (.inr (.inr (.inr (zfT t0 t1 t2)))))), (t0, .inr (18, [.int (-1), .ref i0])), (i0, .inl (kT, 0, .inr (.inr (.inr (.inr (fun _ => none)))))), (t2, .inr (18, [.int (-3), .ref i2])), (i2, .inl (kT, 0, .inr (.inr (.inr (.inr (fun _ => none))))))] := hD
  have hK : va_K (dC, dI) vwCl [(kO, .object "java/lang/Object"), (kT, .object "HornbookModel$Tree"), (kO, .object "java/lang/Object"), (u_21, .object "HornbookModel$Tree")] s := by simpa using hK
  have hw_30 : r_29 = 0 := hw_30
  have hw_30 := hw_30.symm
  subst hw_30
  refine lv_iand hx hb dX19_wouldChoose_126 ?_
  refine z_top (v' := .int 0) (congrArg Value.int (by decide)) ?_
  refine lv_istore (lv' := [(6, .int 0), (10, .ref t2), (9, .int 0), (8, .int 1), (7, .ref u_20), (5, .ref u_20), (0, .ref mm), (1, .int 0), (2, .int x2), (3, .int 2), (4, .int (-1))]) hx hb dX19_wouldChoose_127 hl (by decide) rfl (fun ls hl => ?_)
  refine lv_iinc (v := 1) (lv' := [(9, .int 1), (6, .int 0), (10, .ref t2), (8, .int 1), (7, .ref u_20), (5, .ref u_20), (0, .ref mm), (1, .int 0), (2, .int x2), (3, .int 2), (4, .int (-1))]) hx hb dX19_wouldChoose_129 hl (k := 2) rfl (by decide) (by decide) rfl (fun ls hl => ?_)
  refine lv_goto (tgt := 105) hx hb dX19_wouldChoose_132 (by decide) ?_
  refine lv_iload hx hb dX19_wouldChoose_105 (lv_at hl 0 rfl) ?_
  refine lv_iload hx hb dX19_wouldChoose_107 (lv_at hl 3 rfl) ?_
  refine lv_icmp_ge (tgt := 135) hx hb dX19_wouldChoose_109 (by decide) (fun c_31 => ?_) (fun c_31 => ?_)
  rotate_left
  · exact absurd (by decide) c_31
  refine lv_aload_n hx hb dX19_wouldChoose_135 rfl (lv_at hl 6 rfl) ?_
  refine lv_iload hx hb dX19_wouldChoose_136 (lv_at hl 1 rfl) ?_
  refine lv_if_ne (tgt := 145) hx hb dX19_wouldChoose_138 (by decide) (fun c_32 => ?_) (fun c_32 => ?_)
  · exact absurd (by decide) c_32
  refine lv_iconst (v := 1) hx hb dX19_wouldChoose_141 (by decide) ?_
  refine lv_goto (tgt := 146) hx hb dX19_wouldChoose_142 (by decide) ?_
  refine lv_iconst (v := 2) hx hb dX19_wouldChoose_146 (by decide) ?_
  refine z_i (wr := [(mh, .inr (1, [.int 0, .ref eD, .int 0])), (u_20, .inl (u_21, 1, .inr (.inr (.inr (.inr (va_up (fun _ => none) (0 : Int32).toNatClampNeg (some t2))))))), (mt, .inr (1, [.int mo, .ref ma, .int 3])), (ma, .inl (kO, 10, .inr (.inr (.inr (.inr (zfT t0 t1 t2)))))), (t0, .inr (18, [.int (-1), .ref i0])), (i0, .inl (kT, 0, .inr (.inr (.inr (.inr (fun _ => none)))))), (t2, .inr (18, [.int (-3), .ref i2])), (i2, .inl (kT, 0, .inr (.inr (.inr (.inr (fun _ => none))))))]) (va_runV (As := [.int 1, .int 2]) (rest := []) ⟨hx, hb, hml, hown, hts⟩ (c_M_refuse_yes l eD eI ad dC dI H.size mm ((.ref ms)) ((.ref mt)) ((.ref mh)) ((.ref me)) 2 (by decide)) (cwV 2 hts g_c_M_would_7 rfl rfl rfl (by decide +kernel) ⟨Nat.le_of_ble_eq_true rfl, Nat.le_of_ble_eq_true rfl⟩) (z_preV (wc := [(mm, .inr (21, [.int 0, .ref ms, .ref mt, .ref mh, .ref me]))]) hP hD hK hS hA hE [2] [] rfl (by decide) rfl (ci := 21) (q0 := 0) rfl rfl) rfl rfl hl.1 rfl (lv_room (Nat.le_of_ble_eq_true rfl)) dX19_wouldChoose_147 ⟨Nat.le_of_ble_eq_true rfl, Nat.le_of_ble_eq_true rfl⟩) hP hD hK hS hA [2] [0, 1, 3, 4, 5, 6, 7, 8] rfl rfl (by decide) (by decide) (fun r_33 u H locs hw_34 hP hD hK hS => ?_)
  obtain ⟨⟩ := u
  have hP : va_P (dC, dI) vwCl [(mh, .inr (1, [.int 0, .ref eD, .int 0])), (u_20, .inl (u_21, 1, .inr (.inr (.inr (.inr (va_up (fun _ => none) (0 : Int32).toNatClampNeg (some t2))))))), (mt, .inr (1, [.int mo, .ref ma, .int 3])), (ma, .inl (kO, 10, .inr (.inr (.inr (.inr (zfT t0 t1 t2)))))), (t0, .inr (18, [.int (-1), .ref i0])), (i0, .inl (kT, 0, .inr (.inr (.inr (.inr (fun _ => none)))))), (t2, .inr (18, [.int (-3), .ref i2])), (i2, .inl (kT, 0, .inr (.inr (.inr (.inr (fun _ => none)))))), (mm, .inr (21, [.int 2, .ref ms, .ref mt, .ref mh, .ref me]))] H := hP
  have hD : va_D A [(mh, .inr (1, [.int 0, .ref eD, .int 0])), (u_20, .inl (u_21, 1, .inr (.inr (.inr (.inr (va_up (fun _ => none) (0 : Int32).toNatClampNeg (some t2))))))), (mt, .inr (1, [.int mo, .ref ma, .int 3])), (ma, .inl (kO, 10, .inr (.inr (.inr (.inr (zfT t0 t1 t2)))))), (t0, .inr (18, [.int (-1), .ref i0])), (i0, .inl (kT, 0, .inr (.inr (.inr (.inr (fun _ => none)))))), (t2, .inr (18, [.int (-3), .ref i2])), (i2, .inl (kT, 0, .inr (.inr (.inr (.inr (fun _ => none)))))), (mm, .inr (21, [.int 2, .ref ms, .ref mt, .ref mh, .ref me]))] := hD
  have hK : va_K (dC, dI) vwCl [(kO, .object "java/lang/Object"), (kT, .object "HornbookModel$Tree"), (kO, .object "java/lang/Object"), (u_21, .object "HornbookModel$Tree")] s := by simpa using hK
  have hw_34 : r_33 = 1 := hw_34
  have hw_34 := hw_34.symm
  subst hw_34
  refine lv_if_eq (tgt := 155) hx hb dX19_wouldChoose_150 (by decide) (fun c_35 => ?_) (fun c_35 => ?_)
  · exact absurd c_35 (by decide)
  refine lv_iconst (v := 0) hx hb dX19_wouldChoose_153 (by decide) ?_
  have hP9 := hP.sub (ws' := [(mm, .inr (21, [.int 2, .ref ms, .ref mt, .ref mh, .ref me]))]) [8] rfl
  have hD9 := hD.sub (ws' := [(mm, .inr (21, [.int 2, .ref ms, .ref mt, .ref mh, .ref me]))]) [8] (by decide) rfl
  have hK9 := hK.sub (tys' := []) [] rfl
  refine W.widen (k := 7) (n := 22) (Nat.le_of_ble_eq_true rfl) (Nat.le_of_ble_eq_true rfl) ?_
  exact W.iret (v := 0) hx hb hr (fun t ht hW => ⟨⟨0, (2, 0), rfl, ⟨rfl, by first | decide | simp [hx20, hx21], by first | exact fun h => absurd h (by decide) | exact fun _ => rfl | rfl | decide | simp⟩, ⟨by rw [ht]; exact hP9, va_K.moved hW.alike hK9, hD9⟩⟩, hS.F ht⟩) hS.2.2 dX19_wouldChoose_154

set_option maxHeartbeats 4000000 in
set_option maxRecDepth 100000 in
theorem c_M_would_Fkn10 (l : Launch) (eD eI : Nat) (ad : Nat → Nat) (dC : Nat → ClassId) (dI : Nat → Nat → Nat) (sz : Nat) (mm : Nat) (ms : Nat) (mt : Nat) (mh : Nat) (me : Nat) (mo : Int32) (ma : Nat) (kO : ClassId) (kT : ClassId) (t0 : Nat) (t1 : Nat) (t2 : Nat) (i0 : Nat) (i1 : Nat) (i2 : Nat) (th : Int32) (x2 : Int32) (hx20 : ¬ x2 < 0) (hx21 : ¬ 9 < x2) : Met l yX19_wouldChoose w_c_M_would ({ frames := 6, cells := 7, slots := 22, locals := 123 }) (va_Pc [.ref mm, .int 1, .int x2, .int 0, .int (-1)] (zPre eD eI ad (dC, dI) [(mm, .inr (21, [.int th, .ref ms, .ref mt, .ref mh, .ref me])), (ms, .inr (1, [.int 0, .ref eD, .int 0])), (mt, .inr (1, [.int mo, .ref ma, .int 3])), (mh, .inr (1, [.int 0, .ref eD, .int 0])), (me, .inr (1, [.int 0, .ref eD, .int 0])), (ma, .inl (kO, 10, .inr (.inr (.inr (.inr (zfT t0 t1 t2)))))), (t0, .inr (18, [.int (-1), .ref i0])), (t1, .inr (18, [.int (-2), .ref i1])), (t2, .inr (18, [.int (-3), .ref i2])), (i0, .inl (kT, 0, .inr (.inr (.inr (.inr (fun _ => none)))))), (i1, .inl (kT, 0, .inr (.inr (.inr (.inr (fun _ => none)))))), (i2, .inl (kT, 0, .inr (.inr (.inr (.inr (fun _ => none))))))] [(kO, .object "java/lang/Object"), (kT, .object "HornbookModel$Tree")] sz)) (va_Qi (fun (r : Int32) (u : Int32 × Int32) => match u with | (th2, v2) => r = v2 ∧ th2 = (if (1 : Int32) < 0 ∨ 2 < (1 : Int32) then 1 else if ¬ (0 : Int32) = (-1) ∧ ((0 : Int32) < 0 ∨ 2 < (0 : Int32)) then 1 else if ¬ (-1 : Int32) = (-1) ∧ ((-1 : Int32) < 0 ∨ 2 < (-1 : Int32)) then 1 else if x2 < 0 ∨ 9 < x2 then 2 else if (0 : Int32) = (-1) ∧ ¬ (-1 : Int32) = (-1) then 2 else if (1 : Int32) = 2 ∨ (0 : Int32) = 2 ∨ (-1 : Int32) = 2 then 2 else 0) ∧ (th2 = 0 → v2 = (-1))) (fun (u : Int32 × Int32) => match u with | (th2, v2) => zEnd (dC, dI) (va_A [(mm, .inr (21, [.int th, .ref ms, .ref mt, .ref mh, .ref me])), (ms, .inr (1, [.int 0, .ref eD, .int 0])), (mt, .inr (1, [.int mo, .ref ma, .int 3])), (mh, .inr (1, [.int 0, .ref eD, .int 0])), (me, .inr (1, [.int 0, .ref eD, .int 0])), (ma, .inl (kO, 10, .inr (.inr (.inr (.inr (zfT t0 t1 t2)))))), (t0, .inr (18, [.int (-1), .ref i0])), (t1, .inr (18, [.int (-2), .ref i1])), (t2, .inr (18, [.int (-3), .ref i2])), (i0, .inl (kT, 0, .inr (.inr (.inr (.inr (fun _ => none)))))), (i1, .inl (kT, 0, .inr (.inr (.inr (.inr (fun _ => none)))))), (i2, .inl (kT, 0, .inr (.inr (.inr (.inr (fun _ => none))))))] sz) [(mm, .inr (21, [.int th2, .ref ms, .ref mt, .ref mh, .ref me]))] []) (va_A [(mm, .inr (21, [.int th, .ref ms, .ref mt, .ref mh, .ref me])), (ms, .inr (1, [.int 0, .ref eD, .int 0])), (mt, .inr (1, [.int mo, .ref ma, .int 3])), (mh, .inr (1, [.int 0, .ref eD, .int 0])), (me, .inr (1, [.int 0, .ref eD, .int 0])), (ma, .inl (kO, 10, .inr (.inr (.inr (.inr (zfT t0 t1 t2)))))), (t0, .inr (18, [.int (-1), .ref i0])), (t1, .inr (18, [.int (-2), .ref i1])), (t2, .inr (18, [.int (-3), .ref i2])), (i0, .inl (kT, 0, .inr (.inr (.inr (.inr (fun _ => none)))))), (i1, .inl (kT, 0, .inr (.inr (.inr (.inr (fun _ => none)))))), (i2, .inl (kT, 0, .inr (.inr (.inr (.inr (fun _ => none))))))] sz)) 7 22 (va_A [(mm, .inr (21, [.int th, .ref ms, .ref mt, .ref mh, .ref me])), (ms, .inr (1, [.int 0, .ref eD, .int 0])), (mt, .inr (1, [.int mo, .ref ma, .int 3])), (mh, .inr (1, [.int 0, .ref eD, .int 0])), (me, .inr (1, [.int 0, .ref eD, .int 0])), (ma, .inl (kO, 10, .inr (.inr (.inr (.inr (zfT t0 t1 t2)))))), (t0, .inr (18, [.int (-1), .ref i0])), (t1, .inr (18, [.int (-2), .ref i1])), (t2, .inr (18, [.int (-3), .ref i2])), (i0, .inl (kT, 0, .inr (.inr (.inr (.inr (fun _ => none)))))), (i1, .inl (kT, 0, .inr (.inr (.inr (.inr (fun _ => none)))))), (i2, .inl (kT, 0, .inr (.inr (.inr (.inr (fun _ => none))))))] sz) := by
  refine Met.ofW (cc := cX19_wouldChoose) (maxL := 11) (ret := (some .int)) (by decide) rfl ?_
  intro p e s m args below meth c s₁ B hml hv
  obtain ⟨rfl, hsz, hP, hK, hD0, hE⟩ := hv
  have hx := B.exec
  have hb := B.bytes
  have hr := B.returns
  have hts := atoms_spec (ws := w_c_M_would) B.pre
  have hown : s.vm.findClass RX19 = some m.cls := findClass_of_methodNamed B.named
  have hlocks := B.notSynchronized
  subst hsz
  have hD := hD0.self (sz := s.heap.size)
  generalize hAe : va_A [(mm, .inr (21, [.int th, .ref ms, .ref mt, .ref mh, .ref me])), (ms, .inr (1, [.int 0, .ref eD, .int 0])), (mt, .inr (1, [.int mo, .ref ma, .int 3])), (mh, .inr (1, [.int 0, .ref eD, .int 0])), (me, .inr (1, [.int 0, .ref eD, .int 0])), (ma, .inl (kO, 10, .inr (.inr (.inr (.inr (zfT t0 t1 t2)))))), (t0, .inr (18, [.int (-1), .ref i0])), (t1, .inr (18, [.int (-2), .ref i1])), (t2, .inr (18, [.int (-3), .ref i2])), (i0, .inl (kT, 0, .inr (.inr (.inr (.inr (fun _ => none)))))), (i1, .inl (kT, 0, .inr (.inr (.inr (.inr (fun _ => none)))))), (i2, .inl (kT, 0, .inr (.inr (.inr (.inr (fun _ => none))))))] s.heap.size = A at hD hE ⊢
  have hA : ∀ q : Nat, s.heap.size ≤ q → A q := fun q h => by rw [← hAe]; exact Or.inr h
  have hS : va_S A s.heap s.heap [] := va_S.rf
  have hP : va_P (dC, dI) vwCl [(mm, .inr (21, [.int th, .ref ms, .ref mt, .ref mh, .ref me])), (ms, .inr (1, [.int 0, .ref eD, .int 0])), (mt, .inr (1, [.int mo, .ref ma, .int 3])), (mh, .inr (1, [.int 0, .ref eD, .int 0])), (me, .inr (1, [.int 0, .ref eD, .int 0])), (ma, .inl (kO, 10, .inr (.inr (.inr (.inr (zfT t0 t1 t2)))))), (t0, .inr (18, [.int (-1), .ref i0])), (t1, .inr (18, [.int (-2), .ref i1])), (t2, .inr (18, [.int (-3), .ref i2])), (i0, .inl (kT, 0, .inr (.inr (.inr (.inr (fun _ => none)))))), (i1, .inl (kT, 0, .inr (.inr (.inr (.inr (fun _ => none)))))), (i2, .inl (kT, 0, .inr (.inr (.inr (.inr (fun _ => none))))))] s.heap := hP
  have hl := lv_entry ([.ref mm, .int 1, .int x2, .int 0, .int (-1)]) (n := 11) (Nat.le_of_ble_eq_true rfl)
  rw [lg_entry_eq]
  generalize (lg_sl ([.ref mm, .int 1, .int x2, .int 0, .int (-1)]) ++ List.replicate (11 - (lg_sl ([.ref mm, .int 1, .int x2, .int 0, .int (-1)])).length) Slot.unset).toArray = ls at hl ⊢
  have hl : lv_has ls 11 [(0, .ref mm), (1, .int 1), (2, .int x2), (3, .int 0), (4, .int (-1))] := hl
  have in_RX18 : ∀ w ∈ u_ws RX18 TX18 7, w ∈ w_c_M_would := by decide +kernel
  have hP := hP.sub (ws' := [(mm, .inr (21, [.int th, .ref ms, .ref mt, .ref mh, .ref me])), (mt, .inr (1, [.int mo, .ref ma, .int 3])), (mh, .inr (1, [.int 0, .ref eD, .int 0])), (ma, .inl (kO, 10, .inr (.inr (.inr (.inr (zfT t0 t1 t2)))))), (t0, .inr (18, [.int (-1), .ref i0])), (t1, .inr (18, [.int (-2), .ref i1])), (i0, .inl (kT, 0, .inr (.inr (.inr (.inr (fun _ => none)))))), (i1, .inl (kT, 0, .inr (.inr (.inr (.inr (fun _ => none))))))]) [0, 2, 3, 5, 6, 7, 9, 10] rfl
  have hD := hD.sub (ws' := [(mm, .inr (21, [.int th, .ref ms, .ref mt, .ref mh, .ref me])), (mt, .inr (1, [.int mo, .ref ma, .int 3])), (mh, .inr (1, [.int 0, .ref eD, .int 0])), (ma, .inl (kO, 10, .inr (.inr (.inr (.inr (zfT t0 t1 t2)))))), (t0, .inr (18, [.int (-1), .ref i0])), (t1, .inr (18, [.int (-2), .ref i1])), (i0, .inl (kT, 0, .inr (.inr (.inr (.inr (fun _ => none)))))), (i1, .inl (kT, 0, .inr (.inr (.inr (.inr (fun _ => none))))))]) [0, 2, 3, 5, 6, 7, 9, 10] (by decide) rfl
  refine lv_aload_n hx hb dX19_wouldChoose_0 rfl (lv_at hl 0 rfl) ?_
  refine lv_aload_n hx hb dX19_wouldChoose_1 rfl (lv_at hl 0 rfl) ?_
  refine lv_iload_n hx hb dX19_wouldChoose_2 rfl (lv_at hl 1 rfl) ?_
  refine z_i (wr := [(mh, .inr (1, [.int 0, .ref eD, .int 0])), (ma, .inl (kO, 10, .inr (.inr (.inr (.inr (zfT t0 t1 t2)))))), (t0, .inr (18, [.int (-1), .ref i0])), (t1, .inr (18, [.int (-2), .ref i1])), (i0, .inl (kT, 0, .inr (.inr (.inr (.inr (fun _ => none)))))), (i1, .inl (kT, 0, .inr (.inr (.inr (.inr (fun _ => none))))))]) (va_runV (As := [.int 1]) (rest := [.ref mm]) ⟨hx, hb, hml, hown, hts⟩ (c_M_isNoType_ok l eD eI ad dC dI s.heap.size mm ms mt mh me th ((.int mo)) ((.ref ma)) 1 (by decide) (by decide)) (cwV 1 hts g_c_M_would_3 rfl rfl rfl (by decide +kernel) ⟨Nat.le_of_ble_eq_true rfl, Nat.le_of_ble_eq_true rfl⟩) (z_preV (wc := [(mm, .inr (21, [.int th, .ref ms, .ref mt, .ref mh, .ref me])), (mt, .inr (1, [.int mo, .ref ma, .int 3]))]) hP hD hK hS hA hE [0, 1] [] rfl (by decide) rfl (ci := 21) (q0 := 0) rfl rfl) rfl rfl hl.1 rfl (lv_room (Nat.le_of_ble_eq_true rfl)) dX19_wouldChoose_3 ⟨Nat.le_of_ble_eq_true rfl, Nat.le_of_ble_eq_true rfl⟩) hP hD hK hS hA [0, 1] [2, 3, 4, 5, 6, 7] rfl rfl (by decide) (by decide) (fun r_1 u H locs hw_2 hP hD hK hS => ?_)
  obtain ⟨⟩ := u
  have hP : va_P (dC, dI) vwCl [(mh, .inr (1, [.int 0, .ref eD, .int 0])), (ma, .inl (kO, 10, .inr (.inr (.inr (.inr (zfT t0 t1 t2)))))), (t0, .inr (18, [.int (-1), .ref i0])), (t1, .inr (18, [.int (-2), .ref i1])), (i0, .inl (kT, 0, .inr (.inr (.inr (.inr (fun _ => none)))))), (i1, .inl (kT, 0, .inr (.inr (.inr (.inr (fun _ => none)))))), (mm, .inr (21, [.int th, .ref ms, .ref mt, .ref mh, .ref me])), (mt, .inr (1, [.int mo, .ref ma, .int 3]))] H := hP
  have hD : va_D A [(mh, .inr (1, [.int 0, .ref eD, .int 0])), (ma, .inl (kO, 10, .inr (.inr (.inr (.inr (zfT t0 t1 t2)))))), (t0, .inr (18, [.int (-1), .ref i0])), (t1, .inr (18, [.int (-2), .ref i1])), (i0, .inl (kT, 0, .inr (.inr (.inr (.inr (fun _ => none)))))), (i1, .inl (kT, 0, .inr (.inr (.inr (.inr (fun _ => none)))))), (mm, .inr (21, [.int th, .ref ms, .ref mt, .ref mh, .ref me])), (mt, .inr (1, [.int mo, .ref ma, .int 3]))] := hD
  have hK : va_K (dC, dI) vwCl [(kO, .object "java/lang/Object"), (kT, .object "HornbookModel$Tree")] s := by simpa using hK
  have hw_2 : r_1 = 0 := hw_2
  have hw_2 := hw_2.symm
  subst hw_2
  refine lv_if_ne (tgt := 26) hx hb dX19_wouldChoose_6 (by decide) (fun c_3 => ?_) (fun c_3 => ?_)
  · exact absurd (by decide) c_3
  refine lv_aload_n hx hb dX19_wouldChoose_9 rfl (lv_at hl 0 rfl) ?_
  refine lv_iload_n hx hb dX19_wouldChoose_10 rfl (lv_at hl 3 rfl) ?_
  refine z_i (wr := [(mh, .inr (1, [.int 0, .ref eD, .int 0])), (ma, .inl (kO, 10, .inr (.inr (.inr (.inr (zfT t0 t1 t2)))))), (t0, .inr (18, [.int (-1), .ref i0])), (t1, .inr (18, [.int (-2), .ref i1])), (i0, .inl (kT, 0, .inr (.inr (.inr (.inr (fun _ => none)))))), (i1, .inl (kT, 0, .inr (.inr (.inr (.inr (fun _ => none))))))]) (va_runV (As := [.int 0]) (rest := [.ref mm]) ⟨hx, hb, hml, hown, hts⟩ (c_M_isNoTypeN_ok l eD eI ad dC dI H.size mm ms mt mh me th ((.int mo)) ((.ref ma)) 0 (by decide) (by decide) (by decide)) (cwV 1 hts g_c_M_would_23 rfl rfl rfl (by decide +kernel) ⟨Nat.le_of_ble_eq_true rfl, Nat.le_of_ble_eq_true rfl⟩) (z_preV (wc := [(mm, .inr (21, [.int th, .ref ms, .ref mt, .ref mh, .ref me])), (mt, .inr (1, [.int mo, .ref ma, .int 3]))]) hP hD hK hS hA hE [6, 7] [] rfl (by decide) rfl (ci := 21) (q0 := 0) rfl rfl) rfl rfl hl.1 rfl (lv_room (Nat.le_of_ble_eq_true rfl)) dX19_wouldChoose_11 ⟨Nat.le_of_ble_eq_true rfl, Nat.le_of_ble_eq_true rfl⟩) hP hD hK hS hA [6, 7] [0, 1, 2, 3, 4, 5] rfl rfl (by decide) (by decide) (fun r_4 u H locs hw_5 hP hD hK hS => ?_)
  obtain ⟨⟩ := u
  have hP : va_P (dC, dI) vwCl [(mh, .inr (1, [.int 0, .ref eD, .int 0])), (ma, .inl (kO, 10, .inr (.inr (.inr (.inr (zfT t0 t1 t2)))))), (t0, .inr (18, [.int (-1), .ref i0])), (t1, .inr (18, [.int (-2), .ref i1])), (i0, .inl (kT, 0, .inr (.inr (.inr (.inr (fun _ => none)))))), (i1, .inl (kT, 0, .inr (.inr (.inr (.inr (fun _ => none)))))), (mm, .inr (21, [.int th, .ref ms, .ref mt, .ref mh, .ref me])), (mt, .inr (1, [.int mo, .ref ma, .int 3]))] H := hP
  have hD : va_D A [(mh, .inr (1, [.int 0, .ref eD, .int 0])), (ma, .inl (kO, 10, .inr (.inr (.inr (.inr (zfT t0 t1 t2)))))), (t0, .inr (18, [.int (-1), .ref i0])), (t1, .inr (18, [.int (-2), .ref i1])), (i0, .inl (kT, 0, .inr (.inr (.inr (.inr (fun _ => none)))))), (i1, .inl (kT, 0, .inr (.inr (.inr (.inr (fun _ => none)))))), (mm, .inr (21, [.int th, .ref ms, .ref mt, .ref mh, .ref me])), (mt, .inr (1, [.int mo, .ref ma, .int 3]))] := hD
  have hK : va_K (dC, dI) vwCl [(kO, .object "java/lang/Object"), (kT, .object "HornbookModel$Tree")] s := by simpa using hK
  have hw_5 : r_4 = 0 := hw_5
  have hw_5 := hw_5.symm
  subst hw_5
  refine lv_if_ne (tgt := 26) hx hb dX19_wouldChoose_14 (by decide) (fun c_6 => ?_) (fun c_6 => ?_)
  · exact absurd (by decide) c_6
  refine lv_aload_n hx hb dX19_wouldChoose_17 rfl (lv_at hl 0 rfl) ?_
  refine lv_iload hx hb dX19_wouldChoose_18 (lv_at hl 4 rfl) ?_
  refine z_i (wr := [(mh, .inr (1, [.int 0, .ref eD, .int 0])), (ma, .inl (kO, 10, .inr (.inr (.inr (.inr (zfT t0 t1 t2)))))), (t0, .inr (18, [.int (-1), .ref i0])), (t1, .inr (18, [.int (-2), .ref i1])), (i0, .inl (kT, 0, .inr (.inr (.inr (.inr (fun _ => none)))))), (i1, .inl (kT, 0, .inr (.inr (.inr (.inr (fun _ => none))))))]) (va_runV (As := [.int (-1)]) (rest := [.ref mm]) ⟨hx, hb, hml, hown, hts⟩ (c_M_isNoTypeN_none l eD eI ad dC dI H.size mm ms mt mh me th ((.int mo)) ((.ref ma))) (cwV 1 hts g_c_M_would_4 rfl rfl rfl (by decide +kernel) ⟨Nat.le_of_ble_eq_true rfl, Nat.le_of_ble_eq_true rfl⟩) (z_preV (wc := [(mm, .inr (21, [.int th, .ref ms, .ref mt, .ref mh, .ref me])), (mt, .inr (1, [.int mo, .ref ma, .int 3]))]) hP hD hK hS hA hE [6, 7] [] rfl (by decide) rfl (ci := 21) (q0 := 0) rfl rfl) rfl rfl hl.1 rfl (lv_room (Nat.le_of_ble_eq_true rfl)) dX19_wouldChoose_20 ⟨Nat.le_of_ble_eq_true rfl, Nat.le_of_ble_eq_true rfl⟩) hP hD hK hS hA [6, 7] [0, 1, 2, 3, 4, 5] rfl rfl (by decide) (by decide) (fun r_7 u H locs hw_8 hP hD hK hS => ?_)
  obtain ⟨⟩ := u
  have hP : va_P (dC, dI) vwCl [(mh, .inr (1, [.int 0, .ref eD, .int 0])), (ma, .inl (kO, 10, .inr (.inr (.inr (.inr (zfT t0 t1 t2)))))), (t0, .inr (18, [.int (-1), .ref i0])), (t1, .inr (18, [.int (-2), .ref i1])), (i0, .inl (kT, 0, .inr (.inr (.inr (.inr (fun _ => none)))))), (i1, .inl (kT, 0, .inr (.inr (.inr (.inr (fun _ => none)))))), (mm, .inr (21, [.int th, .ref ms, .ref mt, .ref mh, .ref me])), (mt, .inr (1, [.int mo, .ref ma, .int 3]))] H := hP
  have hD : va_D A [(mh, .inr (1, [.int 0, .ref eD, .int 0])), (ma, .inl (kO, 10, .inr (.inr (.inr (.inr (zfT t0 t1 t2)))))), (t0, .inr (18, [.int (-1), .ref i0])), (t1, .inr (18, [.int (-2), .ref i1])), (i0, .inl (kT, 0, .inr (.inr (.inr (.inr (fun _ => none)))))), (i1, .inl (kT, 0, .inr (.inr (.inr (.inr (fun _ => none)))))), (mm, .inr (21, [.int th, .ref ms, .ref mt, .ref mh, .ref me])), (mt, .inr (1, [.int mo, .ref ma, .int 3]))] := hD
  have hK : va_K (dC, dI) vwCl [(kO, .object "java/lang/Object"), (kT, .object "HornbookModel$Tree")] s := by simpa using hK
  have hw_8 : r_7 = 0 := hw_8
  have hw_8 := hw_8.symm
  subst hw_8
  refine lv_if_eq (tgt := 30) hx hb dX19_wouldChoose_23 (by decide) (fun c_9 => ?_) (fun c_9 => ?_)
  rotate_left
  · exact absurd (by decide) c_9
  refine lv_iconst (v := 0) hx hb dX19_wouldChoose_30 (by decide) ?_
  refine lv_iconst (v := 1) hx hb dX19_wouldChoose_31 (by decide) ?_
  refine z_i (wr := [(mh, .inr (1, [.int 0, .ref eD, .int 0])), (ma, .inl (kO, 10, .inr (.inr (.inr (.inr (zfT t0 t1 t2)))))), (t0, .inr (18, [.int (-1), .ref i0])), (t1, .inr (18, [.int (-2), .ref i1])), (i0, .inl (kT, 0, .inr (.inr (.inr (.inr (fun _ => none)))))), (i1, .inl (kT, 0, .inr (.inr (.inr (.inr (fun _ => none)))))), (mt, .inr (1, [.int mo, .ref ma, .int 3]))]) (va_runV (As := [.int 0, .int 1]) (rest := []) ⟨hx, hb, hml, hown, hts⟩ (c_M_start_no l eD eI ad dC dI H.size mm ((.ref ms)) ((.ref mt)) ((.ref mh)) ((.ref me)) 1 th) (cwV 2 hts g_c_M_would_5 rfl rfl rfl (by decide +kernel) ⟨Nat.le_of_ble_eq_true rfl, Nat.le_of_ble_eq_true rfl⟩) (z_preV (wc := [(mm, .inr (21, [.int th, .ref ms, .ref mt, .ref mh, .ref me]))]) hP hD hK hS hA hE [6] [] rfl (by decide) rfl (ci := 21) (q0 := 0) rfl rfl) rfl rfl hl.1 rfl (lv_room (Nat.le_of_ble_eq_true rfl)) dX19_wouldChoose_32 ⟨Nat.le_of_ble_eq_true rfl, Nat.le_of_ble_eq_true rfl⟩) hP hD hK hS hA [6] [0, 1, 2, 3, 4, 5, 7] rfl rfl (by decide) (by decide) (fun r_10 u H locs hw_11 hP hD hK hS => ?_)
  obtain ⟨⟩ := u
  have hP : va_P (dC, dI) vwCl [(mh, .inr (1, [.int 0, .ref eD, .int 0])), (ma, .inl (kO, 10, .inr (.inr (.inr (.inr (zfT t0 t1 t2)))))), (t0, .inr (18, [.int (-1), .ref i0])), (t1, .inr (18, [.int (-2), .ref i1])), (i0, .inl (kT, 0, .inr (.inr (.inr (.inr (fun _ => none)))))), (i1, .inl (kT, 0, .inr (.inr (.inr (.inr (fun _ => none)))))), (mt, .inr (1, [.int mo, .ref ma, .int 3])), (mm, .inr (21, [.int 0, .ref ms, .ref mt, .ref mh, .ref me]))] H := hP
  have hD : va_D A [(mh, .inr (1, [.int 0, .ref eD, .int 0])), (ma, .inl (kO, 10, .inr (.inr (.inr (.inr (zfT t0 t1 t2)))))), (t0, .inr (18, [.int (-1), .ref i0])), (t1, .inr (18, [.int (-2), .ref i1])), (i0, .inl (kT, 0, .inr (.inr (.inr (.inr (fun _ => none)))))), (i1, .inl (kT, 0, .inr (.inr (.inr (.inr (fun _ => none)))))), (mt, .inr (1, [.int mo, .ref ma, .int 3])), (mm, .inr (21, [.int 0, .ref ms, .ref mt, .ref mh, .ref me]))] := hD
  have hK : va_K (dC, dI) vwCl [(kO, .object "java/lang/Object"), (kT, .object "HornbookModel$Tree")] s := by simpa using hK
  have hw_11 : r_10 = 0 := hw_11
  have hw_11 := hw_11.symm
  subst hw_11
  refine lv_if_ne (tgt := 72) hx hb dX19_wouldChoose_35 (by decide) (fun c_12 => ?_) (fun c_12 => ?_)
  · exact absurd (by decide) c_12
  refine lv_aload_n hx hb dX19_wouldChoose_38 rfl (lv_at hl 0 rfl) ?_
  refine lv_iload_n hx hb dX19_wouldChoose_39 rfl (lv_at hl 2 rfl) ?_
  refine lv_iconst (v := 0) hx hb dX19_wouldChoose_40 (by decide) ?_
  refine lv_bipush (v := 9) hx hb dX19_wouldChoose_41 (by decide) ?_
  refine z_i (wr := [(mh, .inr (1, [.int 0, .ref eD, .int 0])), (ma, .inl (kO, 10, .inr (.inr (.inr (.inr (zfT t0 t1 t2)))))), (t0, .inr (18, [.int (-1), .ref i0])), (t1, .inr (18, [.int (-2), .ref i1])), (i0, .inl (kT, 0, .inr (.inr (.inr (.inr (fun _ => none)))))), (i1, .inl (kT, 0, .inr (.inr (.inr (.inr (fun _ => none)))))), (mt, .inr (1, [.int mo, .ref ma, .int 3])), (mm, .inr (21, [.int 0, .ref ms, .ref mt, .ref mh, .ref me]))]) (va_runS (As := [.int x2, .int 0, .int 9]) (rest := [.ref mm]) ⟨hx, hb, hml, hown, hts⟩ (c_M_isIn_ok l eD eI ad dC dI H.size x2 0 9 (hx20) (hx21)) (va_cwS 3 hts g_c_M_would_9 rfl rfl rfl (by decide +kernel) ⟨Nat.le_of_ble_eq_true rfl, Nat.le_of_ble_eq_true rfl⟩) (z_preS (wc := []) hP hD hK hS hA hE [] [] rfl (by decide) rfl) rfl rfl hl.1 rfl (lv_room (Nat.le_of_ble_eq_true rfl)) dX19_wouldChoose_43 ⟨Nat.le_of_ble_eq_true rfl, Nat.le_of_ble_eq_true rfl⟩) hP hD hK hS hA [] [0, 1, 2, 3, 4, 5, 6, 7] rfl rfl (by decide) (by decide) (fun r_13 u H locs hw_14 hP hD hK hS => ?_)
  obtain ⟨⟩ := u
  have hP : va_P (dC, dI) vwCl [(mh, .inr (1, [.int 0, .ref eD, .int 0])), (ma, .inl (kO, 10, .inr (.inr (.inr (.inr (zfT t0 t1 t2)))))), (t0, .inr (18, [.int (-1), .ref i0])), (t1, .inr (18, [.int (-2), .ref i1])), (i0, .inl (kT, 0, .inr (.inr (.inr (.inr (fun _ => none)))))), (i1, .inl (kT, 0, .inr (.inr (.inr (.inr (fun _ => none)))))), (mt, .inr (1, [.int mo, .ref ma, .int 3])), (mm, .inr (21, [.int 0, .ref ms, .ref mt, .ref mh, .ref me]))] H := hP
  have hD : va_D A [(mh, .inr (1, [.int 0, .ref eD, .int 0])), (ma, .inl (kO, 10, .inr (.inr (.inr (.inr (zfT t0 t1 t2)))))), (t0, .inr (18, [.int (-1), .ref i0])), (t1, .inr (18, [.int (-2), .ref i1])), (i0, .inl (kT, 0, .inr (.inr (.inr (.inr (fun _ => none)))))), (i1, .inl (kT, 0, .inr (.inr (.inr (.inr (fun _ => none)))))), (mt, .inr (1, [.int mo, .ref ma, .int 3])), (mm, .inr (21, [.int 0, .ref ms, .ref mt, .ref mh, .ref me]))] := hD
  have hK : va_K (dC, dI) vwCl [(kO, .object "java/lang/Object"), (kT, .object "HornbookModel$Tree")] s := by simpa using hK
  have hw_14 : r_13 = 1 := hw_14
  have hw_14 := hw_14.symm
  subst hw_14
  refine lv_if_eq (tgt := 60) hx hb dX19_wouldChoose_46 (by decide) (fun c_15 => ?_) (fun c_15 => ?_)
  · exact absurd c_15 (by decide)
  refine lv_iload_n hx hb dX19_wouldChoose_49 rfl (lv_at hl 3 rfl) ?_
  refine lv_iconst (v := (-1)) hx hb dX19_wouldChoose_50 (by decide) ?_
  refine lv_icmp_ne (tgt := 64) hx hb dX19_wouldChoose_51 (by decide) (fun c_16 => ?_) (fun c_16 => ?_)
  rotate_left
  · exact absurd c_16 (by decide)
  refine lv_iconst (v := 0) hx hb dX19_wouldChoose_64 (by decide) ?_
  refine lv_iconst (v := 2) hx hb dX19_wouldChoose_65 (by decide) ?_
  refine z_i (wr := [(mh, .inr (1, [.int 0, .ref eD, .int 0])), (ma, .inl (kO, 10, .inr (.inr (.inr (.inr (zfT t0 t1 t2)))))), (t0, .inr (18, [.int (-1), .ref i0])), (t1, .inr (18, [.int (-2), .ref i1])), (i0, .inl (kT, 0, .inr (.inr (.inr (.inr (fun _ => none)))))), (i1, .inl (kT, 0, .inr (.inr (.inr (.inr (fun _ => none)))))), (mt, .inr (1, [.int mo, .ref ma, .int 3]))]) (va_runV (As := [.int 0, .int 2]) (rest := []) ⟨hx, hb, hml, hown, hts⟩ (c_M_refuse_no l eD eI ad dC dI H.size mm ((.ref ms)) ((.ref mt)) ((.ref mh)) ((.ref me)) 2) (cwV 2 hts g_c_M_would_10 rfl rfl rfl (by decide +kernel) ⟨Nat.le_of_ble_eq_true rfl, Nat.le_of_ble_eq_true rfl⟩) (z_preV (wc := [(mm, .inr (21, [.int 0, .ref ms, .ref mt, .ref mh, .ref me]))]) hP hD hK hS hA hE [7] [] rfl (by decide) rfl (ci := 21) (q0 := 0) rfl rfl) rfl rfl hl.1 rfl (lv_room (Nat.le_of_ble_eq_true rfl)) dX19_wouldChoose_66 ⟨Nat.le_of_ble_eq_true rfl, Nat.le_of_ble_eq_true rfl⟩) hP hD hK hS hA [7] [0, 1, 2, 3, 4, 5, 6] rfl rfl (by decide) (by decide) (fun r_17 u H locs hw_18 hP hD hK hS => ?_)
  obtain ⟨⟩ := u
  have hP : va_P (dC, dI) vwCl [(mh, .inr (1, [.int 0, .ref eD, .int 0])), (ma, .inl (kO, 10, .inr (.inr (.inr (.inr (zfT t0 t1 t2)))))), (t0, .inr (18, [.int (-1), .ref i0])), (t1, .inr (18, [.int (-2), .ref i1])), (i0, .inl (kT, 0, .inr (.inr (.inr (.inr (fun _ => none)))))), (i1, .inl (kT, 0, .inr (.inr (.inr (.inr (fun _ => none)))))), (mt, .inr (1, [.int mo, .ref ma, .int 3])), (mm, .inr (21, [.int 0, .ref ms, .ref mt, .ref mh, .ref me]))] H := hP
  have hD : va_D A [(mh, .inr (1, [.int 0, .ref eD, .int 0])), (ma, .inl (kO, 10, .inr (.inr (.inr (.inr (zfT t0 t1 t2)))))), (t0, .inr (18, [.int (-1), .ref i0])), (t1, .inr (18, [.int (-2), .ref i1])), (i0, .inl (kT, 0, .inr (.inr (.inr (.inr (fun _ => none)))))), (i1, .inl (kT, 0, .inr (.inr (.inr (.inr (fun _ => none)))))), (mt, .inr (1, [.int mo, .ref ma, .int 3])), (mm, .inr (21, [.int 0, .ref ms, .ref mt, .ref mh, .ref me]))] := hD
  have hK : va_K (dC, dI) vwCl [(kO, .object "java/lang/Object"), (kT, .object "HornbookModel$Tree")] s := by simpa using hK
  have hw_18 : r_17 = 0 := hw_18
  have hw_18 := hw_18.symm
  subst hw_18
  refine lv_if_eq (tgt := 74) hx hb dX19_wouldChoose_69 (by decide) (fun c_19 => ?_) (fun c_19 => ?_)
  rotate_left
  · exact absurd (by decide) c_19
  refine lv_aload_n hx hb dX19_wouldChoose_74 rfl (lv_at hl 0 rfl) ?_
  refine lv_iload_n hx hb dX19_wouldChoose_75 rfl (lv_at hl 3 rfl) ?_
  refine lv_iload hx hb dX19_wouldChoose_76 (lv_at hl 4 rfl) ?_
  refine z_q (wr := [(mh, .inr (1, [.int 0, .ref eD, .int 0])), (t1, .inr (18, [.int (-2), .ref i1])), (i0, .inl (kT, 0, .inr (.inr (.inr (.inr (fun _ => none)))))), (i1, .inl (kT, 0, .inr (.inr (.inr (.inr (fun _ => none))))))]) (va_runV (As := [.int 0, .int (-1)]) (rest := []) ⟨hx, hb, hml, hown, hts⟩ (c_M_trees_0 l eD eI ad dC dI H.size mm ms mt mh me 0 mo ma kO t0 t1 t2 ((.ref i0))) (cwV 2 hts g_c_M_would_24 rfl rfl rfl (by decide +kernel) ⟨Nat.le_of_ble_eq_true rfl, Nat.le_of_ble_eq_true rfl⟩) (z_preV (wc := [(mm, .inr (21, [.int 0, .ref ms, .ref mt, .ref mh, .ref me])), (mt, .inr (1, [.int mo, .ref ma, .int 3])), (ma, .inl (kO, 10, .inr (.inr (.inr (.inr (zfT t0 t1 t2)))))), (t0, .inr (18, [.int (-1), .ref i0]))]) hP hD hK hS hA hE [7, 6, 1, 2] [0] rfl (by decide) rfl (ci := 21) (q0 := 0) rfl rfl) rfl rfl hl.1 rfl (lv_room (Nat.le_of_ble_eq_true rfl)) dX19_wouldChoose_78 ⟨Nat.le_of_ble_eq_true rfl, Nat.le_of_ble_eq_true rfl⟩) hP hD hK hS hA [7, 6, 1, 2] [0, 3, 4, 5] rfl rfl (by decide) (by decide) (fun r_22 u H locs hw_23 hP hD hK hS => ?_)
  obtain ⟨u_20, u_21⟩ := u
  have hP : va_P (dC, dI) vwCl [(mh, .inr (1, [.int 0, .ref eD, .int 0])), (t1, .inr (18, [.int (-2), .ref i1])), (i0, .inl (kT, 0, .inr (.inr (.inr (.inr (fun _ => none)))))), (i1, .inl (kT, 0, .inr (.inr (.inr (.inr (fun _ => none)))))), (mm, .inr (21, [.int 0, .ref ms, .ref mt, .ref mh, .ref me])), (mt, .inr (1, [.int mo, .ref ma, .int 3])), (ma, .inl (kO, 10, .inr (.inr (.inr (.inr (zfT t0 t1 t2)))))), (t0, .inr (18, [.int (-1), .ref i0])), (u_20, .inl (u_21, 1, .inr (.inr (.inr (.inr (va_up (fun _ => none) (0 : Int32).toNatClampNeg (some t0)))))))] H := hP
  have hD : va_D A [(mh, .inr (1, [.int 0, .ref eD, .int 0])), (t1, .inr (18, [.int (-2), .ref i1])), (i0, .inl (kT, 0, .inr (.inr (.inr (.inr (fun _ => none)))))), (i1, .inl (kT, 0, .inr (.inr (.inr (.inr (fun _ => none)))))), (mm, .inr (21, [.int 0, .ref ms, .ref mt, .ref mh, .ref me])), (mt, .inr (1, [.int mo, .ref ma, .int 3])), (ma, .inl (kO, 10, .inr (.inr (.inr (.inr (zfT t0 t1 t2)))))), (t0, .inr (18, [.int (-1), .ref i0])), (u_20, .inl (u_21, 1, .inr (.inr (.inr (.inr (va_up (fun _ => none) (0 : Int32).toNatClampNeg (some t0)))))))] := hD
  have hK : va_K (dC, dI) vwCl [(kO, .object "java/lang/Object"), (kT, .object "HornbookModel$Tree"), (kO, .object "java/lang/Object"), (u_21, .object "HornbookModel$Tree")] s := hK
  have hw_23 : r_22 = some u_20 := hw_23
  have hw_23 := hw_23.symm
  subst hw_23
  refine W.eq (g2 := F0 m 81 ls (.ref u_20 :: [])) rfl ?_
  refine lv_astore (lv' := [(5, .ref u_20), (0, .ref mm), (1, .int 1), (2, .int x2), (3, .int 0), (4, .int (-1))]) hx hb dX19_wouldChoose_81 hl (by decide) rfl (fun ls hl => ?_)
  refine lv_aload_n hx hb dX19_wouldChoose_83 rfl (lv_at hl 1 rfl) ?_
  refine lv_iload_n hx hb dX19_wouldChoose_84 rfl (lv_at hl 2 rfl) ?_
  refine z_q (wr := [(mh, .inr (1, [.int 0, .ref eD, .int 0])), (i0, .inl (kT, 0, .inr (.inr (.inr (.inr (fun _ => none)))))), (i1, .inl (kT, 0, .inr (.inr (.inr (.inr (fun _ => none)))))), (t0, .inr (18, [.int (-1), .ref i0])), (u_20, .inl (u_21, 1, .inr (.inr (.inr (.inr (va_up (fun _ => none) (0 : Int32).toNatClampNeg (some t0)))))))]) (va_runV (As := [.int 1]) (rest := []) ⟨hx, hb, hml, hown, hts⟩ (c_M_type_1 l eD eI ad dC dI H.size mm ms mt mh me 0 mo ma kO t0 t1 t2 ((.ref i1))) (cwV 1 hts g_c_M_would_17 rfl rfl rfl (by decide +kernel) ⟨Nat.le_of_ble_eq_true rfl, Nat.le_of_ble_eq_true rfl⟩) (z_preV (wc := [(mm, .inr (21, [.int 0, .ref ms, .ref mt, .ref mh, .ref me])), (mt, .inr (1, [.int mo, .ref ma, .int 3])), (ma, .inl (kO, 10, .inr (.inr (.inr (.inr (zfT t0 t1 t2)))))), (t1, .inr (18, [.int (-2), .ref i1]))]) hP hD hK hS hA hE [4, 5, 6, 1] [0] rfl (by decide) rfl (ci := 21) (q0 := 0) rfl rfl) rfl rfl hl.1 rfl (lv_room (Nat.le_of_ble_eq_true rfl)) dX19_wouldChoose_85 ⟨Nat.le_of_ble_eq_true rfl, Nat.le_of_ble_eq_true rfl⟩) hP hD hK hS hA [4, 5, 6, 1] [0, 2, 3, 7, 8] rfl rfl (by decide) (by decide) (fun r_24 u H locs hw_25 hP hD hK hS => ?_)
  obtain ⟨⟩ := u
  have hP : va_P (dC, dI) vwCl [(mh, .inr (1, [.int 0, .ref eD, .int 0])), (i0, .inl (kT, 0, .inr (.inr (.inr (.inr (fun _ => none)))))), (i1, .inl (kT, 0, .inr (.inr (.inr (.inr (fun _ => none)))))), (t0, .inr (18, [.int (-1), .ref i0])), (u_20, .inl (u_21, 1, .inr (.inr (.inr (.inr (va_up (fun _ => none) (0 : Int32).toNatClampNeg (some t0))))))), (mm, .inr (21, [.int 0, .ref ms, .ref mt, .ref mh, .ref me])), (mt, .inr (1, [.int mo, .ref ma, .int 3])), (ma, .inl (kO, 10, .inr (.inr (.inr (.inr (zfT t0 t1 t2)))))), (t1, .inr (18, [.int (-2), .ref i1]))] H := hP
  have hD : va_D A [(mh, .inr (1, [.int 0, .ref eD, .int 0])), (i0, .inl (kT, 0, .inr (.inr (.inr (.inr (fun _ => none)))))), (i1, .inl (kT, 0, .inr (.inr (.inr (.inr (fun _ => none)))))), (t0, .inr (18, [.int (-1), .ref i0])), (u_20, .inl (u_21, 1, .inr (.inr (.inr (.inr (va_up (fun _ => none) (0 : Int32).toNatClampNeg (some t0))))))), (mm, .inr (21, [.int 0, .ref ms, .ref mt, .ref mh, .ref me])), (mt, .inr (1, [.int mo, .ref ma, .int 3])), (ma, .inl (kO, 10, .inr (.inr (.inr (.inr (zfT t0 t1 t2)))))), (t1, .inr (18, [.int (-2), .ref i1]))] := hD
  have hK : va_K (dC, dI) vwCl [(kO, .object "java/lang/Object"), (kT, .object "HornbookModel$Tree"), (kO, .object "java/lang/Object"), (u_21, .object "HornbookModel$Tree")] s := by simpa using hK
  have hw_25 : r_24 = some t1 := hw_25
  have hw_25 := hw_25.symm
  subst hw_25
  refine W.eq (g2 := F0 m 88 ls (.ref t1 :: [])) rfl ?_
  refine z_i (wr := [(mh, .inr (1, [.int 0, .ref eD, .int 0])), (i0, .inl (kT, 0, .inr (.inr (.inr (.inr (fun _ => none)))))), (t0, .inr (18, [.int (-1), .ref i0])), (u_20, .inl (u_21, 1, .inr (.inr (.inr (.inr (va_up (fun _ => none) (0 : Int32).toNatClampNeg (some t0))))))), (mm, .inr (21, [.int 0, .ref ms, .ref mt, .ref mh, .ref me])), (mt, .inr (1, [.int mo, .ref ma, .int 3])), (ma, .inl (kO, 10, .inr (.inr (.inr (.inr (zfT t0 t1 t2))))))]) (va_runV (As := []) (rest := []) ⟨hx, hb, hml, hown, hts⟩ (c_T_isClosed_2 l eD eI ad dC dI H.size t1 i1 kT) (cwV 0 hts g_c_M_would_18 rfl rfl rfl (by decide +kernel) ⟨Nat.le_of_ble_eq_true rfl, Nat.le_of_ble_eq_true rfl⟩) (z_preV (wc := [(t1, .inr (18, [.int (-2), .ref i1])), (i1, .inl (kT, 0, .inr (.inr (.inr (.inr (fun _ => none))))))]) hP hD hK hS hA hE [8, 2] [1] rfl (by decide) rfl (ci := 18) (q0 := 0) rfl rfl) rfl rfl hl.1 rfl (lv_room (Nat.le_of_ble_eq_true rfl)) dX19_wouldChoose_88 ⟨Nat.le_of_ble_eq_true rfl, Nat.le_of_ble_eq_true rfl⟩) hP hD hK hS hA [8, 2] [0, 1, 3, 4, 5, 6, 7] rfl rfl (by decide) (by decide) (fun r_26 u H locs hw_27 hP hD hK hS => ?_)
  obtain ⟨⟩ := u
  have hP : va_P (dC, dI) vwCl [(mh, .inr (1, [.int 0, .ref eD, .int 0])), (i0, .inl (kT, 0, .inr (.inr (.inr (.inr (fun _ => none)))))), (t0, .inr (18, [.int (-1), .ref i0])), (u_20, .inl (u_21, 1, .inr (.inr (.inr (.inr (va_up (fun _ => none) (0 : Int32).toNatClampNeg (some t0))))))), (mm, .inr (21, [.int 0, .ref ms, .ref mt, .ref mh, .ref me])), (mt, .inr (1, [.int mo, .ref ma, .int 3])), (ma, .inl (kO, 10, .inr (.inr (.inr (.inr (zfT t0 t1 t2)))))), (t1, .inr (18, [.int (-2), .ref i1])), (i1, .inl (kT, 0, .inr (.inr (.inr (.inr (fun _ => none))))))] H := hP
  have hD : va_D A [(mh, .inr (1, [.int 0, .ref eD, .int 0])), (i0, .inl (kT, 0, .inr (.inr (.inr (.inr (fun _ => none)))))), (t0, .inr (18, [.int (-1), .ref i0])), (u_20, .inl (u_21, 1, .inr (.inr (.inr (.inr (va_up (fun _ => none) (0 : Int32).toNatClampNeg (some t0))))))), (mm, .inr (21, [.int 0, .ref ms, .ref mt, .ref mh, .ref me])), (mt, .inr (1, [.int mo, .ref ma, .int 3])), (ma, .inl (kO, 10, .inr (.inr (.inr (.inr (zfT t0 t1 t2)))))), (t1, .inr (18, [.int (-2), .ref i1])), (i1, .inl (kT, 0, .inr (.inr (.inr (.inr (fun _ => none))))))] := hD
  have hK : va_K (dC, dI) vwCl [(kO, .object "java/lang/Object"), (kT, .object "HornbookModel$Tree"), (kO, .object "java/lang/Object"), (u_21, .object "HornbookModel$Tree")] s := by simpa using hK
  have hw_27 : r_26 = 1 := hw_27
  have hw_27 := hw_27.symm
  subst hw_27
  refine lv_istore (lv' := [(6, .int 1), (5, .ref u_20), (0, .ref mm), (1, .int 1), (2, .int x2), (3, .int 0), (4, .int (-1))]) hx hb dX19_wouldChoose_91 hl (by decide) rfl (fun ls hl => ?_)
  refine lv_aload hx hb dX19_wouldChoose_93 (lv_at hl 1 rfl) ?_
  refine lv_astore (lv' := [(7, .ref u_20), (6, .int 1), (5, .ref u_20), (0, .ref mm), (1, .int 1), (2, .int x2), (3, .int 0), (4, .int (-1))]) hx hb dX19_wouldChoose_95 hl (by decide) rfl (fun ls hl => ?_)
  refine lv_aload hx hb dX19_wouldChoose_97 (lv_at hl 0 rfl) ?_
  refine va_alen (D := (dC, dI)) (v := 1) hx hb hK hP 3 3 rfl rfl rfl dX19_wouldChoose_99 ?_
  refine lv_istore (lv' := [(8, .int 1), (7, .ref u_20), (6, .int 1), (5, .ref u_20), (0, .ref mm), (1, .int 1), (2, .int x2), (3, .int 0), (4, .int (-1))]) hx hb dX19_wouldChoose_100 hl (by decide) rfl (fun ls hl => ?_)
  refine lv_iconst (v := 0) hx hb dX19_wouldChoose_102 (by decide) ?_
  refine lv_istore (lv' := [(9, .int 0), (8, .int 1), (7, .ref u_20), (6, .int 1), (5, .ref u_20), (0, .ref mm), (1, .int 1), (2, .int x2), (3, .int 0), (4, .int (-1))]) hx hb dX19_wouldChoose_103 hl (by decide) rfl (fun ls hl => ?_)
  refine lv_iload hx hb dX19_wouldChoose_105 (lv_at hl 0 rfl) ?_
  refine lv_iload hx hb dX19_wouldChoose_107 (lv_at hl 1 rfl) ?_
  refine lv_icmp_ge (tgt := 135) hx hb dX19_wouldChoose_109 (by decide) (fun c_28 => ?_) (fun c_28 => ?_)
  · exact absurd c_28 (by decide)
  refine lv_aload hx hb dX19_wouldChoose_112 (lv_at hl 2 rfl) ?_
  refine lv_iload hx hb dX19_wouldChoose_114 (lv_at hl 0 rfl) ?_
  refine va_aldq (D := (dC, dI)) hx hb hK hP 3 3 rfl rfl (by unfold vp_in; decide) dX19_wouldChoose_116 ?_
  refine z_top (v' := .ref t0) (by first | rfl | decide | simp [va_up, va_rf]) ?_
  refine lv_astore (lv' := [(10, .ref t0), (9, .int 0), (8, .int 1), (7, .ref u_20), (6, .int 1), (5, .ref u_20), (0, .ref mm), (1, .int 1), (2, .int x2), (3, .int 0), (4, .int (-1))]) hx hb dX19_wouldChoose_117 hl (by decide) rfl (fun ls hl => ?_)
  refine lv_iload hx hb dX19_wouldChoose_119 (lv_at hl 4 rfl) ?_
  refine lv_aload hx hb dX19_wouldChoose_121 (lv_at hl 0 rfl) ?_
  refine z_i (wr := [(mh, .inr (1, [.int 0, .ref eD, .int 0])), (u_20, .inl (u_21, 1, .inr (.inr (.inr (.inr (va_up (fun _ => none) (0 : Int32).toNatClampNeg (some t0))))))), (mm, .inr (21, [.int 0, .ref ms, .ref mt, .ref mh, .ref me])), (mt, .inr (1, [.int mo, .ref ma, .int 3])), (ma, .inl (kO, 10, .inr (.inr (.inr (.inr (zfT t0 t1 t2)))))), (t1, .inr (18, [.int (-2), .ref i1])), (i1, .inl (kT, 0, .inr (.inr (.inr (.inr (fun _ => none))))))]) (va_runV (As := []) (rest := [.int 1]) ⟨hx, hb, hml, hown, hts⟩ (c_T_isClosed_1 l eD eI ad dC dI H.size t0 i0 kT) (cwV 0 hts g_c_M_would_13 rfl rfl rfl (by decide +kernel) ⟨Nat.le_of_ble_eq_true rfl, Nat.le_of_ble_eq_true rfl⟩) (z_preV (wc := [(t0, .inr (18, [.int (-1), .ref i0])), (i0, .inl (kT, 0, .inr (.inr (.inr (.inr (fun _ => none))))))]) hP hD hK hS hA hE [2, 1] [1] rfl (by decide) rfl (ci := 18) (q0 := 0) rfl rfl) rfl rfl hl.1 rfl (lv_room (Nat.le_of_ble_eq_true rfl)) dX19_wouldChoose_123 ⟨Nat.le_of_ble_eq_true rfl, Nat.le_of_ble_eq_true rfl⟩) hP hD hK hS hA [2, 1] [0, 3, 4, 5, 6, 7, 8] rfl rfl (by decide) (by decide) (fun r_29 u H locs hw_30 hP hD hK hS => ?_)
  obtain ⟨⟩ := u
  have hP : va_P (dC, dI) vwCl [(mh, .inr (1, [.int 0, .ref eD, .int 0])), (u_20, .inl (u_21, 1, .inr (.inr (.inr (.inr (va_up (fun _ => none) (0 : Int32).toNatClampNeg (some t0))))))), (mm, .inr (21, [.int 0, .ref ms, .ref mt, .ref mh, .ref me])), (mt, .inr (1, [.int mo, .ref ma, .int 3])), (ma, .inl (kO, 10, .inr (.inr (.inr (.inr (zfT t0 t1 t2)))))), (t1, .inr (18, [.int (-2), .ref i1])), (i1, .inl (kT, 0, .inr (.inr (.inr (.inr (fun _ => none)))))), (t0, .inr (18, [.int (-1), .ref i0])), (i0, .inl (kT, 0, .inr (.inr (.inr (.inr (fun _ => none))))))] H := hP
  have hD : va_D A [(mh, .inr (1, [.int 0, .ref eD, .int 0])), (u_20, .inl (u_21, 1, .inr (.inr (.inr (.inr (va_up (fun _ => none) (0 : Int32).toNatClampNeg (some t0))))))), (mm, .inr (21, [.int 0, .ref ms, .ref mt, .ref mh, .ref me])), (mt, .inr (1, [.int mo, .ref ma, .int 3])), (ma, .inl (kO, 10, .inr (.inr (.inr (.inr (zfT t0 t1 t2)))))), (t1, .inr (18, [.int (-2), .ref i1])), (i1, .inl (kT, 0, .inr (.inr (.inr (.inr (fun _ => none)))))), (t0, .inr (18, [.int (-1), .ref i0])), (i0, .inl (kT, 0, .inr (.inr (.inr (.inr (fun _ => none))))))] := hD
  have hK : va_K (dC, dI) vwCl [(kO, .object "java/lang/Object"), (kT, .object "HornbookModel$Tree"), (kO, .object "java/lang/Object"), (u_21, .object "HornbookModel$Tree")] s := by simpa using hK
  have hw_30 : r_29 = 1 := hw_30
  have hw_30 := hw_30.symm
  subst hw_30
  refine lv_iand hx hb dX19_wouldChoose_126 ?_
  refine z_top (v' := .int 1) (congrArg Value.int (by decide)) ?_
  refine lv_istore (lv' := [(6, .int 1), (10, .ref t0), (9, .int 0), (8, .int 1), (7, .ref u_20), (5, .ref u_20), (0, .ref mm), (1, .int 1), (2, .int x2), (3, .int 0), (4, .int (-1))]) hx hb dX19_wouldChoose_127 hl (by decide) rfl (fun ls hl => ?_)
  refine lv_iinc (v := 1) (lv' := [(9, .int 1), (6, .int 1), (10, .ref t0), (8, .int 1), (7, .ref u_20), (5, .ref u_20), (0, .ref mm), (1, .int 1), (2, .int x2), (3, .int 0), (4, .int (-1))]) hx hb dX19_wouldChoose_129 hl (k := 2) rfl (by decide) (by decide) rfl (fun ls hl => ?_)
  refine lv_goto (tgt := 105) hx hb dX19_wouldChoose_132 (by decide) ?_
  refine lv_iload hx hb dX19_wouldChoose_105 (lv_at hl 0 rfl) ?_
  refine lv_iload hx hb dX19_wouldChoose_107 (lv_at hl 3 rfl) ?_
  refine lv_icmp_ge (tgt := 135) hx hb dX19_wouldChoose_109 (by decide) (fun c_31 => ?_) (fun c_31 => ?_)
  rotate_left
  · exact absurd (by decide) c_31
  refine lv_aload_n hx hb dX19_wouldChoose_135 rfl (lv_at hl 6 rfl) ?_
  refine lv_iload hx hb dX19_wouldChoose_136 (lv_at hl 1 rfl) ?_
  refine lv_if_ne (tgt := 145) hx hb dX19_wouldChoose_138 (by decide) (fun c_32 => ?_) (fun c_32 => ?_)
  rotate_left
  · exact absurd c_32 (by decide)
  refine lv_iconst (v := 0) hx hb dX19_wouldChoose_145 (by decide) ?_
  refine lv_iconst (v := 2) hx hb dX19_wouldChoose_146 (by decide) ?_
  refine z_i (wr := [(mh, .inr (1, [.int 0, .ref eD, .int 0])), (u_20, .inl (u_21, 1, .inr (.inr (.inr (.inr (va_up (fun _ => none) (0 : Int32).toNatClampNeg (some t0))))))), (mt, .inr (1, [.int mo, .ref ma, .int 3])), (ma, .inl (kO, 10, .inr (.inr (.inr (.inr (zfT t0 t1 t2)))))), (t1, .inr (18, [.int (-2), .ref i1])), (i1, .inl (kT, 0, .inr (.inr (.inr (.inr (fun _ => none)))))), (t0, .inr (18, [.int (-1), .ref i0])), (i0, .inl (kT, 0, .inr (.inr (.inr (.inr (fun _ => none))))))]) (va_runV (As := [.int 0, .int 2]) (rest := []) ⟨hx, hb, hml, hown, hts⟩ (c_M_refuse_no l eD eI ad dC dI H.size mm ((.ref ms)) ((.ref mt)) ((.ref mh)) ((.ref me)) 2) (cwV 2 hts g_c_M_would_10 rfl rfl rfl (by decide +kernel) ⟨Nat.le_of_ble_eq_true rfl, Nat.le_of_ble_eq_true rfl⟩) (z_preV (wc := [(mm, .inr (21, [.int 0, .ref ms, .ref mt, .ref mh, .ref me]))]) hP hD hK hS hA hE [2] [] rfl (by decide) rfl (ci := 21) (q0 := 0) rfl rfl) rfl rfl hl.1 rfl (lv_room (Nat.le_of_ble_eq_true rfl)) dX19_wouldChoose_147 ⟨Nat.le_of_ble_eq_true rfl, Nat.le_of_ble_eq_true rfl⟩) hP hD hK hS hA [2] [0, 1, 3, 4, 5, 6, 7, 8] rfl rfl (by decide) (by decide) (fun r_33 u H locs hw_34 hP hD hK hS => ?_)
  obtain ⟨⟩ := u
  have hP : va_P (dC, dI) vwCl [(mh, .inr (1, [.int 0, .ref eD, .int 0])), (u_20, .inl (u_21, 1, .inr (.inr (.inr (.inr (va_up (fun _ => none) (0 : Int32).toNatClampNeg (some t0))))))), (mt, .inr (1, [.int mo, .ref ma, .int 3])), (ma, .inl (kO, 10, .inr (.inr (.inr (.inr (zfT t0 t1 t2)))))), (t1, .inr (18, [.int (-2), .ref i1])), (i1, .inl (kT, 0, .inr (.inr (.inr (.inr (fun _ => none)))))), (t0, .inr (18, [.int (-1), .ref i0])), (i0, .inl (kT, 0, .inr (.inr (.inr (.inr (fun _ => none)))))), (mm, .inr (21, [.int 0, .ref ms, .ref mt, .ref mh, .ref me]))] H := hP
  have hD : va_D A [(mh, .inr (1, [.int 0, .ref eD, .int 0])), (u_20, .inl (u_21, 1, .inr (.inr (.inr (.inr (va_up (fun _ => none) (0 : Int32).toNatClampNeg (some t0))))))), (mt, .inr (1, [.int mo, .ref ma, .int 3])), (ma, .inl (kO, 10, .inr (.inr (.inr (.inr (zfT t0 t1 t2)))))), (t1, .inr (18, [.int (-2), .ref i1])), (i1, .inl (kT, 0, .inr (.inr (.inr (.inr (fun _ => none)))))), (t0, .inr (18, [.int (-1), .ref i0])), (i0, .inl (kT, 0, .inr (.inr (.inr (.inr (fun _ => none)))))), (mm, .inr (21, [.int 0, .ref ms, .ref mt, .ref mh, .ref me]))] := hD
  have hK : va_K (dC, dI) vwCl [(kO, .object "java/lang/Object"), (kT, .object "HornbookModel$Tree"), (kO, .object "java/lang/Object"), (u_21, .object "HornbookModel$Tree")] s := by simpa using hK
  have hw_34 : r_33 = 0 := hw_34
  have hw_34 := hw_34.symm
  subst hw_34
  refine lv_if_eq (tgt := 155) hx hb dX19_wouldChoose_150 (by decide) (fun c_35 => ?_) (fun c_35 => ?_)
  rotate_left
  · exact absurd (by decide) c_35
  refine va_new (ci := 20) (fs := [.null, .int 0, .int 0, .int 0, .null, .int 0, .int 0]) (C := RX18) (T := TX18) (N := 7) hx hb hts in_RX18 tyX18 tyX18_ok hown (hts (.classLink RX19 184 RX18) (by decide +kernel)) (hts (.instantiable RX18 7) (by decide +kernel)) (hts (.initialized RX18) (by decide +kernel)) hK hP hD hS hA rfl (fun j hj => by rcases (show j = 0 ∨ j = 1 ∨ j = 2 ∨ j = 3 ∨ j = 4 ∨ j = 5 ∨ j = 6 by omega) with rfl | rfl | rfl | rfl | rfl | rfl | rfl <;> rfl) (Nat.le_of_ble_eq_true rfl) (Nat.le_of_ble_eq_true rfl) dX19_wouldChoose_155 (fun q_36 H hP hD hS => ?_)
  have hP : va_P (dC, dI) vwCl [(mh, .inr (1, [.int 0, .ref eD, .int 0])), (u_20, .inl (u_21, 1, .inr (.inr (.inr (.inr (va_up (fun _ => none) (0 : Int32).toNatClampNeg (some t0))))))), (mt, .inr (1, [.int mo, .ref ma, .int 3])), (ma, .inl (kO, 10, .inr (.inr (.inr (.inr (zfT t0 t1 t2)))))), (t1, .inr (18, [.int (-2), .ref i1])), (i1, .inl (kT, 0, .inr (.inr (.inr (.inr (fun _ => none)))))), (t0, .inr (18, [.int (-1), .ref i0])), (i0, .inl (kT, 0, .inr (.inr (.inr (.inr (fun _ => none)))))), (mm, .inr (21, [.int 0, .ref ms, .ref mt, .ref mh, .ref me])), (q_36, .inr (20, [.null, .int 0, .int 0, .int 0, .null, .int 0, .int 0]))] H := hP
  have hD : va_D A [(mh, .inr (1, [.int 0, .ref eD, .int 0])), (u_20, .inl (u_21, 1, .inr (.inr (.inr (.inr (va_up (fun _ => none) (0 : Int32).toNatClampNeg (some t0))))))), (mt, .inr (1, [.int mo, .ref ma, .int 3])), (ma, .inl (kO, 10, .inr (.inr (.inr (.inr (zfT t0 t1 t2)))))), (t1, .inr (18, [.int (-2), .ref i1])), (i1, .inl (kT, 0, .inr (.inr (.inr (.inr (fun _ => none)))))), (t0, .inr (18, [.int (-1), .ref i0])), (i0, .inl (kT, 0, .inr (.inr (.inr (.inr (fun _ => none)))))), (mm, .inr (21, [.int 0, .ref ms, .ref mt, .ref mh, .ref me])), (q_36, .inr (20, [.null, .int 0, .int 0, .int 0, .null, .int 0, .int 0]))] := hD
  refine lv_dup hx hb dX19_wouldChoose_158 rfl ?_
  refine z_v (wr := [(mh, .inr (1, [.int 0, .ref eD, .int 0])), (u_20, .inl (u_21, 1, .inr (.inr (.inr (.inr (va_up (fun _ => none) (0 : Int32).toNatClampNeg (some t0))))))), (mt, .inr (1, [.int mo, .ref ma, .int 3])), (ma, .inl (kO, 10, .inr (.inr (.inr (.inr (zfT t0 t1 t2)))))), (t1, .inr (18, [.int (-2), .ref i1])), (i1, .inl (kT, 0, .inr (.inr (.inr (.inr (fun _ => none)))))), (t0, .inr (18, [.int (-1), .ref i0])), (i0, .inl (kT, 0, .inr (.inr (.inr (.inr (fun _ => none)))))), (mm, .inr (21, [.int 0, .ref ms, .ref mt, .ref mh, .ref me]))]) (va_runIN (As := []) (rest := [.ref q_36]) ⟨hx, hb, hml, hown, hts⟩ (c_W_init l eD eI ad dC dI H.size q_36) (⟨va_cnB 0 hts g_c_M_would_14 rfl rfl rfl (hE.2.2.1 (.methodLinkNest RX19 226 yX18_init "HornbookModel") (by decide +kernel)) (hts (.initialized RX18) (by decide +kernel)) (by decide +kernel) ⟨Nat.le_of_ble_eq_true rfl, Nat.le_of_ble_eq_true rfl⟩, rfl, (hts (.instanceMethod yX18_init) (by decide +kernel))⟩) (z_preS (wc := [(q_36, .inr (20, [.null, .int 0, .int 0, .int 0, .null, .int 0, .int 0]))]) hP hD hK hS hA hE [9] [] rfl (by decide) rfl) rfl rfl hl.1 rfl (lv_room (Nat.le_of_ble_eq_true rfl)) dX19_wouldChoose_159 ⟨Nat.le_of_ble_eq_true rfl, Nat.le_of_ble_eq_true rfl⟩) hP hD hK hS hA [9] [0, 1, 2, 3, 4, 5, 6, 7, 8] rfl rfl (by decide) (by decide) (fun u H locs hw_38 hP hD hK hS => ?_)
  obtain ⟨⟩ := u
  have hP : va_P (dC, dI) vwCl [(mh, .inr (1, [.int 0, .ref eD, .int 0])), (u_20, .inl (u_21, 1, .inr (.inr (.inr (.inr (va_up (fun _ => none) (0 : Int32).toNatClampNeg (some t0))))))), (mt, .inr (1, [.int mo, .ref ma, .int 3])), (ma, .inl (kO, 10, .inr (.inr (.inr (.inr (zfT t0 t1 t2)))))), (t1, .inr (18, [.int (-2), .ref i1])), (i1, .inl (kT, 0, .inr (.inr (.inr (.inr (fun _ => none)))))), (t0, .inr (18, [.int (-1), .ref i0])), (i0, .inl (kT, 0, .inr (.inr (.inr (.inr (fun _ => none)))))), (mm, .inr (21, [.int 0, .ref ms, .ref mt, .ref mh, .ref me])), (q_36, .inr (20, [.null, .int 0, .int 0, .int (-1), .null, .int 0, .int 0]))] H := hP
  have hD : va_D A [(mh, .inr (1, [.int 0, .ref eD, .int 0])), (u_20, .inl (u_21, 1, .inr (.inr (.inr (.inr (va_up (fun _ => none) (0 : Int32).toNatClampNeg (some t0))))))), (mt, .inr (1, [.int mo, .ref ma, .int 3])), (ma, .inl (kO, 10, .inr (.inr (.inr (.inr (zfT t0 t1 t2)))))), (t1, .inr (18, [.int (-2), .ref i1])), (i1, .inl (kT, 0, .inr (.inr (.inr (.inr (fun _ => none)))))), (t0, .inr (18, [.int (-1), .ref i0])), (i0, .inl (kT, 0, .inr (.inr (.inr (.inr (fun _ => none)))))), (mm, .inr (21, [.int 0, .ref ms, .ref mt, .ref mh, .ref me])), (q_36, .inr (20, [.null, .int 0, .int 0, .int (-1), .null, .int 0, .int 0]))] := hD
  have hK : va_K (dC, dI) vwCl [(kO, .object "java/lang/Object"), (kT, .object "HornbookModel$Tree"), (kO, .object "java/lang/Object"), (u_21, .object "HornbookModel$Tree")] s := by simpa using hK
  refine lv_astore (lv' := [(7, .ref q_36), (9, .int 1), (6, .int 1), (10, .ref t0), (8, .int 1), (5, .ref u_20), (0, .ref mm), (1, .int 1), (2, .int x2), (3, .int 0), (4, .int (-1))]) hx hb dX19_wouldChoose_162 hl (by decide) rfl (fun ls hl => ?_)
  refine lv_aload_n hx hb dX19_wouldChoose_164 rfl (lv_at hl 6 rfl) ?_
  refine z_q (wr := [(mh, .inr (1, [.int 0, .ref eD, .int 0])), (u_20, .inl (u_21, 1, .inr (.inr (.inr (.inr (va_up (fun _ => none) (0 : Int32).toNatClampNeg (some t0))))))), (mt, .inr (1, [.int mo, .ref ma, .int 3])), (ma, .inl (kO, 10, .inr (.inr (.inr (.inr (zfT t0 t1 t2)))))), (t1, .inr (18, [.int (-2), .ref i1])), (i1, .inl (kT, 0, .inr (.inr (.inr (.inr (fun _ => none)))))), (t0, .inr (18, [.int (-1), .ref i0])), (i0, .inl (kT, 0, .inr (.inr (.inr (.inr (fun _ => none)))))), (q_36, .inr (20, [.null, .int 0, .int 0, .int (-1), .null, .int 0, .int 0]))]) (va_runV (As := []) (rest := []) ⟨hx, hb, hml, hown, hts⟩ (c_M_view l eD eI ad dC dI H.size mm ms mt mh me 0) (cwV 0 hts g_c_M_would_15 rfl rfl rfl (by decide +kernel) ⟨Nat.le_of_ble_eq_true rfl, Nat.le_of_ble_eq_true rfl⟩) (z_preV (wc := [(mm, .inr (21, [.int 0, .ref ms, .ref mt, .ref mh, .ref me]))]) hP hD hK hS hA hE [8] [] rfl (by decide) rfl (ci := 21) (q0 := 0) rfl rfl) rfl rfl hl.1 rfl (lv_room (Nat.le_of_ble_eq_true rfl)) dX19_wouldChoose_165 ⟨Nat.le_of_ble_eq_true rfl, Nat.le_of_ble_eq_true rfl⟩) hP hD hK hS hA [8] [0, 1, 2, 3, 4, 5, 6, 7, 9] rfl rfl (by decide) (by decide) (fun r_40 u H locs hw_41 hP hD hK hS => ?_)
  obtain ⟨u_39, rfl⟩ : ∃ z, z = u := ⟨_, rfl⟩
  have hP : va_P (dC, dI) vwCl [(mh, .inr (1, [.int 0, .ref eD, .int 0])), (u_20, .inl (u_21, 1, .inr (.inr (.inr (.inr (va_up (fun _ => none) (0 : Int32).toNatClampNeg (some t0))))))), (mt, .inr (1, [.int mo, .ref ma, .int 3])), (ma, .inl (kO, 10, .inr (.inr (.inr (.inr (zfT t0 t1 t2)))))), (t1, .inr (18, [.int (-2), .ref i1])), (i1, .inl (kT, 0, .inr (.inr (.inr (.inr (fun _ => none)))))), (t0, .inr (18, [.int (-1), .ref i0])), (i0, .inl (kT, 0, .inr (.inr (.inr (.inr (fun _ => none)))))), (q_36, .inr (20, [.null, .int 0, .int 0, .int (-1), .null, .int 0, .int 0])), (mm, .inr (21, [.int 0, .ref ms, .ref mt, .ref mh, .ref me])), (u_39, .inr (19, [.int (-1), .int (-1), .int (-1), .int (-1), .ref mm]))] H := hP
  have hD : va_D A [(mh, .inr (1, [.int 0, .ref eD, .int 0])), (u_20, .inl (u_21, 1, .inr (.inr (.inr (.inr (va_up (fun _ => none) (0 : Int32).toNatClampNeg (some t0))))))), (mt, .inr (1, [.int mo, .ref ma, .int 3])), (ma, .inl (kO, 10, .inr (.inr (.inr (.inr (zfT t0 t1 t2)))))), (t1, .inr (18, [.int (-2), .ref i1])), (i1, .inl (kT, 0, .inr (.inr (.inr (.inr (fun _ => none)))))), (t0, .inr (18, [.int (-1), .ref i0])), (i0, .inl (kT, 0, .inr (.inr (.inr (.inr (fun _ => none)))))), (q_36, .inr (20, [.null, .int 0, .int 0, .int (-1), .null, .int 0, .int 0])), (mm, .inr (21, [.int 0, .ref ms, .ref mt, .ref mh, .ref me])), (u_39, .inr (19, [.int (-1), .int (-1), .int (-1), .int (-1), .ref mm]))] := hD
  have hK : va_K (dC, dI) vwCl [(kO, .object "java/lang/Object"), (kT, .object "HornbookModel$Tree"), (kO, .object "java/lang/Object"), (u_21, .object "HornbookModel$Tree")] s := by simpa using hK
  have hw_41 : r_40 = some u_39 := hw_41
  have hw_41 := hw_41.symm
  subst hw_41
  refine W.eq (g2 := F0 m 168 ls (.ref u_39 :: [])) rfl ?_
  refine lv_aload_n hx hb dX19_wouldChoose_168 rfl (lv_at hl 6 rfl) ?_
  refine lv_iload_n hx hb dX19_wouldChoose_169 rfl (lv_at hl 7 rfl) ?_
  refine z_q (wr := [(mh, .inr (1, [.int 0, .ref eD, .int 0])), (u_20, .inl (u_21, 1, .inr (.inr (.inr (.inr (va_up (fun _ => none) (0 : Int32).toNatClampNeg (some t0))))))), (i1, .inl (kT, 0, .inr (.inr (.inr (.inr (fun _ => none)))))), (t0, .inr (18, [.int (-1), .ref i0])), (i0, .inl (kT, 0, .inr (.inr (.inr (.inr (fun _ => none)))))), (q_36, .inr (20, [.null, .int 0, .int 0, .int (-1), .null, .int 0, .int 0])), (u_39, .inr (19, [.int (-1), .int (-1), .int (-1), .int (-1), .ref mm]))]) (va_runV (As := [.int 1]) (rest := [.ref u_39]) ⟨hx, hb, hml, hown, hts⟩ (c_M_type_1 l eD eI ad dC dI H.size mm ms mt mh me 0 mo ma kO t0 t1 t2 ((.ref i1))) (cwV 1 hts g_c_M_would_17 rfl rfl rfl (by decide +kernel) ⟨Nat.le_of_ble_eq_true rfl, Nat.le_of_ble_eq_true rfl⟩) (z_preV (wc := [(mm, .inr (21, [.int 0, .ref ms, .ref mt, .ref mh, .ref me])), (mt, .inr (1, [.int mo, .ref ma, .int 3])), (ma, .inl (kO, 10, .inr (.inr (.inr (.inr (zfT t0 t1 t2)))))), (t1, .inr (18, [.int (-2), .ref i1]))]) hP hD hK hS hA hE [9, 2, 3, 4] [0] rfl (by decide) rfl (ci := 21) (q0 := 0) rfl rfl) rfl rfl hl.1 rfl (lv_room (Nat.le_of_ble_eq_true rfl)) dX19_wouldChoose_170 ⟨Nat.le_of_ble_eq_true rfl, Nat.le_of_ble_eq_true rfl⟩) hP hD hK hS hA [9, 2, 3, 4] [0, 1, 5, 6, 7, 8, 10] rfl rfl (by decide) (by decide) (fun r_42 u H locs hw_43 hP hD hK hS => ?_)
  obtain ⟨⟩ := u
  have hP : va_P (dC, dI) vwCl [(mh, .inr (1, [.int 0, .ref eD, .int 0])), (u_20, .inl (u_21, 1, .inr (.inr (.inr (.inr (va_up (fun _ => none) (0 : Int32).toNatClampNeg (some t0))))))), (i1, .inl (kT, 0, .inr (.inr (.inr (.inr (fun _ => none)))))), (t0, .inr (18, [.int (-1), .ref i0])), (i0, .inl (kT, 0, .inr (.inr (.inr (.inr (fun _ => none)))))), (q_36, .inr (20, [.null, .int 0, .int 0, .int (-1), .null, .int 0, .int 0])), (u_39, .inr (19, [.int (-1), .int (-1), .int (-1), .int (-1), .ref mm])), (mm, .inr (21, [.int 0, .ref ms, .ref mt, .ref mh, .ref me])), (mt, .inr (1, [.int mo, .ref ma, .int 3])), (ma, .inl (kO, 10, .inr (.inr (.inr (.inr (zfT t0 t1 t2)))))), (t1, .inr (18, [.int (-2), .ref i1]))] H := hP
  have hD : va_D A [(mh, .inr (1, [.int 0, .ref eD, .int 0])), (u_20, .inl (u_21, 1, .inr (.inr (.inr (.inr (va_up (fun _ => none) (0 : Int32).toNatClampNeg (some t0))))))), (i1, .inl (kT, 0, .inr (.inr (.inr (.inr (fun _ => none)))))), (t0, .inr (18, [.int (-1), .ref i0])), (i0, .inl (kT, 0, .inr (.inr (.inr (.inr (fun _ => none)))))), (q_36, .inr (20, [.null, .int 0, .int 0, .int (-1), .null, .int 0, .int 0])), (u_39, .inr (19, [.int (-1), .int (-1), .int (-1), .int (-1), .ref mm])), (mm, .inr (21, [.int 0, .ref ms, .ref mt, .ref mh, .ref me])), (mt, .inr (1, [.int mo, .ref ma, .int 3])), (ma, .inl (kO, 10, .inr (.inr (.inr (.inr (zfT t0 t1 t2)))))), (t1, .inr (18, [.int (-2), .ref i1]))] := hD
  have hK : va_K (dC, dI) vwCl [(kO, .object "java/lang/Object"), (kT, .object "HornbookModel$Tree"), (kO, .object "java/lang/Object"), (u_21, .object "HornbookModel$Tree")] s := by simpa using hK
  have hw_43 : r_42 = some t1 := hw_43
  have hw_43 := hw_43.symm
  subst hw_43
  refine W.eq (g2 := F0 m 173 ls (.ref t1 :: .ref u_39 :: [])) rfl ?_
  refine lv_iload_n hx hb dX19_wouldChoose_173 rfl (lv_at hl 8 rfl) ?_
  refine lv_aload hx hb dX19_wouldChoose_174 (lv_at hl 5 rfl) ?_
  refine lv_aload hx hb dX19_wouldChoose_176 (lv_at hl 0 rfl) ?_
  refine z_v (wr := [(u_20, .inl (u_21, 1, .inr (.inr (.inr (.inr (va_up (fun _ => none) (0 : Int32).toNatClampNeg (some t0))))))), (i1, .inl (kT, 0, .inr (.inr (.inr (.inr (fun _ => none)))))), (t0, .inr (18, [.int (-1), .ref i0])), (i0, .inl (kT, 0, .inr (.inr (.inr (.inr (fun _ => none)))))), (mt, .inr (1, [.int mo, .ref ma, .int 3])), (ma, .inl (kO, 10, .inr (.inr (.inr (.inr (zfT t0 t1 t2))))))]) (va_runV (As := [.ref t1, .int x2, .ref u_20, .ref q_36]) (rest := []) ⟨hx, hb, hml, hown, hts⟩ (c_V_call l eD eI ad dC dI H.size u_39 mm ms mt mh me 0 t1 (-2) ((.ref i1)) x2 u_20 q_36 (by decide)) (cwV 4 hts g_c_M_would_16 rfl rfl rfl (by decide +kernel) ⟨Nat.le_of_ble_eq_true rfl, Nat.le_of_ble_eq_true rfl⟩) (z_preV (wc := [(u_39, .inr (19, [.int (-1), .int (-1), .int (-1), .int (-1), .ref mm])), (mm, .inr (21, [.int 0, .ref ms, .ref mt, .ref mh, .ref me])), (mh, .inr (1, [.int 0, .ref eD, .int 0])), (t1, .inr (18, [.int (-2), .ref i1])), (q_36, .inr (20, [.null, .int 0, .int 0, .int (-1), .null, .int 0, .int 0]))]) hP hD hK hS hA hE [6, 7, 0, 10, 5] [] rfl (by decide) rfl (ci := 19) (q0 := 0) rfl rfl) rfl rfl hl.1 rfl (lv_room (Nat.le_of_ble_eq_true rfl)) dX19_wouldChoose_178 ⟨Nat.le_of_ble_eq_true rfl, Nat.le_of_ble_eq_true rfl⟩) hP hD hK hS hA [6, 7, 0, 10, 5] [1, 2, 3, 4, 8, 9] rfl rfl (by decide) (by decide) (fun u H locs hw_46 hP hD hK hS => ?_)
  obtain ⟨u_44, rfl⟩ : ∃ z, z = u := ⟨_, rfl⟩
  have hP : va_P (dC, dI) vwCl [(u_20, .inl (u_21, 1, .inr (.inr (.inr (.inr (va_up (fun _ => none) (0 : Int32).toNatClampNeg (some t0))))))), (i1, .inl (kT, 0, .inr (.inr (.inr (.inr (fun _ => none)))))), (t0, .inr (18, [.int (-1), .ref i0])), (i0, .inl (kT, 0, .inr (.inr (.inr (.inr (fun _ => none)))))), (mt, .inr (1, [.int mo, .ref ma, .int 3])), (ma, .inl (kO, 10, .inr (.inr (.inr (.inr (zfT t0 t1 t2)))))), (mm, .inr (21, [.int 0, .ref ms, .ref mt, .ref mh, .ref me])), (q_36, .inr (20, [.ref u_44, .int 0, .int 0, .int (-1), .null, .int 1, .int 0]))] H := hP
  have hD : va_D A [(u_20, .inl (u_21, 1, .inr (.inr (.inr (.inr (va_up (fun _ => none) (0 : Int32).toNatClampNeg (some t0))))))), (i1, .inl (kT, 0, .inr (.inr (.inr (.inr (fun _ => none)))))), (t0, .inr (18, [.int (-1), .ref i0])), (i0, .inl (kT, 0, .inr (.inr (.inr (.inr (fun _ => none)))))), (mt, .inr (1, [.int mo, .ref ma, .int 3])), (ma, .inl (kO, 10, .inr (.inr (.inr (.inr (zfT t0 t1 t2)))))), (mm, .inr (21, [.int 0, .ref ms, .ref mt, .ref mh, .ref me])), (q_36, .inr (20, [.ref u_44, .int 0, .int 0, .int (-1), .null, .int 1, .int 0]))] := hD
  have hK : va_K (dC, dI) vwCl [(kO, .object "java/lang/Object"), (kT, .object "HornbookModel$Tree"), (kO, .object "java/lang/Object"), (u_21, .object "HornbookModel$Tree")] s := by simpa using hK
  refine lv_aload hx hb dX19_wouldChoose_181 (lv_at hl 0 rfl) ?_
  refine va_get (D := (dC, dI)) (ci := 20) (v := .int 1) (C := RX18) (T := TX18) (N := 7) hx hb hts in_RX18 hown hK hP 7 rfl rfl 5 (by decide) (hts (.fieldLink RX19 231 "HornbookModel$Word" "fault" "I") (by decide +kernel)) (fun _ h9 => h9) rfl dX19_wouldChoose_183 ?_
  refine lv_if_le (tgt := 198) hx hb dX19_wouldChoose_186 (by decide) (fun c_47 => ?_) (fun c_47 => ?_)
  · exact absurd c_47 (by decide)
  refine lv_aload hx hb dX19_wouldChoose_189 (lv_at hl 0 rfl) ?_
  refine va_get (D := (dC, dI)) (ci := 20) (v := .int 1) (C := RX18) (T := TX18) (N := 7) hx hb hts in_RX18 hown hK hP 7 rfl rfl 5 (by decide) (hts (.fieldLink RX19 231 "HornbookModel$Word" "fault" "I") (by decide +kernel)) (fun _ h9 => h9) rfl dX19_wouldChoose_191 ?_
  refine lv_ineg hx hb dX19_wouldChoose_194 ?_
  refine z_top (v' := .int (-1)) (congrArg Value.int (by decide)) ?_
  refine lv_goto (tgt := 203) hx hb dX19_wouldChoose_195 (by decide) ?_
  have hP9 := hP.sub (ws' := [(mm, .inr (21, [.int 0, .ref ms, .ref mt, .ref mh, .ref me]))]) [6] rfl
  have hD9 := hD.sub (ws' := [(mm, .inr (21, [.int 0, .ref ms, .ref mt, .ref mh, .ref me]))]) [6] (by decide) rfl
  have hK9 := hK.sub (tys' := []) [] rfl
  refine W.widen (k := 7) (n := 22) (Nat.le_of_ble_eq_true rfl) (Nat.le_of_ble_eq_true rfl) ?_
  exact W.iret (v := (-1)) hx hb hr (fun t ht hW => ⟨⟨(-1), (0, (-1)), rfl, ⟨rfl, by first | decide | simp [hx20, hx21], by first | exact fun h => absurd h (by decide) | exact fun _ => rfl | rfl | decide | simp⟩, ⟨by rw [ht]; exact hP9, va_K.moved hW.alike hK9, hD9⟩⟩, hS.F ht⟩) hS.2.2 dX19_wouldChoose_203

set_option maxHeartbeats 4000000 in
set_option maxRecDepth 100000 in
theorem c_M_would_Fkn11 (l : Launch) (eD eI : Nat) (ad : Nat → Nat) (dC : Nat → ClassId) (dI : Nat → Nat → Nat) (sz : Nat) (mm : Nat) (ms : Nat) (mt : Nat) (mh : Nat) (me : Nat) (mo : Int32) (ma : Nat) (kO : ClassId) (kT : ClassId) (t0 : Nat) (t1 : Nat) (t2 : Nat) (i0 : Nat) (i1 : Nat) (i2 : Nat) (th : Int32) (x2 : Int32) (hx20 : ¬ x2 < 0) (hx21 : ¬ 9 < x2) : Met l yX19_wouldChoose w_c_M_would ({ frames := 6, cells := 7, slots := 22, locals := 123 }) (va_Pc [.ref mm, .int 1, .int x2, .int 1, .int (-1)] (zPre eD eI ad (dC, dI) [(mm, .inr (21, [.int th, .ref ms, .ref mt, .ref mh, .ref me])), (ms, .inr (1, [.int 0, .ref eD, .int 0])), (mt, .inr (1, [.int mo, .ref ma, .int 3])), (mh, .inr (1, [.int 0, .ref eD, .int 0])), (me, .inr (1, [.int 0, .ref eD, .int 0])), (ma, .inl (kO, 10, .inr (.inr (.inr (.inr (zfT t0 t1 t2)))))), (t0, .inr (18, [.int (-1), .ref i0])), (t1, .inr (18, [.int (-2), .ref i1])), (t2, .inr (18, [.int (-3), .ref i2])), (i0, .inl (kT, 0, .inr (.inr (.inr (.inr (fun _ => none)))))), (i1, .inl (kT, 0, .inr (.inr (.inr (.inr (fun _ => none)))))), (i2, .inl (kT, 0, .inr (.inr (.inr (.inr (fun _ => none))))))] [(kO, .object "java/lang/Object"), (kT, .object "HornbookModel$Tree")] sz)) (va_Qi (fun (r : Int32) (u : Int32 × Int32) => match u with | (th2, v2) => r = v2 ∧ th2 = (if (1 : Int32) < 0 ∨ 2 < (1 : Int32) then 1 else if ¬ (1 : Int32) = (-1) ∧ ((1 : Int32) < 0 ∨ 2 < (1 : Int32)) then 1 else if ¬ (-1 : Int32) = (-1) ∧ ((-1 : Int32) < 0 ∨ 2 < (-1 : Int32)) then 1 else if x2 < 0 ∨ 9 < x2 then 2 else if (1 : Int32) = (-1) ∧ ¬ (-1 : Int32) = (-1) then 2 else if (1 : Int32) = 2 ∨ (1 : Int32) = 2 ∨ (-1 : Int32) = 2 then 2 else 0) ∧ (th2 = 0 → v2 = (-1))) (fun (u : Int32 × Int32) => match u with | (th2, v2) => zEnd (dC, dI) (va_A [(mm, .inr (21, [.int th, .ref ms, .ref mt, .ref mh, .ref me])), (ms, .inr (1, [.int 0, .ref eD, .int 0])), (mt, .inr (1, [.int mo, .ref ma, .int 3])), (mh, .inr (1, [.int 0, .ref eD, .int 0])), (me, .inr (1, [.int 0, .ref eD, .int 0])), (ma, .inl (kO, 10, .inr (.inr (.inr (.inr (zfT t0 t1 t2)))))), (t0, .inr (18, [.int (-1), .ref i0])), (t1, .inr (18, [.int (-2), .ref i1])), (t2, .inr (18, [.int (-3), .ref i2])), (i0, .inl (kT, 0, .inr (.inr (.inr (.inr (fun _ => none)))))), (i1, .inl (kT, 0, .inr (.inr (.inr (.inr (fun _ => none)))))), (i2, .inl (kT, 0, .inr (.inr (.inr (.inr (fun _ => none))))))] sz) [(mm, .inr (21, [.int th2, .ref ms, .ref mt, .ref mh, .ref me]))] []) (va_A [(mm, .inr (21, [.int th, .ref ms, .ref mt, .ref mh, .ref me])), (ms, .inr (1, [.int 0, .ref eD, .int 0])), (mt, .inr (1, [.int mo, .ref ma, .int 3])), (mh, .inr (1, [.int 0, .ref eD, .int 0])), (me, .inr (1, [.int 0, .ref eD, .int 0])), (ma, .inl (kO, 10, .inr (.inr (.inr (.inr (zfT t0 t1 t2)))))), (t0, .inr (18, [.int (-1), .ref i0])), (t1, .inr (18, [.int (-2), .ref i1])), (t2, .inr (18, [.int (-3), .ref i2])), (i0, .inl (kT, 0, .inr (.inr (.inr (.inr (fun _ => none)))))), (i1, .inl (kT, 0, .inr (.inr (.inr (.inr (fun _ => none)))))), (i2, .inl (kT, 0, .inr (.inr (.inr (.inr (fun _ => none))))))] sz)) 7 22 (va_A [(mm, .inr (21, [.int th, .ref ms, .ref mt, .ref mh, .ref me])), (ms, .inr (1, [.int 0, .ref eD, .int 0])), (mt, .inr (1, [.int mo, .ref ma, .int 3])), (mh, .inr (1, [.int 0, .ref eD, .int 0])), (me, .inr (1, [.int 0, .ref eD, .int 0])), (ma, .inl (kO, 10, .inr (.inr (.inr (.inr (zfT t0 t1 t2)))))), (t0, .inr (18, [.int (-1), .ref i0])), (t1, .inr (18, [.int (-2), .ref i1])), (t2, .inr (18, [.int (-3), .ref i2])), (i0, .inl (kT, 0, .inr (.inr (.inr (.inr (fun _ => none)))))), (i1, .inl (kT, 0, .inr (.inr (.inr (.inr (fun _ => none)))))), (i2, .inl (kT, 0, .inr (.inr (.inr (.inr (fun _ => none))))))] sz) := by
  refine Met.ofW (cc := cX19_wouldChoose) (maxL := 11) (ret := (some .int)) (by decide) rfl ?_
  intro p e s m args below meth c s₁ B hml hv
  obtain ⟨rfl, hsz, hP, hK, hD0, hE⟩ := hv
  have hx := B.exec
  have hb := B.bytes
  have hr := B.returns
  have hts := atoms_spec (ws := w_c_M_would) B.pre
  have hown : s.vm.findClass RX19 = some m.cls := findClass_of_methodNamed B.named
  have hlocks := B.notSynchronized
  subst hsz
  have hD := hD0.self (sz := s.heap.size)
  generalize hAe : va_A [(mm, .inr (21, [.int th, .ref ms, .ref mt, .ref mh, .ref me])), (ms, .inr (1, [.int 0, .ref eD, .int 0])), (mt, .inr (1, [.int mo, .ref ma, .int 3])), (mh, .inr (1, [.int 0, .ref eD, .int 0])), (me, .inr (1, [.int 0, .ref eD, .int 0])), (ma, .inl (kO, 10, .inr (.inr (.inr (.inr (zfT t0 t1 t2)))))), (t0, .inr (18, [.int (-1), .ref i0])), (t1, .inr (18, [.int (-2), .ref i1])), (t2, .inr (18, [.int (-3), .ref i2])), (i0, .inl (kT, 0, .inr (.inr (.inr (.inr (fun _ => none)))))), (i1, .inl (kT, 0, .inr (.inr (.inr (.inr (fun _ => none)))))), (i2, .inl (kT, 0, .inr (.inr (.inr (.inr (fun _ => none))))))] s.heap.size = A at hD hE ⊢
  have hA : ∀ q : Nat, s.heap.size ≤ q → A q := fun q h => by rw [← hAe]; exact Or.inr h
  have hS : va_S A s.heap s.heap [] := va_S.rf
  have hP : va_P (dC, dI) vwCl [(mm, .inr (21, [.int th, .ref ms, .ref mt, .ref mh, .ref me])), (ms, .inr (1, [.int 0, .ref eD, .int 0])), (mt, .inr (1, [.int mo, .ref ma, .int 3])), (mh, .inr (1, [.int 0, .ref eD, .int 0])), (me, .inr (1, [.int 0, .ref eD, .int 0])), (ma, .inl (kO, 10, .inr (.inr (.inr (.inr (zfT t0 t1 t2)))))), (t0, .inr (18, [.int (-1), .ref i0])), (t1, .inr (18, [.int (-2), .ref i1])), (t2, .inr (18, [.int (-3), .ref i2])), (i0, .inl (kT, 0, .inr (.inr (.inr (.inr (fun _ => none)))))), (i1, .inl (kT, 0, .inr (.inr (.inr (.inr (fun _ => none)))))), (i2, .inl (kT, 0, .inr (.inr (.inr (.inr (fun _ => none))))))] s.heap := hP
  have hl := lv_entry ([.ref mm, .int 1, .int x2, .int 1, .int (-1)]) (n := 11) (Nat.le_of_ble_eq_true rfl)
  rw [lg_entry_eq]
  generalize (lg_sl ([.ref mm, .int 1, .int x2, .int 1, .int (-1)]) ++ List.replicate (11 - (lg_sl ([.ref mm, .int 1, .int x2, .int 1, .int (-1)])).length) Slot.unset).toArray = ls at hl ⊢
  have hl : lv_has ls 11 [(0, .ref mm), (1, .int 1), (2, .int x2), (3, .int 1), (4, .int (-1))] := hl
  have in_RX18 : ∀ w ∈ u_ws RX18 TX18 7, w ∈ w_c_M_would := by decide +kernel
  have hP := hP.sub (ws' := [(mm, .inr (21, [.int th, .ref ms, .ref mt, .ref mh, .ref me])), (mt, .inr (1, [.int mo, .ref ma, .int 3])), (mh, .inr (1, [.int 0, .ref eD, .int 0])), (ma, .inl (kO, 10, .inr (.inr (.inr (.inr (zfT t0 t1 t2)))))), (t1, .inr (18, [.int (-2), .ref i1])), (i1, .inl (kT, 0, .inr (.inr (.inr (.inr (fun _ => none))))))]) [0, 2, 3, 5, 7, 10] rfl
  have hD := hD.sub (ws' := [(mm, .inr (21, [.int th, .ref ms, .ref mt, .ref mh, .ref me])), (mt, .inr (1, [.int mo, .ref ma, .int 3])), (mh, .inr (1, [.int 0, .ref eD, .int 0])), (ma, .inl (kO, 10, .inr (.inr (.inr (.inr (zfT t0 t1 t2)))))), (t1, .inr (18, [.int (-2), .ref i1])), (i1, .inl (kT, 0, .inr (.inr (.inr (.inr (fun _ => none))))))]) [0, 2, 3, 5, 7, 10] (by decide) rfl
  refine lv_aload_n hx hb dX19_wouldChoose_0 rfl (lv_at hl 0 rfl) ?_
  refine lv_aload_n hx hb dX19_wouldChoose_1 rfl (lv_at hl 0 rfl) ?_
  refine lv_iload_n hx hb dX19_wouldChoose_2 rfl (lv_at hl 1 rfl) ?_
  refine z_i (wr := [(mh, .inr (1, [.int 0, .ref eD, .int 0])), (ma, .inl (kO, 10, .inr (.inr (.inr (.inr (zfT t0 t1 t2)))))), (t1, .inr (18, [.int (-2), .ref i1])), (i1, .inl (kT, 0, .inr (.inr (.inr (.inr (fun _ => none))))))]) (va_runV (As := [.int 1]) (rest := [.ref mm]) ⟨hx, hb, hml, hown, hts⟩ (c_M_isNoType_ok l eD eI ad dC dI s.heap.size mm ms mt mh me th ((.int mo)) ((.ref ma)) 1 (by decide) (by decide)) (cwV 1 hts g_c_M_would_3 rfl rfl rfl (by decide +kernel) ⟨Nat.le_of_ble_eq_true rfl, Nat.le_of_ble_eq_true rfl⟩) (z_preV (wc := [(mm, .inr (21, [.int th, .ref ms, .ref mt, .ref mh, .ref me])), (mt, .inr (1, [.int mo, .ref ma, .int 3]))]) hP hD hK hS hA hE [0, 1] [] rfl (by decide) rfl (ci := 21) (q0 := 0) rfl rfl) rfl rfl hl.1 rfl (lv_room (Nat.le_of_ble_eq_true rfl)) dX19_wouldChoose_3 ⟨Nat.le_of_ble_eq_true rfl, Nat.le_of_ble_eq_true rfl⟩) hP hD hK hS hA [0, 1] [2, 3, 4, 5] rfl rfl (by decide) (by decide) (fun r_1 u H locs hw_2 hP hD hK hS => ?_)
  obtain ⟨⟩ := u
  have hP : va_P (dC, dI) vwCl [(mh, .inr (1, [.int 0, .ref eD, .int 0])), (ma, .inl (kO, 10, .inr (.inr (.inr (.inr (zfT t0 t1 t2)))))), (t1, .inr (18, [.int (-2), .ref i1])), (i1, .inl (kT, 0, .inr (.inr (.inr (.inr (fun _ => none)))))), (mm, .inr (21, [.int th, .ref ms, .ref mt, .ref mh, .ref me])), (mt, .inr (1, [.int mo, .ref ma, .int 3]))] H := hP
  have hD : va_D A [(mh, .inr (1, [.int 0, .ref eD, .int 0])), (ma, .inl (kO, 10, .inr (.inr (.inr (.inr (zfT t0 t1 t2)))))), (t1, .inr (18, [.int (-2), .ref i1])), (i1, .inl (kT, 0, .inr (.inr (.inr (.inr (fun _ => none)))))), (mm, .inr (21, [.int th, .ref ms, .ref mt, .ref mh, .ref me])), (mt, .inr (1, [.int mo, .ref ma, .int 3]))] := hD
  have hK : va_K (dC, dI) vwCl [(kO, .object "java/lang/Object"), (kT, .object "HornbookModel$Tree")] s := by simpa using hK
  have hw_2 : r_1 = 0 := hw_2
  have hw_2 := hw_2.symm
  subst hw_2
  refine lv_if_ne (tgt := 26) hx hb dX19_wouldChoose_6 (by decide) (fun c_3 => ?_) (fun c_3 => ?_)
  · exact absurd (by decide) c_3
  refine lv_aload_n hx hb dX19_wouldChoose_9 rfl (lv_at hl 0 rfl) ?_
  refine lv_iload_n hx hb dX19_wouldChoose_10 rfl (lv_at hl 3 rfl) ?_
  refine z_i (wr := [(mh, .inr (1, [.int 0, .ref eD, .int 0])), (ma, .inl (kO, 10, .inr (.inr (.inr (.inr (zfT t0 t1 t2)))))), (t1, .inr (18, [.int (-2), .ref i1])), (i1, .inl (kT, 0, .inr (.inr (.inr (.inr (fun _ => none))))))]) (va_runV (As := [.int 1]) (rest := [.ref mm]) ⟨hx, hb, hml, hown, hts⟩ (c_M_isNoTypeN_ok l eD eI ad dC dI H.size mm ms mt mh me th ((.int mo)) ((.ref ma)) 1 (by decide) (by decide) (by decide)) (cwV 1 hts g_c_M_would_23 rfl rfl rfl (by decide +kernel) ⟨Nat.le_of_ble_eq_true rfl, Nat.le_of_ble_eq_true rfl⟩) (z_preV (wc := [(mm, .inr (21, [.int th, .ref ms, .ref mt, .ref mh, .ref me])), (mt, .inr (1, [.int mo, .ref ma, .int 3]))]) hP hD hK hS hA hE [4, 5] [] rfl (by decide) rfl (ci := 21) (q0 := 0) rfl rfl) rfl rfl hl.1 rfl (lv_room (Nat.le_of_ble_eq_true rfl)) dX19_wouldChoose_11 ⟨Nat.le_of_ble_eq_true rfl, Nat.le_of_ble_eq_true rfl⟩) hP hD hK hS hA [4, 5] [0, 1, 2, 3] rfl rfl (by decide) (by decide) (fun r_4 u H locs hw_5 hP hD hK hS => ?_)
  obtain ⟨⟩ := u
  have hP : va_P (dC, dI) vwCl [(mh, .inr (1, [.int 0, .ref eD, .int 0])), (ma, .inl (kO, 10, .inr (.inr (.inr (.inr (zfT t0 t1 t2)))))), (t1, .inr (18, [.int (-2), .ref i1])), (i1, .inl (kT, 0, .inr (.inr (.inr (.inr (fun _ => none)))))), (mm, .inr (21, [.int th, .ref ms, .ref mt, .ref mh, .ref me])), (mt, .inr (1, [.int mo, .ref ma, .int 3]))] H := hP
  have hD : va_D A [(mh, .inr (1, [.int 0, .ref eD, .int 0])), (ma, .inl (kO, 10, .inr (.inr (.inr (.inr (zfT t0 t1 t2)))))), (t1, .inr (18, [.int (-2), .ref i1])), (i1, .inl (kT, 0, .inr (.inr (.inr (.inr (fun _ => none)))))), (mm, .inr (21, [.int th, .ref ms, .ref mt, .ref mh, .ref me])), (mt, .inr (1, [.int mo, .ref ma, .int 3]))] := hD
  have hK : va_K (dC, dI) vwCl [(kO, .object "java/lang/Object"), (kT, .object "HornbookModel$Tree")] s := by simpa using hK
  have hw_5 : r_4 = 0 := hw_5
  have hw_5 := hw_5.symm
  subst hw_5
  refine lv_if_ne (tgt := 26) hx hb dX19_wouldChoose_14 (by decide) (fun c_6 => ?_) (fun c_6 => ?_)
  · exact absurd (by decide) c_6
  refine lv_aload_n hx hb dX19_wouldChoose_17 rfl (lv_at hl 0 rfl) ?_
  refine lv_iload hx hb dX19_wouldChoose_18 (lv_at hl 4 rfl) ?_
  refine z_i (wr := [(mh, .inr (1, [.int 0, .ref eD, .int 0])), (ma, .inl (kO, 10, .inr (.inr (.inr (.inr (zfT t0 t1 t2)))))), (t1, .inr (18, [.int (-2), .ref i1])), (i1, .inl (kT, 0, .inr (.inr (.inr (.inr (fun _ => none))))))]) (va_runV (As := [.int (-1)]) (rest := [.ref mm]) ⟨hx, hb, hml, hown, hts⟩ (c_M_isNoTypeN_none l eD eI ad dC dI H.size mm ms mt mh me th ((.int mo)) ((.ref ma))) (cwV 1 hts g_c_M_would_4 rfl rfl rfl (by decide +kernel) ⟨Nat.le_of_ble_eq_true rfl, Nat.le_of_ble_eq_true rfl⟩) (z_preV (wc := [(mm, .inr (21, [.int th, .ref ms, .ref mt, .ref mh, .ref me])), (mt, .inr (1, [.int mo, .ref ma, .int 3]))]) hP hD hK hS hA hE [4, 5] [] rfl (by decide) rfl (ci := 21) (q0 := 0) rfl rfl) rfl rfl hl.1 rfl (lv_room (Nat.le_of_ble_eq_true rfl)) dX19_wouldChoose_20 ⟨Nat.le_of_ble_eq_true rfl, Nat.le_of_ble_eq_true rfl⟩) hP hD hK hS hA [4, 5] [0, 1, 2, 3] rfl rfl (by decide) (by decide) (fun r_7 u H locs hw_8 hP hD hK hS => ?_)
  obtain ⟨⟩ := u
  have hP : va_P (dC, dI) vwCl [(mh, .inr (1, [.int 0, .ref eD, .int 0])), (ma, .inl (kO, 10, .inr (.inr (.inr (.inr (zfT t0 t1 t2)))))), (t1, .inr (18, [.int (-2), .ref i1])), (i1, .inl (kT, 0, .inr (.inr (.inr (.inr (fun _ => none)))))), (mm, .inr (21, [.int th, .ref ms, .ref mt, .ref mh, .ref me])), (mt, .inr (1, [.int mo, .ref ma, .int 3]))] H := hP
  have hD : va_D A [(mh, .inr (1, [.int 0, .ref eD, .int 0])), (ma, .inl (kO, 10, .inr (.inr (.inr (.inr (zfT t0 t1 t2)))))), (t1, .inr (18, [.int (-2), .ref i1])), (i1, .inl (kT, 0, .inr (.inr (.inr (.inr (fun _ => none)))))), (mm, .inr (21, [.int th, .ref ms, .ref mt, .ref mh, .ref me])), (mt, .inr (1, [.int mo, .ref ma, .int 3]))] := hD
  have hK : va_K (dC, dI) vwCl [(kO, .object "java/lang/Object"), (kT, .object "HornbookModel$Tree")] s := by simpa using hK
  have hw_8 : r_7 = 0 := hw_8
  have hw_8 := hw_8.symm
  subst hw_8
  refine lv_if_eq (tgt := 30) hx hb dX19_wouldChoose_23 (by decide) (fun c_9 => ?_) (fun c_9 => ?_)
  rotate_left
  · exact absurd (by decide) c_9
  refine lv_iconst (v := 0) hx hb dX19_wouldChoose_30 (by decide) ?_
  refine lv_iconst (v := 1) hx hb dX19_wouldChoose_31 (by decide) ?_
  refine z_i (wr := [(mh, .inr (1, [.int 0, .ref eD, .int 0])), (ma, .inl (kO, 10, .inr (.inr (.inr (.inr (zfT t0 t1 t2)))))), (t1, .inr (18, [.int (-2), .ref i1])), (i1, .inl (kT, 0, .inr (.inr (.inr (.inr (fun _ => none)))))), (mt, .inr (1, [.int mo, .ref ma, .int 3]))]) (va_runV (As := [.int 0, .int 1]) (rest := []) ⟨hx, hb, hml, hown, hts⟩ (c_M_start_no l eD eI ad dC dI H.size mm ((.ref ms)) ((.ref mt)) ((.ref mh)) ((.ref me)) 1 th) (cwV 2 hts g_c_M_would_5 rfl rfl rfl (by decide +kernel) ⟨Nat.le_of_ble_eq_true rfl, Nat.le_of_ble_eq_true rfl⟩) (z_preV (wc := [(mm, .inr (21, [.int th, .ref ms, .ref mt, .ref mh, .ref me]))]) hP hD hK hS hA hE [4] [] rfl (by decide) rfl (ci := 21) (q0 := 0) rfl rfl) rfl rfl hl.1 rfl (lv_room (Nat.le_of_ble_eq_true rfl)) dX19_wouldChoose_32 ⟨Nat.le_of_ble_eq_true rfl, Nat.le_of_ble_eq_true rfl⟩) hP hD hK hS hA [4] [0, 1, 2, 3, 5] rfl rfl (by decide) (by decide) (fun r_10 u H locs hw_11 hP hD hK hS => ?_)
  obtain ⟨⟩ := u
  have hP : va_P (dC, dI) vwCl [(mh, .inr (1, [.int 0, .ref eD, .int 0])), (ma, .inl (kO, 10, .inr (.inr (.inr (.inr (zfT t0 t1 t2)))))), (t1, .inr (18, [.int (-2), .ref i1])), (i1, .inl (kT, 0, .inr (.inr (.inr (.inr (fun _ => none)))))), (mt, .inr (1, [.int mo, .ref ma, .int 3])), (mm, .inr (21, [.int 0, .ref ms, .ref mt, .ref mh, .ref me]))] H := hP
  have hD : va_D A [(mh, .inr (1, [.int 0, .ref eD, .int 0])), (ma, .inl (kO, 10, .inr (.inr (.inr (.inr (zfT t0 t1 t2)))))), (t1, .inr (18, [.int (-2), .ref i1])), (i1, .inl (kT, 0, .inr (.inr (.inr (.inr (fun _ => none)))))), (mt, .inr (1, [.int mo, .ref ma, .int 3])), (mm, .inr (21, [.int 0, .ref ms, .ref mt, .ref mh, .ref me]))] := hD
  have hK : va_K (dC, dI) vwCl [(kO, .object "java/lang/Object"), (kT, .object "HornbookModel$Tree")] s := by simpa using hK
  have hw_11 : r_10 = 0 := hw_11
  have hw_11 := hw_11.symm
  subst hw_11
  refine lv_if_ne (tgt := 72) hx hb dX19_wouldChoose_35 (by decide) (fun c_12 => ?_) (fun c_12 => ?_)
  · exact absurd (by decide) c_12
  refine lv_aload_n hx hb dX19_wouldChoose_38 rfl (lv_at hl 0 rfl) ?_
  refine lv_iload_n hx hb dX19_wouldChoose_39 rfl (lv_at hl 2 rfl) ?_
  refine lv_iconst (v := 0) hx hb dX19_wouldChoose_40 (by decide) ?_
  refine lv_bipush (v := 9) hx hb dX19_wouldChoose_41 (by decide) ?_
  refine z_i (wr := [(mh, .inr (1, [.int 0, .ref eD, .int 0])), (ma, .inl (kO, 10, .inr (.inr (.inr (.inr (zfT t0 t1 t2)))))), (t1, .inr (18, [.int (-2), .ref i1])), (i1, .inl (kT, 0, .inr (.inr (.inr (.inr (fun _ => none)))))), (mt, .inr (1, [.int mo, .ref ma, .int 3])), (mm, .inr (21, [.int 0, .ref ms, .ref mt, .ref mh, .ref me]))]) (va_runS (As := [.int x2, .int 0, .int 9]) (rest := [.ref mm]) ⟨hx, hb, hml, hown, hts⟩ (c_M_isIn_ok l eD eI ad dC dI H.size x2 0 9 (hx20) (hx21)) (va_cwS 3 hts g_c_M_would_9 rfl rfl rfl (by decide +kernel) ⟨Nat.le_of_ble_eq_true rfl, Nat.le_of_ble_eq_true rfl⟩) (z_preS (wc := []) hP hD hK hS hA hE [] [] rfl (by decide) rfl) rfl rfl hl.1 rfl (lv_room (Nat.le_of_ble_eq_true rfl)) dX19_wouldChoose_43 ⟨Nat.le_of_ble_eq_true rfl, Nat.le_of_ble_eq_true rfl⟩) hP hD hK hS hA [] [0, 1, 2, 3, 4, 5] rfl rfl (by decide) (by decide) (fun r_13 u H locs hw_14 hP hD hK hS => ?_)
  obtain ⟨⟩ := u
  have hP : va_P (dC, dI) vwCl [(mh, .inr (1, [.int 0, .ref eD, .int 0])), (ma, .inl (kO, 10, .inr (.inr (.inr (.inr (zfT t0 t1 t2)))))), (t1, .inr (18, [.int (-2), .ref i1])), (i1, .inl (kT, 0, .inr (.inr (.inr (.inr (fun _ => none)))))), (mt, .inr (1, [.int mo, .ref ma, .int 3])), (mm, .inr (21, [.int 0, .ref ms, .ref mt, .ref mh, .ref me]))] H := hP
  have hD : va_D A [(mh, .inr (1, [.int 0, .ref eD, .int 0])), (ma, .inl (kO, 10, .inr (.inr (.inr (.inr (zfT t0 t1 t2)))))), (t1, .inr (18, [.int (-2), .ref i1])), (i1, .inl (kT, 0, .inr (.inr (.inr (.inr (fun _ => none)))))), (mt, .inr (1, [.int mo, .ref ma, .int 3])), (mm, .inr (21, [.int 0, .ref ms, .ref mt, .ref mh, .ref me]))] := hD
  have hK : va_K (dC, dI) vwCl [(kO, .object "java/lang/Object"), (kT, .object "HornbookModel$Tree")] s := by simpa using hK
  have hw_14 : r_13 = 1 := hw_14
  have hw_14 := hw_14.symm
  subst hw_14
  refine lv_if_eq (tgt := 60) hx hb dX19_wouldChoose_46 (by decide) (fun c_15 => ?_) (fun c_15 => ?_)
  · exact absurd c_15 (by decide)
  refine lv_iload_n hx hb dX19_wouldChoose_49 rfl (lv_at hl 3 rfl) ?_
  refine lv_iconst (v := (-1)) hx hb dX19_wouldChoose_50 (by decide) ?_
  refine lv_icmp_ne (tgt := 64) hx hb dX19_wouldChoose_51 (by decide) (fun c_16 => ?_) (fun c_16 => ?_)
  rotate_left
  · exact absurd c_16 (by decide)
  refine lv_iconst (v := 0) hx hb dX19_wouldChoose_64 (by decide) ?_
  refine lv_iconst (v := 2) hx hb dX19_wouldChoose_65 (by decide) ?_
  refine z_i (wr := [(mh, .inr (1, [.int 0, .ref eD, .int 0])), (ma, .inl (kO, 10, .inr (.inr (.inr (.inr (zfT t0 t1 t2)))))), (t1, .inr (18, [.int (-2), .ref i1])), (i1, .inl (kT, 0, .inr (.inr (.inr (.inr (fun _ => none)))))), (mt, .inr (1, [.int mo, .ref ma, .int 3]))]) (va_runV (As := [.int 0, .int 2]) (rest := []) ⟨hx, hb, hml, hown, hts⟩ (c_M_refuse_no l eD eI ad dC dI H.size mm ((.ref ms)) ((.ref mt)) ((.ref mh)) ((.ref me)) 2) (cwV 2 hts g_c_M_would_10 rfl rfl rfl (by decide +kernel) ⟨Nat.le_of_ble_eq_true rfl, Nat.le_of_ble_eq_true rfl⟩) (z_preV (wc := [(mm, .inr (21, [.int 0, .ref ms, .ref mt, .ref mh, .ref me]))]) hP hD hK hS hA hE [5] [] rfl (by decide) rfl (ci := 21) (q0 := 0) rfl rfl) rfl rfl hl.1 rfl (lv_room (Nat.le_of_ble_eq_true rfl)) dX19_wouldChoose_66 ⟨Nat.le_of_ble_eq_true rfl, Nat.le_of_ble_eq_true rfl⟩) hP hD hK hS hA [5] [0, 1, 2, 3, 4] rfl rfl (by decide) (by decide) (fun r_17 u H locs hw_18 hP hD hK hS => ?_)
  obtain ⟨⟩ := u
  have hP : va_P (dC, dI) vwCl [(mh, .inr (1, [.int 0, .ref eD, .int 0])), (ma, .inl (kO, 10, .inr (.inr (.inr (.inr (zfT t0 t1 t2)))))), (t1, .inr (18, [.int (-2), .ref i1])), (i1, .inl (kT, 0, .inr (.inr (.inr (.inr (fun _ => none)))))), (mt, .inr (1, [.int mo, .ref ma, .int 3])), (mm, .inr (21, [.int 0, .ref ms, .ref mt, .ref mh, .ref me]))] H := hP
  have hD : va_D A [(mh, .inr (1, [.int 0, .ref eD, .int 0])), (ma, .inl (kO, 10, .inr (.inr (.inr (.inr (zfT t0 t1 t2)))))), (t1, .inr (18, [.int (-2), .ref i1])), (i1, .inl (kT, 0, .inr (.inr (.inr (.inr (fun _ => none)))))), (mt, .inr (1, [.int mo, .ref ma, .int 3])), (mm, .inr (21, [.int 0, .ref ms, .ref mt, .ref mh, .ref me]))] := hD
  have hK : va_K (dC, dI) vwCl [(kO, .object "java/lang/Object"), (kT, .object "HornbookModel$Tree")] s := by simpa using hK
  have hw_18 : r_17 = 0 := hw_18
  have hw_18 := hw_18.symm
  subst hw_18
  refine lv_if_eq (tgt := 74) hx hb dX19_wouldChoose_69 (by decide) (fun c_19 => ?_) (fun c_19 => ?_)
  rotate_left
  · exact absurd (by decide) c_19
  refine lv_aload_n hx hb dX19_wouldChoose_74 rfl (lv_at hl 0 rfl) ?_
  refine lv_iload_n hx hb dX19_wouldChoose_75 rfl (lv_at hl 3 rfl) ?_
  refine lv_iload hx hb dX19_wouldChoose_76 (lv_at hl 4 rfl) ?_
  refine z_q (wr := [(mh, .inr (1, [.int 0, .ref eD, .int 0])), (i1, .inl (kT, 0, .inr (.inr (.inr (.inr (fun _ => none))))))]) (va_runV (As := [.int 1, .int (-1)]) (rest := []) ⟨hx, hb, hml, hown, hts⟩ (c_M_trees_1 l eD eI ad dC dI H.size mm ms mt mh me 0 mo ma kO t0 t1 t2 ((.ref i1))) (cwV 2 hts g_c_M_would_25 rfl rfl rfl (by decide +kernel) ⟨Nat.le_of_ble_eq_true rfl, Nat.le_of_ble_eq_true rfl⟩) (z_preV (wc := [(mm, .inr (21, [.int 0, .ref ms, .ref mt, .ref mh, .ref me])), (mt, .inr (1, [.int mo, .ref ma, .int 3])), (ma, .inl (kO, 10, .inr (.inr (.inr (.inr (zfT t0 t1 t2)))))), (t1, .inr (18, [.int (-2), .ref i1]))]) hP hD hK hS hA hE [5, 4, 1, 2] [0] rfl (by decide) rfl (ci := 21) (q0 := 0) rfl rfl) rfl rfl hl.1 rfl (lv_room (Nat.le_of_ble_eq_true rfl)) dX19_wouldChoose_78 ⟨Nat.le_of_ble_eq_true rfl, Nat.le_of_ble_eq_true rfl⟩) hP hD hK hS hA [5, 4, 1, 2] [0, 3] rfl rfl (by decide) (by decide) (fun r_22 u H locs hw_23 hP hD hK hS => ?_)
  obtain ⟨u_20, u_21⟩ := u
  have hP : va_P (dC, dI) vwCl [(mh, .inr (1, [.int 0, .ref eD, .int 0])), (i1, .inl (kT, 0, .inr (.inr (.inr (.inr (fun _ => none)))))), (mm, .inr (21, [.int 0, .ref ms, .ref mt, .ref mh, .ref me])), (mt, .inr (1, [.int mo, .ref ma, .int 3])), (ma, .inl (kO, 10, .inr (.inr (.inr (.inr (zfT t0 t1 t2)))))), (t1, .inr (18, [.int (-2), .ref i1])), (u_20, .inl (u_21, 1, .inr (.inr (.inr (.inr (va_up (fun _ => none) (0 : Int32).toNatClampNeg (some t1)))))))] H := hP
  have hD : va_D A [(mh, .inr (1, [.int 0, .ref eD, .int 0])), (i1, .inl (kT, 0, .inr (.inr (.inr (.inr (fun _ => none)))))), (mm, .inr (21, [.int 0, .ref ms, .ref mt, .ref mh, .ref me])), (mt, .inr (1, [.int mo, .ref ma, .int 3])), (ma, .inl (kO, 10, .inr (.inr (.inr (.inr (zfT t0 t1 t2)))))), (t1, .inr (18, [.int (-2), .ref i1])), (u_20, .inl (u_21, 1, .inr (.inr (.inr (.inr (va_up (fun _ => none) (0 : Int32).toNatClampNeg (some t1)))))))] := hD
  have hK : va_K (dC, dI) vwCl [(kO, .object "java/lang/Object"), (kT, .object "HornbookModel$Tree"), (kO, .object "java/lang/Object"), (u_21, .object "HornbookModel$Tree")] s := hK
  have hw_23 : r_22 = some u_20 := hw_23
  have hw_23 := hw_23.symm
  subst hw_23
  refine W.eq (g2 := F0 m 81 ls (.ref u_20 :: [])) rfl ?_
  refine lv_astore (lv' := [(5, .ref u_20), (0, .ref mm), (1, .int 1), (2, .int x2), (3, .int 1), (4, .int (-1))]) hx hb dX19_wouldChoose_81 hl (by decide) rfl (fun ls hl => ?_)
  refine lv_aload_n hx hb dX19_wouldChoose_83 rfl (lv_at hl 1 rfl) ?_
  refine lv_iload_n hx hb dX19_wouldChoose_84 rfl (lv_at hl 2 rfl) ?_
  refine z_q (wr := [(mh, .inr (1, [.int 0, .ref eD, .int 0])), (i1, .inl (kT, 0, .inr (.inr (.inr (.inr (fun _ => none)))))), (u_20, .inl (u_21, 1, .inr (.inr (.inr (.inr (va_up (fun _ => none) (0 : Int32).toNatClampNeg (some t1)))))))]) (va_runV (As := [.int 1]) (rest := []) ⟨hx, hb, hml, hown, hts⟩ (c_M_type_1 l eD eI ad dC dI H.size mm ms mt mh me 0 mo ma kO t0 t1 t2 ((.ref i1))) (cwV 1 hts g_c_M_would_17 rfl rfl rfl (by decide +kernel) ⟨Nat.le_of_ble_eq_true rfl, Nat.le_of_ble_eq_true rfl⟩) (z_preV (wc := [(mm, .inr (21, [.int 0, .ref ms, .ref mt, .ref mh, .ref me])), (mt, .inr (1, [.int mo, .ref ma, .int 3])), (ma, .inl (kO, 10, .inr (.inr (.inr (.inr (zfT t0 t1 t2)))))), (t1, .inr (18, [.int (-2), .ref i1]))]) hP hD hK hS hA hE [2, 3, 4, 5] [0] rfl (by decide) rfl (ci := 21) (q0 := 0) rfl rfl) rfl rfl hl.1 rfl (lv_room (Nat.le_of_ble_eq_true rfl)) dX19_wouldChoose_85 ⟨Nat.le_of_ble_eq_true rfl, Nat.le_of_ble_eq_true rfl⟩) hP hD hK hS hA [2, 3, 4, 5] [0, 1, 6] rfl rfl (by decide) (by decide) (fun r_24 u H locs hw_25 hP hD hK hS => ?_)
  obtain ⟨⟩ := u
  have hP : va_P (dC, dI) vwCl [(mh, .inr (1, [.int 0, .ref eD, .int 0])), (i1, .inl (kT, 0, .inr (.inr (.inr (.inr (fun _ => none)))))), (u_20, .inl (u_21, 1, .inr (.inr (.inr (.inr (va_up (fun _ => none) (0 : Int32).toNatClampNeg (some t1))))))), (mm, .inr (21, [.int 0, .ref ms, .ref mt, .ref mh, .ref me])), (mt, .inr (1, [.int mo, .ref ma, .int 3])), (ma, .inl (kO, 10, .inr (.inr (.inr (.inr (zfT t0 t1 t2)))))), (t1, .inr (18, [.int (-2), .ref i1]))] H := hP
  have hD : va_D A [(mh, .inr (1, [.int 0, .ref eD, .int 0])), (i1, .inl (kT, 0, .inr (.inr (.inr (.inr (fun _ => none)))))), (u_20, .inl (u_21, 1, .inr (.inr (.inr (.inr (va_up (fun _ => none) (0 : Int32).toNatClampNeg (some t1))))))), (mm, .inr (21, [.int 0, .ref ms, .ref mt, .ref mh, .ref me])), (mt, .inr (1, [.int mo, .ref ma, .int 3])), (ma, .inl (kO, 10, .inr (.inr (.inr (.inr (zfT t0 t1 t2)))))), (t1, .inr (18, [.int (-2), .ref i1]))] := hD
  have hK : va_K (dC, dI) vwCl [(kO, .object "java/lang/Object"), (kT, .object "HornbookModel$Tree"), (kO, .object "java/lang/Object"), (u_21, .object "HornbookModel$Tree")] s := by simpa using hK
  have hw_25 : r_24 = some t1 := hw_25
  have hw_25 := hw_25.symm
  subst hw_25
  refine W.eq (g2 := F0 m 88 ls (.ref t1 :: [])) rfl ?_
  refine z_i (wr := [(mh, .inr (1, [.int 0, .ref eD, .int 0])), (u_20, .inl (u_21, 1, .inr (.inr (.inr (.inr (va_up (fun _ => none) (0 : Int32).toNatClampNeg (some t1))))))), (mm, .inr (21, [.int 0, .ref ms, .ref mt, .ref mh, .ref me])), (mt, .inr (1, [.int mo, .ref ma, .int 3])), (ma, .inl (kO, 10, .inr (.inr (.inr (.inr (zfT t0 t1 t2))))))]) (va_runV (As := []) (rest := []) ⟨hx, hb, hml, hown, hts⟩ (c_T_isClosed_2 l eD eI ad dC dI H.size t1 i1 kT) (cwV 0 hts g_c_M_would_18 rfl rfl rfl (by decide +kernel) ⟨Nat.le_of_ble_eq_true rfl, Nat.le_of_ble_eq_true rfl⟩) (z_preV (wc := [(t1, .inr (18, [.int (-2), .ref i1])), (i1, .inl (kT, 0, .inr (.inr (.inr (.inr (fun _ => none))))))]) hP hD hK hS hA hE [6, 1] [1] rfl (by decide) rfl (ci := 18) (q0 := 0) rfl rfl) rfl rfl hl.1 rfl (lv_room (Nat.le_of_ble_eq_true rfl)) dX19_wouldChoose_88 ⟨Nat.le_of_ble_eq_true rfl, Nat.le_of_ble_eq_true rfl⟩) hP hD hK hS hA [6, 1] [0, 2, 3, 4, 5] rfl rfl (by decide) (by decide) (fun r_26 u H locs hw_27 hP hD hK hS => ?_)
  obtain ⟨⟩ := u
  have hP : va_P (dC, dI) vwCl [(mh, .inr (1, [.int 0, .ref eD, .int 0])), (u_20, .inl (u_21, 1, .inr (.inr (.inr (.inr (va_up (fun _ => none) (0 : Int32).toNatClampNeg (some t1))))))), (mm, .inr (21, [.int 0, .ref ms, .ref mt, .ref mh, .ref me])), (mt, .inr (1, [.int mo, .ref ma, .int 3])), (ma, .inl (kO, 10, .inr (.inr (.inr (.inr (zfT t0 t1 t2)))))), (t1, .inr (18, [.int (-2), .ref i1])), (i1, .inl (kT, 0, .inr (.inr (.inr (.inr (fun _ => none))))))] H := hP
  have hD : va_D A [(mh, .inr (1, [.int 0, .ref eD, .int 0])), (u_20, .inl (u_21, 1, .inr (.inr (.inr (.inr (va_up (fun _ => none) (0 : Int32).toNatClampNeg (some t1))))))), (mm, .inr (21, [.int 0, .ref ms, .ref mt, .ref mh, .ref me])), (mt, .inr (1, [.int mo, .ref ma, .int 3])), (ma, .inl (kO, 10, .inr (.inr (.inr (.inr (zfT t0 t1 t2)))))), (t1, .inr (18, [.int (-2), .ref i1])), (i1, .inl (kT, 0, .inr (.inr (.inr (.inr (fun _ => none))))))] := hD
  have hK : va_K (dC, dI) vwCl [(kO, .object "java/lang/Object"), (kT, .object "HornbookModel$Tree"), (kO, .object "java/lang/Object"), (u_21, .object "HornbookModel$Tree")] s := by simpa using hK
  have hw_27 : r_26 = 1 := hw_27
  have hw_27 := hw_27.symm
  subst hw_27
  refine lv_istore (lv' := [(6, .int 1), (5, .ref u_20), (0, .ref mm), (1, .int 1), (2, .int x2), (3, .int 1), (4, .int (-1))]) hx hb dX19_wouldChoose_91 hl (by decide) rfl (fun ls hl => ?_)
  refine lv_aload hx hb dX19_wouldChoose_93 (lv_at hl 1 rfl) ?_
  refine lv_astore (lv' := [(7, .ref u_20), (6, .int 1), (5, .ref u_20), (0, .ref mm), (1, .int 1), (2, .int x2), (3, .int 1), (4, .int (-1))]) hx hb dX19_wouldChoose_95 hl (by decide) rfl (fun ls hl => ?_)
  refine lv_aload hx hb dX19_wouldChoose_97 (lv_at hl 0 rfl) ?_
  refine va_alen (D := (dC, dI)) (v := 1) hx hb hK hP 1 3 rfl rfl rfl dX19_wouldChoose_99 ?_
  refine lv_istore (lv' := [(8, .int 1), (7, .ref u_20), (6, .int 1), (5, .ref u_20), (0, .ref mm), (1, .int 1), (2, .int x2), (3, .int 1), (4, .int (-1))]) hx hb dX19_wouldChoose_100 hl (by decide) rfl (fun ls hl => ?_)
  refine lv_iconst (v := 0) hx hb dX19_wouldChoose_102 (by decide) ?_
  refine lv_istore (lv' := [(9, .int 0), (8, .int 1), (7, .ref u_20), (6, .int 1), (5, .ref u_20), (0, .ref mm), (1, .int 1), (2, .int x2), (3, .int 1), (4, .int (-1))]) hx hb dX19_wouldChoose_103 hl (by decide) rfl (fun ls hl => ?_)
  refine lv_iload hx hb dX19_wouldChoose_105 (lv_at hl 0 rfl) ?_
  refine lv_iload hx hb dX19_wouldChoose_107 (lv_at hl 1 rfl) ?_
  refine lv_icmp_ge (tgt := 135) hx hb dX19_wouldChoose_109 (by decide) (fun c_28 => ?_) (fun c_28 => ?_)
  · exact absurd c_28 (by decide)
  refine lv_aload hx hb dX19_wouldChoose_112 (lv_at hl 2 rfl) ?_
  refine lv_iload hx hb dX19_wouldChoose_114 (lv_at hl 0 rfl) ?_
  refine va_aldq (D := (dC, dI)) hx hb hK hP 1 3 rfl rfl (by unfold vp_in; decide) dX19_wouldChoose_116 ?_
  refine z_top (v' := .ref t1) (by first | rfl | decide | simp [va_up, va_rf]) ?_
  refine lv_astore (lv' := [(10, .ref t1), (9, .int 0), (8, .int 1), (7, .ref u_20), (6, .int 1), (5, .ref u_20), (0, .ref mm), (1, .int 1), (2, .int x2), (3, .int 1), (4, .int (-1))]) hx hb dX19_wouldChoose_117 hl (by decide) rfl (fun ls hl => ?_)
  refine lv_iload hx hb dX19_wouldChoose_119 (lv_at hl 4 rfl) ?_
  refine lv_aload hx hb dX19_wouldChoose_121 (lv_at hl 0 rfl) ?_
  refine z_i (wr := [(mh, .inr (1, [.int 0, .ref eD, .int 0])), (u_20, .inl (u_21, 1, .inr (.inr (.inr (.inr (va_up (fun _ => none) (0 : Int32).toNatClampNeg (some t1))))))), (mm, .inr (21, [.int 0, .ref ms, .ref mt, .ref mh, .ref me])), (mt, .inr (1, [.int mo, .ref ma, .int 3])), (ma, .inl (kO, 10, .inr (.inr (.inr (.inr (zfT t0 t1 t2))))))]) (va_runV (As := []) (rest := [.int 1]) ⟨hx, hb, hml, hown, hts⟩ (c_T_isClosed_2 l eD eI ad dC dI H.size t1 i1 kT) (cwV 0 hts g_c_M_would_18 rfl rfl rfl (by decide +kernel) ⟨Nat.le_of_ble_eq_true rfl, Nat.le_of_ble_eq_true rfl⟩) (z_preV (wc := [(t1, .inr (18, [.int (-2), .ref i1])), (i1, .inl (kT, 0, .inr (.inr (.inr (.inr (fun _ => none))))))]) hP hD hK hS hA hE [5, 6] [1] rfl (by decide) rfl (ci := 18) (q0 := 0) rfl rfl) rfl rfl hl.1 rfl (lv_room (Nat.le_of_ble_eq_true rfl)) dX19_wouldChoose_123 ⟨Nat.le_of_ble_eq_true rfl, Nat.le_of_ble_eq_true rfl⟩) hP hD hK hS hA [5, 6] [0, 1, 2, 3, 4] rfl rfl (by decide) (by decide) (fun r_29 u H locs hw_30 hP hD hK hS => ?_)
  obtain ⟨⟩ := u
  have hP : va_P (dC, dI) vwCl [(mh, .inr (1, [.int 0, .ref eD, .int 0])), (u_20, .inl (u_21, 1, .inr (.inr (.inr (.inr (va_up (fun _ => none) (0 : Int32).toNatClampNeg (some t1))))))), (mm, .inr (21, [.int 0, .ref ms, .ref mt, .ref mh, .ref me])), (mt, .inr (1, [.int mo, .ref ma, .int 3])), (ma, .inl (kO, 10, .inr (.inr (.inr (.inr (zfT t0 t1 t2)))))), (t1, .inr (18, [.int (-2), .ref i1])), (i1, .inl (kT, 0, .inr (.inr (.inr (.inr (fun _ => none))))))] H := hP
  have hD : va_D A [(mh, .inr (1, [.int 0, .ref eD, .int 0])), (u_20, .inl (u_21, 1, .inr (.inr (.inr (.inr (va_up (fun _ => none) (0 : Int32).toNatClampNeg (some t1))))))), (mm, .inr (21, [.int 0, .ref ms, .ref mt, .ref mh, .ref me])), (mt, .inr (1, [.int mo, .ref ma, .int 3])), (ma, .inl (kO, 10, .inr (.inr (.inr (.inr (zfT t0 t1 t2)))))), (t1, .inr (18, [.int (-2), .ref i1])), (i1, .inl (kT, 0, .inr (.inr (.inr (.inr (fun _ => none))))))] := hD
  have hK : va_K (dC, dI) vwCl [(kO, .object "java/lang/Object"), (kT, .object "HornbookModel$Tree"), (kO, .object "java/lang/Object"), (u_21, .object "HornbookModel$Tree")] s := by simpa using hK
  have hw_30 : r_29 = 1 := hw_30
  have hw_30 := hw_30.symm
  subst hw_30
  refine lv_iand hx hb dX19_wouldChoose_126 ?_
  refine z_top (v' := .int 1) (congrArg Value.int (by decide)) ?_
  refine lv_istore (lv' := [(6, .int 1), (10, .ref t1), (9, .int 0), (8, .int 1), (7, .ref u_20), (5, .ref u_20), (0, .ref mm), (1, .int 1), (2, .int x2), (3, .int 1), (4, .int (-1))]) hx hb dX19_wouldChoose_127 hl (by decide) rfl (fun ls hl => ?_)
  refine lv_iinc (v := 1) (lv' := [(9, .int 1), (6, .int 1), (10, .ref t1), (8, .int 1), (7, .ref u_20), (5, .ref u_20), (0, .ref mm), (1, .int 1), (2, .int x2), (3, .int 1), (4, .int (-1))]) hx hb dX19_wouldChoose_129 hl (k := 2) rfl (by decide) (by decide) rfl (fun ls hl => ?_)
  refine lv_goto (tgt := 105) hx hb dX19_wouldChoose_132 (by decide) ?_
  refine lv_iload hx hb dX19_wouldChoose_105 (lv_at hl 0 rfl) ?_
  refine lv_iload hx hb dX19_wouldChoose_107 (lv_at hl 3 rfl) ?_
  refine lv_icmp_ge (tgt := 135) hx hb dX19_wouldChoose_109 (by decide) (fun c_31 => ?_) (fun c_31 => ?_)
  rotate_left
  · exact absurd (by decide) c_31
  refine lv_aload_n hx hb dX19_wouldChoose_135 rfl (lv_at hl 6 rfl) ?_
  refine lv_iload hx hb dX19_wouldChoose_136 (lv_at hl 1 rfl) ?_
  refine lv_if_ne (tgt := 145) hx hb dX19_wouldChoose_138 (by decide) (fun c_32 => ?_) (fun c_32 => ?_)
  rotate_left
  · exact absurd c_32 (by decide)
  refine lv_iconst (v := 0) hx hb dX19_wouldChoose_145 (by decide) ?_
  refine lv_iconst (v := 2) hx hb dX19_wouldChoose_146 (by decide) ?_
  refine z_i (wr := [(mh, .inr (1, [.int 0, .ref eD, .int 0])), (u_20, .inl (u_21, 1, .inr (.inr (.inr (.inr (va_up (fun _ => none) (0 : Int32).toNatClampNeg (some t1))))))), (mt, .inr (1, [.int mo, .ref ma, .int 3])), (ma, .inl (kO, 10, .inr (.inr (.inr (.inr (zfT t0 t1 t2)))))), (t1, .inr (18, [.int (-2), .ref i1])), (i1, .inl (kT, 0, .inr (.inr (.inr (.inr (fun _ => none))))))]) (va_runV (As := [.int 0, .int 2]) (rest := []) ⟨hx, hb, hml, hown, hts⟩ (c_M_refuse_no l eD eI ad dC dI H.size mm ((.ref ms)) ((.ref mt)) ((.ref mh)) ((.ref me)) 2) (cwV 2 hts g_c_M_would_10 rfl rfl rfl (by decide +kernel) ⟨Nat.le_of_ble_eq_true rfl, Nat.le_of_ble_eq_true rfl⟩) (z_preV (wc := [(mm, .inr (21, [.int 0, .ref ms, .ref mt, .ref mh, .ref me]))]) hP hD hK hS hA hE [2] [] rfl (by decide) rfl (ci := 21) (q0 := 0) rfl rfl) rfl rfl hl.1 rfl (lv_room (Nat.le_of_ble_eq_true rfl)) dX19_wouldChoose_147 ⟨Nat.le_of_ble_eq_true rfl, Nat.le_of_ble_eq_true rfl⟩) hP hD hK hS hA [2] [0, 1, 3, 4, 5, 6] rfl rfl (by decide) (by decide) (fun r_33 u H locs hw_34 hP hD hK hS => ?_)
  obtain ⟨⟩ := u
  have hP : va_P (dC, dI) vwCl [(mh, .inr (1, [.int 0, .ref eD, .int 0])), (u_20, .inl (u_21, 1, .inr (.inr (.inr (.inr (va_up (fun _ => none) (0 : Int32).toNatClampNeg (some t1))))))), (mt, .inr (1, [.int mo, .ref ma, .int 3])), (ma, .inl (kO, 10, .inr (.inr (.inr (.inr (zfT t0 t1 t2)))))), (t1, .inr (18, [.int (-2), .ref i1])), (i1, .inl (kT, 0, .inr (.inr (.inr (.inr (fun _ => none)))))), (mm, .inr (21, [.int 0, .ref ms, .ref mt, .ref mh, .ref me]))] H := hP
  have hD : va_D A [(mh, .inr (1, [.int 0, .ref eD, .int 0])), (u_20, .inl (u_21, 1, .inr (.inr (.inr (.inr (va_up (fun _ => none) (0 : Int32).toNatClampNeg (some t1))))))), (mt, .inr (1, [.int mo, .ref ma, .int 3])), (ma, .inl (kO, 10, .inr (.inr (.inr (.inr (zfT t0 t1 t2)))))), (t1, .inr (18, [.int (-2), .ref i1])), (i1, .inl (kT, 0, .inr (.inr (.inr (.inr (fun _ => none)))))), (mm, .inr (21, [.int 0, .ref ms, .ref mt, .ref mh, .ref me]))] := hD
  have hK : va_K (dC, dI) vwCl [(kO, .object "java/lang/Object"), (kT, .object "HornbookModel$Tree"), (kO, .object "java/lang/Object"), (u_21, .object "HornbookModel$Tree")] s := by simpa using hK
  have hw_34 : r_33 = 0 := hw_34
  have hw_34 := hw_34.symm
  subst hw_34
  refine lv_if_eq (tgt := 155) hx hb dX19_wouldChoose_150 (by decide) (fun c_35 => ?_) (fun c_35 => ?_)
  rotate_left
  · exact absurd (by decide) c_35
  refine va_new (ci := 20) (fs := [.null, .int 0, .int 0, .int 0, .null, .int 0, .int 0]) (C := RX18) (T := TX18) (N := 7) hx hb hts in_RX18 tyX18 tyX18_ok hown (hts (.classLink RX19 184 RX18) (by decide +kernel)) (hts (.instantiable RX18 7) (by decide +kernel)) (hts (.initialized RX18) (by decide +kernel)) hK hP hD hS hA rfl (fun j hj => by rcases (show j = 0 ∨ j = 1 ∨ j = 2 ∨ j = 3 ∨ j = 4 ∨ j = 5 ∨ j = 6 by omega) with rfl | rfl | rfl | rfl | rfl | rfl | rfl <;> rfl) (Nat.le_of_ble_eq_true rfl) (Nat.le_of_ble_eq_true rfl) dX19_wouldChoose_155 (fun q_36 H hP hD hS => ?_)
  have hP : va_P (dC, dI) vwCl [(mh, .inr (1, [.int 0, .ref eD, .int 0])), (u_20, .inl (u_21, 1, .inr (.inr (.inr (.inr (va_up (fun _ => none) (0 : Int32).toNatClampNeg (some t1))))))), (mt, .inr (1, [.int mo, .ref ma, .int 3])), (ma, .inl (kO, 10, .inr (.inr (.inr (.inr (zfT t0 t1 t2)))))), (t1, .inr (18, [.int (-2), .ref i1])), (i1, .inl (kT, 0, .inr (.inr (.inr (.inr (fun _ => none)))))), (mm, .inr (21, [.int 0, .ref ms, .ref mt, .ref mh, .ref me])), (q_36, .inr (20, [.null, .int 0, .int 0, .int 0, .null, .int 0, .int 0]))] H := hP
  have hD : va_D A [(mh, .inr (1, [.int 0, .ref eD, .int 0])), (u_20, .inl (u_21, 1, .inr (.inr (.inr (.inr (va_up (fun _ => none) (0 : Int32).toNatClampNeg (some t1))))))), (mt, .inr (1, [.int mo, .ref ma, .int 3])), (ma, .inl (kO, 10, .inr (.inr (.inr (.inr (zfT t0 t1 t2)))))), (t1, .inr (18, [.int (-2), .ref i1])), (i1, .inl (kT, 0, .inr (.inr (.inr (.inr (fun _ => none)))))), (mm, .inr (21, [.int 0, .ref ms, .ref mt, .ref mh, .ref me])), (q_36, .inr (20, [.null, .int 0, .int 0, .int 0, .null, .int 0, .int 0]))] := hD
  refine lv_dup hx hb dX19_wouldChoose_158 rfl ?_
  refine z_v (wr := [(mh, .inr (1, [.int 0, .ref eD, .int 0])), (u_20, .inl (u_21, 1, .inr (.inr (.inr (.inr (va_up (fun _ => none) (0 : Int32).toNatClampNeg (some t1))))))), (mt, .inr (1, [.int mo, .ref ma, .int 3])), (ma, .inl (kO, 10, .inr (.inr (.inr (.inr (zfT t0 t1 t2)))))), (t1, .inr (18, [.int (-2), .ref i1])), (i1, .inl (kT, 0, .inr (.inr (.inr (.inr (fun _ => none)))))), (mm, .inr (21, [.int 0, .ref ms, .ref mt, .ref mh, .ref me]))]) (va_runIN (As := []) (rest := [.ref q_36]) ⟨hx, hb, hml, hown, hts⟩ (c_W_init l eD eI ad dC dI H.size q_36) (⟨va_cnB 0 hts g_c_M_would_14 rfl rfl rfl (hE.2.2.1 (.methodLinkNest RX19 226 yX18_init "HornbookModel") (by decide +kernel)) (hts (.initialized RX18) (by decide +kernel)) (by decide +kernel) ⟨Nat.le_of_ble_eq_true rfl, Nat.le_of_ble_eq_true rfl⟩, rfl, (hts (.instanceMethod yX18_init) (by decide +kernel))⟩) (z_preS (wc := [(q_36, .inr (20, [.null, .int 0, .int 0, .int 0, .null, .int 0, .int 0]))]) hP hD hK hS hA hE [7] [] rfl (by decide) rfl) rfl rfl hl.1 rfl (lv_room (Nat.le_of_ble_eq_true rfl)) dX19_wouldChoose_159 ⟨Nat.le_of_ble_eq_true rfl, Nat.le_of_ble_eq_true rfl⟩) hP hD hK hS hA [7] [0, 1, 2, 3, 4, 5, 6] rfl rfl (by decide) (by decide) (fun u H locs hw_38 hP hD hK hS => ?_)
  obtain ⟨⟩ := u
  have hP : va_P (dC, dI) vwCl [(mh, .inr (1, [.int 0, .ref eD, .int 0])), (u_20, .inl (u_21, 1, .inr (.inr (.inr (.inr (va_up (fun _ => none) (0 : Int32).toNatClampNeg (some t1))))))), (mt, .inr (1, [.int mo, .ref ma, .int 3])), (ma, .inl (kO, 10, .inr (.inr (.inr (.inr (zfT t0 t1 t2)))))), (t1, .inr (18, [.int (-2), .ref i1])), (i1, .inl (kT, 0, .inr (.inr (.inr (.inr (fun _ => none)))))), (mm, .inr (21, [.int 0, .ref ms, .ref mt, .ref mh, .ref me])), (q_36, .inr (20, [.null, .int 0, .int 0, .int (-1), .null, .int 0, .int 0]))] H := hP
  have hD : va_D A [(mh, .inr (1, [.int 0, .ref eD, .int 0])), (u_20, .inl (u_21, 1, .inr (.inr (.inr (.inr (va_up (fun _ => none) (0 : Int32).toNatClampNeg (some t1))))))), (mt, .inr (1, [.int mo, .ref ma, .int 3])), (ma, .inl (kO, 10, .inr (.inr (.inr (.inr (zfT t0 t1 t2)))))), (t1, .inr (18, [.int (-2), .ref i1])), (i1, .inl (kT, 0, .inr (.inr (.inr (.inr (fun _ => none)))))), (mm, .inr (21, [.int 0, .ref ms, .ref mt, .ref mh, .ref me])), (q_36, .inr (20, [.null, .int 0, .int 0, .int (-1), .null, .int 0, .int 0]))] := hD
  have hK : va_K (dC, dI) vwCl [(kO, .object "java/lang/Object"), (kT, .object "HornbookModel$Tree"), (kO, .object "java/lang/Object"), (u_21, .object "HornbookModel$Tree")] s := by simpa using hK
  refine lv_astore (lv' := [(7, .ref q_36), (9, .int 1), (6, .int 1), (10, .ref t1), (8, .int 1), (5, .ref u_20), (0, .ref mm), (1, .int 1), (2, .int x2), (3, .int 1), (4, .int (-1))]) hx hb dX19_wouldChoose_162 hl (by decide) rfl (fun ls hl => ?_)
  refine lv_aload_n hx hb dX19_wouldChoose_164 rfl (lv_at hl 6 rfl) ?_
  refine z_q (wr := [(mh, .inr (1, [.int 0, .ref eD, .int 0])), (u_20, .inl (u_21, 1, .inr (.inr (.inr (.inr (va_up (fun _ => none) (0 : Int32).toNatClampNeg (some t1))))))), (mt, .inr (1, [.int mo, .ref ma, .int 3])), (ma, .inl (kO, 10, .inr (.inr (.inr (.inr (zfT t0 t1 t2)))))), (t1, .inr (18, [.int (-2), .ref i1])), (i1, .inl (kT, 0, .inr (.inr (.inr (.inr (fun _ => none)))))), (q_36, .inr (20, [.null, .int 0, .int 0, .int (-1), .null, .int 0, .int 0]))]) (va_runV (As := []) (rest := []) ⟨hx, hb, hml, hown, hts⟩ (c_M_view l eD eI ad dC dI H.size mm ms mt mh me 0) (cwV 0 hts g_c_M_would_15 rfl rfl rfl (by decide +kernel) ⟨Nat.le_of_ble_eq_true rfl, Nat.le_of_ble_eq_true rfl⟩) (z_preV (wc := [(mm, .inr (21, [.int 0, .ref ms, .ref mt, .ref mh, .ref me]))]) hP hD hK hS hA hE [6] [] rfl (by decide) rfl (ci := 21) (q0 := 0) rfl rfl) rfl rfl hl.1 rfl (lv_room (Nat.le_of_ble_eq_true rfl)) dX19_wouldChoose_165 ⟨Nat.le_of_ble_eq_true rfl, Nat.le_of_ble_eq_true rfl⟩) hP hD hK hS hA [6] [0, 1, 2, 3, 4, 5, 7] rfl rfl (by decide) (by decide) (fun r_40 u H locs hw_41 hP hD hK hS => ?_)
  obtain ⟨u_39, rfl⟩ : ∃ z, z = u := ⟨_, rfl⟩
  have hP : va_P (dC, dI) vwCl [(mh, .inr (1, [.int 0, .ref eD, .int 0])), (u_20, .inl (u_21, 1, .inr (.inr (.inr (.inr (va_up (fun _ => none) (0 : Int32).toNatClampNeg (some t1))))))), (mt, .inr (1, [.int mo, .ref ma, .int 3])), (ma, .inl (kO, 10, .inr (.inr (.inr (.inr (zfT t0 t1 t2)))))), (t1, .inr (18, [.int (-2), .ref i1])), (i1, .inl (kT, 0, .inr (.inr (.inr (.inr (fun _ => none)))))), (q_36, .inr (20, [.null, .int 0, .int 0, .int (-1), .null, .int 0, .int 0])), (mm, .inr (21, [.int 0, .ref ms, .ref mt, .ref mh, .ref me])), (u_39, .inr (19, [.int (-1), .int (-1), .int (-1), .int (-1), .ref mm]))] H := hP
  have hD : va_D A [(mh, .inr (1, [.int 0, .ref eD, .int 0])), (u_20, .inl (u_21, 1, .inr (.inr (.inr (.inr (va_up (fun _ => none) (0 : Int32).toNatClampNeg (some t1))))))), (mt, .inr (1, [.int mo, .ref ma, .int 3])), (ma, .inl (kO, 10, .inr (.inr (.inr (.inr (zfT t0 t1 t2)))))), (t1, .inr (18, [.int (-2), .ref i1])), (i1, .inl (kT, 0, .inr (.inr (.inr (.inr (fun _ => none)))))), (q_36, .inr (20, [.null, .int 0, .int 0, .int (-1), .null, .int 0, .int 0])), (mm, .inr (21, [.int 0, .ref ms, .ref mt, .ref mh, .ref me])), (u_39, .inr (19, [.int (-1), .int (-1), .int (-1), .int (-1), .ref mm]))] := hD
  have hK : va_K (dC, dI) vwCl [(kO, .object "java/lang/Object"), (kT, .object "HornbookModel$Tree"), (kO, .object "java/lang/Object"), (u_21, .object "HornbookModel$Tree")] s := by simpa using hK
  have hw_41 : r_40 = some u_39 := hw_41
  have hw_41 := hw_41.symm
  subst hw_41
  refine W.eq (g2 := F0 m 168 ls (.ref u_39 :: [])) rfl ?_
  refine lv_aload_n hx hb dX19_wouldChoose_168 rfl (lv_at hl 6 rfl) ?_
  refine lv_iload_n hx hb dX19_wouldChoose_169 rfl (lv_at hl 7 rfl) ?_
  refine z_q (wr := [(mh, .inr (1, [.int 0, .ref eD, .int 0])), (u_20, .inl (u_21, 1, .inr (.inr (.inr (.inr (va_up (fun _ => none) (0 : Int32).toNatClampNeg (some t1))))))), (i1, .inl (kT, 0, .inr (.inr (.inr (.inr (fun _ => none)))))), (q_36, .inr (20, [.null, .int 0, .int 0, .int (-1), .null, .int 0, .int 0])), (u_39, .inr (19, [.int (-1), .int (-1), .int (-1), .int (-1), .ref mm]))]) (va_runV (As := [.int 1]) (rest := [.ref u_39]) ⟨hx, hb, hml, hown, hts⟩ (c_M_type_1 l eD eI ad dC dI H.size mm ms mt mh me 0 mo ma kO t0 t1 t2 ((.ref i1))) (cwV 1 hts g_c_M_would_17 rfl rfl rfl (by decide +kernel) ⟨Nat.le_of_ble_eq_true rfl, Nat.le_of_ble_eq_true rfl⟩) (z_preV (wc := [(mm, .inr (21, [.int 0, .ref ms, .ref mt, .ref mh, .ref me])), (mt, .inr (1, [.int mo, .ref ma, .int 3])), (ma, .inl (kO, 10, .inr (.inr (.inr (.inr (zfT t0 t1 t2)))))), (t1, .inr (18, [.int (-2), .ref i1]))]) hP hD hK hS hA hE [7, 2, 3, 4] [0] rfl (by decide) rfl (ci := 21) (q0 := 0) rfl rfl) rfl rfl hl.1 rfl (lv_room (Nat.le_of_ble_eq_true rfl)) dX19_wouldChoose_170 ⟨Nat.le_of_ble_eq_true rfl, Nat.le_of_ble_eq_true rfl⟩) hP hD hK hS hA [7, 2, 3, 4] [0, 1, 5, 6, 8] rfl rfl (by decide) (by decide) (fun r_42 u H locs hw_43 hP hD hK hS => ?_)
  obtain ⟨⟩ := u
  have hP : va_P (dC, dI) vwCl [(mh, .inr (1, [.int 0, .ref eD, .int 0])), (u_20, .inl (u_21, 1, .inr (.inr (.inr (.inr (va_up (fun _ => none) (0 : Int32).toNatClampNeg (some t1))))))), (i1, .inl (kT, 0, .inr (.inr (.inr (.inr (fun _ => none)))))), (q_36, .inr (20, [.null, .int 0, .int 0, .int (-1), .null, .int 0, .int 0])), (u_39, .inr (19, [.int (-1), .int (-1), .int (-1), .int (-1), .ref mm])), (mm, .inr (21, [.int 0, .ref ms, .ref mt, .ref mh, .ref me])), (mt, .inr (1, [.int mo, .ref ma, .int 3])), (ma, .inl (kO, 10, .inr (.inr (.inr (.inr (zfT t0 t1 t2)))))), (t1, .inr (18, [.int (-2), .ref i1]))] H := hP
  have hD : va_D A [(mh, .inr (1, [.int 0, .ref eD, .int 0])), (u_20, .inl (u_21, 1, .inr (.inr (.inr (.inr (va_up (fun _ => none) (0 : Int32).toNatClampNeg (some t1))))))), (i1, .inl (kT, 0, .inr (.inr (.inr (.inr (fun _ => none)))))), (q_36, .inr (20, [.null, .int 0, .int 0, .int (-1), .null, .int 0, .int 0])), (u_39, .inr (19, [.int (-1), .int (-1), .int (-1), .int (-1), .ref mm])), (mm, .inr (21, [.int 0, .ref ms, .ref mt, .ref mh, .ref me])), (mt, .inr (1, [.int mo, .ref ma, .int 3])), (ma, .inl (kO, 10, .inr (.inr (.inr (.inr (zfT t0 t1 t2)))))), (t1, .inr (18, [.int (-2), .ref i1]))] := hD
  have hK : va_K (dC, dI) vwCl [(kO, .object "java/lang/Object"), (kT, .object "HornbookModel$Tree"), (kO, .object "java/lang/Object"), (u_21, .object "HornbookModel$Tree")] s := by simpa using hK
  have hw_43 : r_42 = some t1 := hw_43
  have hw_43 := hw_43.symm
  subst hw_43
  refine W.eq (g2 := F0 m 173 ls (.ref t1 :: .ref u_39 :: [])) rfl ?_
  refine lv_iload_n hx hb dX19_wouldChoose_173 rfl (lv_at hl 8 rfl) ?_
  refine lv_aload hx hb dX19_wouldChoose_174 (lv_at hl 5 rfl) ?_
  refine lv_aload hx hb dX19_wouldChoose_176 (lv_at hl 0 rfl) ?_
  refine z_v (wr := [(u_20, .inl (u_21, 1, .inr (.inr (.inr (.inr (va_up (fun _ => none) (0 : Int32).toNatClampNeg (some t1))))))), (i1, .inl (kT, 0, .inr (.inr (.inr (.inr (fun _ => none)))))), (mt, .inr (1, [.int mo, .ref ma, .int 3])), (ma, .inl (kO, 10, .inr (.inr (.inr (.inr (zfT t0 t1 t2))))))]) (va_runV (As := [.ref t1, .int x2, .ref u_20, .ref q_36]) (rest := []) ⟨hx, hb, hml, hown, hts⟩ (c_V_call l eD eI ad dC dI H.size u_39 mm ms mt mh me 0 t1 (-2) ((.ref i1)) x2 u_20 q_36 (by decide)) (cwV 4 hts g_c_M_would_16 rfl rfl rfl (by decide +kernel) ⟨Nat.le_of_ble_eq_true rfl, Nat.le_of_ble_eq_true rfl⟩) (z_preV (wc := [(u_39, .inr (19, [.int (-1), .int (-1), .int (-1), .int (-1), .ref mm])), (mm, .inr (21, [.int 0, .ref ms, .ref mt, .ref mh, .ref me])), (mh, .inr (1, [.int 0, .ref eD, .int 0])), (t1, .inr (18, [.int (-2), .ref i1])), (q_36, .inr (20, [.null, .int 0, .int 0, .int (-1), .null, .int 0, .int 0]))]) hP hD hK hS hA hE [4, 5, 0, 8, 3] [] rfl (by decide) rfl (ci := 19) (q0 := 0) rfl rfl) rfl rfl hl.1 rfl (lv_room (Nat.le_of_ble_eq_true rfl)) dX19_wouldChoose_178 ⟨Nat.le_of_ble_eq_true rfl, Nat.le_of_ble_eq_true rfl⟩) hP hD hK hS hA [4, 5, 0, 8, 3] [1, 2, 6, 7] rfl rfl (by decide) (by decide) (fun u H locs hw_46 hP hD hK hS => ?_)
  obtain ⟨u_44, rfl⟩ : ∃ z, z = u := ⟨_, rfl⟩
  have hP : va_P (dC, dI) vwCl [(u_20, .inl (u_21, 1, .inr (.inr (.inr (.inr (va_up (fun _ => none) (0 : Int32).toNatClampNeg (some t1))))))), (i1, .inl (kT, 0, .inr (.inr (.inr (.inr (fun _ => none)))))), (mt, .inr (1, [.int mo, .ref ma, .int 3])), (ma, .inl (kO, 10, .inr (.inr (.inr (.inr (zfT t0 t1 t2)))))), (mm, .inr (21, [.int 0, .ref ms, .ref mt, .ref mh, .ref me])), (q_36, .inr (20, [.ref u_44, .int 0, .int 0, .int (-1), .null, .int 1, .int 0]))] H := hP
  have hD : va_D A [(u_20, .inl (u_21, 1, .inr (.inr (.inr (.inr (va_up (fun _ => none) (0 : Int32).toNatClampNeg (some t1))))))), (i1, .inl (kT, 0, .inr (.inr (.inr (.inr (fun _ => none)))))), (mt, .inr (1, [.int mo, .ref ma, .int 3])), (ma, .inl (kO, 10, .inr (.inr (.inr (.inr (zfT t0 t1 t2)))))), (mm, .inr (21, [.int 0, .ref ms, .ref mt, .ref mh, .ref me])), (q_36, .inr (20, [.ref u_44, .int 0, .int 0, .int (-1), .null, .int 1, .int 0]))] := hD
  have hK : va_K (dC, dI) vwCl [(kO, .object "java/lang/Object"), (kT, .object "HornbookModel$Tree"), (kO, .object "java/lang/Object"), (u_21, .object "HornbookModel$Tree")] s := by simpa using hK
  refine lv_aload hx hb dX19_wouldChoose_181 (lv_at hl 0 rfl) ?_
  refine va_get (D := (dC, dI)) (ci := 20) (v := .int 1) (C := RX18) (T := TX18) (N := 7) hx hb hts in_RX18 hown hK hP 5 rfl rfl 5 (by decide) (hts (.fieldLink RX19 231 "HornbookModel$Word" "fault" "I") (by decide +kernel)) (fun _ h9 => h9) rfl dX19_wouldChoose_183 ?_
  refine lv_if_le (tgt := 198) hx hb dX19_wouldChoose_186 (by decide) (fun c_47 => ?_) (fun c_47 => ?_)
  · exact absurd c_47 (by decide)
  refine lv_aload hx hb dX19_wouldChoose_189 (lv_at hl 0 rfl) ?_
  refine va_get (D := (dC, dI)) (ci := 20) (v := .int 1) (C := RX18) (T := TX18) (N := 7) hx hb hts in_RX18 hown hK hP 5 rfl rfl 5 (by decide) (hts (.fieldLink RX19 231 "HornbookModel$Word" "fault" "I") (by decide +kernel)) (fun _ h9 => h9) rfl dX19_wouldChoose_191 ?_
  refine lv_ineg hx hb dX19_wouldChoose_194 ?_
  refine z_top (v' := .int (-1)) (congrArg Value.int (by decide)) ?_
  refine lv_goto (tgt := 203) hx hb dX19_wouldChoose_195 (by decide) ?_
  have hP9 := hP.sub (ws' := [(mm, .inr (21, [.int 0, .ref ms, .ref mt, .ref mh, .ref me]))]) [4] rfl
  have hD9 := hD.sub (ws' := [(mm, .inr (21, [.int 0, .ref ms, .ref mt, .ref mh, .ref me]))]) [4] (by decide) rfl
  have hK9 := hK.sub (tys' := []) [] rfl
  refine W.widen (k := 7) (n := 22) (Nat.le_of_ble_eq_true rfl) (Nat.le_of_ble_eq_true rfl) ?_
  exact W.iret (v := (-1)) hx hb hr (fun t ht hW => ⟨⟨(-1), (0, (-1)), rfl, ⟨rfl, by first | decide | simp [hx20, hx21], by first | exact fun h => absurd h (by decide) | exact fun _ => rfl | rfl | decide | simp⟩, ⟨by rw [ht]; exact hP9, va_K.moved hW.alike hK9, hD9⟩⟩, hS.F ht⟩) hS.2.2 dX19_wouldChoose_203

set_option maxHeartbeats 4000000 in
set_option maxRecDepth 100000 in
theorem c_M_would_Fkn12 (l : Launch) (eD eI : Nat) (ad : Nat → Nat) (dC : Nat → ClassId) (dI : Nat → Nat → Nat) (sz : Nat) (mm : Nat) (ms : Nat) (mt : Nat) (mh : Nat) (me : Nat) (mo : Int32) (ma : Nat) (kO : ClassId) (kT : ClassId) (t0 : Nat) (t1 : Nat) (t2 : Nat) (i0 : Nat) (i1 : Nat) (i2 : Nat) (th : Int32) (x2 : Int32) (hx20 : ¬ x2 < 0) (hx21 : ¬ 9 < x2) : Met l yX19_wouldChoose w_c_M_would ({ frames := 6, cells := 7, slots := 22, locals := 123 }) (va_Pc [.ref mm, .int 1, .int x2, .int 2, .int (-1)] (zPre eD eI ad (dC, dI) [(mm, .inr (21, [.int th, .ref ms, .ref mt, .ref mh, .ref me])), (ms, .inr (1, [.int 0, .ref eD, .int 0])), (mt, .inr (1, [.int mo, .ref ma, .int 3])), (mh, .inr (1, [.int 0, .ref eD, .int 0])), (me, .inr (1, [.int 0, .ref eD, .int 0])), (ma, .inl (kO, 10, .inr (.inr (.inr (.inr (zfT t0 t1 t2)))))), (t0, .inr (18, [.int (-1), .ref i0])), (t1, .inr (18, [.int (-2), .ref i1])), (t2, .inr (18, [.int (-3), .ref i2])), (i0, .inl (kT, 0, .inr (.inr (.inr (.inr (fun _ => none)))))), (i1, .inl (kT, 0, .inr (.inr (.inr (.inr (fun _ => none)))))), (i2, .inl (kT, 0, .inr (.inr (.inr (.inr (fun _ => none))))))] [(kO, .object "java/lang/Object"), (kT, .object "HornbookModel$Tree")] sz)) (va_Qi (fun (r : Int32) (u : Int32 × Int32) => match u with | (th2, v2) => r = v2 ∧ th2 = (if (1 : Int32) < 0 ∨ 2 < (1 : Int32) then 1 else if ¬ (2 : Int32) = (-1) ∧ ((2 : Int32) < 0 ∨ 2 < (2 : Int32)) then 1 else if ¬ (-1 : Int32) = (-1) ∧ ((-1 : Int32) < 0 ∨ 2 < (-1 : Int32)) then 1 else if x2 < 0 ∨ 9 < x2 then 2 else if (2 : Int32) = (-1) ∧ ¬ (-1 : Int32) = (-1) then 2 else if (1 : Int32) = 2 ∨ (2 : Int32) = 2 ∨ (-1 : Int32) = 2 then 2 else 0) ∧ (th2 = 0 → v2 = (-1))) (fun (u : Int32 × Int32) => match u with | (th2, v2) => zEnd (dC, dI) (va_A [(mm, .inr (21, [.int th, .ref ms, .ref mt, .ref mh, .ref me])), (ms, .inr (1, [.int 0, .ref eD, .int 0])), (mt, .inr (1, [.int mo, .ref ma, .int 3])), (mh, .inr (1, [.int 0, .ref eD, .int 0])), (me, .inr (1, [.int 0, .ref eD, .int 0])), (ma, .inl (kO, 10, .inr (.inr (.inr (.inr (zfT t0 t1 t2)))))), (t0, .inr (18, [.int (-1), .ref i0])), (t1, .inr (18, [.int (-2), .ref i1])), (t2, .inr (18, [.int (-3), .ref i2])), (i0, .inl (kT, 0, .inr (.inr (.inr (.inr (fun _ => none)))))), (i1, .inl (kT, 0, .inr (.inr (.inr (.inr (fun _ => none)))))), (i2, .inl (kT, 0, .inr (.inr (.inr (.inr (fun _ => none))))))] sz) [(mm, .inr (21, [.int th2, .ref ms, .ref mt, .ref mh, .ref me]))] []) (va_A [(mm, .inr (21, [.int th, .ref ms, .ref mt, .ref mh, .ref me])), (ms, .inr (1, [.int 0, .ref eD, .int 0])), (mt, .inr (1, [.int mo, .ref ma, .int 3])), (mh, .inr (1, [.int 0, .ref eD, .int 0])), (me, .inr (1, [.int 0, .ref eD, .int 0])), (ma, .inl (kO, 10, .inr (.inr (.inr (.inr (zfT t0 t1 t2)))))), (t0, .inr (18, [.int (-1), .ref i0])), (t1, .inr (18, [.int (-2), .ref i1])), (t2, .inr (18, [.int (-3), .ref i2])), (i0, .inl (kT, 0, .inr (.inr (.inr (.inr (fun _ => none)))))), (i1, .inl (kT, 0, .inr (.inr (.inr (.inr (fun _ => none)))))), (i2, .inl (kT, 0, .inr (.inr (.inr (.inr (fun _ => none))))))] sz)) 7 22 (va_A [(mm, .inr (21, [.int th, .ref ms, .ref mt, .ref mh, .ref me])), (ms, .inr (1, [.int 0, .ref eD, .int 0])), (mt, .inr (1, [.int mo, .ref ma, .int 3])), (mh, .inr (1, [.int 0, .ref eD, .int 0])), (me, .inr (1, [.int 0, .ref eD, .int 0])), (ma, .inl (kO, 10, .inr (.inr (.inr (.inr (zfT t0 t1 t2)))))), (t0, .inr (18, [.int (-1), .ref i0])), (t1, .inr (18, [.int (-2), .ref i1])), (t2, .inr (18, [.int (-3), .ref i2])), (i0, .inl (kT, 0, .inr (.inr (.inr (.inr (fun _ => none)))))), (i1, .inl (kT, 0, .inr (.inr (.inr (.inr (fun _ => none)))))), (i2, .inl (kT, 0, .inr (.inr (.inr (.inr (fun _ => none))))))] sz) := by
  refine Met.ofW (cc := cX19_wouldChoose) (maxL := 11) (ret := (some .int)) (by decide) rfl ?_
  intro p e s m args below meth c s₁ B hml hv
  obtain ⟨rfl, hsz, hP, hK, hD0, hE⟩ := hv
  have hx := B.exec
  have hb := B.bytes
  have hr := B.returns
  have hts := atoms_spec (ws := w_c_M_would) B.pre
  have hown : s.vm.findClass RX19 = some m.cls := findClass_of_methodNamed B.named
  have hlocks := B.notSynchronized
  subst hsz
  have hD := hD0.self (sz := s.heap.size)
  generalize hAe : va_A [(mm, .inr (21, [.int th, .ref ms, .ref mt, .ref mh, .ref me])), (ms, .inr (1, [.int 0, .ref eD, .int 0])), (mt, .inr (1, [.int mo, .ref ma, .int 3])), (mh, .inr (1, [.int 0, .ref eD, .int 0])), (me, .inr (1, [.int 0, .ref eD, .int 0])), (ma, .inl (kO, 10, .inr (.inr (.inr (.inr (zfT t0 t1 t2)))))), (t0, .inr (18, [.int (-1), .ref i0])), (t1, .inr (18, [.int (-2), .ref i1])), (t2, .inr (18, [.int (-3), .ref i2])), (i0, .inl (kT, 0, .inr (.inr (.inr (.inr (fun _ => none)))))), (i1, .inl (kT, 0, .inr (.inr (.inr (.inr (fun _ => none)))))), (i2, .inl (kT, 0, .inr (.inr (.inr (.inr (fun _ => none))))))] s.heap.size = A at hD hE ⊢
  have hA : ∀ q : Nat, s.heap.size ≤ q → A q := fun q h => by rw [← hAe]; exact Or.inr h
  have hS : va_S A s.heap s.heap [] := va_S.rf
  have hP : va_P (dC, dI) vwCl [(mm, .inr (21, [.int th, .ref ms, .ref mt, .ref mh, .ref me])), (ms, .inr (1, [.int 0, .ref eD, .int 0])), (mt, .inr (1, [.int mo, .ref ma, .int 3])), (mh, .inr (1, [.int 0, .ref eD, .int 0])), (me, .inr (1, [.int 0, .ref eD, .int 0])), (ma, .inl (kO, 10, .inr (.inr (.inr (.inr (zfT t0 t1 t2)))))), (t0, .inr (18, [.int (-1), .ref i0])), (t1, .inr (18, [.int (-2), .ref i1])), (t2, .inr (18, [.int (-3), .ref i2])), (i0, .inl (kT, 0, .inr (.inr (.inr (.inr (fun _ => none)))))), (i1, .inl (kT, 0, .inr (.inr (.inr (.inr (fun _ => none)))))), (i2, .inl (kT, 0, .inr (.inr (.inr (.inr (fun _ => none))))))] s.heap := hP
  have hl := lv_entry ([.ref mm, .int 1, .int x2, .int 2, .int (-1)]) (n := 11) (Nat.le_of_ble_eq_true rfl)
  rw [lg_entry_eq]
  generalize (lg_sl ([.ref mm, .int 1, .int x2, .int 2, .int (-1)]) ++ List.replicate (11 - (lg_sl ([.ref mm, .int 1, .int x2, .int 2, .int (-1)])).length) Slot.unset).toArray = ls at hl ⊢
  have hl : lv_has ls 11 [(0, .ref mm), (1, .int 1), (2, .int x2), (3, .int 2), (4, .int (-1))] := hl
  have hP := hP.sub (ws' := [(mm, .inr (21, [.int th, .ref ms, .ref mt, .ref mh, .ref me])), (mt, .inr (1, [.int mo, .ref ma, .int 3])), (mh, .inr (1, [.int 0, .ref eD, .int 0])), (ma, .inl (kO, 10, .inr (.inr (.inr (.inr (zfT t0 t1 t2)))))), (t1, .inr (18, [.int (-2), .ref i1])), (t2, .inr (18, [.int (-3), .ref i2])), (i1, .inl (kT, 0, .inr (.inr (.inr (.inr (fun _ => none)))))), (i2, .inl (kT, 0, .inr (.inr (.inr (.inr (fun _ => none))))))]) [0, 2, 3, 5, 7, 8, 10, 11] rfl
  have hD := hD.sub (ws' := [(mm, .inr (21, [.int th, .ref ms, .ref mt, .ref mh, .ref me])), (mt, .inr (1, [.int mo, .ref ma, .int 3])), (mh, .inr (1, [.int 0, .ref eD, .int 0])), (ma, .inl (kO, 10, .inr (.inr (.inr (.inr (zfT t0 t1 t2)))))), (t1, .inr (18, [.int (-2), .ref i1])), (t2, .inr (18, [.int (-3), .ref i2])), (i1, .inl (kT, 0, .inr (.inr (.inr (.inr (fun _ => none)))))), (i2, .inl (kT, 0, .inr (.inr (.inr (.inr (fun _ => none))))))]) [0, 2, 3, 5, 7, 8, 10, 11] (by decide) rfl
  refine lv_aload_n hx hb dX19_wouldChoose_0 rfl (lv_at hl 0 rfl) ?_
  refine lv_aload_n hx hb dX19_wouldChoose_1 rfl (lv_at hl 0 rfl) ?_
  refine lv_iload_n hx hb dX19_wouldChoose_2 rfl (lv_at hl 1 rfl) ?_
  refine z_i (wr := [(mh, .inr (1, [.int 0, .ref eD, .int 0])), (ma, .inl (kO, 10, .inr (.inr (.inr (.inr (zfT t0 t1 t2)))))), (t1, .inr (18, [.int (-2), .ref i1])), (t2, .inr (18, [.int (-3), .ref i2])), (i1, .inl (kT, 0, .inr (.inr (.inr (.inr (fun _ => none)))))), (i2, .inl (kT, 0, .inr (.inr (.inr (.inr (fun _ => none))))))]) (va_runV (As := [.int 1]) (rest := [.ref mm]) ⟨hx, hb, hml, hown, hts⟩ (c_M_isNoType_ok l eD eI ad dC dI s.heap.size mm ms mt mh me th ((.int mo)) ((.ref ma)) 1 (by decide) (by decide)) (cwV 1 hts g_c_M_would_3 rfl rfl rfl (by decide +kernel) ⟨Nat.le_of_ble_eq_true rfl, Nat.le_of_ble_eq_true rfl⟩) (z_preV (wc := [(mm, .inr (21, [.int th, .ref ms, .ref mt, .ref mh, .ref me])), (mt, .inr (1, [.int mo, .ref ma, .int 3]))]) hP hD hK hS hA hE [0, 1] [] rfl (by decide) rfl (ci := 21) (q0 := 0) rfl rfl) rfl rfl hl.1 rfl (lv_room (Nat.le_of_ble_eq_true rfl)) dX19_wouldChoose_3 ⟨Nat.le_of_ble_eq_true rfl, Nat.le_of_ble_eq_true rfl⟩) hP hD hK hS hA [0, 1] [2, 3, 4, 5, 6, 7] rfl rfl (by decide) (by decide) (fun r_1 u H locs hw_2 hP hD hK hS => ?_)
  obtain ⟨⟩ := u
  have hP : va_P (dC, dI) vwCl [(mh, .inr (1, [.int 0, .ref eD, .int 0])), (ma, .inl (kO, 10, .inr (.inr (.inr (.inr (zfT t0 t1 t2)))))), (t1, .inr (18, [.int (-2), .ref i1])), (t2, .inr (18, [.int (-3), .ref i2])), (i1, .inl (kT, 0, .inr (.inr (.inr (.inr (fun _ => none)))))), (i2, .inl (kT, 0, .inr (.inr (.inr (.inr (fun _ => none)))))), (mm, .inr (21, [.int th, .ref ms, .ref mt, .ref mh, .ref me])), (mt, .inr (1, [.int mo, .ref ma, .int 3]))] H := hP
  have hD : va_D A [(mh, .inr (1, [.int 0, .ref eD, .int 0])), (ma, .inl (kO, 10, .inr (.inr (.inr (.inr (zfT t0 t1 t2)))))), (t1, .inr (18, [.int (-2), .ref i1])), (t2, .inr (18, [.int (-3), .ref i2])), (i1, .inl (kT, 0, .inr (.inr (.inr (.inr (fun _ => none)))))), (i2, .inl (kT, 0, .inr (.inr (.inr (.inr (fun _ => none)))))), (mm, .inr (21, [.int th, .ref ms, .ref mt, .ref mh, .ref me])), (mt, .inr (1, [.int mo, .ref ma, .int 3]))] := hD
  have hK : va_K (dC, dI) vwCl [(kO, .object "java/lang/Object"), (kT, .object "HornbookModel$Tree")] s := by simpa using hK
  have hw_2 : r_1 = 0 := hw_2
  have hw_2 := hw_2.symm
  subst hw_2
  refine lv_if_ne (tgt := 26) hx hb dX19_wouldChoose_6 (by decide) (fun c_3 => ?_) (fun c_3 => ?_)
  · exact absurd (by decide) c_3
  refine lv_aload_n hx hb dX19_wouldChoose_9 rfl (lv_at hl 0 rfl) ?_
  refine lv_iload_n hx hb dX19_wouldChoose_10 rfl (lv_at hl 3 rfl) ?_
  refine z_i (wr := [(mh, .inr (1, [.int 0, .ref eD, .int 0])), (ma, .inl (kO, 10, .inr (.inr (.inr (.inr (zfT t0 t1 t2)))))), (t1, .inr (18, [.int (-2), .ref i1])), (t2, .inr (18, [.int (-3), .ref i2])), (i1, .inl (kT, 0, .inr (.inr (.inr (.inr (fun _ => none)))))), (i2, .inl (kT, 0, .inr (.inr (.inr (.inr (fun _ => none))))))]) (va_runV (As := [.int 2]) (rest := [.ref mm]) ⟨hx, hb, hml, hown, hts⟩ (c_M_isNoTypeN_ok l eD eI ad dC dI H.size mm ms mt mh me th ((.int mo)) ((.ref ma)) 2 (by decide) (by decide) (by decide)) (cwV 1 hts g_c_M_would_23 rfl rfl rfl (by decide +kernel) ⟨Nat.le_of_ble_eq_true rfl, Nat.le_of_ble_eq_true rfl⟩) (z_preV (wc := [(mm, .inr (21, [.int th, .ref ms, .ref mt, .ref mh, .ref me])), (mt, .inr (1, [.int mo, .ref ma, .int 3]))]) hP hD hK hS hA hE [6, 7] [] rfl (by decide) rfl (ci := 21) (q0 := 0) rfl rfl) rfl rfl hl.1 rfl (lv_room (Nat.le_of_ble_eq_true rfl)) dX19_wouldChoose_11 ⟨Nat.le_of_ble_eq_true rfl, Nat.le_of_ble_eq_true rfl⟩) hP hD hK hS hA [6, 7] [0, 1, 2, 3, 4, 5] rfl rfl (by decide) (by decide) (fun r_4 u H locs hw_5 hP hD hK hS => ?_)
  obtain ⟨⟩ := u
  have hP : va_P (dC, dI) vwCl [(mh, .inr (1, [.int 0, .ref eD, .int 0])), (ma, .inl (kO, 10, .inr (.inr (.inr (.inr (zfT t0 t1 t2)))))), (t1, .inr (18, [.int (-2), .ref i1])), (t2, .inr (18, [.int (-3), .ref i2])), (i1, .inl (kT, 0, .inr (.inr (.inr (.inr (fun _ => none)))))), (i2, .inl (kT, 0, .inr (.inr (.inr (.inr (fun _ => none)))))), (mm, .inr (21, [.int th, .ref ms, .ref mt, .ref mh, .ref me])), (mt, .inr (1, [.int mo, .ref ma, .int 3]))] H := hP
  have hD : va_D A [(mh, .inr (1, [.int 0, .ref eD, .int 0])), (ma, .inl (kO, 10, .inr (.inr (.inr (.inr (zfT t0 t1 t2)))))), (t1, .inr (18, [.int (-2), .ref i1])), (t2, .inr (18, [.int (-3), .ref i2])), (i1, .inl (kT, 0, .inr (.inr (.inr (.inr (fun _ => none)))))), (i2, .inl (kT, 0, .inr (.inr (.inr (.inr (fun _ => none)))))), (mm, .inr (21, [.int th, .ref ms, .ref mt, .ref mh, .ref me])), (mt, .inr (1, [.int mo, .ref ma, .int 3]))] := hD
  have hK : va_K (dC, dI) vwCl [(kO, .object "java/lang/Object"), (kT, .object "HornbookModel$Tree")] s := by simpa using hK
  have hw_5 : r_4 = 0 := hw_5
  have hw_5 := hw_5.symm
  subst hw_5
  refine lv_if_ne (tgt := 26) hx hb dX19_wouldChoose_14 (by decide) (fun c_6 => ?_) (fun c_6 => ?_)
  · exact absurd (by decide) c_6
  refine lv_aload_n hx hb dX19_wouldChoose_17 rfl (lv_at hl 0 rfl) ?_
  refine lv_iload hx hb dX19_wouldChoose_18 (lv_at hl 4 rfl) ?_
  refine z_i (wr := [(mh, .inr (1, [.int 0, .ref eD, .int 0])), (ma, .inl (kO, 10, .inr (.inr (.inr (.inr (zfT t0 t1 t2)))))), (t1, .inr (18, [.int (-2), .ref i1])), (t2, .inr (18, [.int (-3), .ref i2])), (i1, .inl (kT, 0, .inr (.inr (.inr (.inr (fun _ => none)))))), (i2, .inl (kT, 0, .inr (.inr (.inr (.inr (fun _ => none))))))]) (va_runV (As := [.int (-1)]) (rest := [.ref mm]) ⟨hx, hb, hml, hown, hts⟩ (c_M_isNoTypeN_none l eD eI ad dC dI H.size mm ms mt mh me th ((.int mo)) ((.ref ma))) (cwV 1 hts g_c_M_would_4 rfl rfl rfl (by decide +kernel) ⟨Nat.le_of_ble_eq_true rfl, Nat.le_of_ble_eq_true rfl⟩) (z_preV (wc := [(mm, .inr (21, [.int th, .ref ms, .ref mt, .ref mh, .ref me])), (mt, .inr (1, [.int mo, .ref ma, .int 3]))]) hP hD hK hS hA hE [6, 7] [] rfl (by decide) rfl (ci := 21) (q0 := 0) rfl rfl) rfl rfl hl.1 rfl (lv_room (Nat.le_of_ble_eq_true rfl)) dX19_wouldChoose_20 ⟨Nat.le_of_ble_eq_true rfl, Nat.le_of_ble_eq_true rfl⟩) hP hD hK hS hA [6, 7] [0, 1, 2, 3, 4, 5] rfl rfl (by decide) (by decide) (fun r_7 u H locs hw_8 hP hD hK hS => ?_)
  obtain ⟨⟩ := u
  have hP : va_P (dC, dI) vwCl [(mh, .inr (1, [.int 0, .ref eD, .int 0])), (ma, .inl (kO, 10, .inr (.inr (.inr (.inr (zfT t0 t1 t2)))))), (t1, .inr (18, [.int (-2), .ref i1])), (t2, .inr (18, [.int (-3), .ref i2])), (i1, .inl (kT, 0, .inr (.inr (.inr (.inr (fun _ => none)))))), (i2, .inl (kT, 0, .inr (.inr (.inr (.inr (fun _ => none)))))), (mm, .inr (21, [.int th, .ref ms, .ref mt, .ref mh, .ref me])), (mt, .inr (1, [.int mo, .ref ma, .int 3]))] H := hP
  have hD : va_D A [(mh, .inr (1, [.int 0, .ref eD, .int 0])), (ma, .inl (kO, 10, .inr (.inr (.inr (.inr (zfT t0 t1 t2)))))), (t1, .inr (18, [.int (-2), .ref i1])), (t2, .inr (18, [.int (-3), .ref i2])), (i1, .inl (kT, 0, .inr (.inr (.inr (.inr (fun _ => none)))))), (i2, .inl (kT, 0, .inr (.inr (.inr (.inr (fun _ => none)))))), (mm, .inr (21, [.int th, .ref ms, .ref mt, .ref mh, .ref me])), (mt, .inr (1, [.int mo, .ref ma, .int 3]))] := hD
  have hK : va_K (dC, dI) vwCl [(kO, .object "java/lang/Object"), (kT, .object "HornbookModel$Tree")] s := by simpa using hK
  have hw_8 : r_7 = 0 := hw_8
  have hw_8 := hw_8.symm
  subst hw_8
  refine lv_if_eq (tgt := 30) hx hb dX19_wouldChoose_23 (by decide) (fun c_9 => ?_) (fun c_9 => ?_)
  rotate_left
  · exact absurd (by decide) c_9
  refine lv_iconst (v := 0) hx hb dX19_wouldChoose_30 (by decide) ?_
  refine lv_iconst (v := 1) hx hb dX19_wouldChoose_31 (by decide) ?_
  refine z_i (wr := [(mh, .inr (1, [.int 0, .ref eD, .int 0])), (ma, .inl (kO, 10, .inr (.inr (.inr (.inr (zfT t0 t1 t2)))))), (t1, .inr (18, [.int (-2), .ref i1])), (t2, .inr (18, [.int (-3), .ref i2])), (i1, .inl (kT, 0, .inr (.inr (.inr (.inr (fun _ => none)))))), (i2, .inl (kT, 0, .inr (.inr (.inr (.inr (fun _ => none)))))), (mt, .inr (1, [.int mo, .ref ma, .int 3]))]) (va_runV (As := [.int 0, .int 1]) (rest := []) ⟨hx, hb, hml, hown, hts⟩ (c_M_start_no l eD eI ad dC dI H.size mm ((.ref ms)) ((.ref mt)) ((.ref mh)) ((.ref me)) 1 th) (cwV 2 hts g_c_M_would_5 rfl rfl rfl (by decide +kernel) ⟨Nat.le_of_ble_eq_true rfl, Nat.le_of_ble_eq_true rfl⟩) (z_preV (wc := [(mm, .inr (21, [.int th, .ref ms, .ref mt, .ref mh, .ref me]))]) hP hD hK hS hA hE [6] [] rfl (by decide) rfl (ci := 21) (q0 := 0) rfl rfl) rfl rfl hl.1 rfl (lv_room (Nat.le_of_ble_eq_true rfl)) dX19_wouldChoose_32 ⟨Nat.le_of_ble_eq_true rfl, Nat.le_of_ble_eq_true rfl⟩) hP hD hK hS hA [6] [0, 1, 2, 3, 4, 5, 7] rfl rfl (by decide) (by decide) (fun r_10 u H locs hw_11 hP hD hK hS => ?_)
  obtain ⟨⟩ := u
  have hP : va_P (dC, dI) vwCl [(mh, .inr (1, [.int 0, .ref eD, .int 0])), (ma, .inl (kO, 10, .inr (.inr (.inr (.inr (zfT t0 t1 t2)))))), (t1, .inr (18, [.int (-2), .ref i1])), (t2, .inr (18, [.int (-3), .ref i2])), (i1, .inl (kT, 0, .inr (.inr (.inr (.inr (fun _ => none)))))), (i2, .inl (kT, 0, .inr (.inr (.inr (.inr (fun _ => none)))))), (mt, .inr (1, [.int mo, .ref ma, .int 3])), (mm, .inr (21, [.int 0, .ref ms, .ref mt, .ref mh, .ref me]))] H := hP
  have hD : va_D A [(mh, .inr (1, [.int 0, .ref eD, .int 0])), (ma, .inl (kO, 10, .inr (.inr (.inr (.inr (zfT t0 t1 t2)))))), (t1, .inr (18, [.int (-2), .ref i1])), (t2, .inr (18, [.int (-3), .ref i2])), (i1, .inl (kT, 0, .inr (.inr (.inr (.inr (fun _ => none)))))), (i2, .inl (kT, 0, .inr (.inr (.inr (.inr (fun _ => none)))))), (mt, .inr (1, [.int mo, .ref ma, .int 3])), (mm, .inr (21, [.int 0, .ref ms, .ref mt, .ref mh, .ref me]))] := hD
  have hK : va_K (dC, dI) vwCl [(kO, .object "java/lang/Object"), (kT, .object "HornbookModel$Tree")] s := by simpa using hK
  have hw_11 : r_10 = 0 := hw_11
  have hw_11 := hw_11.symm
  subst hw_11
  refine lv_if_ne (tgt := 72) hx hb dX19_wouldChoose_35 (by decide) (fun c_12 => ?_) (fun c_12 => ?_)
  · exact absurd (by decide) c_12
  refine lv_aload_n hx hb dX19_wouldChoose_38 rfl (lv_at hl 0 rfl) ?_
  refine lv_iload_n hx hb dX19_wouldChoose_39 rfl (lv_at hl 2 rfl) ?_
  refine lv_iconst (v := 0) hx hb dX19_wouldChoose_40 (by decide) ?_
  refine lv_bipush (v := 9) hx hb dX19_wouldChoose_41 (by decide) ?_
  refine z_i (wr := [(mh, .inr (1, [.int 0, .ref eD, .int 0])), (ma, .inl (kO, 10, .inr (.inr (.inr (.inr (zfT t0 t1 t2)))))), (t1, .inr (18, [.int (-2), .ref i1])), (t2, .inr (18, [.int (-3), .ref i2])), (i1, .inl (kT, 0, .inr (.inr (.inr (.inr (fun _ => none)))))), (i2, .inl (kT, 0, .inr (.inr (.inr (.inr (fun _ => none)))))), (mt, .inr (1, [.int mo, .ref ma, .int 3])), (mm, .inr (21, [.int 0, .ref ms, .ref mt, .ref mh, .ref me]))]) (va_runS (As := [.int x2, .int 0, .int 9]) (rest := [.ref mm]) ⟨hx, hb, hml, hown, hts⟩ (c_M_isIn_ok l eD eI ad dC dI H.size x2 0 9 (hx20) (hx21)) (va_cwS 3 hts g_c_M_would_9 rfl rfl rfl (by decide +kernel) ⟨Nat.le_of_ble_eq_true rfl, Nat.le_of_ble_eq_true rfl⟩) (z_preS (wc := []) hP hD hK hS hA hE [] [] rfl (by decide) rfl) rfl rfl hl.1 rfl (lv_room (Nat.le_of_ble_eq_true rfl)) dX19_wouldChoose_43 ⟨Nat.le_of_ble_eq_true rfl, Nat.le_of_ble_eq_true rfl⟩) hP hD hK hS hA [] [0, 1, 2, 3, 4, 5, 6, 7] rfl rfl (by decide) (by decide) (fun r_13 u H locs hw_14 hP hD hK hS => ?_)
  obtain ⟨⟩ := u
  have hP : va_P (dC, dI) vwCl [(mh, .inr (1, [.int 0, .ref eD, .int 0])), (ma, .inl (kO, 10, .inr (.inr (.inr (.inr (zfT t0 t1 t2)))))), (t1, .inr (18, [.int (-2), .ref i1])), (t2, .inr (18, [.int (-3), .ref i2])), (i1, .inl (kT, 0, .inr (.inr (.inr (.inr (fun _ => none)))))), (i2, .inl (kT, 0, .inr (.inr (.inr (.inr (fun _ => none)))))), (mt, .inr (1, [.int mo, .ref ma, .int 3])), (mm, .inr (21, [.int 0, .ref ms, .ref mt, .ref mh, .ref me]))] H := hP
  have hD : va_D A [(mh, .inr (1, [.int 0, .ref eD, .int 0])), (ma, .inl (kO, 10, .inr (.inr (.inr (.inr (zfT t0 t1 t2)))))), (t1, .inr (18, [.int (-2), .ref i1])), (t2, .inr (18, [.int (-3), .ref i2])), (i1, .inl (kT, 0, .inr (.inr (.inr (.inr (fun _ => none)))))), (i2, .inl (kT, 0, .inr (.inr (.inr (.inr (fun _ => none)))))), (mt, .inr (1, [.int mo, .ref ma, .int 3])), (mm, .inr (21, [.int 0, .ref ms, .ref mt, .ref mh, .ref me]))] := hD
  have hK : va_K (dC, dI) vwCl [(kO, .object "java/lang/Object"), (kT, .object "HornbookModel$Tree")] s := by simpa using hK
  have hw_14 : r_13 = 1 := hw_14
  have hw_14 := hw_14.symm
  subst hw_14
  refine lv_if_eq (tgt := 60) hx hb dX19_wouldChoose_46 (by decide) (fun c_15 => ?_) (fun c_15 => ?_)
  · exact absurd c_15 (by decide)
  refine lv_iload_n hx hb dX19_wouldChoose_49 rfl (lv_at hl 3 rfl) ?_
  refine lv_iconst (v := (-1)) hx hb dX19_wouldChoose_50 (by decide) ?_
  refine lv_icmp_ne (tgt := 64) hx hb dX19_wouldChoose_51 (by decide) (fun c_16 => ?_) (fun c_16 => ?_)
  rotate_left
  · exact absurd c_16 (by decide)
  refine lv_iconst (v := 0) hx hb dX19_wouldChoose_64 (by decide) ?_
  refine lv_iconst (v := 2) hx hb dX19_wouldChoose_65 (by decide) ?_
  refine z_i (wr := [(mh, .inr (1, [.int 0, .ref eD, .int 0])), (ma, .inl (kO, 10, .inr (.inr (.inr (.inr (zfT t0 t1 t2)))))), (t1, .inr (18, [.int (-2), .ref i1])), (t2, .inr (18, [.int (-3), .ref i2])), (i1, .inl (kT, 0, .inr (.inr (.inr (.inr (fun _ => none)))))), (i2, .inl (kT, 0, .inr (.inr (.inr (.inr (fun _ => none)))))), (mt, .inr (1, [.int mo, .ref ma, .int 3]))]) (va_runV (As := [.int 0, .int 2]) (rest := []) ⟨hx, hb, hml, hown, hts⟩ (c_M_refuse_no l eD eI ad dC dI H.size mm ((.ref ms)) ((.ref mt)) ((.ref mh)) ((.ref me)) 2) (cwV 2 hts g_c_M_would_10 rfl rfl rfl (by decide +kernel) ⟨Nat.le_of_ble_eq_true rfl, Nat.le_of_ble_eq_true rfl⟩) (z_preV (wc := [(mm, .inr (21, [.int 0, .ref ms, .ref mt, .ref mh, .ref me]))]) hP hD hK hS hA hE [7] [] rfl (by decide) rfl (ci := 21) (q0 := 0) rfl rfl) rfl rfl hl.1 rfl (lv_room (Nat.le_of_ble_eq_true rfl)) dX19_wouldChoose_66 ⟨Nat.le_of_ble_eq_true rfl, Nat.le_of_ble_eq_true rfl⟩) hP hD hK hS hA [7] [0, 1, 2, 3, 4, 5, 6] rfl rfl (by decide) (by decide) (fun r_17 u H locs hw_18 hP hD hK hS => ?_)
  obtain ⟨⟩ := u
  have hP : va_P (dC, dI) vwCl [(mh, .inr (1, [.int 0, .ref eD, .int 0])), (ma, .inl (kO, 10, .inr (.inr (.inr (.inr (zfT t0 t1 t2)))))), (t1, .inr (18, [.int (-2), .ref i1])), (t2, .inr (18, [.int (-3), .ref i2])), (i1, .inl (kT, 0, .inr (.inr (.inr (.inr (fun _ => none)))))), (i2, .inl (kT, 0, .inr (.inr (.inr (.inr (fun _ => none)))))), (mt, .inr (1, [.int mo, .ref ma, .int 3])), (mm, .inr (21, [.int 0, .ref ms, .ref mt, .ref mh, .ref me]))] H := hP
  have hD : va_D A [(mh, .inr (1, [.int 0, .ref eD, .int 0])), (ma, .inl (kO, 10, .inr (.inr (.inr (.inr (zfT t0 t1 t2)))))), (t1, .inr (18, [.int (-2), .ref i1])), (t2, .inr (18, [.int (-3), .ref i2])), (i1, .inl (kT, 0, .inr (.inr (.inr (.inr (fun _ => none)))))), (i2, .inl (kT, 0, .inr (.inr (.inr (.inr (fun _ => none)))))), (mt, .inr (1, [.int mo, .ref ma, .int 3])), (mm, .inr (21, [.int 0, .ref ms, .ref mt, .ref mh, .ref me]))] := hD
  have hK : va_K (dC, dI) vwCl [(kO, .object "java/lang/Object"), (kT, .object "HornbookModel$Tree")] s := by simpa using hK
  have hw_18 : r_17 = 0 := hw_18
  have hw_18 := hw_18.symm
  subst hw_18
  refine lv_if_eq (tgt := 74) hx hb dX19_wouldChoose_69 (by decide) (fun c_19 => ?_) (fun c_19 => ?_)
  rotate_left
  · exact absurd (by decide) c_19
  refine lv_aload_n hx hb dX19_wouldChoose_74 rfl (lv_at hl 0 rfl) ?_
  refine lv_iload_n hx hb dX19_wouldChoose_75 rfl (lv_at hl 3 rfl) ?_
  refine lv_iload hx hb dX19_wouldChoose_76 (lv_at hl 4 rfl) ?_
  refine z_q (wr := [(mh, .inr (1, [.int 0, .ref eD, .int 0])), (t1, .inr (18, [.int (-2), .ref i1])), (i1, .inl (kT, 0, .inr (.inr (.inr (.inr (fun _ => none)))))), (i2, .inl (kT, 0, .inr (.inr (.inr (.inr (fun _ => none))))))]) (va_runV (As := [.int 2, .int (-1)]) (rest := []) ⟨hx, hb, hml, hown, hts⟩ (c_M_trees_2 l eD eI ad dC dI H.size mm ms mt mh me 0 mo ma kO t0 t1 t2 ((.ref i2))) (cwV 2 hts g_c_M_would_26 rfl rfl rfl (by decide +kernel) ⟨Nat.le_of_ble_eq_true rfl, Nat.le_of_ble_eq_true rfl⟩) (z_preV (wc := [(mm, .inr (21, [.int 0, .ref ms, .ref mt, .ref mh, .ref me])), (mt, .inr (1, [.int mo, .ref ma, .int 3])), (ma, .inl (kO, 10, .inr (.inr (.inr (.inr (zfT t0 t1 t2)))))), (t2, .inr (18, [.int (-3), .ref i2]))]) hP hD hK hS hA hE [7, 6, 1, 3] [0] rfl (by decide) rfl (ci := 21) (q0 := 0) rfl rfl) rfl rfl hl.1 rfl (lv_room (Nat.le_of_ble_eq_true rfl)) dX19_wouldChoose_78 ⟨Nat.le_of_ble_eq_true rfl, Nat.le_of_ble_eq_true rfl⟩) hP hD hK hS hA [7, 6, 1, 3] [0, 2, 4, 5] rfl rfl (by decide) (by decide) (fun r_22 u H locs hw_23 hP hD hK hS => ?_)
  obtain ⟨u_20, u_21⟩ := u
  have hP : va_P (dC, dI) vwCl [(mh, .inr (1, [.int 0, .ref eD, .int 0])), (t1, .inr (18, [.int (-2), .ref i1])), (i1, .inl (kT, 0, .inr (.inr (.inr (.inr (fun _ => none)))))), (i2, .inl (kT, 0, .inr (.inr (.inr (.inr (fun _ => none)))))), (mm, .inr (21, [.int 0, .ref ms, .ref mt, .ref mh, .ref me])), (mt, .inr (1, [.int mo, .ref ma, .int 3])), (ma, .inl (kO, 10, .inr (.inr (.inr (.inr (zfT t0 t1 t2)))))), (t2, .inr (18, [.int (-3), .ref i2])), (u_20, .inl (u_21, 1, .inr (.inr (.inr (.inr (va_up (fun _ => none) (0 : Int32).toNatClampNeg (some t2)))))))] H := hP
  have hD : va_D A [(mh, .inr (1, [.int 0, .ref eD, .int 0])), (t1, .inr (18, [.int (-2), .ref i1])), (i1, .inl (kT, 0, .inr (.inr (.inr (.inr (fun _ => none)))))), (i2, .inl (kT, 0, .inr (.inr (.inr (.inr (fun _ => none)))))), (mm, .inr (21, [.int 0, .ref ms, .ref mt, .ref mh, .ref me])), (mt, .inr (1, [.int mo, .ref ma, .int 3])), (ma, .inl (kO, 10, .inr (.inr (.inr (.inr (zfT t0 t1 t2)))))), (t2, .inr (18, [.int (-3), .ref i2])), (u_20, .inl (u_21, 1, .inr (.inr (.inr (.inr (va_up (fun _ => none) (0 : Int32).toNatClampNeg (some t2)))))))] := hD
  have hK : va_K (dC, dI) vwCl [(kO, .object "java/lang/Object"), (kT, .object "HornbookModel$Tree"), (kO, .object "java/lang/Object"), (u_21, .object "HornbookModel$Tree")] s := hK
  have hw_23 : r_22 = some u_20 := hw_23
  have hw_23 := hw_23.symm
  subst hw_23
  refine W.eq (g2 := F0 m 81 ls (.ref u_20 :: [])) rfl ?_
  refine lv_astore (lv' := [(5, .ref u_20), (0, .ref mm), (1, .int 1), (2, .int x2), (3, .int 2), (4, .int (-1))]) hx hb dX19_wouldChoose_81 hl (by decide) rfl (fun ls hl => ?_)
  refine lv_aload_n hx hb dX19_wouldChoose_83 rfl (lv_at hl 1 rfl) ?_
  refine lv_iload_n hx hb dX19_wouldChoose_84 rfl (lv_at hl 2 rfl) ?_
  refine z_q (wr := [(mh, .inr (1, [.int 0, .ref eD, .int 0])), (i1, .inl (kT, 0, .inr (.inr (.inr (.inr (fun _ => none)))))), (i2, .inl (kT, 0, .inr (.inr (.inr (.inr (fun _ => none)))))), (t2, .inr (18, [.int (-3), .ref i2])), (u_20, .inl (u_21, 1, .inr (.inr (.inr (.inr (va_up (fun _ => none) (0 : Int32).toNatClampNeg (some t2)))))))]) (va_runV (As := [.int 1]) (rest := []) ⟨hx, hb, hml, hown, hts⟩ (c_M_type_1 l eD eI ad dC dI H.size mm ms mt mh me 0 mo ma kO t0 t1 t2 ((.ref i1))) (cwV 1 hts g_c_M_would_17 rfl rfl rfl (by decide +kernel) ⟨Nat.le_of_ble_eq_true rfl, Nat.le_of_ble_eq_true rfl⟩) (z_preV (wc := [(mm, .inr (21, [.int 0, .ref ms, .ref mt, .ref mh, .ref me])), (mt, .inr (1, [.int mo, .ref ma, .int 3])), (ma, .inl (kO, 10, .inr (.inr (.inr (.inr (zfT t0 t1 t2)))))), (t1, .inr (18, [.int (-2), .ref i1]))]) hP hD hK hS hA hE [4, 5, 6, 1] [0] rfl (by decide) rfl (ci := 21) (q0 := 0) rfl rfl) rfl rfl hl.1 rfl (lv_room (Nat.le_of_ble_eq_true rfl)) dX19_wouldChoose_85 ⟨Nat.le_of_ble_eq_true rfl, Nat.le_of_ble_eq_true rfl⟩) hP hD hK hS hA [4, 5, 6, 1] [0, 2, 3, 7, 8] rfl rfl (by decide) (by decide) (fun r_24 u H locs hw_25 hP hD hK hS => ?_)
  obtain ⟨⟩ := u
  have hP : va_P (dC, dI) vwCl [(mh, .inr (1, [.int 0, .ref eD, .int 0])), (i1, .inl (kT, 0, .inr (.inr (.inr (.inr (fun _ => none)))))), (i2, .inl (kT, 0, .inr (.inr (.inr (.inr (fun _ => none)))))), (t2, .inr (18, [.int (-3), .ref i2])), (u_20, .inl (u_21, 1, .inr (.inr (.inr (.inr (va_up (fun _ => none) (0 : Int32).toNatClampNeg (some t2))))))), (mm, .inr (21, [.int 0, .ref ms, .ref mt, .ref mh, .ref me])), (mt, .inr (1, [.int mo, .ref ma, .int 3])), (ma, .inl (kO, 10, .inr (.inr (.inr (.inr (zfT t0 t1 t2)))))), (t1, .inr (18, [.int (-2), .ref i1]))] H := hP
  have hD : va_D A [(mh, .inr (1, [.int 0, .ref eD, .int 0])), (i1, .inl (kT, 0, .inr (.inr (.inr (.inr (fun _ => none)))))), (i2, .inl (kT, 0, .inr (.inr (.inr (.inr (fun _ => none)))))), (t2, .inr (18, [.int (-3), .ref i2])), (u_20, .inl (u_21, 1, .inr (.inr (.inr (.inr (va_up (fun _ => none) (0 : Int32).toNatClampNeg (some t2))))))), (mm, .inr (21, [.int 0, .ref ms, .ref mt, .ref mh, .ref me])), (mt, .inr (1, [.int mo, .ref ma, .int 3])), (ma, .inl (kO, 10, .inr (.inr (.inr (.inr (zfT t0 t1 t2)))))), (t1, .inr (18, [.int (-2), .ref i1]))] := hD
  have hK : va_K (dC, dI) vwCl [(kO, .object "java/lang/Object"), (kT, .object "HornbookModel$Tree"), (kO, .object "java/lang/Object"), (u_21, .object "HornbookModel$Tree")] s := by simpa using hK
  have hw_25 : r_24 = some t1 := hw_25
  have hw_25 := hw_25.symm
  subst hw_25
  refine W.eq (g2 := F0 m 88 ls (.ref t1 :: [])) rfl ?_
  refine z_i (wr := [(mh, .inr (1, [.int 0, .ref eD, .int 0])), (i2, .inl (kT, 0, .inr (.inr (.inr (.inr (fun _ => none)))))), (t2, .inr (18, [.int (-3), .ref i2])), (u_20, .inl (u_21, 1, .inr (.inr (.inr (.inr (va_up (fun _ => none) (0 : Int32).toNatClampNeg (some t2))))))), (mm, .inr (21, [.int 0, .ref ms, .ref mt, .ref mh, .ref me])), (mt, .inr (1, [.int mo, .ref ma, .int 3])), (ma, .inl (kO, 10, .inr (.inr (.inr (.inr (zfT t0 t1 t2))))))]) (va_runV (As := []) (rest := []) ⟨hx, hb, hml, hown, hts⟩ (c_T_isClosed_2 l eD eI ad dC dI H.size t1 i1 kT) (cwV 0 hts g_c_M_would_18 rfl rfl rfl (by decide +kernel) ⟨Nat.le_of_ble_eq_true rfl, Nat.le_of_ble_eq_true rfl⟩) (z_preV (wc := [(t1, .inr (18, [.int (-2), .ref i1])), (i1, .inl (kT, 0, .inr (.inr (.inr (.inr (fun _ => none))))))]) hP hD hK hS hA hE [8, 1] [1] rfl (by decide) rfl (ci := 18) (q0 := 0) rfl rfl) rfl rfl hl.1 rfl (lv_room (Nat.le_of_ble_eq_true rfl)) dX19_wouldChoose_88 ⟨Nat.le_of_ble_eq_true rfl, Nat.le_of_ble_eq_true rfl⟩) hP hD hK hS hA [8, 1] [0, 2, 3, 4, 5, 6, 7] rfl rfl (by decide) (by decide) (fun r_26 u H locs hw_27 hP hD hK hS => ?_)
  obtain ⟨⟩ := u
  have hP : va_P (dC, dI) vwCl [(mh, .inr (1, [.int 0, .ref eD, .int 0])), (i2, .inl (kT, 0, .inr (.inr (.inr (.inr (fun _ => none)))))), (t2, .inr (18, [.int (-3), .ref i2])), (u_20, .inl (u_21, 1, .inr (.inr (.inr (.inr (va_up (fun _ => none) (0 : Int32).toNatClampNeg (some t2))))))), (mm, .inr (21, [.int 0, .ref ms, .ref mt, .ref mh, .ref me])), (mt, .inr (1, [.int mo, .ref ma, .int 3])), (ma, .inl (kO, 10, .inr (.inr (.inr (.inr (zfT t0 t1 t2)))))), (t1, .inr (18, [.int (-2), .ref i1])), (i1, .inl (kT, 0, .inr (.inr (.inr (.inr (fun _ => none))))))] H := hP
  have hD : va_D A [(mh, .inr (1, [.int 0, .ref eD, .int 0])), (i2, .inl (kT, 0, .inr (.inr (.inr (.inr (fun _ => none)))))), (t2, .inr (18, [.int (-3), .ref i2])), (u_20, .inl (u_21, 1, .inr (.inr (.inr (.inr (va_up (fun _ => none) (0 : Int32).toNatClampNeg (some t2))))))), (mm, .inr (21, [.int 0, .ref ms, .ref mt, .ref mh, .ref me])), (mt, .inr (1, [.int mo, .ref ma, .int 3])), (ma, .inl (kO, 10, .inr (.inr (.inr (.inr (zfT t0 t1 t2)))))), (t1, .inr (18, [.int (-2), .ref i1])), (i1, .inl (kT, 0, .inr (.inr (.inr (.inr (fun _ => none))))))] := hD
  have hK : va_K (dC, dI) vwCl [(kO, .object "java/lang/Object"), (kT, .object "HornbookModel$Tree"), (kO, .object "java/lang/Object"), (u_21, .object "HornbookModel$Tree")] s := by simpa using hK
  have hw_27 : r_26 = 1 := hw_27
  have hw_27 := hw_27.symm
  subst hw_27
  refine lv_istore (lv' := [(6, .int 1), (5, .ref u_20), (0, .ref mm), (1, .int 1), (2, .int x2), (3, .int 2), (4, .int (-1))]) hx hb dX19_wouldChoose_91 hl (by decide) rfl (fun ls hl => ?_)
  refine lv_aload hx hb dX19_wouldChoose_93 (lv_at hl 1 rfl) ?_
  refine lv_astore (lv' := [(7, .ref u_20), (6, .int 1), (5, .ref u_20), (0, .ref mm), (1, .int 1), (2, .int x2), (3, .int 2), (4, .int (-1))]) hx hb dX19_wouldChoose_95 hl (by decide) rfl (fun ls hl => ?_)
  refine lv_aload hx hb dX19_wouldChoose_97 (lv_at hl 0 rfl) ?_
  refine va_alen (D := (dC, dI)) (v := 1) hx hb hK hP 3 3 rfl rfl rfl dX19_wouldChoose_99 ?_
  refine lv_istore (lv' := [(8, .int 1), (7, .ref u_20), (6, .int 1), (5, .ref u_20), (0, .ref mm), (1, .int 1), (2, .int x2), (3, .int 2), (4, .int (-1))]) hx hb dX19_wouldChoose_100 hl (by decide) rfl (fun ls hl => ?_)
  refine lv_iconst (v := 0) hx hb dX19_wouldChoose_102 (by decide) ?_
  refine lv_istore (lv' := [(9, .int 0), (8, .int 1), (7, .ref u_20), (6, .int 1), (5, .ref u_20), (0, .ref mm), (1, .int 1), (2, .int x2), (3, .int 2), (4, .int (-1))]) hx hb dX19_wouldChoose_103 hl (by decide) rfl (fun ls hl => ?_)
  refine lv_iload hx hb dX19_wouldChoose_105 (lv_at hl 0 rfl) ?_
  refine lv_iload hx hb dX19_wouldChoose_107 (lv_at hl 1 rfl) ?_
  refine lv_icmp_ge (tgt := 135) hx hb dX19_wouldChoose_109 (by decide) (fun c_28 => ?_) (fun c_28 => ?_)
  · exact absurd c_28 (by decide)
  refine lv_aload hx hb dX19_wouldChoose_112 (lv_at hl 2 rfl) ?_
  refine lv_iload hx hb dX19_wouldChoose_114 (lv_at hl 0 rfl) ?_
  refine va_aldq (D := (dC, dI)) hx hb hK hP 3 3 rfl rfl (by unfold vp_in; decide) dX19_wouldChoose_116 ?_
  refine z_top (v' := .ref t2) (by first | rfl | decide | simp [va_up, va_rf]) ?_
  refine lv_astore (lv' := [(10, .ref t2), (9, .int 0), (8, .int 1), (7, .ref u_20), (6, .int 1), (5, .ref u_20), (0, .ref mm), (1, .int 1), (2, .int x2), (3, .int 2), (4, .int (-1))]) hx hb dX19_wouldChoose_117 hl (by decide) rfl (fun ls hl => ?_)
  refine lv_iload hx hb dX19_wouldChoose_119 (lv_at hl 4 rfl) ?_
  refine lv_aload hx hb dX19_wouldChoose_121 (lv_at hl 0 rfl) ?_
  refine z_i (wr := [(mh, .inr (1, [.int 0, .ref eD, .int 0])), (u_20, .inl (u_21, 1, .inr (.inr (.inr (.inr (va_up (fun _ => none) (0 : Int32).toNatClampNeg (some t2))))))), (mm, .inr (21, [.int 0, .ref ms, .ref mt, .ref mh, .ref me])), (mt, .inr (1, [.int mo, .ref ma, .int 3])), (ma, .inl (kO, 10, .inr (.inr (.inr (.inr (zfT t0 t1 t2)))))), (t1, .inr (18, [.int (-2), .ref i1])), (i1, .inl (kT, 0, .inr (.inr (.inr (.inr (fun _ => none))))))]) (va_runV (As := []) (rest := [.int 1]) ⟨hx, hb, hml, hown, hts⟩ (c_T_isClosed_3 l eD eI ad dC dI H.size t2 i2 kT) (cwV 0 hts g_c_M_would_20 rfl rfl rfl (by decide +kernel) ⟨Nat.le_of_ble_eq_true rfl, Nat.le_of_ble_eq_true rfl⟩) (z_preV (wc := [(t2, .inr (18, [.int (-3), .ref i2])), (i2, .inl (kT, 0, .inr (.inr (.inr (.inr (fun _ => none))))))]) hP hD hK hS hA hE [2, 1] [1] rfl (by decide) rfl (ci := 18) (q0 := 0) rfl rfl) rfl rfl hl.1 rfl (lv_room (Nat.le_of_ble_eq_true rfl)) dX19_wouldChoose_123 ⟨Nat.le_of_ble_eq_true rfl, Nat.le_of_ble_eq_true rfl⟩) hP hD hK hS hA [2, 1] [0, 3, 4, 5, 6, 7, 8] rfl rfl (by decide) (by decide) (fun r_29 u H locs hw_30 hP hD hK hS => ?_)
  obtain ⟨⟩ := u
  have hP : va_P (dC, dI) vwCl [(mh, .inr (1, [.int 0, .ref eD, .int 0])), (u_20, .inl (u_21, 1, .inr (.inr (.inr (.inr (va_up (fun _ => none) (0 : Int32).toNatClampNeg (some t2))))))), (mm, .inr (21, [.int 0, .ref ms, .ref mt, .ref mh, .ref me])), (mt, .inr (1, [.int mo, .ref ma, .int 3])), (ma, .inl (kO, 10, .inr (.inr (.inr (.inr (zfT t0 t1 t2)))))), (t1, .inr (18, [.int (-2), .ref i1])), (i1, .inl (kT, 0, .inr (.inr (.inr (.inr (fun _ => none)))))), (t2, .inr (18, [.int (-3), .ref i2])), (i2, .inl (kT, 0, .inr (.inr (.inr (.inr (fun _ => none))))))] H := hP
  have hD : va_D A [(mh, .inr (1, [.int 0, .ref eD, .int 0])), (u_20, .inl (u_21, 1, .inr (.inr (.inr (.inr (va_up (fun _ => none) (0 : Int32).toNatClampNeg (some t2))))))), (mm, .inr (21, [.int 0, .ref ms, .ref mt, .ref mh, .ref me])), (mt, .inr (1, [.int mo, .ref ma, .int 3])), (ma, .inl (kO, 10, .inr (.inr (.inr (.inr (zfT t0 t1 t2)))))), (t1, .inr (18, [.int (-2), .ref i1])), (i1, .inl (kT, 0, .inr (.inr (.inr (.inr (fun _ => none)))))), (t2, .inr (18, [.int (-3), .ref i2])), (i2, .inl (kT, 0, .inr (.inr (.inr (.inr (fun _ => none))))))] := hD
  have hK : va_K (dC, dI) vwCl [(kO, .object "java/lang/Object"), (kT, .object "HornbookModel$Tree"), (kO, .object "java/lang/Object"), (u_21, .object "HornbookModel$Tree")] s := by simpa using hK
  have hw_30 : r_29 = 0 := hw_30
  have hw_30 := hw_30.symm
  subst hw_30
  refine lv_iand hx hb dX19_wouldChoose_126 ?_
  refine z_top (v' := .int 0) (congrArg Value.int (by decide)) ?_
  refine lv_istore (lv' := [(6, .int 0), (10, .ref t2), (9, .int 0), (8, .int 1), (7, .ref u_20), (5, .ref u_20), (0, .ref mm), (1, .int 1), (2, .int x2), (3, .int 2), (4, .int (-1))]) hx hb dX19_wouldChoose_127 hl (by decide) rfl (fun ls hl => ?_)
  refine lv_iinc (v := 1) (lv' := [(9, .int 1), (6, .int 0), (10, .ref t2), (8, .int 1), (7, .ref u_20), (5, .ref u_20), (0, .ref mm), (1, .int 1), (2, .int x2), (3, .int 2), (4, .int (-1))]) hx hb dX19_wouldChoose_129 hl (k := 2) rfl (by decide) (by decide) rfl (fun ls hl => ?_)
  refine lv_goto (tgt := 105) hx hb dX19_wouldChoose_132 (by decide) ?_
  refine lv_iload hx hb dX19_wouldChoose_105 (lv_at hl 0 rfl) ?_
  refine lv_iload hx hb dX19_wouldChoose_107 (lv_at hl 3 rfl) ?_
  refine lv_icmp_ge (tgt := 135) hx hb dX19_wouldChoose_109 (by decide) (fun c_31 => ?_) (fun c_31 => ?_)
  rotate_left
  · exact absurd (by decide) c_31
  refine lv_aload_n hx hb dX19_wouldChoose_135 rfl (lv_at hl 6 rfl) ?_
  refine lv_iload hx hb dX19_wouldChoose_136 (lv_at hl 1 rfl) ?_
  refine lv_if_ne (tgt := 145) hx hb dX19_wouldChoose_138 (by decide) (fun c_32 => ?_) (fun c_32 => ?_)
  · exact absurd (by decide) c_32
  refine lv_iconst (v := 1) hx hb dX19_wouldChoose_141 (by decide) ?_
  refine lv_goto (tgt := 146) hx hb dX19_wouldChoose_142 (by decide) ?_
  refine lv_iconst (v := 2) hx hb dX19_wouldChoose_146 (by decide) ?_
  refine z_i (wr := [(mh, .inr (1, [.int 0, .ref eD, .int 0])), (u_20, .inl (u_21, 1, .inr (.inr (.inr (.inr (va_up (fun _ => none) (0 : Int32).toNatClampNeg (some t2))))))), (mt, .inr (1, [.int mo, .ref ma, .int 3])), (ma, .inl (kO, 10, .inr (.inr (.inr (.inr (zfT t0 t1 t2)))))), (t1, .inr (18, [.int (-2), .ref i1])), (i1, .inl (kT, 0, .inr (.inr (.inr (.inr (fun _ => none)))))), (t2, .inr (18, [.int (-3), .ref i2])), (i2, .inl (kT, 0, .inr (.inr (.inr (.inr (fun _ => none))))))]) (va_runV (As := [.int 1, .int 2]) (rest := []) ⟨hx, hb, hml, hown, hts⟩ (c_M_refuse_yes l eD eI ad dC dI H.size mm ((.ref ms)) ((.ref mt)) ((.ref mh)) ((.ref me)) 2 (by decide)) (cwV 2 hts g_c_M_would_7 rfl rfl rfl (by decide +kernel) ⟨Nat.le_of_ble_eq_true rfl, Nat.le_of_ble_eq_true rfl⟩) (z_preV (wc := [(mm, .inr (21, [.int 0, .ref ms, .ref mt, .ref mh, .ref me]))]) hP hD hK hS hA hE [2] [] rfl (by decide) rfl (ci := 21) (q0 := 0) rfl rfl) rfl rfl hl.1 rfl (lv_room (Nat.le_of_ble_eq_true rfl)) dX19_wouldChoose_147 ⟨Nat.le_of_ble_eq_true rfl, Nat.le_of_ble_eq_true rfl⟩) hP hD hK hS hA [2] [0, 1, 3, 4, 5, 6, 7, 8] rfl rfl (by decide) (by decide) (fun r_33 u H locs hw_34 hP hD hK hS => ?_)
  obtain ⟨⟩ := u
  have hP : va_P (dC, dI) vwCl [(mh, .inr (1, [.int 0, .ref eD, .int 0])), (u_20, .inl (u_21, 1, .inr (.inr (.inr (.inr (va_up (fun _ => none) (0 : Int32).toNatClampNeg (some t2))))))), (mt, .inr (1, [.int mo, .ref ma, .int 3])), (ma, .inl (kO, 10, .inr (.inr (.inr (.inr (zfT t0 t1 t2)))))), (t1, .inr (18, [.int (-2), .ref i1])), (i1, .inl (kT, 0, .inr (.inr (.inr (.inr (fun _ => none)))))), (t2, .inr (18, [.int (-3), .ref i2])), (i2, .inl (kT, 0, .inr (.inr (.inr (.inr (fun _ => none)))))), (mm, .inr (21, [.int 2, .ref ms, .ref mt, .ref mh, .ref me]))] H := hP
  have hD : va_D A [(mh, .inr (1, [.int 0, .ref eD, .int 0])), (u_20, .inl (u_21, 1, .inr (.inr (.inr (.inr (va_up (fun _ => none) (0 : Int32).toNatClampNeg (some t2))))))), (mt, .inr (1, [.int mo, .ref ma, .int 3])), (ma, .inl (kO, 10, .inr (.inr (.inr (.inr (zfT t0 t1 t2)))))), (t1, .inr (18, [.int (-2), .ref i1])), (i1, .inl (kT, 0, .inr (.inr (.inr (.inr (fun _ => none)))))), (t2, .inr (18, [.int (-3), .ref i2])), (i2, .inl (kT, 0, .inr (.inr (.inr (.inr (fun _ => none)))))), (mm, .inr (21, [.int 2, .ref ms, .ref mt, .ref mh, .ref me]))] := hD
  have hK : va_K (dC, dI) vwCl [(kO, .object "java/lang/Object"), (kT, .object "HornbookModel$Tree"), (kO, .object "java/lang/Object"), (u_21, .object "HornbookModel$Tree")] s := by simpa using hK
  have hw_34 : r_33 = 1 := hw_34
  have hw_34 := hw_34.symm
  subst hw_34
  refine lv_if_eq (tgt := 155) hx hb dX19_wouldChoose_150 (by decide) (fun c_35 => ?_) (fun c_35 => ?_)
  · exact absurd c_35 (by decide)
  refine lv_iconst (v := 0) hx hb dX19_wouldChoose_153 (by decide) ?_
  have hP9 := hP.sub (ws' := [(mm, .inr (21, [.int 2, .ref ms, .ref mt, .ref mh, .ref me]))]) [8] rfl
  have hD9 := hD.sub (ws' := [(mm, .inr (21, [.int 2, .ref ms, .ref mt, .ref mh, .ref me]))]) [8] (by decide) rfl
  have hK9 := hK.sub (tys' := []) [] rfl
  refine W.widen (k := 7) (n := 22) (Nat.le_of_ble_eq_true rfl) (Nat.le_of_ble_eq_true rfl) ?_
  exact W.iret (v := 0) hx hb hr (fun t ht hW => ⟨⟨0, (2, 0), rfl, ⟨rfl, by first | decide | simp [hx20, hx21], by first | exact fun h => absurd h (by decide) | exact fun _ => rfl | rfl | decide | simp⟩, ⟨by rw [ht]; exact hP9, va_K.moved hW.alike hK9, hD9⟩⟩, hS.F ht⟩) hS.2.2 dX19_wouldChoose_154

set_option maxHeartbeats 4000000 in
set_option maxRecDepth 100000 in
theorem c_M_would_Fkn20 (l : Launch) (eD eI : Nat) (ad : Nat → Nat) (dC : Nat → ClassId) (dI : Nat → Nat → Nat) (sz : Nat) (mm : Nat) (ms : Nat) (mt : Nat) (mh : Nat) (me : Nat) (mo : Int32) (ma : Nat) (kO : ClassId) (kT : ClassId) (t0 : Nat) (t1 : Nat) (t2 : Nat) (i0 : Nat) (i1 : Nat) (i2 : Nat) (th : Int32) (x2 : Int32) (hx20 : ¬ x2 < 0) (hx21 : ¬ 9 < x2) : Met l yX19_wouldChoose w_c_M_would ({ frames := 6, cells := 7, slots := 22, locals := 123 }) (va_Pc [.ref mm, .int 2, .int x2, .int 0, .int (-1)] (zPre eD eI ad (dC, dI) [(mm, .inr (21, [.int th, .ref ms, .ref mt, .ref mh, .ref me])), (ms, .inr (1, [.int 0, .ref eD, .int 0])), (mt, .inr (1, [.int mo, .ref ma, .int 3])), (mh, .inr (1, [.int 0, .ref eD, .int 0])), (me, .inr (1, [.int 0, .ref eD, .int 0])), (ma, .inl (kO, 10, .inr (.inr (.inr (.inr (zfT t0 t1 t2)))))), (t0, .inr (18, [.int (-1), .ref i0])), (t1, .inr (18, [.int (-2), .ref i1])), (t2, .inr (18, [.int (-3), .ref i2])), (i0, .inl (kT, 0, .inr (.inr (.inr (.inr (fun _ => none)))))), (i1, .inl (kT, 0, .inr (.inr (.inr (.inr (fun _ => none)))))), (i2, .inl (kT, 0, .inr (.inr (.inr (.inr (fun _ => none))))))] [(kO, .object "java/lang/Object"), (kT, .object "HornbookModel$Tree")] sz)) (va_Qi (fun (r : Int32) (u : Int32 × Int32) => match u with | (th2, v2) => r = v2 ∧ th2 = (if (2 : Int32) < 0 ∨ 2 < (2 : Int32) then 1 else if ¬ (0 : Int32) = (-1) ∧ ((0 : Int32) < 0 ∨ 2 < (0 : Int32)) then 1 else if ¬ (-1 : Int32) = (-1) ∧ ((-1 : Int32) < 0 ∨ 2 < (-1 : Int32)) then 1 else if x2 < 0 ∨ 9 < x2 then 2 else if (0 : Int32) = (-1) ∧ ¬ (-1 : Int32) = (-1) then 2 else if (2 : Int32) = 2 ∨ (0 : Int32) = 2 ∨ (-1 : Int32) = 2 then 2 else 0) ∧ (th2 = 0 → v2 = (-1))) (fun (u : Int32 × Int32) => match u with | (th2, v2) => zEnd (dC, dI) (va_A [(mm, .inr (21, [.int th, .ref ms, .ref mt, .ref mh, .ref me])), (ms, .inr (1, [.int 0, .ref eD, .int 0])), (mt, .inr (1, [.int mo, .ref ma, .int 3])), (mh, .inr (1, [.int 0, .ref eD, .int 0])), (me, .inr (1, [.int 0, .ref eD, .int 0])), (ma, .inl (kO, 10, .inr (.inr (.inr (.inr (zfT t0 t1 t2)))))), (t0, .inr (18, [.int (-1), .ref i0])), (t1, .inr (18, [.int (-2), .ref i1])), (t2, .inr (18, [.int (-3), .ref i2])), (i0, .inl (kT, 0, .inr (.inr (.inr (.inr (fun _ => none)))))), (i1, .inl (kT, 0, .inr (.inr (.inr (.inr (fun _ => none)))))), (i2, .inl (kT, 0, .inr (.inr (.inr (.inr (fun _ => none))))))] sz) [(mm, .inr (21, [.int th2, .ref ms, .ref mt, .ref mh, .ref me]))] []) (va_A [(mm, .inr (21, [.int th, .ref ms, .ref mt, .ref mh, .ref me])), (ms, .inr (1, [.int 0, .ref eD, .int 0])), (mt, .inr (1, [.int mo, .ref ma, .int 3])), (mh, .inr (1, [.int 0, .ref eD, .int 0])), (me, .inr (1, [.int 0, .ref eD, .int 0])), (ma, .inl (kO, 10, .inr (.inr (.inr (.inr (zfT t0 t1 t2)))))), (t0, .inr (18, [.int (-1), .ref i0])), (t1, .inr (18, [.int (-2), .ref i1])), (t2, .inr (18, [.int (-3), .ref i2])), (i0, .inl (kT, 0, .inr (.inr (.inr (.inr (fun _ => none)))))), (i1, .inl (kT, 0, .inr (.inr (.inr (.inr (fun _ => none)))))), (i2, .inl (kT, 0, .inr (.inr (.inr (.inr (fun _ => none))))))] sz)) 7 22 (va_A [(mm, .inr (21, [.int th, .ref ms, .ref mt, .ref mh, .ref me])), (ms, .inr (1, [.int 0, .ref eD, .int 0])), (mt, .inr (1, [.int mo, .ref ma, .int 3])), (mh, .inr (1, [.int 0, .ref eD, .int 0])), (me, .inr (1, [.int 0, .ref eD, .int 0])), (ma, .inl (kO, 10, .inr (.inr (.inr (.inr (zfT t0 t1 t2)))))), (t0, .inr (18, [.int (-1), .ref i0])), (t1, .inr (18, [.int (-2), .ref i1])), (t2, .inr (18, [.int (-3), .ref i2])), (i0, .inl (kT, 0, .inr (.inr (.inr (.inr (fun _ => none)))))), (i1, .inl (kT, 0, .inr (.inr (.inr (.inr (fun _ => none)))))), (i2, .inl (kT, 0, .inr (.inr (.inr (.inr (fun _ => none))))))] sz) := by
  refine Met.ofW (cc := cX19_wouldChoose) (maxL := 11) (ret := (some .int)) (by decide) rfl ?_
  intro p e s m args below meth c s₁ B hml hv
  obtain ⟨rfl, hsz, hP, hK, hD0, hE⟩ := hv
  have hx := B.exec
  have hb := B.bytes
  have hr := B.returns
  have hts := atoms_spec (ws := w_c_M_would) B.pre
  have hown : s.vm.findClass RX19 = some m.cls := findClass_of_methodNamed B.named
  have hlocks := B.notSynchronized
  subst hsz
  have hD := hD0.self (sz := s.heap.size)
  generalize hAe : va_A [(mm, .inr (21, [.int th, .ref ms, .ref mt, .ref mh, .ref me])), (ms, .inr (1, [.int 0, .ref eD, .int 0])), (mt, .inr (1, [.int mo, .ref ma, .int 3])), (mh, .inr (1, [.int 0, .ref eD, .int 0])), (me, .inr (1, [.int 0, .ref eD, .int 0])), (ma, .inl (kO, 10, .inr (.inr (.inr (.inr (zfT t0 t1 t2)))))), (t0, .inr (18, [.int (-1), .ref i0])), (t1, .inr (18, [.int (-2), .ref i1])), (t2, .inr (18, [.int (-3), .ref i2])), (i0, .inl (kT, 0, .inr (.inr (.inr (.inr (fun _ => none)))))), (i1, .inl (kT, 0, .inr (.inr (.inr (.inr (fun _ => none)))))), (i2, .inl (kT, 0, .inr (.inr (.inr (.inr (fun _ => none))))))] s.heap.size = A at hD hE ⊢
  have hA : ∀ q : Nat, s.heap.size ≤ q → A q := fun q h => by rw [← hAe]; exact Or.inr h
  have hS : va_S A s.heap s.heap [] := va_S.rf
  have hP : va_P (dC, dI) vwCl [(mm, .inr (21, [.int th, .ref ms, .ref mt, .ref mh, .ref me])), (ms, .inr (1, [.int 0, .ref eD, .int 0])), (mt, .inr (1, [.int mo, .ref ma, .int 3])), (mh, .inr (1, [.int 0, .ref eD, .int 0])), (me, .inr (1, [.int 0, .ref eD, .int 0])), (ma, .inl (kO, 10, .inr (.inr (.inr (.inr (zfT t0 t1 t2)))))), (t0, .inr (18, [.int (-1), .ref i0])), (t1, .inr (18, [.int (-2), .ref i1])), (t2, .inr (18, [.int (-3), .ref i2])), (i0, .inl (kT, 0, .inr (.inr (.inr (.inr (fun _ => none)))))), (i1, .inl (kT, 0, .inr (.inr (.inr (.inr (fun _ => none)))))), (i2, .inl (kT, 0, .inr (.inr (.inr (.inr (fun _ => none))))))] s.heap := hP
  have hl := lv_entry ([.ref mm, .int 2, .int x2, .int 0, .int (-1)]) (n := 11) (Nat.le_of_ble_eq_true rfl)
  rw [lg_entry_eq]
  generalize (lg_sl ([.ref mm, .int 2, .int x2, .int 0, .int (-1)]) ++ List.replicate (11 - (lg_sl ([.ref mm, .int 2, .int x2, .int 0, .int (-1)])).length) Slot.unset).toArray = ls at hl ⊢
  have hl : lv_has ls 11 [(0, .ref mm), (1, .int 2), (2, .int x2), (3, .int 0), (4, .int (-1))] := hl
  have hP := hP.sub (ws' := [(mm, .inr (21, [.int th, .ref ms, .ref mt, .ref mh, .ref me])), (mt, .inr (1, [.int mo, .ref ma, .int 3])), (mh, .inr (1, [.int 0, .ref eD, .int 0])), (ma, .inl (kO, 10, .inr (.inr (.inr (.inr (zfT t0 t1 t2)))))), (t0, .inr (18, [.int (-1), .ref i0])), (t2, .inr (18, [.int (-3), .ref i2])), (i0, .inl (kT, 0, .inr (.inr (.inr (.inr (fun _ => none)))))), (i2, .inl (kT, 0, .inr (.inr (.inr (.inr (fun _ => none))))))]) [0, 2, 3, 5, 6, 8, 9, 11] rfl
  have hD := hD.sub (ws' := [(mm, .inr (21, [.int th, .ref ms, .ref mt, .ref mh, .ref me])), (mt, .inr (1, [.int mo, .ref ma, .int 3])), (mh, .inr (1, [.int 0, .ref eD, .int 0])), (ma, .inl (kO, 10, .inr (.inr (.inr (.inr (zfT t0 t1 t2)))))), (t0, .inr (18, [.int (-1), .ref i0])), (t2, .inr (18, [.int (-3), .ref i2])), (i0, .inl (kT, 0, .inr (.inr (.inr (.inr (fun _ => none)))))), (i2, .inl (kT, 0, .inr (.inr (.inr (.inr (fun _ => none))))))]) [0, 2, 3, 5, 6, 8, 9, 11] (by decide) rfl
  refine lv_aload_n hx hb dX19_wouldChoose_0 rfl (lv_at hl 0 rfl) ?_
  refine lv_aload_n hx hb dX19_wouldChoose_1 rfl (lv_at hl 0 rfl) ?_
  refine lv_iload_n hx hb dX19_wouldChoose_2 rfl (lv_at hl 1 rfl) ?_
  refine z_i (wr := [(mh, .inr (1, [.int 0, .ref eD, .int 0])), (ma, .inl (kO, 10, .inr (.inr (.inr (.inr (zfT t0 t1 t2)))))), (t0, .inr (18, [.int (-1), .ref i0])), (t2, .inr (18, [.int (-3), .ref i2])), (i0, .inl (kT, 0, .inr (.inr (.inr (.inr (fun _ => none)))))), (i2, .inl (kT, 0, .inr (.inr (.inr (.inr (fun _ => none))))))]) (va_runV (As := [.int 2]) (rest := [.ref mm]) ⟨hx, hb, hml, hown, hts⟩ (c_M_isNoType_ok l eD eI ad dC dI s.heap.size mm ms mt mh me th ((.int mo)) ((.ref ma)) 2 (by decide) (by decide)) (cwV 1 hts g_c_M_would_3 rfl rfl rfl (by decide +kernel) ⟨Nat.le_of_ble_eq_true rfl, Nat.le_of_ble_eq_true rfl⟩) (z_preV (wc := [(mm, .inr (21, [.int th, .ref ms, .ref mt, .ref mh, .ref me])), (mt, .inr (1, [.int mo, .ref ma, .int 3]))]) hP hD hK hS hA hE [0, 1] [] rfl (by decide) rfl (ci := 21) (q0 := 0) rfl rfl) rfl rfl hl.1 rfl (lv_room (Nat.le_of_ble_eq_true rfl)) dX19_wouldChoose_3 ⟨Nat.le_of_ble_eq_true rfl, Nat.le_of_ble_eq_true rfl⟩) hP hD hK hS hA [0, 1] [2, 3, 4, 5, 6, 7] rfl rfl (by decide) (by decide) (fun r_1 u H locs hw_2 hP hD hK hS => ?_)
  obtain ⟨⟩ := u
  have hP : va_P (dC, dI) vwCl [(mh, .inr (1, [.int 0, .ref eD, .int 0])), (ma, .inl (kO, 10, .inr (.inr (.inr (.inr (zfT t0 t1 t2)))))), (t0, .inr (18, [.int (-1), .ref i0])), (t2, .inr (18, [.int (-3), .ref i2])), (i0, .inl (kT, 0, .inr (.inr (.inr (.inr (fun _ => none)))))), (i2, .inl (kT, 0, .inr (.inr (.inr (.inr (fun _ => none)))))), (mm, .inr (21, [.int th, .ref ms, .ref mt, .ref mh, .ref me])), (mt, .inr (1, [.int mo, .ref ma, .int 3]))] H := hP
  have hD : va_D A [(mh, .inr (1, [.int 0, .ref eD, .int 0])), (ma, .inl (kO, 10, .inr (.inr (.inr (.inr (zfT t0 t1 t2)))))), (t0, .inr (18, [.int (-1), .ref i0])), (t2, .inr (18, [.int (-3), .ref i2])), (i0, .inl (kT, 0, .inr (.inr (.inr (.inr (fun _ => none)))))), (i2, .inl (kT, 0, .inr (.inr (.inr (.inr (fun _ => none)))))), (mm, .inr (21, [.int th, .ref ms, .ref mt, .ref mh, .ref me])), (mt, .inr (1, [.int mo, .ref ma, .int 3]))] := hD
  have hK : va_K (dC, dI) vwCl [(kO, .object "java/lang/Object"), (kT, .object "HornbookModel$Tree")] s := by simpa using hK
  have hw_2 : r_1 = 0 := hw_2
  have hw_2 := hw_2.symm
  subst hw_2
  refine lv_if_ne (tgt := 26) hx hb dX19_wouldChoose_6 (by decide) (fun c_3 => ?_) (fun c_3 => ?_)
  · exact absurd (by decide) c_3
  refine lv_aload_n hx hb dX19_wouldChoose_9 rfl (lv_at hl 0 rfl) ?_
  refine lv_iload_n hx hb dX19_wouldChoose_10 rfl (lv_at hl 3 rfl) ?_
  refine z_i (wr := [(mh, .inr (1, [.int 0, .ref eD, .int 0])), (ma, .inl (kO, 10, .inr (.inr (.inr (.inr (zfT t0 t1 t2)))))), (t0, .inr (18, [.int (-1), .ref i0])), (t2, .inr (18, [.int (-3), .ref i2])), (i0, .inl (kT, 0, .inr (.inr (.inr (.inr (fun _ => none)))))), (i2, .inl (kT, 0, .inr (.inr (.inr (.inr (fun _ => none))))))]) (va_runV (As := [.int 0]) (rest := [.ref mm]) ⟨hx, hb, hml, hown, hts⟩ (c_M_isNoTypeN_ok l eD eI ad dC dI H.size mm ms mt mh me th ((.int mo)) ((.ref ma)) 0 (by decide) (by decide) (by decide)) (cwV 1 hts g_c_M_would_23 rfl rfl rfl (by decide +kernel) ⟨Nat.le_of_ble_eq_true rfl, Nat.le_of_ble_eq_true rfl⟩) (z_preV (wc := [(mm, .inr (21, [.int th, .ref ms, .ref mt, .ref mh, .ref me])), (mt, .inr (1, [.int mo, .ref ma, .int 3]))]) hP hD hK hS hA hE [6, 7] [] rfl (by decide) rfl (ci := 21) (q0 := 0) rfl rfl) rfl rfl hl.1 rfl (lv_room (Nat.le_of_ble_eq_true rfl)) dX19_wouldChoose_11 ⟨Nat.le_of_ble_eq_true rfl, Nat.le_of_ble_eq_true rfl⟩) hP hD hK hS hA [6, 7] [0, 1, 2, 3, 4, 5] rfl rfl (by decide) (by decide) (fun r_4 u H locs hw_5 hP hD hK hS => ?_)
  obtain ⟨⟩ := u
  have hP : va_P (dC, dI) vwCl [(mh, .inr (1, [.int 0, .ref eD, .int 0])), (ma, .inl (kO, 10, .inr (.inr (.inr (.inr (zfT t0 t1 t2)))))), (t0, .inr (18, [.int (-1), .ref i0])), (t2, .inr (18, [.int (-3), .ref i2])), (i0, .inl (kT, 0, .inr (.inr (.inr (.inr (fun _ => none)))))), (i2, .inl (kT, 0, .inr (.inr (.inr (.inr (fun _ => none)))))), (mm, .inr (21, [.int th, .ref ms, .ref mt, .ref mh, .ref me])), (mt, .inr (1, [.int mo, .ref ma, .int 3]))] H := hP
  have hD : va_D A [(mh, .inr (1, [.int 0, .ref eD, .int 0])), (ma, .inl (kO, 10, .inr (.inr (.inr (.inr (zfT t0 t1 t2)))))), (t0, .inr (18, [.int (-1), .ref i0])), (t2, .inr (18, [.int (-3), .ref i2])), (i0, .inl (kT, 0, .inr (.inr (.inr (.inr (fun _ => none)))))), (i2, .inl (kT, 0, .inr (.inr (.inr (.inr (fun _ => none)))))), (mm, .inr (21, [.int th, .ref ms, .ref mt, .ref mh, .ref me])), (mt, .inr (1, [.int mo, .ref ma, .int 3]))] := hD
  have hK : va_K (dC, dI) vwCl [(kO, .object "java/lang/Object"), (kT, .object "HornbookModel$Tree")] s := by simpa using hK
  have hw_5 : r_4 = 0 := hw_5
  have hw_5 := hw_5.symm
  subst hw_5
  refine lv_if_ne (tgt := 26) hx hb dX19_wouldChoose_14 (by decide) (fun c_6 => ?_) (fun c_6 => ?_)
  · exact absurd (by decide) c_6
  refine lv_aload_n hx hb dX19_wouldChoose_17 rfl (lv_at hl 0 rfl) ?_
  refine lv_iload hx hb dX19_wouldChoose_18 (lv_at hl 4 rfl) ?_
  refine z_i (wr := [(mh, .inr (1, [.int 0, .ref eD, .int 0])), (ma, .inl (kO, 10, .inr (.inr (.inr (.inr (zfT t0 t1 t2)))))), (t0, .inr (18, [.int (-1), .ref i0])), (t2, .inr (18, [.int (-3), .ref i2])), (i0, .inl (kT, 0, .inr (.inr (.inr (.inr (fun _ => none)))))), (i2, .inl (kT, 0, .inr (.inr (.inr (.inr (fun _ => none))))))]) (va_runV (As := [.int (-1)]) (rest := [.ref mm]) ⟨hx, hb, hml, hown, hts⟩ (c_M_isNoTypeN_none l eD eI ad dC dI H.size mm ms mt mh me th ((.int mo)) ((.ref ma))) (cwV 1 hts g_c_M_would_4 rfl rfl rfl (by decide +kernel) ⟨Nat.le_of_ble_eq_true rfl, Nat.le_of_ble_eq_true rfl⟩) (z_preV (wc := [(mm, .inr (21, [.int th, .ref ms, .ref mt, .ref mh, .ref me])), (mt, .inr (1, [.int mo, .ref ma, .int 3]))]) hP hD hK hS hA hE [6, 7] [] rfl (by decide) rfl (ci := 21) (q0 := 0) rfl rfl) rfl rfl hl.1 rfl (lv_room (Nat.le_of_ble_eq_true rfl)) dX19_wouldChoose_20 ⟨Nat.le_of_ble_eq_true rfl, Nat.le_of_ble_eq_true rfl⟩) hP hD hK hS hA [6, 7] [0, 1, 2, 3, 4, 5] rfl rfl (by decide) (by decide) (fun r_7 u H locs hw_8 hP hD hK hS => ?_)
  obtain ⟨⟩ := u
  have hP : va_P (dC, dI) vwCl [(mh, .inr (1, [.int 0, .ref eD, .int 0])), (ma, .inl (kO, 10, .inr (.inr (.inr (.inr (zfT t0 t1 t2)))))), (t0, .inr (18, [.int (-1), .ref i0])), (t2, .inr (18, [.int (-3), .ref i2])), (i0, .inl (kT, 0, .inr (.inr (.inr (.inr (fun _ => none)))))), (i2, .inl (kT, 0, .inr (.inr (.inr (.inr (fun _ => none)))))), (mm, .inr (21, [.int th, .ref ms, .ref mt, .ref mh, .ref me])), (mt, .inr (1, [.int mo, .ref ma, .int 3]))] H := hP
  have hD : va_D A [(mh, .inr (1, [.int 0, .ref eD, .int 0])), (ma, .inl (kO, 10, .inr (.inr (.inr (.inr (zfT t0 t1 t2)))))), (t0, .inr (18, [.int (-1), .ref i0])), (t2, .inr (18, [.int (-3), .ref i2])), (i0, .inl (kT, 0, .inr (.inr (.inr (.inr (fun _ => none)))))), (i2, .inl (kT, 0, .inr (.inr (.inr (.inr (fun _ => none)))))), (mm, .inr (21, [.int th, .ref ms, .ref mt, .ref mh, .ref me])), (mt, .inr (1, [.int mo, .ref ma, .int 3]))] := hD
  have hK : va_K (dC, dI) vwCl [(kO, .object "java/lang/Object"), (kT, .object "HornbookModel$Tree")] s := by simpa using hK
  have hw_8 : r_7 = 0 := hw_8
  have hw_8 := hw_8.symm
  subst hw_8
  refine lv_if_eq (tgt := 30) hx hb dX19_wouldChoose_23 (by decide) (fun c_9 => ?_) (fun c_9 => ?_)
  rotate_left
  · exact absurd (by decide) c_9
  refine lv_iconst (v := 0) hx hb dX19_wouldChoose_30 (by decide) ?_
  refine lv_iconst (v := 1) hx hb dX19_wouldChoose_31 (by decide) ?_
  refine z_i (wr := [(mh, .inr (1, [.int 0, .ref eD, .int 0])), (ma, .inl (kO, 10, .inr (.inr (.inr (.inr (zfT t0 t1 t2)))))), (t0, .inr (18, [.int (-1), .ref i0])), (t2, .inr (18, [.int (-3), .ref i2])), (i0, .inl (kT, 0, .inr (.inr (.inr (.inr (fun _ => none)))))), (i2, .inl (kT, 0, .inr (.inr (.inr (.inr (fun _ => none)))))), (mt, .inr (1, [.int mo, .ref ma, .int 3]))]) (va_runV (As := [.int 0, .int 1]) (rest := []) ⟨hx, hb, hml, hown, hts⟩ (c_M_start_no l eD eI ad dC dI H.size mm ((.ref ms)) ((.ref mt)) ((.ref mh)) ((.ref me)) 1 th) (cwV 2 hts g_c_M_would_5 rfl rfl rfl (by decide +kernel) ⟨Nat.le_of_ble_eq_true rfl, Nat.le_of_ble_eq_true rfl⟩) (z_preV (wc := [(mm, .inr (21, [.int th, .ref ms, .ref mt, .ref mh, .ref me]))]) hP hD hK hS hA hE [6] [] rfl (by decide) rfl (ci := 21) (q0 := 0) rfl rfl) rfl rfl hl.1 rfl (lv_room (Nat.le_of_ble_eq_true rfl)) dX19_wouldChoose_32 ⟨Nat.le_of_ble_eq_true rfl, Nat.le_of_ble_eq_true rfl⟩) hP hD hK hS hA [6] [0, 1, 2, 3, 4, 5, 7] rfl rfl (by decide) (by decide) (fun r_10 u H locs hw_11 hP hD hK hS => ?_)
  obtain ⟨⟩ := u
  have hP : va_P (dC, dI) vwCl [(mh, .inr (1, [.int 0, .ref eD, .int 0])), (ma, .inl (kO, 10, .inr (.inr (.inr (.inr (zfT t0 t1 t2)))))), (t0, .inr (18, [.int (-1), .ref i0])), (t2, .inr (18, [.int (-3), .ref i2])), (i0, .inl (kT, 0, .inr (.inr (.inr (.inr (fun _ => none)))))), (i2, .inl (kT, 0, .inr (.inr (.inr (.inr (fun _ => none)))))), (mt, .inr (1, [.int mo, .ref ma, .int 3])), (mm, .inr (21, [.int 0, .ref ms, .ref mt, .ref mh, .ref me]))] H := hP
  have hD : va_D A [(mh, .inr (1, [.int 0, .ref eD, .int 0])), (ma, .inl (kO, 10, .inr (.inr (.inr (.inr (zfT t0 t1 t2)))))), (t0, .inr (18, [.int (-1), .ref i0])), (t2, .inr (18, [.int (-3), .ref i2])), (i0, .inl (kT, 0, .inr (.inr (.inr (.inr (fun _ => none)))))), (i2, .inl (kT, 0, .inr (.inr (.inr (.inr (fun _ => none)))))), (mt, .inr (1, [.int mo, .ref ma, .int 3])), (mm, .inr (21, [.int 0, .ref ms, .ref mt, .ref mh, .ref me]))] := hD
  have hK : va_K (dC, dI) vwCl [(kO, .object "java/lang/Object"), (kT, .object "HornbookModel$Tree")] s := by simpa using hK
  have hw_11 : r_10 = 0 := hw_11
  have hw_11 := hw_11.symm
  subst hw_11
  refine lv_if_ne (tgt := 72) hx hb dX19_wouldChoose_35 (by decide) (fun c_12 => ?_) (fun c_12 => ?_)
  · exact absurd (by decide) c_12
  refine lv_aload_n hx hb dX19_wouldChoose_38 rfl (lv_at hl 0 rfl) ?_
  refine lv_iload_n hx hb dX19_wouldChoose_39 rfl (lv_at hl 2 rfl) ?_
  refine lv_iconst (v := 0) hx hb dX19_wouldChoose_40 (by decide) ?_
  refine lv_bipush (v := 9) hx hb dX19_wouldChoose_41 (by decide) ?_
  refine z_i (wr := [(mh, .inr (1, [.int 0, .ref eD, .int 0])), (ma, .inl (kO, 10, .inr (.inr (.inr (.inr (zfT t0 t1 t2)))))), (t0, .inr (18, [.int (-1), .ref i0])), (t2, .inr (18, [.int (-3), .ref i2])), (i0, .inl (kT, 0, .inr (.inr (.inr (.inr (fun _ => none)))))), (i2, .inl (kT, 0, .inr (.inr (.inr (.inr (fun _ => none)))))), (mt, .inr (1, [.int mo, .ref ma, .int 3])), (mm, .inr (21, [.int 0, .ref ms, .ref mt, .ref mh, .ref me]))]) (va_runS (As := [.int x2, .int 0, .int 9]) (rest := [.ref mm]) ⟨hx, hb, hml, hown, hts⟩ (c_M_isIn_ok l eD eI ad dC dI H.size x2 0 9 (hx20) (hx21)) (va_cwS 3 hts g_c_M_would_9 rfl rfl rfl (by decide +kernel) ⟨Nat.le_of_ble_eq_true rfl, Nat.le_of_ble_eq_true rfl⟩) (z_preS (wc := []) hP hD hK hS hA hE [] [] rfl (by decide) rfl) rfl rfl hl.1 rfl (lv_room (Nat.le_of_ble_eq_true rfl)) dX19_wouldChoose_43 ⟨Nat.le_of_ble_eq_true rfl, Nat.le_of_ble_eq_true rfl⟩) hP hD hK hS hA [] [0, 1, 2, 3, 4, 5, 6, 7] rfl rfl (by decide) (by decide) (fun r_13 u H locs hw_14 hP hD hK hS => ?_)
  obtain ⟨⟩ := u
  have hP : va_P (dC, dI) vwCl [(mh, .inr (1, [.int 0, .ref eD, .int 0])), (ma, .inl (kO, 10, .inr (.inr (.inr (.inr (zfT t0 t1 t2)))))), (t0, .inr (18, [.int (-1), .ref i0])), (t2, .inr (18, [.int (-3), .ref i2])), (i0, .inl (kT, 0, .inr (.inr (.inr (.inr (fun _ => none)))))), (i2, .inl (kT, 0, .inr (.inr (.inr (.inr (fun _ => none)))))), (mt, .inr (1, [.int mo, .ref ma, .int 3])), (mm, .inr (21, [.int 0, .ref ms, .ref mt, .ref mh, .ref me]))] H := hP
  have hD : va_D A [(mh, .inr (1, [.int 0, .ref eD, .int 0])), (ma, .inl (kO, 10, .inr (.inr (.inr (.inr (zfT t0 t1 t2)))))), (t0, .inr (18, [.int (-1), .ref i0])), (t2, .inr (18, [.int (-3), .ref i2])), (i0, .inl (kT, 0, .inr (.inr (.inr (.inr (fun _ => none)))))), (i2, .inl (kT, 0, .inr (.inr (.inr (.inr (fun _ => none)))))), (mt, .inr (1, [.int mo, .ref ma, .int 3])), (mm, .inr (21, [.int 0, .ref ms, .ref mt, .ref mh, .ref me]))] := hD
  have hK : va_K (dC, dI) vwCl [(kO, .object "java/lang/Object"), (kT, .object "HornbookModel$Tree")] s := by simpa using hK
  have hw_14 : r_13 = 1 := hw_14
  have hw_14 := hw_14.symm
  subst hw_14
  refine lv_if_eq (tgt := 60) hx hb dX19_wouldChoose_46 (by decide) (fun c_15 => ?_) (fun c_15 => ?_)
  · exact absurd c_15 (by decide)
  refine lv_iload_n hx hb dX19_wouldChoose_49 rfl (lv_at hl 3 rfl) ?_
  refine lv_iconst (v := (-1)) hx hb dX19_wouldChoose_50 (by decide) ?_
  refine lv_icmp_ne (tgt := 64) hx hb dX19_wouldChoose_51 (by decide) (fun c_16 => ?_) (fun c_16 => ?_)
  rotate_left
  · exact absurd c_16 (by decide)
  refine lv_iconst (v := 0) hx hb dX19_wouldChoose_64 (by decide) ?_
  refine lv_iconst (v := 2) hx hb dX19_wouldChoose_65 (by decide) ?_
  refine z_i (wr := [(mh, .inr (1, [.int 0, .ref eD, .int 0])), (ma, .inl (kO, 10, .inr (.inr (.inr (.inr (zfT t0 t1 t2)))))), (t0, .inr (18, [.int (-1), .ref i0])), (t2, .inr (18, [.int (-3), .ref i2])), (i0, .inl (kT, 0, .inr (.inr (.inr (.inr (fun _ => none)))))), (i2, .inl (kT, 0, .inr (.inr (.inr (.inr (fun _ => none)))))), (mt, .inr (1, [.int mo, .ref ma, .int 3]))]) (va_runV (As := [.int 0, .int 2]) (rest := []) ⟨hx, hb, hml, hown, hts⟩ (c_M_refuse_no l eD eI ad dC dI H.size mm ((.ref ms)) ((.ref mt)) ((.ref mh)) ((.ref me)) 2) (cwV 2 hts g_c_M_would_10 rfl rfl rfl (by decide +kernel) ⟨Nat.le_of_ble_eq_true rfl, Nat.le_of_ble_eq_true rfl⟩) (z_preV (wc := [(mm, .inr (21, [.int 0, .ref ms, .ref mt, .ref mh, .ref me]))]) hP hD hK hS hA hE [7] [] rfl (by decide) rfl (ci := 21) (q0 := 0) rfl rfl) rfl rfl hl.1 rfl (lv_room (Nat.le_of_ble_eq_true rfl)) dX19_wouldChoose_66 ⟨Nat.le_of_ble_eq_true rfl, Nat.le_of_ble_eq_true rfl⟩) hP hD hK hS hA [7] [0, 1, 2, 3, 4, 5, 6] rfl rfl (by decide) (by decide) (fun r_17 u H locs hw_18 hP hD hK hS => ?_)
  obtain ⟨⟩ := u
  have hP : va_P (dC, dI) vwCl [(mh, .inr (1, [.int 0, .ref eD, .int 0])), (ma, .inl (kO, 10, .inr (.inr (.inr (.inr (zfT t0 t1 t2)))))), (t0, .inr (18, [.int (-1), .ref i0])), (t2, .inr (18, [.int (-3), .ref i2])), (i0, .inl (kT, 0, .inr (.inr (.inr (.inr (fun _ => none)))))), (i2, .inl (kT, 0, .inr (.inr (.inr (.inr (fun _ => none)))))), (mt, .inr (1, [.int mo, .ref ma, .int 3])), (mm, .inr (21, [.int 0, .ref ms, .ref mt, .ref mh, .ref me]))] H := hP
  have hD : va_D A [(mh, .inr (1, [.int 0, .ref eD, .int 0])), (ma, .inl (kO, 10, .inr (.inr (.inr (.inr (zfT t0 t1 t2)))))), (t0, .inr (18, [.int (-1), .ref i0])), (t2, .inr (18, [.int (-3), .ref i2])), (i0, .inl (kT, 0, .inr (.inr (.inr (.inr (fun _ => none)))))), (i2, .inl (kT, 0, .inr (.inr (.inr (.inr (fun _ => none)))))), (mt, .inr (1, [.int mo, .ref ma, .int 3])), (mm, .inr (21, [.int 0, .ref ms, .ref mt, .ref mh, .ref me]))] := hD
  have hK : va_K (dC, dI) vwCl [(kO, .object "java/lang/Object"), (kT, .object "HornbookModel$Tree")] s := by simpa using hK
  have hw_18 : r_17 = 0 := hw_18
  have hw_18 := hw_18.symm
  subst hw_18
  refine lv_if_eq (tgt := 74) hx hb dX19_wouldChoose_69 (by decide) (fun c_19 => ?_) (fun c_19 => ?_)
  rotate_left
  · exact absurd (by decide) c_19
  refine lv_aload_n hx hb dX19_wouldChoose_74 rfl (lv_at hl 0 rfl) ?_
  refine lv_iload_n hx hb dX19_wouldChoose_75 rfl (lv_at hl 3 rfl) ?_
  refine lv_iload hx hb dX19_wouldChoose_76 (lv_at hl 4 rfl) ?_
  refine z_q (wr := [(mh, .inr (1, [.int 0, .ref eD, .int 0])), (t2, .inr (18, [.int (-3), .ref i2])), (i0, .inl (kT, 0, .inr (.inr (.inr (.inr (fun _ => none)))))), (i2, .inl (kT, 0, .inr (.inr (.inr (.inr (fun _ => none))))))]) (va_runV (As := [.int 0, .int (-1)]) (rest := []) ⟨hx, hb, hml, hown, hts⟩ (c_M_trees_0 l eD eI ad dC dI H.size mm ms mt mh me 0 mo ma kO t0 t1 t2 ((.ref i0))) (cwV 2 hts g_c_M_would_24 rfl rfl rfl (by decide +kernel) ⟨Nat.le_of_ble_eq_true rfl, Nat.le_of_ble_eq_true rfl⟩) (z_preV (wc := [(mm, .inr (21, [.int 0, .ref ms, .ref mt, .ref mh, .ref me])), (mt, .inr (1, [.int mo, .ref ma, .int 3])), (ma, .inl (kO, 10, .inr (.inr (.inr (.inr (zfT t0 t1 t2)))))), (t0, .inr (18, [.int (-1), .ref i0]))]) hP hD hK hS hA hE [7, 6, 1, 2] [0] rfl (by decide) rfl (ci := 21) (q0 := 0) rfl rfl) rfl rfl hl.1 rfl (lv_room (Nat.le_of_ble_eq_true rfl)) dX19_wouldChoose_78 ⟨Nat.le_of_ble_eq_true rfl, Nat.le_of_ble_eq_true rfl⟩) hP hD hK hS hA [7, 6, 1, 2] [0, 3, 4, 5] rfl rfl (by decide) (by decide) (fun r_22 u H locs hw_23 hP hD hK hS => ?_)
  obtain ⟨u_20, u_21⟩ := u
  have hP : va_P (dC, dI) vwCl [(mh, .inr (1, [.int 0, .ref eD, .int 0])), (t2, .inr (18, [.int (-3), .ref i2])), (i0, .inl (kT, 0, .inr (.inr (.inr (.inr (fun _ => none)))))), (i2, .inl (kT, 0, .inr (.inr (.inr (.inr (fun _ => none)))))), (mm, .inr (21, [.int 0, .ref ms, .ref mt, .ref mh, .ref me])), (mt, .inr (1, [.int mo, .ref ma, .int 3])), (ma, .inl (kO, 10, .inr (.inr (.inr (.inr (zfT t0 t1 t2)))))), (t0, .inr (18, [.int (-1), .ref i0])), (u_20, .inl (u_21, 1, .inr (.inr (.inr (.inr (va_up (fun _ => none) (0 : Int32).toNatClampNeg (some t0)))))))] H := hP
  have hD : va_D A [(mh, .inr (1, [.int 0, .ref eD, .int 0])), (t2, .inr (18, [.int (-3), .ref i2])), (i0, .inl (kT, 0, .inr (.inr (.inr (.inr (fun _ => none)))))), (i2, .inl (kT, 0, .inr (.inr (.inr (.inr (fun _ => none)))))), (mm, .inr (21, [.int 0, .ref ms, .ref mt, .ref mh, .ref me])), (mt, .inr (1, [.int mo, .ref ma, .int 3])), (ma, .inl (kO, 10, .inr (.inr (.inr (.inr (zfT t0 t1 t2)))))), (t0, .inr (18, [.int (-1), .ref i0])), (u_20, .inl (u_21, 1, .inr (.inr (.inr (.inr (va_up (fun _ => none) (0 : Int32).toNatClampNeg (some t0)))))))] := hD
  have hK : va_K (dC, dI) vwCl [(kO, .object "java/lang/Object"), (kT, .object "HornbookModel$Tree"), (kO, .object "java/lang/Object"), (u_21, .object "HornbookModel$Tree")] s := hK
  have hw_23 : r_22 = some u_20 := hw_23
  have hw_23 := hw_23.symm
  subst hw_23
  refine W.eq (g2 := F0 m 81 ls (.ref u_20 :: [])) rfl ?_
  refine lv_astore (lv' := [(5, .ref u_20), (0, .ref mm), (1, .int 2), (2, .int x2), (3, .int 0), (4, .int (-1))]) hx hb dX19_wouldChoose_81 hl (by decide) rfl (fun ls hl => ?_)
  refine lv_aload_n hx hb dX19_wouldChoose_83 rfl (lv_at hl 1 rfl) ?_
  refine lv_iload_n hx hb dX19_wouldChoose_84 rfl (lv_at hl 2 rfl) ?_
  refine z_q (wr := [(mh, .inr (1, [.int 0, .ref eD, .int 0])), (i0, .inl (kT, 0, .inr (.inr (.inr (.inr (fun _ => none)))))), (i2, .inl (kT, 0, .inr (.inr (.inr (.inr (fun _ => none)))))), (t0, .inr (18, [.int (-1), .ref i0])), (u_20, .inl (u_21, 1, .inr (.inr (.inr (.inr (va_up (fun _ => none) (0 : Int32).toNatClampNeg (some t0)))))))]) (va_runV (As := [.int 2]) (rest := []) ⟨hx, hb, hml, hown, hts⟩ (c_M_type_2 l eD eI ad dC dI H.size mm ms mt mh me 0 mo ma kO t0 t1 t2 ((.ref i2))) (cwV 1 hts g_c_M_would_19 rfl rfl rfl (by decide +kernel) ⟨Nat.le_of_ble_eq_true rfl, Nat.le_of_ble_eq_true rfl⟩) (z_preV (wc := [(mm, .inr (21, [.int 0, .ref ms, .ref mt, .ref mh, .ref me])), (mt, .inr (1, [.int mo, .ref ma, .int 3])), (ma, .inl (kO, 10, .inr (.inr (.inr (.inr (zfT t0 t1 t2)))))), (t2, .inr (18, [.int (-3), .ref i2]))]) hP hD hK hS hA hE [4, 5, 6, 1] [0] rfl (by decide) rfl (ci := 21) (q0 := 0) rfl rfl) rfl rfl hl.1 rfl (lv_room (Nat.le_of_ble_eq_true rfl)) dX19_wouldChoose_85 ⟨Nat.le_of_ble_eq_true rfl, Nat.le_of_ble_eq_true rfl⟩) hP hD hK hS hA [4, 5, 6, 1] [0, 2, 3, 7, 8] rfl rfl (by decide) (by decide) (fun r_24 u H locs hw_25 hP hD hK hS => ?_)
  obtain ⟨⟩ := u
  have hP : va_P (dC, dI) vwCl [(mh, .inr (1, [.int 0, .ref eD, .int 0])), (i0, .inl (kT, 0, .inr (.inr (.inr (.inr (fun _ => none)))))), (i2, .inl (kT, 0, .inr (.inr (.inr (.inr (fun _ => none)))))), (t0, .inr (18, [.int (-1), .ref i0])), (u_20, .inl (u_21, 1, .inr (.inr (.inr (.inr (va_up (fun _ => none) (0 : Int32).toNatClampNeg (some t0))))))), (mm, .inr (21, [.int 0, .ref ms, .ref mt, .ref mh, .ref me])), (mt, .inr (1, [.int mo, .ref ma, .int 3])), (ma, .inl (kO, 10, .inr (.inr (.inr (.inr (zfT t0 t1 t2)))))), (t2, .inr (18, [.int (-3), .ref i2]))] H := hP
  have hD : va_D A [(mh, .inr (1, [.int 0, .ref eD, .int 0])), (i0, .inl (kT, 0, .inr (.inr (.inr (.inr (fun _ => none)))))), (i2, .inl (kT, 0, .inr (.inr (.inr (.inr (fun _ => none)))))), (t0, .inr (18, [.int (-1), .ref i0])), (u_20, .inl (u_21, 1, .inr (.inr (.inr (.inr (va_up (fun _ => none) (0 : Int32).toNatClampNeg (some t0))))))), (mm, .inr (21, [.int 0, .ref ms, .ref mt, .ref mh, .ref me])), (mt, .inr (1, [.int mo, .ref ma, .int 3])), (ma, .inl (kO, 10, .inr (.inr (.inr (.inr (zfT t0 t1 t2)))))), (t2, .inr (18, [.int (-3), .ref i2]))] := hD
  have hK : va_K (dC, dI) vwCl [(kO, .object "java/lang/Object"), (kT, .object "HornbookModel$Tree"), (kO, .object "java/lang/Object"), (u_21, .object "HornbookModel$Tree")] s := by simpa using hK
  have hw_25 : r_24 = some t2 := hw_25
  have hw_25 := hw_25.symm
  subst hw_25
  refine W.eq (g2 := F0 m 88 ls (.ref t2 :: [])) rfl ?_
  refine z_i (wr := [(mh, .inr (1, [.int 0, .ref eD, .int 0])), (i0, .inl (kT, 0, .inr (.inr (.inr (.inr (fun _ => none)))))), (t0, .inr (18, [.int (-1), .ref i0])), (u_20, .inl (u_21, 1, .inr (.inr (.inr (.inr (va_up (fun _ => none) (0 : Int32).toNatClampNeg (some t0))))))), (mm, .inr (21, [.int 0, .ref ms, .ref mt, .ref mh, .ref me])), (mt, .inr (1, [.int mo, .ref ma, .int 3])), (ma, .inl (kO, 10, .inr (.inr (.inr (.inr (zfT t0 t1 t2))))))]) (va_runV (As := []) (rest := []) ⟨hx, hb, hml, hown, hts⟩ (c_T_isClosed_3 l eD eI ad dC dI H.size t2 i2 kT) (cwV 0 hts g_c_M_would_20 rfl rfl rfl (by decide +kernel) ⟨Nat.le_of_ble_eq_true rfl, Nat.le_of_ble_eq_true rfl⟩) (z_preV (wc := [(t2, .inr (18, [.int (-3), .ref i2])), (i2, .inl (kT, 0, .inr (.inr (.inr (.inr (fun _ => none))))))]) hP hD hK hS hA hE [8, 2] [1] rfl (by decide) rfl (ci := 18) (q0 := 0) rfl rfl) rfl rfl hl.1 rfl (lv_room (Nat.le_of_ble_eq_true rfl)) dX19_wouldChoose_88 ⟨Nat.le_of_ble_eq_true rfl, Nat.le_of_ble_eq_true rfl⟩) hP hD hK hS hA [8, 2] [0, 1, 3, 4, 5, 6, 7] rfl rfl (by decide) (by decide) (fun r_26 u H locs hw_27 hP hD hK hS => ?_)
  obtain ⟨⟩ := u
  have hP : va_P (dC, dI) vwCl [(mh, .inr (1, [.int 0, .ref eD, .int 0])), (i0, .inl (kT, 0, .inr (.inr (.inr (.inr (fun _ => none)))))), (t0, .inr (18, [.int (-1), .ref i0])), (u_20, .inl (u_21, 1, .inr (.inr (.inr (.inr (va_up (fun _ => none) (0 : Int32).toNatClampNeg (some t0))))))), (mm, .inr (21, [.int 0, .ref ms, .ref mt, .ref mh, .ref me])), (mt, .inr (1, [.int mo, .ref ma, .int 3])), (ma, .inl (kO, 10, .inr (.inr (.inr (.inr (zfT t0 t1 t2)))))), (t2, .inr (18, [.int (-3), .ref i2])), (i2, .inl (kT, 0, .inr (.inr (.inr (.inr (fun _ => none))))))] H := hP
  have hD : va_D A [(mh, .inr (1, [.int 0, .ref eD, .int 0])), (i0, .inl (kT, 0, .inr (.inr (.inr (.inr (fun _ => none)))))), (t0, .inr (18, [.int (-1), .ref i0])), (u_20, .inl (u_21, 1, .inr (.inr (.inr (.inr (va_up (fun _ => none) (0 : Int32).toNatClampNeg (some t0))))))), (mm, .inr (21, [.int 0, .ref ms, .ref mt, .ref mh, .ref me])), (mt, .inr (1, [.int mo, .ref ma, .int 3])), (ma, .inl (kO, 10, .inr (.inr (.inr (.inr (zfT t0 t1 t2)))))), (t2, .inr (18, [.int (-3), .ref i2])), (i2, .inl (kT, 0, .inr (.inr (.inr (.inr (fun _ => none))))))] := hD
  have hK : va_K (dC, dI) vwCl [(kO, .object "java/lang/Object"), (kT, .object "HornbookModel$Tree"), (kO, .object "java/lang/Object"), (u_21, .object "HornbookModel$Tree")] s := by simpa using hK
  have hw_27 : r_26 = 0 := hw_27
  have hw_27 := hw_27.symm
  subst hw_27
  refine lv_istore (lv' := [(6, .int 0), (5, .ref u_20), (0, .ref mm), (1, .int 2), (2, .int x2), (3, .int 0), (4, .int (-1))]) hx hb dX19_wouldChoose_91 hl (by decide) rfl (fun ls hl => ?_)
  refine lv_aload hx hb dX19_wouldChoose_93 (lv_at hl 1 rfl) ?_
  refine lv_astore (lv' := [(7, .ref u_20), (6, .int 0), (5, .ref u_20), (0, .ref mm), (1, .int 2), (2, .int x2), (3, .int 0), (4, .int (-1))]) hx hb dX19_wouldChoose_95 hl (by decide) rfl (fun ls hl => ?_)
  refine lv_aload hx hb dX19_wouldChoose_97 (lv_at hl 0 rfl) ?_
  refine va_alen (D := (dC, dI)) (v := 1) hx hb hK hP 3 3 rfl rfl rfl dX19_wouldChoose_99 ?_
  refine lv_istore (lv' := [(8, .int 1), (7, .ref u_20), (6, .int 0), (5, .ref u_20), (0, .ref mm), (1, .int 2), (2, .int x2), (3, .int 0), (4, .int (-1))]) hx hb dX19_wouldChoose_100 hl (by decide) rfl (fun ls hl => ?_)
  refine lv_iconst (v := 0) hx hb dX19_wouldChoose_102 (by decide) ?_
  refine lv_istore (lv' := [(9, .int 0), (8, .int 1), (7, .ref u_20), (6, .int 0), (5, .ref u_20), (0, .ref mm), (1, .int 2), (2, .int x2), (3, .int 0), (4, .int (-1))]) hx hb dX19_wouldChoose_103 hl (by decide) rfl (fun ls hl => ?_)
  refine lv_iload hx hb dX19_wouldChoose_105 (lv_at hl 0 rfl) ?_
  refine lv_iload hx hb dX19_wouldChoose_107 (lv_at hl 1 rfl) ?_
  refine lv_icmp_ge (tgt := 135) hx hb dX19_wouldChoose_109 (by decide) (fun c_28 => ?_) (fun c_28 => ?_)
  · exact absurd c_28 (by decide)
  refine lv_aload hx hb dX19_wouldChoose_112 (lv_at hl 2 rfl) ?_
  refine lv_iload hx hb dX19_wouldChoose_114 (lv_at hl 0 rfl) ?_
  refine va_aldq (D := (dC, dI)) hx hb hK hP 3 3 rfl rfl (by unfold vp_in; decide) dX19_wouldChoose_116 ?_
  refine z_top (v' := .ref t0) (by first | rfl | decide | simp [va_up, va_rf]) ?_
  refine lv_astore (lv' := [(10, .ref t0), (9, .int 0), (8, .int 1), (7, .ref u_20), (6, .int 0), (5, .ref u_20), (0, .ref mm), (1, .int 2), (2, .int x2), (3, .int 0), (4, .int (-1))]) hx hb dX19_wouldChoose_117 hl (by decide) rfl (fun ls hl => ?_)
  refine lv_iload hx hb dX19_wouldChoose_119 (lv_at hl 4 rfl) ?_
  refine lv_aload hx hb dX19_wouldChoose_121 (lv_at hl 0 rfl) ?_
  refine z_i (wr := [(mh, .inr (1, [.int 0, .ref eD, .int 0])), (u_20, .inl (u_21, 1, .inr (.inr (.inr (.inr (va_up (fun _ => none) (0 : Int32).toNatClampNeg (some t0))))))), (mm, .inr (21, [.int 0, .ref ms, .ref mt, .ref mh, .ref me])), (mt, .inr (1, [.int mo, .ref ma, .int 3])), (ma, .inl (kO, 10, .inr (.inr (.inr (.inr (zfT t0 t1 t2)))))), (t2, .inr (18, [.int (-3), .ref i2])), (i2, .inl (kT, 0, .inr (.inr (.inr (.inr (fun _ => none))))))]) (va_runV (As := []) (rest := [.int 0]) ⟨hx, hb, hml, hown, hts⟩ (c_T_isClosed_1 l eD eI ad dC dI H.size t0 i0 kT) (cwV 0 hts g_c_M_would_13 rfl rfl rfl (by decide +kernel) ⟨Nat.le_of_ble_eq_true rfl, Nat.le_of_ble_eq_true rfl⟩) (z_preV (wc := [(t0, .inr (18, [.int (-1), .ref i0])), (i0, .inl (kT, 0, .inr (.inr (.inr (.inr (fun _ => none))))))]) hP hD hK hS hA hE [2, 1] [1] rfl (by decide) rfl (ci := 18) (q0 := 0) rfl rfl) rfl rfl hl.1 rfl (lv_room (Nat.le_of_ble_eq_true rfl)) dX19_wouldChoose_123 ⟨Nat.le_of_ble_eq_true rfl, Nat.le_of_ble_eq_true rfl⟩) hP hD hK hS hA [2, 1] [0, 3, 4, 5, 6, 7, 8] rfl rfl (by decide) (by decide) (fun r_29 u H locs hw_30 hP hD hK hS => ?_)
  obtain ⟨⟩ := u
  have hP : va_P (dC, dI) vwCl [(mh, .inr (1, [.int 0, .ref eD, .int 0])), (u_20, .inl (u_21, 1, .inr (.inr (.inr (.inr (va_up (fun _ => none) (0 : Int32).toNatClampNeg (some t0))))))), (mm, .inr (21, [.int 0, .ref ms, .ref mt, .ref mh, .ref me])), (mt, .inr (1, [.int mo, .ref ma, .int 3])), (ma, .inl (kO, 10, .inr (.inr (.inr (.inr (zfT t0 t1 t2)))))), (t2, .inr (18, [.int (-3), .ref i2])), (i2, .inl (kT, 0, .inr (.inr (.inr (.inr (fun _ => none)))))), (t0, .inr (18, [.int (-1), .ref i0])), (i0, .inl (kT, 0, .inr (.inr (.inr (.inr (fun _ => none))))))] H := hP
  have hD : va_D A [(mh, .inr (1, [.int 0, .ref eD, .int 0])), (u_20, .inl (u_21, 1, .inr (.inr (.inr (.inr (va_up (fun _ => none) (0 : Int32).toNatClampNeg (some t0))))))), (mm, .inr (21, [.int 0, .ref ms, .ref mt, .ref mh, .ref me])), (mt, .inr (1, [.int mo, .ref ma, .int 3])), (ma, .inl (kO, 10, .inr (.inr (.inr (.inr (zfT t0 t1 t2)))))), (t2, .inr (18, [.int (-3), .ref i2])), (i2, .inl (kT, 0, .inr (.inr (.inr (.inr (fun _ => none)))))), (t0, .inr (18, [.int (-1), .ref i0])), (i0, .inl (kT, 0, .inr (.inr (.inr (.inr (fun _ => none))))))] := hD
  have hK : va_K (dC, dI) vwCl [(kO, .object "java/lang/Object"), (kT, .object "HornbookModel$Tree"), (kO, .object "java/lang/Object"), (u_21, .object "HornbookModel$Tree")] s := by simpa using hK
  have hw_30 : r_29 = 1 := hw_30
  have hw_30 := hw_30.symm
  subst hw_30
  refine lv_iand hx hb dX19_wouldChoose_126 ?_
  refine z_top (v' := .int 0) (congrArg Value.int (by decide)) ?_
  refine lv_istore (lv' := [(6, .int 0), (10, .ref t0), (9, .int 0), (8, .int 1), (7, .ref u_20), (5, .ref u_20), (0, .ref mm), (1, .int 2), (2, .int x2), (3, .int 0), (4, .int (-1))]) hx hb dX19_wouldChoose_127 hl (by decide) rfl (fun ls hl => ?_)
  refine lv_iinc (v := 1) (lv' := [(9, .int 1), (6, .int 0), (10, .ref t0), (8, .int 1), (7, .ref u_20), (5, .ref u_20), (0, .ref mm), (1, .int 2), (2, .int x2), (3, .int 0), (4, .int (-1))]) hx hb dX19_wouldChoose_129 hl (k := 2) rfl (by decide) (by decide) rfl (fun ls hl => ?_)
  refine lv_goto (tgt := 105) hx hb dX19_wouldChoose_132 (by decide) ?_
  refine lv_iload hx hb dX19_wouldChoose_105 (lv_at hl 0 rfl) ?_
  refine lv_iload hx hb dX19_wouldChoose_107 (lv_at hl 3 rfl) ?_
  refine lv_icmp_ge (tgt := 135) hx hb dX19_wouldChoose_109 (by decide) (fun c_31 => ?_) (fun c_31 => ?_)
  rotate_left
  · exact absurd (by decide) c_31
  refine lv_aload_n hx hb dX19_wouldChoose_135 rfl (lv_at hl 6 rfl) ?_
  refine lv_iload hx hb dX19_wouldChoose_136 (lv_at hl 1 rfl) ?_
  refine lv_if_ne (tgt := 145) hx hb dX19_wouldChoose_138 (by decide) (fun c_32 => ?_) (fun c_32 => ?_)
  · exact absurd (by decide) c_32
  refine lv_iconst (v := 1) hx hb dX19_wouldChoose_141 (by decide) ?_
  refine lv_goto (tgt := 146) hx hb dX19_wouldChoose_142 (by decide) ?_
  refine lv_iconst (v := 2) hx hb dX19_wouldChoose_146 (by decide) ?_
  refine z_i (wr := [(mh, .inr (1, [.int 0, .ref eD, .int 0])), (u_20, .inl (u_21, 1, .inr (.inr (.inr (.inr (va_up (fun _ => none) (0 : Int32).toNatClampNeg (some t0))))))), (mt, .inr (1, [.int mo, .ref ma, .int 3])), (ma, .inl (kO, 10, .inr (.inr (.inr (.inr (zfT t0 t1 t2)))))), (t2, .inr (18, [.int (-3), .ref i2])), (i2, .inl (kT, 0, .inr (.inr (.inr (.inr (fun _ => none)))))), (t0, .inr (18, [.int (-1), .ref i0])), (i0, .inl (kT, 0, .inr (.inr (.inr (.inr (fun _ => none))))))]) (va_runV (As := [.int 1, .int 2]) (rest := []) ⟨hx, hb, hml, hown, hts⟩ (c_M_refuse_yes l eD eI ad dC dI H.size mm ((.ref ms)) ((.ref mt)) ((.ref mh)) ((.ref me)) 2 (by decide)) (cwV 2 hts g_c_M_would_7 rfl rfl rfl (by decide +kernel) ⟨Nat.le_of_ble_eq_true rfl, Nat.le_of_ble_eq_true rfl⟩) (z_preV (wc := [(mm, .inr (21, [.int 0, .ref ms, .ref mt, .ref mh, .ref me]))]) hP hD hK hS hA hE [2] [] rfl (by decide) rfl (ci := 21) (q0 := 0) rfl rfl) rfl rfl hl.1 rfl (lv_room (Nat.le_of_ble_eq_true rfl)) dX19_wouldChoose_147 ⟨Nat.le_of_ble_eq_true rfl, Nat.le_of_ble_eq_true rfl⟩) hP hD hK hS hA [2] [0, 1, 3, 4, 5, 6, 7, 8] rfl rfl (by decide) (by decide) (fun r_33 u H locs hw_34 hP hD hK hS => ?_)
  obtain ⟨⟩ := u
  have hP : va_P (dC, dI) vwCl [(mh, .inr (1, [.int 0, .ref eD, .int 0])), (u_20, .inl (u_21, 1, .inr (.inr (.inr (.inr (va_up (fun _ => none) (0 : Int32).toNatClampNeg (some t0))))))), (mt, .inr (1, [.int mo, .ref ma, .int 3])), (ma, .inl (kO, 10, .inr (.inr (.inr (.inr (zfT t0 t1 t2)))))), (t2, .inr (18, [.int (-3), .ref i2])), (i2, .inl (kT, 0, .inr (.inr (.inr (.inr (fun _ => none)))))), (t0, .inr (18, [.int (-1), .ref i0])), (i0, .inl (kT, 0, .inr (.inr (.inr (.inr (fun _ => none)))))), (mm, .inr (21, [.int 2, .ref ms, .ref mt, .ref mh, .ref me]))] H := hP
  have hD : va_D A [(mh, .inr (1, [.int 0, .ref eD, .int 0])), (u_20, .inl (u_21, 1, .inr (.inr (.inr (.inr (va_up (fun _ => none) (0 : Int32).toNatClampNeg (some t0))))))), (mt, .inr (1, [.int mo, .ref ma, .int 3])), (ma, .inl (kO, 10, .inr (.inr (.inr (.inr (zfT t0 t1 t2)))))), (t2, .inr (18, [.int (-3), .ref i2])), (i2, .inl (kT, 0, .inr (.inr (.inr (.inr (fun _ => none)))))), (t0, .inr (18, [.int (-1), .ref i0])), (i0, .inl (kT, 0, .inr (.inr (.inr (.inr (fun _ => none)))))), (mm, .inr (21, [.int 2, .ref ms, .ref mt, .ref mh, .ref me]))] := hD
  have hK : va_K (dC, dI) vwCl [(kO, .object "java/lang/Object"), (kT, .object "HornbookModel$Tree"), (kO, .object "java/lang/Object"), (u_21, .object "HornbookModel$Tree")] s := by simpa using hK
  have hw_34 : r_33 = 1 := hw_34
  have hw_34 := hw_34.symm
  subst hw_34
  refine lv_if_eq (tgt := 155) hx hb dX19_wouldChoose_150 (by decide) (fun c_35 => ?_) (fun c_35 => ?_)
  · exact absurd c_35 (by decide)
  refine lv_iconst (v := 0) hx hb dX19_wouldChoose_153 (by decide) ?_
  have hP9 := hP.sub (ws' := [(mm, .inr (21, [.int 2, .ref ms, .ref mt, .ref mh, .ref me]))]) [8] rfl
  have hD9 := hD.sub (ws' := [(mm, .inr (21, [.int 2, .ref ms, .ref mt, .ref mh, .ref me]))]) [8] (by decide) rfl
  have hK9 := hK.sub (tys' := []) [] rfl
  refine W.widen (k := 7) (n := 22) (Nat.le_of_ble_eq_true rfl) (Nat.le_of_ble_eq_true rfl) ?_
  exact W.iret (v := 0) hx hb hr (fun t ht hW => ⟨⟨0, (2, 0), rfl, ⟨rfl, by first | decide | simp [hx20, hx21], by first | exact fun h => absurd h (by decide) | exact fun _ => rfl | rfl | decide | simp⟩, ⟨by rw [ht]; exact hP9, va_K.moved hW.alike hK9, hD9⟩⟩, hS.F ht⟩) hS.2.2 dX19_wouldChoose_154

set_option maxHeartbeats 4000000 in
set_option maxRecDepth 100000 in
theorem c_M_would_Fkn21 (l : Launch) (eD eI : Nat) (ad : Nat → Nat) (dC : Nat → ClassId) (dI : Nat → Nat → Nat) (sz : Nat) (mm : Nat) (ms : Nat) (mt : Nat) (mh : Nat) (me : Nat) (mo : Int32) (ma : Nat) (kO : ClassId) (kT : ClassId) (t0 : Nat) (t1 : Nat) (t2 : Nat) (i0 : Nat) (i1 : Nat) (i2 : Nat) (th : Int32) (x2 : Int32) (hx20 : ¬ x2 < 0) (hx21 : ¬ 9 < x2) : Met l yX19_wouldChoose w_c_M_would ({ frames := 6, cells := 7, slots := 22, locals := 123 }) (va_Pc [.ref mm, .int 2, .int x2, .int 1, .int (-1)] (zPre eD eI ad (dC, dI) [(mm, .inr (21, [.int th, .ref ms, .ref mt, .ref mh, .ref me])), (ms, .inr (1, [.int 0, .ref eD, .int 0])), (mt, .inr (1, [.int mo, .ref ma, .int 3])), (mh, .inr (1, [.int 0, .ref eD, .int 0])), (me, .inr (1, [.int 0, .ref eD, .int 0])), (ma, .inl (kO, 10, .inr (.inr (.inr (.inr (zfT t0 t1 t2)))))), (t0, .inr (18, [.int (-1), .ref i0])), (t1, .inr (18, [.int (-2), .ref i1])), (t2, .inr (18, [.int (-3), .ref i2])), (i0, .inl (kT, 0, .inr (.inr (.inr (.inr (fun _ => none)))))), (i1, .inl (kT, 0, .inr (.inr (.inr (.inr (fun _ => none)))))), (i2, .inl (kT, 0, .inr (.inr (.inr (.inr (fun _ => none))))))] [(kO, .object "java/lang/Object"), (kT, .object "HornbookModel$Tree")] sz)) (va_Qi (fun (r : Int32) (u : Int32 × Int32) => match u with | (th2, v2) => r = v2 ∧ th2 = (if (2 : Int32) < 0 ∨ 2 < (2 : Int32) then 1 else if ¬ (1 : Int32) = (-1) ∧ ((1 : Int32) < 0 ∨ 2 < (1 : Int32)) then 1 else if ¬ (-1 : Int32) = (-1) ∧ ((-1 : Int32) < 0 ∨ 2 < (-1 : Int32)) then 1 else if x2 < 0 ∨ 9 < x2 then 2 else if (1 : Int32) = (-1) ∧ ¬ (-1 : Int32) = (-1) then 2 else if (2 : Int32) = 2 ∨ (1 : Int32) = 2 ∨ (-1 : Int32) = 2 then 2 else 0) ∧ (th2 = 0 → v2 = (-1))) (fun (u : Int32 × Int32) => match u with | (th2, v2) => zEnd (dC, dI) (va_A [(mm, .inr (21, [.int th, .ref ms, .ref mt, .ref mh, .ref me])), (ms, .inr (1, [.int 0, .ref eD, .int 0])), (mt, .inr (1, [.int mo, .ref ma, .int 3])), (mh, .inr (1, [.int 0, .ref eD, .int 0])), (me, .inr (1, [.int 0, .ref eD, .int 0])), (ma, .inl (kO, 10, .inr (.inr (.inr (.inr (zfT t0 t1 t2)))))), (t0, .inr (18, [.int (-1), .ref i0])), (t1, .inr (18, [.int (-2), .ref i1])), (t2, .inr (18, [.int (-3), .ref i2])), (i0, .inl (kT, 0, .inr (.inr (.inr (.inr (fun _ => none)))))), (i1, .inl (kT, 0, .inr (.inr (.inr (.inr (fun _ => none)))))), (i2, .inl (kT, 0, .inr (.inr (.inr (.inr (fun _ => none))))))] sz) [(mm, .inr (21, [.int th2, .ref ms, .ref mt, .ref mh, .ref me]))] []) (va_A [(mm, .inr (21, [.int th, .ref ms, .ref mt, .ref mh, .ref me])), (ms, .inr (1, [.int 0, .ref eD, .int 0])), (mt, .inr (1, [.int mo, .ref ma, .int 3])), (mh, .inr (1, [.int 0, .ref eD, .int 0])), (me, .inr (1, [.int 0, .ref eD, .int 0])), (ma, .inl (kO, 10, .inr (.inr (.inr (.inr (zfT t0 t1 t2)))))), (t0, .inr (18, [.int (-1), .ref i0])), (t1, .inr (18, [.int (-2), .ref i1])), (t2, .inr (18, [.int (-3), .ref i2])), (i0, .inl (kT, 0, .inr (.inr (.inr (.inr (fun _ => none)))))), (i1, .inl (kT, 0, .inr (.inr (.inr (.inr (fun _ => none)))))), (i2, .inl (kT, 0, .inr (.inr (.inr (.inr (fun _ => none))))))] sz)) 7 22 (va_A [(mm, .inr (21, [.int th, .ref ms, .ref mt, .ref mh, .ref me])), (ms, .inr (1, [.int 0, .ref eD, .int 0])), (mt, .inr (1, [.int mo, .ref ma, .int 3])), (mh, .inr (1, [.int 0, .ref eD, .int 0])), (me, .inr (1, [.int 0, .ref eD, .int 0])), (ma, .inl (kO, 10, .inr (.inr (.inr (.inr (zfT t0 t1 t2)))))), (t0, .inr (18, [.int (-1), .ref i0])), (t1, .inr (18, [.int (-2), .ref i1])), (t2, .inr (18, [.int (-3), .ref i2])), (i0, .inl (kT, 0, .inr (.inr (.inr (.inr (fun _ => none)))))), (i1, .inl (kT, 0, .inr (.inr (.inr (.inr (fun _ => none)))))), (i2, .inl (kT, 0, .inr (.inr (.inr (.inr (fun _ => none))))))] sz) := by
  refine Met.ofW (cc := cX19_wouldChoose) (maxL := 11) (ret := (some .int)) (by decide) rfl ?_
  intro p e s m args below meth c s₁ B hml hv
  obtain ⟨rfl, hsz, hP, hK, hD0, hE⟩ := hv
  have hx := B.exec
  have hb := B.bytes
  have hr := B.returns
  have hts := atoms_spec (ws := w_c_M_would) B.pre
  have hown : s.vm.findClass RX19 = some m.cls := findClass_of_methodNamed B.named
  have hlocks := B.notSynchronized
  subst hsz
  have hD := hD0.self (sz := s.heap.size)
  generalize hAe : va_A [(mm, .inr (21, [.int th, .ref ms, .ref mt, .ref mh, .ref me])), (ms, .inr (1, [.int 0, .ref eD, .int 0])), (mt, .inr (1, [.int mo, .ref ma, .int 3])), (mh, .inr (1, [.int 0, .ref eD, .int 0])), (me, .inr (1, [.int 0, .ref eD, .int 0])), (ma, .inl (kO, 10, .inr (.inr (.inr (.inr (zfT t0 t1 t2)))))), (t0, .inr (18, [.int (-1), .ref i0])), (t1, .inr (18, [.int (-2), .ref i1])), (t2, .inr (18, [.int (-3), .ref i2])), (i0, .inl (kT, 0, .inr (.inr (.inr (.inr (fun _ => none)))))), (i1, .inl (kT, 0, .inr (.inr (.inr (.inr (fun _ => none)))))), (i2, .inl (kT, 0, .inr (.inr (.inr (.inr (fun _ => none))))))] s.heap.size = A at hD hE ⊢
  have hA : ∀ q : Nat, s.heap.size ≤ q → A q := fun q h => by rw [← hAe]; exact Or.inr h
  have hS : va_S A s.heap s.heap [] := va_S.rf
  have hP : va_P (dC, dI) vwCl [(mm, .inr (21, [.int th, .ref ms, .ref mt, .ref mh, .ref me])), (ms, .inr (1, [.int 0, .ref eD, .int 0])), (mt, .inr (1, [.int mo, .ref ma, .int 3])), (mh, .inr (1, [.int 0, .ref eD, .int 0])), (me, .inr (1, [.int 0, .ref eD, .int 0])), (ma, .inl (kO, 10, .inr (.inr (.inr (.inr (zfT t0 t1 t2)))))), (t0, .inr (18, [.int (-1), .ref i0])), (t1, .inr (18, [.int (-2), .ref i1])), (t2, .inr (18, [.int (-3), .ref i2])), (i0, .inl (kT, 0, .inr (.inr (.inr (.inr (fun _ => none)))))), (i1, .inl (kT, 0, .inr (.inr (.inr (.inr (fun _ => none)))))), (i2, .inl (kT, 0, .inr (.inr (.inr (.inr (fun _ => none))))))] s.heap := hP
  have hl := lv_entry ([.ref mm, .int 2, .int x2, .int 1, .int (-1)]) (n := 11) (Nat.le_of_ble_eq_true rfl)
  rw [lg_entry_eq]
  generalize (lg_sl ([.ref mm, .int 2, .int x2, .int 1, .int (-1)]) ++ List.replicate (11 - (lg_sl ([.ref mm, .int 2, .int x2, .int 1, .int (-1)])).length) Slot.unset).toArray = ls at hl ⊢
  have hl : lv_has ls 11 [(0, .ref mm), (1, .int 2), (2, .int x2), (3, .int 1), (4, .int (-1))] := hl
  have hP := hP.sub (ws' := [(mm, .inr (21, [.int th, .ref ms, .ref mt, .ref mh, .ref me])), (mt, .inr (1, [.int mo, .ref ma, .int 3])), (mh, .inr (1, [.int 0, .ref eD, .int 0])), (ma, .inl (kO, 10, .inr (.inr (.inr (.inr (zfT t0 t1 t2)))))), (t1, .inr (18, [.int (-2), .ref i1])), (t2, .inr (18, [.int (-3), .ref i2])), (i1, .inl (kT, 0, .inr (.inr (.inr (.inr (fun _ => none)))))), (i2, .inl (kT, 0, .inr (.inr (.inr (.inr (fun _ => none))))))]) [0, 2, 3, 5, 7, 8, 10, 11] rfl
  have hD := hD.sub (ws' := [(mm, .inr (21, [.int th, .ref ms, .ref mt, .ref mh, .ref me])), (mt, .inr (1, [.int mo, .ref ma, .int 3])), (mh, .inr (1, [.int 0, .ref eD, .int 0])), (ma, .inl (kO, 10, .inr (.inr (.inr (.inr (zfT t0 t1 t2)))))), (t1, .inr (18, [.int (-2), .ref i1])), (t2, .inr (18, [.int (-3), .ref i2])), (i1, .inl (kT, 0, .inr (.inr (.inr (.inr (fun _ => none)))))), (i2, .inl (kT, 0, .inr (.inr (.inr (.inr (fun _ => none))))))]) [0, 2, 3, 5, 7, 8, 10, 11] (by decide) rfl
  refine lv_aload_n hx hb dX19_wouldChoose_0 rfl (lv_at hl 0 rfl) ?_
  refine lv_aload_n hx hb dX19_wouldChoose_1 rfl (lv_at hl 0 rfl) ?_
  refine lv_iload_n hx hb dX19_wouldChoose_2 rfl (lv_at hl 1 rfl) ?_
  refine z_i (wr := [(mh, .inr (1, [.int 0, .ref eD, .int 0])), (ma, .inl (kO, 10, .inr (.inr (.inr (.inr (zfT t0 t1 t2)))))), (t1, .inr (18, [.int (-2), .ref i1])), (t2, .inr (18, [.int (-3), .ref i2])), (i1, .inl (kT, 0, .inr (.inr (.inr (.inr (fun _ => none)))))), (i2, .inl (kT, 0, .inr (.inr (.inr (.inr (fun _ => none))))))]) (va_runV (As := [.int 2]) (rest := [.ref mm]) ⟨hx, hb, hml, hown, hts⟩ (c_M_isNoType_ok l eD eI ad dC dI s.heap.size mm ms mt mh me th ((.int mo)) ((.ref ma)) 2 (by decide) (by decide)) (cwV 1 hts g_c_M_would_3 rfl rfl rfl (by decide +kernel) ⟨Nat.le_of_ble_eq_true rfl, Nat.le_of_ble_eq_true rfl⟩) (z_preV (wc := [(mm, .inr (21, [.int th, .ref ms, .ref mt, .ref mh, .ref me])), (mt, .inr (1, [.int mo, .ref ma, .int 3]))]) hP hD hK hS hA hE [0, 1] [] rfl (by decide) rfl (ci := 21) (q0 := 0) rfl rfl) rfl rfl hl.1 rfl (lv_room (Nat.le_of_ble_eq_true rfl)) dX19_wouldChoose_3 ⟨Nat.le_of_ble_eq_true rfl, Nat.le_of_ble_eq_true rfl⟩) hP hD hK hS hA [0, 1] [2, 3, 4, 5, 6, 7] rfl rfl (by decide) (by decide) (fun r_1 u H locs hw_2 hP hD hK hS => ?_)
  obtain ⟨⟩ := u
  have hP : va_P (dC, dI) vwCl [(mh, .inr (1, [.int 0, .ref eD, .int 0])), (ma, .inl (kO, 10, .inr (.inr (.inr (.inr (zfT t0 t1 t2)))))), (t1, .inr (18, [.int (-2), .ref i1])), (t2, .inr (18, [.int (-3), .ref i2])), (i1, .inl (kT, 0, .inr (.inr (.inr (.inr (fun _ => none)))))), (i2, .inl (kT, 0, .inr (.inr (.inr (.inr (fun _ => none)))))), (mm, .inr (21, [.int th, .ref ms, .ref mt, .ref mh, .ref me])), (mt, .inr (1, [.int mo, .ref ma, .int 3]))] H := hP
  have hD : va_D A [(mh, .inr (1, [.int 0, .ref eD, .int 0])), (ma, .inl (kO, 10, .inr (.inr (.inr (.inr (zfT t0 t1 t2)))))), (t1, .inr (18, [.int (-2), .ref i1])), (t2, .inr (18, [.int (-3), .ref i2])), (i1, .inl (kT, 0, .inr (.inr (.inr (.inr (fun _ => none)))))), (i2, .inl (kT, 0, .inr (.inr (.inr (.inr (fun _ => none)))))), (mm, .inr (21, [.int th, .ref ms, .ref mt, .ref mh, .ref me])), (mt, .inr (1, [.int mo, .ref ma, .int 3]))] := hD
  have hK : va_K (dC, dI) vwCl [(kO, .object "java/lang/Object"), (kT, .object "HornbookModel$Tree")] s := by simpa using hK
  have hw_2 : r_1 = 0 := hw_2
  have hw_2 := hw_2.symm
  subst hw_2
  refine lv_if_ne (tgt := 26) hx hb dX19_wouldChoose_6 (by decide) (fun c_3 => ?_) (fun c_3 => ?_)
  · exact absurd (by decide) c_3
  refine lv_aload_n hx hb dX19_wouldChoose_9 rfl (lv_at hl 0 rfl) ?_
  refine lv_iload_n hx hb dX19_wouldChoose_10 rfl (lv_at hl 3 rfl) ?_
  refine z_i (wr := [(mh, .inr (1, [.int 0, .ref eD, .int 0])), (ma, .inl (kO, 10, .inr (.inr (.inr (.inr (zfT t0 t1 t2)))))), (t1, .inr (18, [.int (-2), .ref i1])), (t2, .inr (18, [.int (-3), .ref i2])), (i1, .inl (kT, 0, .inr (.inr (.inr (.inr (fun _ => none)))))), (i2, .inl (kT, 0, .inr (.inr (.inr (.inr (fun _ => none))))))]) (va_runV (As := [.int 1]) (rest := [.ref mm]) ⟨hx, hb, hml, hown, hts⟩ (c_M_isNoTypeN_ok l eD eI ad dC dI H.size mm ms mt mh me th ((.int mo)) ((.ref ma)) 1 (by decide) (by decide) (by decide)) (cwV 1 hts g_c_M_would_23 rfl rfl rfl (by decide +kernel) ⟨Nat.le_of_ble_eq_true rfl, Nat.le_of_ble_eq_true rfl⟩) (z_preV (wc := [(mm, .inr (21, [.int th, .ref ms, .ref mt, .ref mh, .ref me])), (mt, .inr (1, [.int mo, .ref ma, .int 3]))]) hP hD hK hS hA hE [6, 7] [] rfl (by decide) rfl (ci := 21) (q0 := 0) rfl rfl) rfl rfl hl.1 rfl (lv_room (Nat.le_of_ble_eq_true rfl)) dX19_wouldChoose_11 ⟨Nat.le_of_ble_eq_true rfl, Nat.le_of_ble_eq_true rfl⟩) hP hD hK hS hA [6, 7] [0, 1, 2, 3, 4, 5] rfl rfl (by decide) (by decide) (fun r_4 u H locs hw_5 hP hD hK hS => ?_)
  obtain ⟨⟩ := u
  have hP : va_P (dC, dI) vwCl [(mh, .inr (1, [.int 0, .ref eD, .int 0])), (ma, .inl (kO, 10, .inr (.inr (.inr (.inr (zfT t0 t1 t2)))))), (t1, .inr (18, [.int (-2), .ref i1])), (t2, .inr (18, [.int (-3), .ref i2])), (i1, .inl (kT, 0, .inr (.inr (.inr (.inr (fun _ => none)))))), (i2, .inl (kT, 0, .inr (.inr (.inr (.inr (fun _ => none)))))), (mm, .inr (21, [.int th, .ref ms, .ref mt, .ref mh, .ref me])), (mt, .inr (1, [.int mo, .ref ma, .int 3]))] H := hP
  have hD : va_D A [(mh, .inr (1, [.int 0, .ref eD, .int 0])), (ma, .inl (kO, 10, .inr (.inr (.inr (.inr (zfT t0 t1 t2)))))), (t1, .inr (18, [.int (-2), .ref i1])), (t2, .inr (18, [.int (-3), .ref i2])), (i1, .inl (kT, 0, .inr (.inr (.inr (.inr (fun _ => none)))))), (i2, .inl (kT, 0, .inr (.inr (.inr (.inr (fun _ => none)))))), (mm, .inr (21, [.int th, .ref ms, .ref mt, .ref mh, .ref me])), (mt, .inr (1, [.int mo, .ref ma, .int 3]))] := hD
  have hK : va_K (dC, dI) vwCl [(kO, .object "java/lang/Object"), (kT, .object "HornbookModel$Tree")] s := by simpa using hK
  have hw_5 : r_4 = 0 := hw_5
  have hw_5 := hw_5.symm
  subst hw_5
  refine lv_if_ne (tgt := 26) hx hb dX19_wouldChoose_14 (by decide) (fun c_6 => ?_) (fun c_6 => ?_)
  · exact absurd (by decide) c_6
  refine lv_aload_n hx hb dX19_wouldChoose_17 rfl (lv_at hl 0 rfl) ?_
  refine lv_iload hx hb dX19_wouldChoose_18 (lv_at hl 4 rfl) ?_
  refine z_i (wr := [(mh, .inr (1, [.int 0, .ref eD, .int 0])), (ma, .inl (kO, 10, .inr (.inr (.inr (.inr (zfT t0 t1 t2)))))), (t1, .inr (18, [.int (-2), .ref i1])), (t2, .inr (18, [.int (-3), .ref i2])), (i1, .inl (kT, 0, .inr (.inr (.inr (.inr (fun _ => none)))))), (i2, .inl (kT, 0, .inr (.inr (.inr (.inr (fun _ => none))))))]) (va_runV (As := [.int (-1)]) (rest := [.ref mm]) ⟨hx, hb, hml, hown, hts⟩ (c_M_isNoTypeN_none l eD eI ad dC dI H.size mm ms mt mh me th ((.int mo)) ((.ref ma))) (cwV 1 hts g_c_M_would_4 rfl rfl rfl (by decide +kernel) ⟨Nat.le_of_ble_eq_true rfl, Nat.le_of_ble_eq_true rfl⟩) (z_preV (wc := [(mm, .inr (21, [.int th, .ref ms, .ref mt, .ref mh, .ref me])), (mt, .inr (1, [.int mo, .ref ma, .int 3]))]) hP hD hK hS hA hE [6, 7] [] rfl (by decide) rfl (ci := 21) (q0 := 0) rfl rfl) rfl rfl hl.1 rfl (lv_room (Nat.le_of_ble_eq_true rfl)) dX19_wouldChoose_20 ⟨Nat.le_of_ble_eq_true rfl, Nat.le_of_ble_eq_true rfl⟩) hP hD hK hS hA [6, 7] [0, 1, 2, 3, 4, 5] rfl rfl (by decide) (by decide) (fun r_7 u H locs hw_8 hP hD hK hS => ?_)
  obtain ⟨⟩ := u
  have hP : va_P (dC, dI) vwCl [(mh, .inr (1, [.int 0, .ref eD, .int 0])), (ma, .inl (kO, 10, .inr (.inr (.inr (.inr (zfT t0 t1 t2)))))), (t1, .inr (18, [.int (-2), .ref i1])), (t2, .inr (18, [.int (-3), .ref i2])), (i1, .inl (kT, 0, .inr (.inr (.inr (.inr (fun _ => none)))))), (i2, .inl (kT, 0, .inr (.inr (.inr (.inr (fun _ => none)))))), (mm, .inr (21, [.int th, .ref ms, .ref mt, .ref mh, .ref me])), (mt, .inr (1, [.int mo, .ref ma, .int 3]))] H := hP
  have hD : va_D A [(mh, .inr (1, [.int 0, .ref eD, .int 0])), (ma, .inl (kO, 10, .inr (.inr (.inr (.inr (zfT t0 t1 t2)))))), (t1, .inr (18, [.int (-2), .ref i1])), (t2, .inr (18, [.int (-3), .ref i2])), (i1, .inl (kT, 0, .inr (.inr (.inr (.inr (fun _ => none)))))), (i2, .inl (kT, 0, .inr (.inr (.inr (.inr (fun _ => none)))))), (mm, .inr (21, [.int th, .ref ms, .ref mt, .ref mh, .ref me])), (mt, .inr (1, [.int mo, .ref ma, .int 3]))] := hD
  have hK : va_K (dC, dI) vwCl [(kO, .object "java/lang/Object"), (kT, .object "HornbookModel$Tree")] s := by simpa using hK
  have hw_8 : r_7 = 0 := hw_8
  have hw_8 := hw_8.symm
  subst hw_8
  refine lv_if_eq (tgt := 30) hx hb dX19_wouldChoose_23 (by decide) (fun c_9 => ?_) (fun c_9 => ?_)
  rotate_left
  · exact absurd (by decide) c_9
  refine lv_iconst (v := 0) hx hb dX19_wouldChoose_30 (by decide) ?_
  refine lv_iconst (v := 1) hx hb dX19_wouldChoose_31 (by decide) ?_
  refine z_i (wr := [(mh, .inr (1, [.int 0, .ref eD, .int 0])), (ma, .inl (kO, 10, .inr (.inr (.inr (.inr (zfT t0 t1 t2)))))), (t1, .inr (18, [.int (-2), .ref i1])), (t2, .inr (18, [.int (-3), .ref i2])), (i1, .inl (kT, 0, .inr (.inr (.inr (.inr (fun _ => none)))))), (i2, .inl (kT, 0, .inr (.inr (.inr (.inr (fun _ => none)))))), (mt, .inr (1, [.int mo, .ref ma, .int 3]))]) (va_runV (As := [.int 0, .int 1]) (rest := []) ⟨hx, hb, hml, hown, hts⟩ (c_M_start_no l eD eI ad dC dI H.size mm ((.ref ms)) ((.ref mt)) ((.ref mh)) ((.ref me)) 1 th) (cwV 2 hts g_c_M_would_5 rfl rfl rfl (by decide +kernel) ⟨Nat.le_of_ble_eq_true rfl, Nat.le_of_ble_eq_true rfl⟩) (z_preV (wc := [(mm, .inr (21, [.int th, .ref ms, .ref mt, .ref mh, .ref me]))]) hP hD hK hS hA hE [6] [] rfl (by decide) rfl (ci := 21) (q0 := 0) rfl rfl) rfl rfl hl.1 rfl (lv_room (Nat.le_of_ble_eq_true rfl)) dX19_wouldChoose_32 ⟨Nat.le_of_ble_eq_true rfl, Nat.le_of_ble_eq_true rfl⟩) hP hD hK hS hA [6] [0, 1, 2, 3, 4, 5, 7] rfl rfl (by decide) (by decide) (fun r_10 u H locs hw_11 hP hD hK hS => ?_)
  obtain ⟨⟩ := u
  have hP : va_P (dC, dI) vwCl [(mh, .inr (1, [.int 0, .ref eD, .int 0])), (ma, .inl (kO, 10, .inr (.inr (.inr (.inr (zfT t0 t1 t2)))))), (t1, .inr (18, [.int (-2), .ref i1])), (t2, .inr (18, [.int (-3), .ref i2])), (i1, .inl (kT, 0, .inr (.inr (.inr (.inr (fun _ => none)))))), (i2, .inl (kT, 0, .inr (.inr (.inr (.inr (fun _ => none)))))), (mt, .inr (1, [.int mo, .ref ma, .int 3])), (mm, .inr (21, [.int 0, .ref ms, .ref mt, .ref mh, .ref me]))] H := hP
  have hD : va_D A [(mh, .inr (1, [.int 0, .ref eD, .int 0])), (ma, .inl (kO, 10, .inr (.inr (.inr (.inr (zfT t0 t1 t2)))))), (t1, .inr (18, [.int (-2), .ref i1])), (t2, .inr (18, [.int (-3), .ref i2])), (i1, .inl (kT, 0, .inr (.inr (.inr (.inr (fun _ => none)))))), (i2, .inl (kT, 0, .inr (.inr (.inr (.inr (fun _ => none)))))), (mt, .inr (1, [.int mo, .ref ma, .int 3])), (mm, .inr (21, [.int 0, .ref ms, .ref mt, .ref mh, .ref me]))] := hD
  have hK : va_K (dC, dI) vwCl [(kO, .object "java/lang/Object"), (kT, .object "HornbookModel$Tree")] s := by simpa using hK
  have hw_11 : r_10 = 0 := hw_11
  have hw_11 := hw_11.symm
  subst hw_11
  refine lv_if_ne (tgt := 72) hx hb dX19_wouldChoose_35 (by decide) (fun c_12 => ?_) (fun c_12 => ?_)
  · exact absurd (by decide) c_12
  refine lv_aload_n hx hb dX19_wouldChoose_38 rfl (lv_at hl 0 rfl) ?_
  refine lv_iload_n hx hb dX19_wouldChoose_39 rfl (lv_at hl 2 rfl) ?_
  refine lv_iconst (v := 0) hx hb dX19_wouldChoose_40 (by decide) ?_
  refine lv_bipush (v := 9) hx hb dX19_wouldChoose_41 (by decide) ?_
  refine z_i (wr := [(mh, .inr (1, [.int 0, .ref eD, .int 0])), (ma, .inl (kO, 10, .inr (.inr (.inr (.inr (zfT t0 t1 t2)))))), (t1, .inr (18, [.int (-2), .ref i1])), (t2, .inr (18, [.int (-3), .ref i2])), (i1, .inl (kT, 0, .inr (.inr (.inr (.inr (fun _ => none)))))), (i2, .inl (kT, 0, .inr (.inr (.inr (.inr (fun _ => none)))))), (mt, .inr (1, [.int mo, .ref ma, .int 3])), (mm, .inr (21, [.int 0, .ref ms, .ref mt, .ref mh, .ref me]))]) (va_runS (As := [.int x2, .int 0, .int 9]) (rest := [.ref mm]) ⟨hx, hb, hml, hown, hts⟩ (c_M_isIn_ok l eD eI ad dC dI H.size x2 0 9 (hx20) (hx21)) (va_cwS 3 hts g_c_M_would_9 rfl rfl rfl (by decide +kernel) ⟨Nat.le_of_ble_eq_true rfl, Nat.le_of_ble_eq_true rfl⟩) (z_preS (wc := []) hP hD hK hS hA hE [] [] rfl (by decide) rfl) rfl rfl hl.1 rfl (lv_room (Nat.le_of_ble_eq_true rfl)) dX19_wouldChoose_43 ⟨Nat.le_of_ble_eq_true rfl, Nat.le_of_ble_eq_true rfl⟩) hP hD hK hS hA [] [0, 1, 2, 3, 4, 5, 6, 7] rfl rfl (by decide) (by decide) (fun r_13 u H locs hw_14 hP hD hK hS => ?_)
  obtain ⟨⟩ := u
  have hP : va_P (dC, dI) vwCl [(mh, .inr (1, [.int 0, .ref eD, .int 0])), (ma, .inl (kO, 10, .inr (.inr (.inr (.inr (zfT t0 t1 t2)))))), (t1, .inr (18, [.int (-2), .ref i1])), (t2, .inr (18, [.int (-3), .ref i2])), (i1, .inl (kT, 0, .inr (.inr (.inr (.inr (fun _ => none)))))), (i2, .inl (kT, 0, .inr (.inr (.inr (.inr (fun _ => none)))))), (mt, .inr (1, [.int mo, .ref ma, .int 3])), (mm, .inr (21, [.int 0, .ref ms, .ref mt, .ref mh, .ref me]))] H := hP
  have hD : va_D A [(mh, .inr (1, [.int 0, .ref eD, .int 0])), (ma, .inl (kO, 10, .inr (.inr (.inr (.inr (zfT t0 t1 t2)))))), (t1, .inr (18, [.int (-2), .ref i1])), (t2, .inr (18, [.int (-3), .ref i2])), (i1, .inl (kT, 0, .inr (.inr (.inr (.inr (fun _ => none)))))), (i2, .inl (kT, 0, .inr (.inr (.inr (.inr (fun _ => none)))))), (mt, .inr (1, [.int mo, .ref ma, .int 3])), (mm, .inr (21, [.int 0, .ref ms, .ref mt, .ref mh, .ref me]))] := hD
  have hK : va_K (dC, dI) vwCl [(kO, .object "java/lang/Object"), (kT, .object "HornbookModel$Tree")] s := by simpa using hK
  have hw_14 : r_13 = 1 := hw_14
  have hw_14 := hw_14.symm
  subst hw_14
  refine lv_if_eq (tgt := 60) hx hb dX19_wouldChoose_46 (by decide) (fun c_15 => ?_) (fun c_15 => ?_)
  · exact absurd c_15 (by decide)
  refine lv_iload_n hx hb dX19_wouldChoose_49 rfl (lv_at hl 3 rfl) ?_
  refine lv_iconst (v := (-1)) hx hb dX19_wouldChoose_50 (by decide) ?_
  refine lv_icmp_ne (tgt := 64) hx hb dX19_wouldChoose_51 (by decide) (fun c_16 => ?_) (fun c_16 => ?_)
  rotate_left
  · exact absurd c_16 (by decide)
  refine lv_iconst (v := 0) hx hb dX19_wouldChoose_64 (by decide) ?_
  refine lv_iconst (v := 2) hx hb dX19_wouldChoose_65 (by decide) ?_
  refine z_i (wr := [(mh, .inr (1, [.int 0, .ref eD, .int 0])), (ma, .inl (kO, 10, .inr (.inr (.inr (.inr (zfT t0 t1 t2)))))), (t1, .inr (18, [.int (-2), .ref i1])), (t2, .inr (18, [.int (-3), .ref i2])), (i1, .inl (kT, 0, .inr (.inr (.inr (.inr (fun _ => none)))))), (i2, .inl (kT, 0, .inr (.inr (.inr (.inr (fun _ => none)))))), (mt, .inr (1, [.int mo, .ref ma, .int 3]))]) (va_runV (As := [.int 0, .int 2]) (rest := []) ⟨hx, hb, hml, hown, hts⟩ (c_M_refuse_no l eD eI ad dC dI H.size mm ((.ref ms)) ((.ref mt)) ((.ref mh)) ((.ref me)) 2) (cwV 2 hts g_c_M_would_10 rfl rfl rfl (by decide +kernel) ⟨Nat.le_of_ble_eq_true rfl, Nat.le_of_ble_eq_true rfl⟩) (z_preV (wc := [(mm, .inr (21, [.int 0, .ref ms, .ref mt, .ref mh, .ref me]))]) hP hD hK hS hA hE [7] [] rfl (by decide) rfl (ci := 21) (q0 := 0) rfl rfl) rfl rfl hl.1 rfl (lv_room (Nat.le_of_ble_eq_true rfl)) dX19_wouldChoose_66 ⟨Nat.le_of_ble_eq_true rfl, Nat.le_of_ble_eq_true rfl⟩) hP hD hK hS hA [7] [0, 1, 2, 3, 4, 5, 6] rfl rfl (by decide) (by decide) (fun r_17 u H locs hw_18 hP hD hK hS => ?_)
  obtain ⟨⟩ := u
  have hP : va_P (dC, dI) vwCl [(mh, .inr (1, [.int 0, .ref eD, .int 0])), (ma, .inl (kO, 10, .inr (.inr (.inr (.inr (zfT t0 t1 t2)))))), (t1, .inr (18, [.int (-2), .ref i1])), (t2, .inr (18, [.int (-3), .ref i2])), (i1, .inl (kT, 0, .inr (.inr (.inr (.inr (fun _ => none)))))), (i2, .inl (kT, 0, .inr (.inr (.inr (.inr (fun _ => none)))))), (mt, .inr (1, [.int mo, .ref ma, .int 3])), (mm, .inr (21, [.int 0, .ref ms, .ref mt, .ref mh, .ref me]))] H := hP
  have hD : va_D A [(mh, .inr (1, [.int 0, .ref eD, .int 0])), (ma, .inl (kO, 10, .inr (.inr (.inr (.inr (zfT t0 t1 t2)))))), (t1, .inr (18, [.int (-2), .ref i1])), (t2, .inr (18, [.int (-3), .ref i2])), (i1, .inl (kT, 0, .inr (.inr (.inr (.inr (fun _ => none)))))), (i2, .inl (kT, 0, .inr (.inr (.inr (.inr (fun _ => none)))))), (mt, .inr (1, [.int mo, .ref ma, .int 3])), (mm, .inr (21, [.int 0, .ref ms, .ref mt, .ref mh, .ref me]))] := hD
  have hK : va_K (dC, dI) vwCl [(kO, .object "java/lang/Object"), (kT, .object "HornbookModel$Tree")] s := by simpa using hK
  have hw_18 : r_17 = 0 := hw_18
  have hw_18 := hw_18.symm
  subst hw_18
  refine lv_if_eq (tgt := 74) hx hb dX19_wouldChoose_69 (by decide) (fun c_19 => ?_) (fun c_19 => ?_)
  rotate_left
  · exact absurd (by decide) c_19
  refine lv_aload_n hx hb dX19_wouldChoose_74 rfl (lv_at hl 0 rfl) ?_
  refine lv_iload_n hx hb dX19_wouldChoose_75 rfl (lv_at hl 3 rfl) ?_
  refine lv_iload hx hb dX19_wouldChoose_76 (lv_at hl 4 rfl) ?_
  refine z_q (wr := [(mh, .inr (1, [.int 0, .ref eD, .int 0])), (t2, .inr (18, [.int (-3), .ref i2])), (i1, .inl (kT, 0, .inr (.inr (.inr (.inr (fun _ => none)))))), (i2, .inl (kT, 0, .inr (.inr (.inr (.inr (fun _ => none))))))]) (va_runV (As := [.int 1, .int (-1)]) (rest := []) ⟨hx, hb, hml, hown, hts⟩ (c_M_trees_1 l eD eI ad dC dI H.size mm ms mt mh me 0 mo ma kO t0 t1 t2 ((.ref i1))) (cwV 2 hts g_c_M_would_25 rfl rfl rfl (by decide +kernel) ⟨Nat.le_of_ble_eq_true rfl, Nat.le_of_ble_eq_true rfl⟩) (z_preV (wc := [(mm, .inr (21, [.int 0, .ref ms, .ref mt, .ref mh, .ref me])), (mt, .inr (1, [.int mo, .ref ma, .int 3])), (ma, .inl (kO, 10, .inr (.inr (.inr (.inr (zfT t0 t1 t2)))))), (t1, .inr (18, [.int (-2), .ref i1]))]) hP hD hK hS hA hE [7, 6, 1, 2] [0] rfl (by decide) rfl (ci := 21) (q0 := 0) rfl rfl) rfl rfl hl.1 rfl (lv_room (Nat.le_of_ble_eq_true rfl)) dX19_wouldChoose_78 ⟨Nat.le_of_ble_eq_true rfl, Nat.le_of_ble_eq_true rfl⟩) hP hD hK hS hA [7, 6, 1, 2] [0, 3, 4, 5] rfl rfl (by decide) (by decide) (fun r_22 u H locs hw_23 hP hD hK hS => ?_)
  obtain ⟨u_20, u_21⟩ := u
  have hP : va_P (dC, dI) vwCl [(mh, .inr (1, [.int 0, .ref eD, .int 0])), (t2, .inr (18, [.int (-3), .ref i2])), (i1, .inl (kT, 0, .inr (.inr (.inr (.inr (fun _ => none)))))), (i2, .inl (kT, 0, .inr (.inr (.inr (.inr (fun _ => none)))))), (mm, .inr (21, [.int 0, .ref ms, .ref mt, .ref mh, .ref me])), (mt, .inr (1, [.int mo, .ref ma, .int 3])), (ma, .inl (kO, 10, .inr (.inr (.inr (.inr (zfT t0 t1 t2)))))), (t1, .inr (18, [.int (-2), .ref i1])), (u_20, .inl (u_21, 1, .inr (.inr (.inr (.inr (va_up (fun _ => none) (0 : Int32).toNatClampNeg (some t1)))))))] H := hP
  have hD : va_D A [(mh, .inr (1, [.int 0, .ref eD, .int 0])), (t2, .inr (18, [.int (-3), .ref i2])), (i1, .inl (kT, 0, .inr (.inr (.inr (.inr (fun _ => none)))))), (i2, .inl (kT, 0, .inr (.inr (.inr (.inr (fun _ => none)))))), (mm, .inr (21, [.int 0, .ref ms, .ref mt, .ref mh, .ref me])), (mt, .inr (1, [.int mo, .ref ma, .int 3])), (ma, .inl (kO, 10, .inr (.inr (.inr (.inr (zfT t0 t1 t2)))))), (t1, .inr (18, [.int (-2), .ref i1])), (u_20, .inl (u_21, 1, .inr (.inr (.inr (.inr (va_up (fun _ => none) (0 : Int32).toNatClampNeg (some t1)))))))] := hD
  have hK : va_K (dC, dI) vwCl [(kO, .object "java/lang/Object"), (kT, .object "HornbookModel$Tree"), (kO, .object "java/lang/Object"), (u_21, .object "HornbookModel$Tree")] s := hK
  have hw_23 : r_22 = some u_20 := hw_23
  have hw_23 := hw_23.symm
  subst hw_23
  refine W.eq (g2 := F0 m 81 ls (.ref u_20 :: [])) rfl ?_
  refine lv_astore (lv' := [(5, .ref u_20), (0, .ref mm), (1, .int 2), (2, .int x2), (3, .int 1), (4, .int (-1))]) hx hb dX19_wouldChoose_81 hl (by decide) rfl (fun ls hl => ?_)
  refine lv_aload_n hx hb dX19_wouldChoose_83 rfl (lv_at hl 1 rfl) ?_
  refine lv_iload_n hx hb dX19_wouldChoose_84 rfl (lv_at hl 2 rfl) ?_
  refine z_q (wr := [(mh, .inr (1, [.int 0, .ref eD, .int 0])), (i1, .inl (kT, 0, .inr (.inr (.inr (.inr (fun _ => none)))))), (i2, .inl (kT, 0, .inr (.inr (.inr (.inr (fun _ => none)))))), (t1, .inr (18, [.int (-2), .ref i1])), (u_20, .inl (u_21, 1, .inr (.inr (.inr (.inr (va_up (fun _ => none) (0 : Int32).toNatClampNeg (some t1)))))))]) (va_runV (As := [.int 2]) (rest := []) ⟨hx, hb, hml, hown, hts⟩ (c_M_type_2 l eD eI ad dC dI H.size mm ms mt mh me 0 mo ma kO t0 t1 t2 ((.ref i2))) (cwV 1 hts g_c_M_would_19 rfl rfl rfl (by decide +kernel) ⟨Nat.le_of_ble_eq_true rfl, Nat.le_of_ble_eq_true rfl⟩) (z_preV (wc := [(mm, .inr (21, [.int 0, .ref ms, .ref mt, .ref mh, .ref me])), (mt, .inr (1, [.int mo, .ref ma, .int 3])), (ma, .inl (kO, 10, .inr (.inr (.inr (.inr (zfT t0 t1 t2)))))), (t2, .inr (18, [.int (-3), .ref i2]))]) hP hD hK hS hA hE [4, 5, 6, 1] [0] rfl (by decide) rfl (ci := 21) (q0 := 0) rfl rfl) rfl rfl hl.1 rfl (lv_room (Nat.le_of_ble_eq_true rfl)) dX19_wouldChoose_85 ⟨Nat.le_of_ble_eq_true rfl, Nat.le_of_ble_eq_true rfl⟩) hP hD hK hS hA [4, 5, 6, 1] [0, 2, 3, 7, 8] rfl rfl (by decide) (by decide) (fun r_24 u H locs hw_25 hP hD hK hS => ?_)
  obtain ⟨⟩ := u
  have hP : va_P (dC, dI) vwCl [(mh, .inr (1, [.int 0, .ref eD, .int 0])), (i1, .inl (kT, 0, .inr (.inr (.inr (.inr (fun _ => none)))))), (i2, .inl (kT, 0, .inr (.inr (.inr (.inr (fun _ => none)))))), (t1, .inr (18, [.int (-2), .ref i1])), (u_20, .inl (u_21, 1, .inr (.inr (.inr (.inr (va_up (fun _ => none) (0 : Int32).toNatClampNeg (some t1))))))), (mm, .inr (21, [.int 0, .ref ms, .ref mt, .ref mh, .ref me])), (mt, .inr (1, [.int mo, .ref ma, .int 3])), (ma, .inl (kO, 10, .inr (.inr (.inr (.inr (zfT t0 t1 t2)))))), (t2, .inr (18, [.int (-3), .ref i2]))] H := hP
  have hD : va_D A [(mh, .inr (1, [.int 0, .ref eD, .int 0])), (i1, .inl (kT, 0, .inr (.inr (.inr (.inr (fun _ => none)))))), (i2, .inl (kT, 0, .inr (.inr (.inr (.inr (fun _ => none)))))), (t1, .inr (18, [.int (-2), .ref i1])), (u_20, .inl (u_21, 1, .inr (.inr (.inr (.inr (va_up (fun _ => none) (0 : Int32).toNatClampNeg (some t1))))))), (mm, .inr (21, [.int 0, .ref ms, .ref mt, .ref mh, .ref me])), (mt, .inr (1, [.int mo, .ref ma, .int 3])), (ma, .inl (kO, 10, .inr (.inr (.inr (.inr (zfT t0 t1 t2)))))), (t2, .inr (18, [.int (-3), .ref i2]))] := hD
  have hK : va_K (dC, dI) vwCl [(kO, .object "java/lang/Object"), (kT, .object "HornbookModel$Tree"), (kO, .object "java/lang/Object"), (u_21, .object "HornbookModel$Tree")] s := by simpa using hK
  have hw_25 : r_24 = some t2 := hw_25
  have hw_25 := hw_25.symm
  subst hw_25
  refine W.eq (g2 := F0 m 88 ls (.ref t2 :: [])) rfl ?_
  refine z_i (wr := [(mh, .inr (1, [.int 0, .ref eD, .int 0])), (i1, .inl (kT, 0, .inr (.inr (.inr (.inr (fun _ => none)))))), (t1, .inr (18, [.int (-2), .ref i1])), (u_20, .inl (u_21, 1, .inr (.inr (.inr (.inr (va_up (fun _ => none) (0 : Int32).toNatClampNeg (some t1))))))), (mm, .inr (21, [.int 0, .ref ms, .ref mt, .ref mh, .ref me])), (mt, .inr (1, [.int mo, .ref ma, .int 3])), (ma, .inl (kO, 10, .inr (.inr (.inr (.inr (zfT t0 t1 t2))))))]) (va_runV (As := []) (rest := []) ⟨hx, hb, hml, hown, hts⟩ (c_T_isClosed_3 l eD eI ad dC dI H.size t2 i2 kT) (cwV 0 hts g_c_M_would_20 rfl rfl rfl (by decide +kernel) ⟨Nat.le_of_ble_eq_true rfl, Nat.le_of_ble_eq_true rfl⟩) (z_preV (wc := [(t2, .inr (18, [.int (-3), .ref i2])), (i2, .inl (kT, 0, .inr (.inr (.inr (.inr (fun _ => none))))))]) hP hD hK hS hA hE [8, 2] [1] rfl (by decide) rfl (ci := 18) (q0 := 0) rfl rfl) rfl rfl hl.1 rfl (lv_room (Nat.le_of_ble_eq_true rfl)) dX19_wouldChoose_88 ⟨Nat.le_of_ble_eq_true rfl, Nat.le_of_ble_eq_true rfl⟩) hP hD hK hS hA [8, 2] [0, 1, 3, 4, 5, 6, 7] rfl rfl (by decide) (by decide) (fun r_26 u H locs hw_27 hP hD hK hS => ?_)
  obtain ⟨⟩ := u
  have hP : va_P (dC, dI) vwCl [(mh, .inr (1, [.int 0, .ref eD, .int 0])), (i1, .inl (kT, 0, .inr (.inr (.inr (.inr (fun _ => none)))))), (t1, .inr (18, [.int (-2), .ref i1])), (u_20, .inl (u_21, 1, .inr (.inr (.inr (.inr (va_up (fun _ => none) (0 : Int32).toNatClampNeg (some t1))))))), (mm, .inr (21, [.int 0, .ref ms, .ref mt, .ref mh, .ref me])), (mt, .inr (1, [.int mo, .ref ma, .int 3])), (ma, .inl (kO, 10, .inr (.inr (.inr (.inr (zfT t0 t1 t2)))))), (t2, .inr (18, [.int (-3), .ref i2])), (i2, .inl (kT, 0, .inr (.inr (.inr (.inr (fun _ => none))))))] H := hP
  have hD : va_D A [(mh, .inr (1, [.int 0, .ref eD, .int 0])), (i1, .inl (kT, 0, .inr (.inr (.inr (.inr (fun _ => none)))))), (t1, .inr (18, [.int (-2), .ref i1])), (u_20, .inl (u_21, 1, .inr (.inr (.inr (.inr (va_up (fun _ => none) (0 : Int32).toNatClampNeg (some t1))))))), (mm, .inr (21, [.int 0, .ref ms, .ref mt, .ref mh, .ref me])), (mt, .inr (1, [.int mo, .ref ma, .int 3])), (ma, .inl (kO, 10, .inr (.inr (.inr (.inr (zfT t0 t1 t2)))))), (t2, .inr (18, [.int (-3), .ref i2])), (i2, .inl (kT, 0, .inr (.inr (.inr (.inr (fun _ => none))))))] := hD
  have hK : va_K (dC, dI) vwCl [(kO, .object "java/lang/Object"), (kT, .object "HornbookModel$Tree"), (kO, .object "java/lang/Object"), (u_21, .object "HornbookModel$Tree")] s := by simpa using hK
  have hw_27 : r_26 = 0 := hw_27
  have hw_27 := hw_27.symm
  subst hw_27
  refine lv_istore (lv' := [(6, .int 0), (5, .ref u_20), (0, .ref mm), (1, .int 2), (2, .int x2), (3, .int 1), (4, .int (-1))]) hx hb dX19_wouldChoose_91 hl (by decide) rfl (fun ls hl => ?_)
  refine lv_aload hx hb dX19_wouldChoose_93 (lv_at hl 1 rfl) ?_
  refine lv_astore (lv' := [(7, .ref u_20), (6, .int 0), (5, .ref u_20), (0, .ref mm), (1, .int 2), (2, .int x2), (3, .int 1), (4, .int (-1))]) hx hb dX19_wouldChoose_95 hl (by decide) rfl (fun ls hl => ?_)
  refine lv_aload hx hb dX19_wouldChoose_97 (lv_at hl 0 rfl) ?_
  refine va_alen (D := (dC, dI)) (v := 1) hx hb hK hP 3 3 rfl rfl rfl dX19_wouldChoose_99 ?_
  refine lv_istore (lv' := [(8, .int 1), (7, .ref u_20), (6, .int 0), (5, .ref u_20), (0, .ref mm), (1, .int 2), (2, .int x2), (3, .int 1), (4, .int (-1))]) hx hb dX19_wouldChoose_100 hl (by decide) rfl (fun ls hl => ?_)
  refine lv_iconst (v := 0) hx hb dX19_wouldChoose_102 (by decide) ?_
  refine lv_istore (lv' := [(9, .int 0), (8, .int 1), (7, .ref u_20), (6, .int 0), (5, .ref u_20), (0, .ref mm), (1, .int 2), (2, .int x2), (3, .int 1), (4, .int (-1))]) hx hb dX19_wouldChoose_103 hl (by decide) rfl (fun ls hl => ?_)
  refine lv_iload hx hb dX19_wouldChoose_105 (lv_at hl 0 rfl) ?_
  refine lv_iload hx hb dX19_wouldChoose_107 (lv_at hl 1 rfl) ?_
  refine lv_icmp_ge (tgt := 135) hx hb dX19_wouldChoose_109 (by decide) (fun c_28 => ?_) (fun c_28 => ?_)
  · exact absurd c_28 (by decide)
  refine lv_aload hx hb dX19_wouldChoose_112 (lv_at hl 2 rfl) ?_
  refine lv_iload hx hb dX19_wouldChoose_114 (lv_at hl 0 rfl) ?_
  refine va_aldq (D := (dC, dI)) hx hb hK hP 3 3 rfl rfl (by unfold vp_in; decide) dX19_wouldChoose_116 ?_
  refine z_top (v' := .ref t1) (by first | rfl | decide | simp [va_up, va_rf]) ?_
  refine lv_astore (lv' := [(10, .ref t1), (9, .int 0), (8, .int 1), (7, .ref u_20), (6, .int 0), (5, .ref u_20), (0, .ref mm), (1, .int 2), (2, .int x2), (3, .int 1), (4, .int (-1))]) hx hb dX19_wouldChoose_117 hl (by decide) rfl (fun ls hl => ?_)
  refine lv_iload hx hb dX19_wouldChoose_119 (lv_at hl 4 rfl) ?_
  refine lv_aload hx hb dX19_wouldChoose_121 (lv_at hl 0 rfl) ?_
  refine z_i (wr := [(mh, .inr (1, [.int 0, .ref eD, .int 0])), (u_20, .inl (u_21, 1, .inr (.inr (.inr (.inr (va_up (fun _ => none) (0 : Int32).toNatClampNeg (some t1))))))), (mm, .inr (21, [.int 0, .ref ms, .ref mt, .ref mh, .ref me])), (mt, .inr (1, [.int mo, .ref ma, .int 3])), (ma, .inl (kO, 10, .inr (.inr (.inr (.inr (zfT t0 t1 t2)))))), (t2, .inr (18, [.int (-3), .ref i2])), (i2, .inl (kT, 0, .inr (.inr (.inr (.inr (fun _ => none))))))]) (va_runV (As := []) (rest := [.int 0]) ⟨hx, hb, hml, hown, hts⟩ (c_T_isClosed_2 l eD eI ad dC dI H.size t1 i1 kT) (cwV 0 hts g_c_M_would_18 rfl rfl rfl (by decide +kernel) ⟨Nat.le_of_ble_eq_true rfl, Nat.le_of_ble_eq_true rfl⟩) (z_preV (wc := [(t1, .inr (18, [.int (-2), .ref i1])), (i1, .inl (kT, 0, .inr (.inr (.inr (.inr (fun _ => none))))))]) hP hD hK hS hA hE [2, 1] [1] rfl (by decide) rfl (ci := 18) (q0 := 0) rfl rfl) rfl rfl hl.1 rfl (lv_room (Nat.le_of_ble_eq_true rfl)) dX19_wouldChoose_123 ⟨Nat.le_of_ble_eq_true rfl, Nat.le_of_ble_eq_true rfl⟩) hP hD hK hS hA [2, 1] [0, 3, 4, 5, 6, 7, 8] rfl rfl (by decide) (by decide) (fun r_29 u H locs hw_30 hP hD hK hS => ?_)
  obtain ⟨⟩ := u
  have hP : va_P (dC, dI) vwCl [(mh, .inr (1, [.int 0, .ref eD, .int 0])), (u_20, .inl (u_21, 1, .inr (.inr (.inr (.inr (va_up (fun _ => none) (0 : Int32).toNatClampNeg (some t1))))))), (mm, .inr (21, [.int 0, .ref ms, .ref mt, .ref mh, .ref me])), (mt, .inr (1, [.int mo, .ref ma, .int 3])), (ma, .inl (kO, 10, .inr (.inr (.inr (.inr (zfT t0 t1 t2)))))), (t2, .inr (18, [.int (-3), .ref i2])), (i2, .inl (kT, 0, .inr (.inr (.inr (.inr (fun _ => none)))))), (t1, .inr (18, [.int (-2), .ref i1])), (i1, .inl (kT, 0, .inr (.inr (.inr (.inr (fun _ => none))))))] H := hP
  have hD : va_D A [(mh, .inr (1, [.int 0, .ref eD, .int 0])), (u_20, .inl (u_21, 1, .inr (.inr (.inr (.inr (va_up (fun _ => none) (0 : Int32).toNatClampNeg (some t1))))))), (mm, .inr (21, [.int 0, .ref ms, .ref mt, .ref mh, .ref me])), (mt, .inr (1, [.int mo, .ref ma, .int 3])), (ma, .inl (kO, 10, .inr (.inr (.inr (.inr (zfT t0 t1 t2)))))), (t2, .inr (18, [.int (-3), .ref i2])), (i2, .inl (kT, 0, .inr (.inr (.inr (.inr (fun _ => none)))))), (t1, .inr (18, [.int (-2), .ref i1])), (i1, .inl (kT, 0, .inr (.inr (.inr (.inr (fun _ => none))))))] := hD
  have hK : va_K (dC, dI) vwCl [(kO, .object "java/lang/Object"), (kT, .object "HornbookModel$Tree"), (kO, .object "java/lang/Object"), (u_21, .object "HornbookModel$Tree")] s := by simpa using hK
  have hw_30 : r_29 = 1 := hw_30
  have hw_30 := hw_30.symm
  subst hw_30
  refine lv_iand hx hb dX19_wouldChoose_126 ?_
  refine z_top (v' := .int 0) (congrArg Value.int (by decide)) ?_
  refine lv_istore (lv' := [(6, .int 0), (10, .ref t1), (9, .int 0), (8, .int 1), (7, .ref u_20), (5, .ref u_20), (0, .ref mm), (1, .int 2), (2, .int x2), (3, .int 1), (4, .int (-1))]) hx hb dX19_wouldChoose_127 hl (by decide) rfl (fun ls hl => ?_)
  refine lv_iinc (v := 1) (lv' := [(9, .int 1), (6, .int 0), (10, .ref t1), (8, .int 1), (7, .ref u_20), (5, .ref u_20), (0, .ref mm), (1, .int 2), (2, .int x2), (3, .int 1), (4, .int (-1))]) hx hb dX19_wouldChoose_129 hl (k := 2) rfl (by decide) (by decide) rfl (fun ls hl => ?_)
  refine lv_goto (tgt := 105) hx hb dX19_wouldChoose_132 (by decide) ?_
  refine lv_iload hx hb dX19_wouldChoose_105 (lv_at hl 0 rfl) ?_
  refine lv_iload hx hb dX19_wouldChoose_107 (lv_at hl 3 rfl) ?_
  refine lv_icmp_ge (tgt := 135) hx hb dX19_wouldChoose_109 (by decide) (fun c_31 => ?_) (fun c_31 => ?_)
  rotate_left
  · exact absurd (by decide) c_31
  refine lv_aload_n hx hb dX19_wouldChoose_135 rfl (lv_at hl 6 rfl) ?_
  refine lv_iload hx hb dX19_wouldChoose_136 (lv_at hl 1 rfl) ?_
  refine lv_if_ne (tgt := 145) hx hb dX19_wouldChoose_138 (by decide) (fun c_32 => ?_) (fun c_32 => ?_)
  · exact absurd (by decide) c_32
  refine lv_iconst (v := 1) hx hb dX19_wouldChoose_141 (by decide) ?_
  refine lv_goto (tgt := 146) hx hb dX19_wouldChoose_142 (by decide) ?_
  refine lv_iconst (v := 2) hx hb dX19_wouldChoose_146 (by decide) ?_
  refine z_i (wr := [(mh, .inr (1, [.int 0, .ref eD, .int 0])), (u_20, .inl (u_21, 1, .inr (.inr (.inr (.inr (va_up (fun _ => none) (0 : Int32).toNatClampNeg (some t1))))))), (mt, .inr (1, [.int mo, .ref ma, .int 3])), (ma, .inl (kO, 10, .inr (.inr (.inr (.inr (zfT t0 t1 t2)))))), (t2, .inr (18, [.int (-3), .ref i2])), (i2, .inl (kT, 0, .inr (.inr (.inr (.inr (fun _ => none)))))), (t1, .inr (18, [.int (-2), .ref i1])), (i1, .inl (kT, 0, .inr (.inr (.inr (.inr (fun _ => none))))))]) (va_runV (As := [.int 1, .int 2]) (rest := []) ⟨hx, hb, hml, hown, hts⟩ (c_M_refuse_yes l eD eI ad dC dI H.size mm ((.ref ms)) ((.ref mt)) ((.ref mh)) ((.ref me)) 2 (by decide)) (cwV 2 hts g_c_M_would_7 rfl rfl rfl (by decide +kernel) ⟨Nat.le_of_ble_eq_true rfl, Nat.le_of_ble_eq_true rfl⟩) (z_preV (wc := [(mm, .inr (21, [.int 0, .ref ms, .ref mt, .ref mh, .ref me]))]) hP hD hK hS hA hE [2] [] rfl (by decide) rfl (ci := 21) (q0 := 0) rfl rfl) rfl rfl hl.1 rfl (lv_room (Nat.le_of_ble_eq_true rfl)) dX19_wouldChoose_147 ⟨Nat.le_of_ble_eq_true rfl, Nat.le_of_ble_eq_true rfl⟩) hP hD hK hS hA [2] [0, 1, 3, 4, 5, 6, 7, 8] rfl rfl (by decide) (by decide) (fun r_33 u H locs hw_34 hP hD hK hS => ?_)
  obtain ⟨⟩ := u
  have hP : va_P (dC, dI) vwCl [(mh, .inr (1, [.int 0, .ref eD, .int 0])), (u_20, .inl (u_21, 1, .inr (.inr (.inr (.inr (va_up (fun _ => none) (0 : Int32).toNatClampNeg (some t1))))))), (mt, .inr (1, [.int mo, .ref ma, .int 3])), (ma, .inl (kO, 10, .inr (.inr (.inr (.inr (zfT t0 t1 t2)))))), (t2, .inr (18, [.int (-3), .ref i2])), (i2, .inl (kT, 0, .inr (.inr (.inr (.inr (fun _ => none)))))), (t1, .inr (18, [.int (-2), .ref i1])), (i1, .inl (kT, 0, .inr (.inr (.inr (.inr (fun _ => none)))))), (mm, .inr (21, [.int 2, .ref ms, .ref mt, .ref mh, .ref me]))] H := hP
  have hD : va_D A [(mh, .inr (1, [.int 0, .ref eD, .int 0])), (u_20, .inl (u_21, 1, .inr (.inr (.inr (.inr (va_up (fun _ => none) (0 : Int32).toNatClampNeg (some t1))))))), (mt, .inr (1, [.int mo, .ref ma, .int 3])), (ma, .inl (kO, 10, .inr (.inr (.inr (.inr (zfT t0 t1 t2)))))), (t2, .inr (18, [.int (-3), .ref i2])), (i2, .inl (kT, 0, .inr (.inr (.inr (.inr (fun _ => none)))))), (t1, .inr (18, [.int (-2), .ref i1])), (i1, .inl (kT, 0, .inr (.inr (.inr (.inr (fun _ => none)))))), (mm, .inr (21, [.int 2, .ref ms, .ref mt, .ref mh, .ref me]))] := hD
  have hK : va_K (dC, dI) vwCl [(kO, .object "java/lang/Object"), (kT, .object "HornbookModel$Tree"), (kO, .object "java/lang/Object"), (u_21, .object "HornbookModel$Tree")] s := by simpa using hK
  have hw_34 : r_33 = 1 := hw_34
  have hw_34 := hw_34.symm
  subst hw_34
  refine lv_if_eq (tgt := 155) hx hb dX19_wouldChoose_150 (by decide) (fun c_35 => ?_) (fun c_35 => ?_)
  · exact absurd c_35 (by decide)
  refine lv_iconst (v := 0) hx hb dX19_wouldChoose_153 (by decide) ?_
  have hP9 := hP.sub (ws' := [(mm, .inr (21, [.int 2, .ref ms, .ref mt, .ref mh, .ref me]))]) [8] rfl
  have hD9 := hD.sub (ws' := [(mm, .inr (21, [.int 2, .ref ms, .ref mt, .ref mh, .ref me]))]) [8] (by decide) rfl
  have hK9 := hK.sub (tys' := []) [] rfl
  refine W.widen (k := 7) (n := 22) (Nat.le_of_ble_eq_true rfl) (Nat.le_of_ble_eq_true rfl) ?_
  exact W.iret (v := 0) hx hb hr (fun t ht hW => ⟨⟨0, (2, 0), rfl, ⟨rfl, by first | decide | simp [hx20, hx21], by first | exact fun h => absurd h (by decide) | exact fun _ => rfl | rfl | decide | simp⟩, ⟨by rw [ht]; exact hP9, va_K.moved hW.alike hK9, hD9⟩⟩, hS.F ht⟩) hS.2.2 dX19_wouldChoose_154

set_option maxHeartbeats 4000000 in
set_option maxRecDepth 100000 in
theorem c_M_would_Fkn22 (l : Launch) (eD eI : Nat) (ad : Nat → Nat) (dC : Nat → ClassId) (dI : Nat → Nat → Nat) (sz : Nat) (mm : Nat) (ms : Nat) (mt : Nat) (mh : Nat) (me : Nat) (mo : Int32) (ma : Nat) (kO : ClassId) (kT : ClassId) (t0 : Nat) (t1 : Nat) (t2 : Nat) (i0 : Nat) (i1 : Nat) (i2 : Nat) (th : Int32) (x2 : Int32) (hx20 : ¬ x2 < 0) (hx21 : ¬ 9 < x2) : Met l yX19_wouldChoose w_c_M_would ({ frames := 6, cells := 7, slots := 22, locals := 123 }) (va_Pc [.ref mm, .int 2, .int x2, .int 2, .int (-1)] (zPre eD eI ad (dC, dI) [(mm, .inr (21, [.int th, .ref ms, .ref mt, .ref mh, .ref me])), (ms, .inr (1, [.int 0, .ref eD, .int 0])), (mt, .inr (1, [.int mo, .ref ma, .int 3])), (mh, .inr (1, [.int 0, .ref eD, .int 0])), (me, .inr (1, [.int 0, .ref eD, .int 0])), (ma, .inl (kO, 10, .inr (.inr (.inr (.inr (zfT t0 t1 t2)))))), (t0, .inr (18, [.int (-1), .ref i0])), (t1, .inr (18, [.int (-2), .ref i1])), (t2, .inr (18, [.int (-3), .ref i2])), (i0, .inl (kT, 0, .inr (.inr (.inr (.inr (fun _ => none)))))), (i1, .inl (kT, 0, .inr (.inr (.inr (.inr (fun _ => none)))))), (i2, .inl (kT, 0, .inr (.inr (.inr (.inr (fun _ => none))))))] [(kO, .object "java/lang/Object"), (kT, .object "HornbookModel$Tree")] sz)) (va_Qi (fun (r : Int32) (u : Int32 × Int32) => match u with | (th2, v2) => r = v2 ∧ th2 = (if (2 : Int32) < 0 ∨ 2 < (2 : Int32) then 1 else if ¬ (2 : Int32) = (-1) ∧ ((2 : Int32) < 0 ∨ 2 < (2 : Int32)) then 1 else if ¬ (-1 : Int32) = (-1) ∧ ((-1 : Int32) < 0 ∨ 2 < (-1 : Int32)) then 1 else if x2 < 0 ∨ 9 < x2 then 2 else if (2 : Int32) = (-1) ∧ ¬ (-1 : Int32) = (-1) then 2 else if (2 : Int32) = 2 ∨ (2 : Int32) = 2 ∨ (-1 : Int32) = 2 then 2 else 0) ∧ (th2 = 0 → v2 = (-1))) (fun (u : Int32 × Int32) => match u with | (th2, v2) => zEnd (dC, dI) (va_A [(mm, .inr (21, [.int th, .ref ms, .ref mt, .ref mh, .ref me])), (ms, .inr (1, [.int 0, .ref eD, .int 0])), (mt, .inr (1, [.int mo, .ref ma, .int 3])), (mh, .inr (1, [.int 0, .ref eD, .int 0])), (me, .inr (1, [.int 0, .ref eD, .int 0])), (ma, .inl (kO, 10, .inr (.inr (.inr (.inr (zfT t0 t1 t2)))))), (t0, .inr (18, [.int (-1), .ref i0])), (t1, .inr (18, [.int (-2), .ref i1])), (t2, .inr (18, [.int (-3), .ref i2])), (i0, .inl (kT, 0, .inr (.inr (.inr (.inr (fun _ => none)))))), (i1, .inl (kT, 0, .inr (.inr (.inr (.inr (fun _ => none)))))), (i2, .inl (kT, 0, .inr (.inr (.inr (.inr (fun _ => none))))))] sz) [(mm, .inr (21, [.int th2, .ref ms, .ref mt, .ref mh, .ref me]))] []) (va_A [(mm, .inr (21, [.int th, .ref ms, .ref mt, .ref mh, .ref me])), (ms, .inr (1, [.int 0, .ref eD, .int 0])), (mt, .inr (1, [.int mo, .ref ma, .int 3])), (mh, .inr (1, [.int 0, .ref eD, .int 0])), (me, .inr (1, [.int 0, .ref eD, .int 0])), (ma, .inl (kO, 10, .inr (.inr (.inr (.inr (zfT t0 t1 t2)))))), (t0, .inr (18, [.int (-1), .ref i0])), (t1, .inr (18, [.int (-2), .ref i1])), (t2, .inr (18, [.int (-3), .ref i2])), (i0, .inl (kT, 0, .inr (.inr (.inr (.inr (fun _ => none)))))), (i1, .inl (kT, 0, .inr (.inr (.inr (.inr (fun _ => none)))))), (i2, .inl (kT, 0, .inr (.inr (.inr (.inr (fun _ => none))))))] sz)) 7 22 (va_A [(mm, .inr (21, [.int th, .ref ms, .ref mt, .ref mh, .ref me])), (ms, .inr (1, [.int 0, .ref eD, .int 0])), (mt, .inr (1, [.int mo, .ref ma, .int 3])), (mh, .inr (1, [.int 0, .ref eD, .int 0])), (me, .inr (1, [.int 0, .ref eD, .int 0])), (ma, .inl (kO, 10, .inr (.inr (.inr (.inr (zfT t0 t1 t2)))))), (t0, .inr (18, [.int (-1), .ref i0])), (t1, .inr (18, [.int (-2), .ref i1])), (t2, .inr (18, [.int (-3), .ref i2])), (i0, .inl (kT, 0, .inr (.inr (.inr (.inr (fun _ => none)))))), (i1, .inl (kT, 0, .inr (.inr (.inr (.inr (fun _ => none)))))), (i2, .inl (kT, 0, .inr (.inr (.inr (.inr (fun _ => none))))))] sz) := by
  refine Met.ofW (cc := cX19_wouldChoose) (maxL := 11) (ret := (some .int)) (by decide) rfl ?_
  intro p e s m args below meth c s₁ B hml hv
  obtain ⟨rfl, hsz, hP, hK, hD0, hE⟩ := hv
  have hx := B.exec
  have hb := B.bytes
  have hr := B.returns
  have hts := atoms_spec (ws := w_c_M_would) B.pre
  have hown : s.vm.findClass RX19 = some m.cls := findClass_of_methodNamed B.named
  have hlocks := B.notSynchronized
  subst hsz
  have hD := hD0.self (sz := s.heap.size)
  generalize hAe : va_A [(mm, .inr (21, [.int th, .ref ms, .ref mt, .ref mh, .ref me])), (ms, .inr (1, [.int 0, .ref eD, .int 0])), (mt, .inr (1, [.int mo, .ref ma, .int 3])), (mh, .inr (1, [.int 0, .ref eD, .int 0])), (me, .inr (1, [.int 0, .ref eD, .int 0])), (ma, .inl (kO, 10, .inr (.inr (.inr (.inr (zfT t0 t1 t2)))))), (t0, .inr (18, [.int (-1), .ref i0])), (t1, .inr (18, [.int (-2), .ref i1])), (t2, .inr (18, [.int (-3), .ref i2])), (i0, .inl (kT, 0, .inr (.inr (.inr (.inr (fun _ => none)))))), (i1, .inl (kT, 0, .inr (.inr (.inr (.inr (fun _ => none)))))), (i2, .inl (kT, 0, .inr (.inr (.inr (.inr (fun _ => none))))))] s.heap.size = A at hD hE ⊢
  have hA : ∀ q : Nat, s.heap.size ≤ q → A q := fun q h => by rw [← hAe]; exact Or.inr h
  have hS : va_S A s.heap s.heap [] := va_S.rf
  have hP : va_P (dC, dI) vwCl [(mm, .inr (21, [.int th, .ref ms, .ref mt, .ref mh, .ref me])), (ms, .inr (1, [.int 0, .ref eD, .int 0])), (mt, .inr (1, [.int mo, .ref ma, .int 3])), (mh, .inr (1, [.int 0, .ref eD, .int 0])), (me, .inr (1, [.int 0, .ref eD, .int 0])), (ma, .inl (kO, 10, .inr (.inr (.inr (.inr (zfT t0 t1 t2)))))), (t0, .inr (18, [.int (-1), .ref i0])), (t1, .inr (18, [.int (-2), .ref i1])), (t2, .inr (18, [.int (-3), .ref i2])), (i0, .inl (kT, 0, .inr (.inr (.inr (.inr (fun _ => none)))))), (i1, .inl (kT, 0, .inr (.inr (.inr (.inr (fun _ => none)))))), (i2, .inl (kT, 0, .inr (.inr (.inr (.inr (fun _ => none))))))] s.heap := hP
  have hl := lv_entry ([.ref mm, .int 2, .int x2, .int 2, .int (-1)]) (n := 11) (Nat.le_of_ble_eq_true rfl)
  rw [lg_entry_eq]
  generalize (lg_sl ([.ref mm, .int 2, .int x2, .int 2, .int (-1)]) ++ List.replicate (11 - (lg_sl ([.ref mm, .int 2, .int x2, .int 2, .int (-1)])).length) Slot.unset).toArray = ls at hl ⊢
  have hl : lv_has ls 11 [(0, .ref mm), (1, .int 2), (2, .int x2), (3, .int 2), (4, .int (-1))] := hl
  have hP := hP.sub (ws' := [(mm, .inr (21, [.int th, .ref ms, .ref mt, .ref mh, .ref me])), (mt, .inr (1, [.int mo, .ref ma, .int 3])), (mh, .inr (1, [.int 0, .ref eD, .int 0])), (ma, .inl (kO, 10, .inr (.inr (.inr (.inr (zfT t0 t1 t2)))))), (t2, .inr (18, [.int (-3), .ref i2])), (i2, .inl (kT, 0, .inr (.inr (.inr (.inr (fun _ => none))))))]) [0, 2, 3, 5, 8, 11] rfl
  have hD := hD.sub (ws' := [(mm, .inr (21, [.int th, .ref ms, .ref mt, .ref mh, .ref me])), (mt, .inr (1, [.int mo, .ref ma, .int 3])), (mh, .inr (1, [.int 0, .ref eD, .int 0])), (ma, .inl (kO, 10, .inr (.inr (.inr (.inr (zfT t0 t1 t2)))))), (t2, .inr (18, [.int (-3), .ref i2])), (i2, .inl (kT, 0, .inr (.inr (.inr (.inr (fun _ => none))))))]) [0, 2, 3, 5, 8, 11] (by decide) rfl
  refine lv_aload_n hx hb dX19_wouldChoose_0 rfl (lv_at hl 0 rfl) ?_
  refine lv_aload_n hx hb dX19_wouldChoose_1 rfl (lv_at hl 0 rfl) ?_
  refine lv_iload_n hx hb dX19_wouldChoose_2 rfl (lv_at hl 1 rfl) ?_
  refine z_i (wr := [(mh, .inr (1, [.int 0, .ref eD, .int 0])), (ma, .inl (kO, 10, .inr (.inr (.inr (.inr (zfT t0 t1 t2)))))), (t2, .inr (18, [.int (-3), .ref i2])), (i2, .inl (kT, 0, .inr (.inr (.inr (.inr (fun _ => none))))))]) (va_runV (As := [.int 2]) (rest := [.ref mm]) ⟨hx, hb, hml, hown, hts⟩ (c_M_isNoType_ok l eD eI ad dC dI s.heap.size mm ms mt mh me th ((.int mo)) ((.ref ma)) 2 (by decide) (by decide)) (cwV 1 hts g_c_M_would_3 rfl rfl rfl (by decide +kernel) ⟨Nat.le_of_ble_eq_true rfl, Nat.le_of_ble_eq_true rfl⟩) (z_preV (wc := [(mm, .inr (21, [.int th, .ref ms, .ref mt, .ref mh, .ref me])), (mt, .inr (1, [.int mo, .ref ma, .int 3]))]) hP hD hK hS hA hE [0, 1] [] rfl (by decide) rfl (ci := 21) (q0 := 0) rfl rfl) rfl rfl hl.1 rfl (lv_room (Nat.le_of_ble_eq_true rfl)) dX19_wouldChoose_3 ⟨Nat.le_of_ble_eq_true rfl, Nat.le_of_ble_eq_true rfl⟩) hP hD hK hS hA [0, 1] [2, 3, 4, 5] rfl rfl (by decide) (by decide) (fun r_1 u H locs hw_2 hP hD hK hS => ?_)
  obtain ⟨⟩ := u
  have hP : va_P (dC, dI) vwCl [(mh, .inr (1, [.int 0, .ref eD, .int 0])), (ma, .inl (kO, 10, .inr (.inr (.inr (.inr (zfT t0 t1 t2)))))), (t2, .inr (18, [.int (-3), .ref i2])), (i2, .inl (kT, 0, .inr (.inr (.inr (.inr (fun _ => none)))))), (mm, .inr (21, [.int th, .ref ms, .ref mt, .ref mh, .ref me])), (mt, .inr (1, [.int mo, .ref ma, .int 3]))] H := hP
  have hD : va_D A [(mh, .inr (1, [.int 0, .ref eD, .int 0])), (ma, .inl (kO, 10, .inr (.inr (.inr (.inr (zfT t0 t1 t2)))))), (t2, .inr (18, [.int (-3), .ref i2])), (i2, .inl (kT, 0, .inr (.inr (.inr (.inr (fun _ => none)))))), (mm, .inr (21, [.int th, .ref ms, .ref mt, .ref mh, .ref me])), (mt, .inr (1, [.int mo, .ref ma, .int 3]))] := hD
  have hK : va_K (dC, dI) vwCl [(kO, .object "java/lang/Object"), (kT, .object "HornbookModel$Tree")] s := by simpa using hK
  have hw_2 : r_1 = 0 := hw_2
  have hw_2 := hw_2.symm
  subst hw_2
  refine lv_if_ne (tgt := 26) hx hb dX19_wouldChoose_6 (by decide) (fun c_3 => ?_) (fun c_3 => ?_)
  · exact absurd (by decide) c_3
  refine lv_aload_n hx hb dX19_wouldChoose_9 rfl (lv_at hl 0 rfl) ?_
  refine lv_iload_n hx hb dX19_wouldChoose_10 rfl (lv_at hl 3 rfl) ?_
  refine z_i (wr := [(mh, .inr (1, [.int 0, .ref eD, .int 0])), (ma, .inl (kO, 10, .inr (.inr (.inr (.inr (zfT t0 t1 t2)))))), (t2, .inr (18, [.int (-3), .ref i2])), (i2, .inl (kT, 0, .inr (.inr (.inr (.inr (fun _ => none))))))]) (va_runV (As := [.int 2]) (rest := [.ref mm]) ⟨hx, hb, hml, hown, hts⟩ (c_M_isNoTypeN_ok l eD eI ad dC dI H.size mm ms mt mh me th ((.int mo)) ((.ref ma)) 2 (by decide) (by decide) (by decide)) (cwV 1 hts g_c_M_would_23 rfl rfl rfl (by decide +kernel) ⟨Nat.le_of_ble_eq_true rfl, Nat.le_of_ble_eq_true rfl⟩) (z_preV (wc := [(mm, .inr (21, [.int th, .ref ms, .ref mt, .ref mh, .ref me])), (mt, .inr (1, [.int mo, .ref ma, .int 3]))]) hP hD hK hS hA hE [4, 5] [] rfl (by decide) rfl (ci := 21) (q0 := 0) rfl rfl) rfl rfl hl.1 rfl (lv_room (Nat.le_of_ble_eq_true rfl)) dX19_wouldChoose_11 ⟨Nat.le_of_ble_eq_true rfl, Nat.le_of_ble_eq_true rfl⟩) hP hD hK hS hA [4, 5] [0, 1, 2, 3] rfl rfl (by decide) (by decide) (fun r_4 u H locs hw_5 hP hD hK hS => ?_)
  obtain ⟨⟩ := u
  have hP : va_P (dC, dI) vwCl [(mh, .inr (1, [.int 0, .ref eD, .int 0])), (ma, .inl (kO, 10, .inr (.inr (.inr (.inr (zfT t0 t1 t2)))))), (t2, .inr (18, [.int (-3), .ref i2])), (i2, .inl (kT, 0, .inr (.inr (.inr (.inr (fun _ => none)))))), (mm, .inr (21, [.int th, .ref ms, .ref mt, .ref mh, .ref me])), (mt, .inr (1, [.int mo, .ref ma, .int 3]))] H := hP
  have hD : va_D A [(mh, .inr (1, [.int 0, .ref eD, .int 0])), (ma, .inl (kO, 10, .inr (.inr (.inr (.inr (zfT t0 t1 t2)))))), (t2, .inr (18, [.int (-3), .ref i2])), (i2, .inl (kT, 0, .inr (.inr (.inr (.inr (fun _ => none)))))), (mm, .inr (21, [.int th, .ref ms, .ref mt, .ref mh, .ref me])), (mt, .inr (1, [.int mo, .ref ma, .int 3]))] := hD
  have hK : va_K (dC, dI) vwCl [(kO, .object "java/lang/Object"), (kT, .object "HornbookModel$Tree")] s := by simpa using hK
  have hw_5 : r_4 = 0 := hw_5
  have hw_5 := hw_5.symm
  subst hw_5
  refine lv_if_ne (tgt := 26) hx hb dX19_wouldChoose_14 (by decide) (fun c_6 => ?_) (fun c_6 => ?_)
  · exact absurd (by decide) c_6
  refine lv_aload_n hx hb dX19_wouldChoose_17 rfl (lv_at hl 0 rfl) ?_
  refine lv_iload hx hb dX19_wouldChoose_18 (lv_at hl 4 rfl) ?_
  refine z_i (wr := [(mh, .inr (1, [.int 0, .ref eD, .int 0])), (ma, .inl (kO, 10, .inr (.inr (.inr (.inr (zfT t0 t1 t2)))))), (t2, .inr (18, [.int (-3), .ref i2])), (i2, .inl (kT, 0, .inr (.inr (.inr (.inr (fun _ => none))))))]) (va_runV (As := [.int (-1)]) (rest := [.ref mm]) ⟨hx, hb, hml, hown, hts⟩ (c_M_isNoTypeN_none l eD eI ad dC dI H.size mm ms mt mh me th ((.int mo)) ((.ref ma))) (cwV 1 hts g_c_M_would_4 rfl rfl rfl (by decide +kernel) ⟨Nat.le_of_ble_eq_true rfl, Nat.le_of_ble_eq_true rfl⟩) (z_preV (wc := [(mm, .inr (21, [.int th, .ref ms, .ref mt, .ref mh, .ref me])), (mt, .inr (1, [.int mo, .ref ma, .int 3]))]) hP hD hK hS hA hE [4, 5] [] rfl (by decide) rfl (ci := 21) (q0 := 0) rfl rfl) rfl rfl hl.1 rfl (lv_room (Nat.le_of_ble_eq_true rfl)) dX19_wouldChoose_20 ⟨Nat.le_of_ble_eq_true rfl, Nat.le_of_ble_eq_true rfl⟩) hP hD hK hS hA [4, 5] [0, 1, 2, 3] rfl rfl (by decide) (by decide) (fun r_7 u H locs hw_8 hP hD hK hS => ?_)
  obtain ⟨⟩ := u
  have hP : va_P (dC, dI) vwCl [(mh, .inr (1, [.int 0, .ref eD, .int 0])), (ma, .inl (kO, 10, .inr (.inr (.inr (.inr (zfT t0 t1 t2)))))), (t2, .inr (18, [.int (-3), .ref i2])), (i2, .inl (kT, 0, .inr (.inr (.inr (.inr (fun _ => none)))))), (mm, .inr (21, [.int th, .ref ms, .ref mt, .ref mh, .ref me])), (mt, .inr (1, [.int mo, .ref ma, .int 3]))] H := hP
  have hD : va_D A [(mh, .inr (1, [.int 0, .ref eD, .int 0])), (ma, .inl (kO, 10, .inr (.inr (.inr (.inr (zfT t0 t1 t2)))))), (t2, .inr (18, [.int (-3), .ref i2])), (i2, .inl (kT, 0, .inr (.inr (.inr (.inr (fun _ => none)))))), (mm, .inr (21, [.int th, .ref ms, .ref mt, .ref mh, .ref me])), (mt, .inr (1, [.int mo, .ref ma, .int 3]))] := hD
  have hK : va_K (dC, dI) vwCl [(kO, .object "java/lang/Object"), (kT, .object "HornbookModel$Tree")] s := by simpa using hK
  have hw_8 : r_7 = 0 := hw_8
  have hw_8 := hw_8.symm
  subst hw_8
  refine lv_if_eq (tgt := 30) hx hb dX19_wouldChoose_23 (by decide) (fun c_9 => ?_) (fun c_9 => ?_)
  rotate_left
  · exact absurd (by decide) c_9
  refine lv_iconst (v := 0) hx hb dX19_wouldChoose_30 (by decide) ?_
  refine lv_iconst (v := 1) hx hb dX19_wouldChoose_31 (by decide) ?_
  refine z_i (wr := [(mh, .inr (1, [.int 0, .ref eD, .int 0])), (ma, .inl (kO, 10, .inr (.inr (.inr (.inr (zfT t0 t1 t2)))))), (t2, .inr (18, [.int (-3), .ref i2])), (i2, .inl (kT, 0, .inr (.inr (.inr (.inr (fun _ => none)))))), (mt, .inr (1, [.int mo, .ref ma, .int 3]))]) (va_runV (As := [.int 0, .int 1]) (rest := []) ⟨hx, hb, hml, hown, hts⟩ (c_M_start_no l eD eI ad dC dI H.size mm ((.ref ms)) ((.ref mt)) ((.ref mh)) ((.ref me)) 1 th) (cwV 2 hts g_c_M_would_5 rfl rfl rfl (by decide +kernel) ⟨Nat.le_of_ble_eq_true rfl, Nat.le_of_ble_eq_true rfl⟩) (z_preV (wc := [(mm, .inr (21, [.int th, .ref ms, .ref mt, .ref mh, .ref me]))]) hP hD hK hS hA hE [4] [] rfl (by decide) rfl (ci := 21) (q0 := 0) rfl rfl) rfl rfl hl.1 rfl (lv_room (Nat.le_of_ble_eq_true rfl)) dX19_wouldChoose_32 ⟨Nat.le_of_ble_eq_true rfl, Nat.le_of_ble_eq_true rfl⟩) hP hD hK hS hA [4] [0, 1, 2, 3, 5] rfl rfl (by decide) (by decide) (fun r_10 u H locs hw_11 hP hD hK hS => ?_)
  obtain ⟨⟩ := u
  have hP : va_P (dC, dI) vwCl [(mh, .inr (1, [.int 0, .ref eD, .int 0])), (ma, .inl (kO, 10, .inr (.inr (.inr (.inr (zfT t0 t1 t2)))))), (t2, .inr (18, [.int (-3), .ref i2])), (i2, .inl (kT, 0, .inr (.inr (.inr (.inr (fun _ => none)))))), (mt, .inr (1, [.int mo, .ref ma, .int 3])), (mm, .inr (21, [.int 0, .ref ms, .ref mt, .ref mh, .ref me]))] H := hP
  have hD : va_D A [(mh, .inr (1, [.int 0, .ref eD, .int 0])), (ma, .inl (kO, 10, .inr (.inr (.inr (.inr (zfT t0 t1 t2)))))), (t2, .inr (18, [.int (-3), .ref i2])), (i2, .inl (kT, 0, .inr (.inr (.inr (.inr (fun _ => none)))))), (mt, .inr (1, [.int mo, .ref ma, .int 3])), (mm, .inr (21, [.int 0, .ref ms, .ref mt, .ref mh, .ref me]))] := hD
  have hK : va_K (dC, dI) vwCl [(kO, .object "java/lang/Object"), (kT, .object "HornbookModel$Tree")] s := by simpa using hK
  have hw_11 : r_10 = 0 := hw_11
  have hw_11 := hw_11.symm
  subst hw_11
  refine lv_if_ne (tgt := 72) hx hb dX19_wouldChoose_35 (by decide) (fun c_12 => ?_) (fun c_12 => ?_)
  · exact absurd (by decide) c_12
  refine lv_aload_n hx hb dX19_wouldChoose_38 rfl (lv_at hl 0 rfl) ?_
  refine lv_iload_n hx hb dX19_wouldChoose_39 rfl (lv_at hl 2 rfl) ?_
  refine lv_iconst (v := 0) hx hb dX19_wouldChoose_40 (by decide) ?_
  refine lv_bipush (v := 9) hx hb dX19_wouldChoose_41 (by decide) ?_
  refine z_i (wr := [(mh, .inr (1, [.int 0, .ref eD, .int 0])), (ma, .inl (kO, 10, .inr (.inr (.inr (.inr (zfT t0 t1 t2)))))), (t2, .inr (18, [.int (-3), .ref i2])), (i2, .inl (kT, 0, .inr (.inr (.inr (.inr (fun _ => none)))))), (mt, .inr (1, [.int mo, .ref ma, .int 3])), (mm, .inr (21, [.int 0, .ref ms, .ref mt, .ref mh, .ref me]))]) (va_runS (As := [.int x2, .int 0, .int 9]) (rest := [.ref mm]) ⟨hx, hb, hml, hown, hts⟩ (c_M_isIn_ok l eD eI ad dC dI H.size x2 0 9 (hx20) (hx21)) (va_cwS 3 hts g_c_M_would_9 rfl rfl rfl (by decide +kernel) ⟨Nat.le_of_ble_eq_true rfl, Nat.le_of_ble_eq_true rfl⟩) (z_preS (wc := []) hP hD hK hS hA hE [] [] rfl (by decide) rfl) rfl rfl hl.1 rfl (lv_room (Nat.le_of_ble_eq_true rfl)) dX19_wouldChoose_43 ⟨Nat.le_of_ble_eq_true rfl, Nat.le_of_ble_eq_true rfl⟩) hP hD hK hS hA [] [0, 1, 2, 3, 4, 5] rfl rfl (by decide) (by decide) (fun r_13 u H locs hw_14 hP hD hK hS => ?_)
  obtain ⟨⟩ := u
  have hP : va_P (dC, dI) vwCl [(mh, .inr (1, [.int 0, .ref eD, .int 0])), (ma, .inl (kO, 10, .inr (.inr (.inr (.inr (zfT t0 t1 t2)))))), (t2, .inr (18, [.int (-3), .ref i2])), (i2, .inl (kT, 0, .inr (.inr (.inr (.inr (fun _ => none)))))), (mt, .inr (1, [.int mo, .ref ma, .int 3])), (mm, .inr (21, [.int 0, .ref ms, .ref mt, .ref mh, .ref me]))] H := hP
  have hD : va_D A [(mh, .inr (1, [.int 0, .ref eD, .int 0])), (ma, .inl (kO, 10, .inr (.inr (.inr (.inr (zfT t0 t1 t2)))))), (t2, .inr (18, [.int (-3), .ref i2])), (i2, .inl (kT, 0, .inr (.inr (.inr (.inr (fun _ => none)))))), (mt, .inr (1, [.int mo, .ref ma, .int 3])), (mm, .inr (21, [.int 0, .ref ms, .ref mt, .ref mh, .ref me]))] := hD
  have hK : va_K (dC, dI) vwCl [(kO, .object "java/lang/Object"), (kT, .object "HornbookModel$Tree")] s := by simpa using hK
  have hw_14 : r_13 = 1 := hw_14
  have hw_14 := hw_14.symm
  subst hw_14
  refine lv_if_eq (tgt := 60) hx hb dX19_wouldChoose_46 (by decide) (fun c_15 => ?_) (fun c_15 => ?_)
  · exact absurd c_15 (by decide)
  refine lv_iload_n hx hb dX19_wouldChoose_49 rfl (lv_at hl 3 rfl) ?_
  refine lv_iconst (v := (-1)) hx hb dX19_wouldChoose_50 (by decide) ?_
  refine lv_icmp_ne (tgt := 64) hx hb dX19_wouldChoose_51 (by decide) (fun c_16 => ?_) (fun c_16 => ?_)
  rotate_left
  · exact absurd c_16 (by decide)
  refine lv_iconst (v := 0) hx hb dX19_wouldChoose_64 (by decide) ?_
  refine lv_iconst (v := 2) hx hb dX19_wouldChoose_65 (by decide) ?_
  refine z_i (wr := [(mh, .inr (1, [.int 0, .ref eD, .int 0])), (ma, .inl (kO, 10, .inr (.inr (.inr (.inr (zfT t0 t1 t2)))))), (t2, .inr (18, [.int (-3), .ref i2])), (i2, .inl (kT, 0, .inr (.inr (.inr (.inr (fun _ => none)))))), (mt, .inr (1, [.int mo, .ref ma, .int 3]))]) (va_runV (As := [.int 0, .int 2]) (rest := []) ⟨hx, hb, hml, hown, hts⟩ (c_M_refuse_no l eD eI ad dC dI H.size mm ((.ref ms)) ((.ref mt)) ((.ref mh)) ((.ref me)) 2) (cwV 2 hts g_c_M_would_10 rfl rfl rfl (by decide +kernel) ⟨Nat.le_of_ble_eq_true rfl, Nat.le_of_ble_eq_true rfl⟩) (z_preV (wc := [(mm, .inr (21, [.int 0, .ref ms, .ref mt, .ref mh, .ref me]))]) hP hD hK hS hA hE [5] [] rfl (by decide) rfl (ci := 21) (q0 := 0) rfl rfl) rfl rfl hl.1 rfl (lv_room (Nat.le_of_ble_eq_true rfl)) dX19_wouldChoose_66 ⟨Nat.le_of_ble_eq_true rfl, Nat.le_of_ble_eq_true rfl⟩) hP hD hK hS hA [5] [0, 1, 2, 3, 4] rfl rfl (by decide) (by decide) (fun r_17 u H locs hw_18 hP hD hK hS => ?_)
  obtain ⟨⟩ := u
  have hP : va_P (dC, dI) vwCl [(mh, .inr (1, [.int 0, .ref eD, .int 0])), (ma, .inl (kO, 10, .inr (.inr (.inr (.inr (zfT t0 t1 t2)))))), (t2, .inr (18, [.int (-3), .ref i2])), (i2, .inl (kT, 0, .inr (.inr (.inr (.inr (fun _ => none)))))), (mt, .inr (1, [.int mo, .ref ma, .int 3])), (mm, .inr (21, [.int 0, .ref ms, .ref mt, .ref mh, .ref me]))] H := hP
  have hD : va_D A [(mh, .inr (1, [.int 0, .ref eD, .int 0])), (ma, .inl (kO, 10, .inr (.inr (.inr (.inr (zfT t0 t1 t2)))))), (t2, .inr (18, [.int (-3), .ref i2])), (i2, .inl (kT, 0, .inr (.inr (.inr (.inr (fun _ => none)))))), (mt, .inr (1, [.int mo, .ref ma, .int 3])), (mm, .inr (21, [.int 0, .ref ms, .ref mt, .ref mh, .ref me]))] := hD
  have hK : va_K (dC, dI) vwCl [(kO, .object "java/lang/Object"), (kT, .object "HornbookModel$Tree")] s := by simpa using hK
  have hw_18 : r_17 = 0 := hw_18
  have hw_18 := hw_18.symm
  subst hw_18
  refine lv_if_eq (tgt := 74) hx hb dX19_wouldChoose_69 (by decide) (fun c_19 => ?_) (fun c_19 => ?_)
  rotate_left
  · exact absurd (by decide) c_19
  refine lv_aload_n hx hb dX19_wouldChoose_74 rfl (lv_at hl 0 rfl) ?_
  refine lv_iload_n hx hb dX19_wouldChoose_75 rfl (lv_at hl 3 rfl) ?_
  refine lv_iload hx hb dX19_wouldChoose_76 (lv_at hl 4 rfl) ?_
  refine z_q (wr := [(mh, .inr (1, [.int 0, .ref eD, .int 0])), (i2, .inl (kT, 0, .inr (.inr (.inr (.inr (fun _ => none))))))]) (va_runV (As := [.int 2, .int (-1)]) (rest := []) ⟨hx, hb, hml, hown, hts⟩ (c_M_trees_2 l eD eI ad dC dI H.size mm ms mt mh me 0 mo ma kO t0 t1 t2 ((.ref i2))) (cwV 2 hts g_c_M_would_26 rfl rfl rfl (by decide +kernel) ⟨Nat.le_of_ble_eq_true rfl, Nat.le_of_ble_eq_true rfl⟩) (z_preV (wc := [(mm, .inr (21, [.int 0, .ref ms, .ref mt, .ref mh, .ref me])), (mt, .inr (1, [.int mo, .ref ma, .int 3])), (ma, .inl (kO, 10, .inr (.inr (.inr (.inr (zfT t0 t1 t2)))))), (t2, .inr (18, [.int (-3), .ref i2]))]) hP hD hK hS hA hE [5, 4, 1, 2] [0] rfl (by decide) rfl (ci := 21) (q0 := 0) rfl rfl) rfl rfl hl.1 rfl (lv_room (Nat.le_of_ble_eq_true rfl)) dX19_wouldChoose_78 ⟨Nat.le_of_ble_eq_true rfl, Nat.le_of_ble_eq_true rfl⟩) hP hD hK hS hA [5, 4, 1, 2] [0, 3] rfl rfl (by decide) (by decide) (fun r_22 u H locs hw_23 hP hD hK hS => ?_)
  obtain ⟨u_20, u_21⟩ := u
  have hP : va_P (dC, dI) vwCl [(mh, .inr (1, [.int 0, .ref eD, .int 0])), (i2, .inl (kT, 0, .inr (.inr (.inr (.inr (fun _ => none)))))), (mm, .inr (21, [.int 0, .ref ms, .ref mt, .ref mh, .ref me])), (mt, .inr (1, [.int mo, .ref ma, .int 3])), (ma, .inl (kO, 10, .inr (.inr (.inr (.inr (zfT t0 t1 t2)))))), (t2, .inr (18, [.int (-3), .ref i2])), (u_20, .inl (u_21, 1, .inr (.inr (.inr (.inr (va_up (fun _ => none) (0 : Int32).toNatClampNeg (some t2)))))))] H := hP
  have hD : va_D A [(mh, .inr (1, [.int 0, .ref eD, .int 0])), (i2, .inl (kT, 0, .inr (.inr (.inr (.inr (fun _ => none)))))), (mm, .inr (21, [.int 0, .ref ms, .ref mt, .ref mh, .ref me])), (mt, .inr (1, [.int mo, .ref ma, .int 3])), (ma, .inl (kO, 10, .inr (.inr (.inr (.inr (zfT t0 t1 t2)))))), (t2, .inr (18, [.int (-3), .ref i2])), (u_20, .inl (u_21, 1, .inr (.inr (.inr (.inr (va_up (fun _ => none) (0 : Int32).toNatClampNeg (some t2)))))))] := hD
  have hK : va_K (dC, dI) vwCl [(kO, .object "java/lang/Object"), (kT, .object "HornbookModel$Tree"), (kO, .object "java/lang/Object"), (u_21, .object "HornbookModel$Tree")] s := hK
  have hw_23 : r_22 = some u_20 := hw_23
  have hw_23 := hw_23.symm
  subst hw_23
  refine W.eq (g2 := F0 m 81 ls (.ref u_20 :: [])) rfl ?_
  refine lv_astore (lv' := [(5, .ref u_20), (0, .ref mm), (1, .int 2), (2, .int x2), (3, .int 2), (4, .int (-1))]) hx hb dX19_wouldChoose_81 hl (by decide) rfl (fun ls hl => ?_)
  refine lv_aload_n hx hb dX19_wouldChoose_83 rfl (lv_at hl 1 rfl) ?_
  refine lv_iload_n hx hb dX19_wouldChoose_84 rfl (lv_at hl 2 rfl) ?_
  refine z_q (wr := [(mh, .inr (1, [.int 0, .ref eD, .int 0])), (i2, .inl (kT, 0, .inr (.inr (.inr (.inr (fun _ => none)))))), (u_20, .inl (u_21, 1, .inr (.inr (.inr (.inr (va_up (fun _ => none) (0 : Int32).toNatClampNeg (some t2)))))))]) (va_runV (As := [.int 2]) (rest := []) ⟨hx, hb, hml, hown, hts⟩ (c_M_type_2 l eD eI ad dC dI H.size mm ms mt mh me 0 mo ma kO t0 t1 t2 ((.ref i2))) (cwV 1 hts g_c_M_would_19 rfl rfl rfl (by decide +kernel) ⟨Nat.le_of_ble_eq_true rfl, Nat.le_of_ble_eq_true rfl⟩) (z_preV (wc := [(mm, .inr (21, [.int 0, .ref ms, .ref mt, .ref mh, .ref me])), (mt, .inr (1, [.int mo, .ref ma, .int 3])), (ma, .inl (kO, 10, .inr (.inr (.inr (.inr (zfT t0 t1 t2)))))), (t2, .inr (18, [.int (-3), .ref i2]))]) hP hD hK hS hA hE [2, 3, 4, 5] [0] rfl (by decide) rfl (ci := 21) (q0 := 0) rfl rfl) rfl rfl hl.1 rfl (lv_room (Nat.le_of_ble_eq_true rfl)) dX19_wouldChoose_85 ⟨Nat.le_of_ble_eq_true rfl, Nat.le_of_ble_eq_true rfl⟩) hP hD hK hS hA [2, 3, 4, 5] [0, 1, 6] rfl rfl (by decide) (by decide) (fun r_24 u H locs hw_25 hP hD hK hS => ?_)
  obtain ⟨⟩ := u
  have hP : va_P (dC, dI) vwCl [(mh, .inr (1, [.int 0, .ref eD, .int 0])), (i2, .inl (kT, 0, .inr (.inr (.inr (.inr (fun _ => none)))))), (u_20, .inl (u_21, 1, .inr (.inr (.inr (.inr (va_up (fun _ => none) (0 : Int32).toNatClampNeg (some t2))))))), (mm, .inr (21, [.int 0, .ref ms, .ref mt, .ref mh, .ref me])), (mt, .inr (1, [.int mo, .ref ma, .int 3])), (ma, .inl (kO, 10, .inr (.inr (.inr (.inr (zfT t0 t1 t2)))))), (t2, .inr (18, [.int (-3), .ref i2]))] H := hP
  have hD : va_D A [(mh, .inr (1, [.int 0, .ref eD, .int 0])), (i2, .inl (kT, 0, .inr (.inr (.inr (.inr (fun _ => none)))))), (u_20, .inl (u_21, 1, .inr (.inr (.inr (.inr (va_up (fun _ => none) (0 : Int32).toNatClampNeg (some t2))))))), (mm, .inr (21, [.int 0, .ref ms, .ref mt, .ref mh, .ref me])), (mt, .inr (1, [.int mo, .ref ma, .int 3])), (ma, .inl (kO, 10, .inr (.inr (.inr (.inr (zfT t0 t1 t2)))))), (t2, .inr (18, [.int (-3), .ref i2]))] := hD
  have hK : va_K (dC, dI) vwCl [(kO, .object "java/lang/Object"), (kT, .object "HornbookModel$Tree"), (kO, .object "java/lang/Object"), (u_21, .object "HornbookModel$Tree")] s := by simpa using hK
  have hw_25 : r_24 = some t2 := hw_25
  have hw_25 := hw_25.symm
  subst hw_25
  refine W.eq (g2 := F0 m 88 ls (.ref t2 :: [])) rfl ?_
  refine z_i (wr := [(mh, .inr (1, [.int 0, .ref eD, .int 0])), (u_20, .inl (u_21, 1, .inr (.inr (.inr (.inr (va_up (fun _ => none) (0 : Int32).toNatClampNeg (some t2))))))), (mm, .inr (21, [.int 0, .ref ms, .ref mt, .ref mh, .ref me])), (mt, .inr (1, [.int mo, .ref ma, .int 3])), (ma, .inl (kO, 10, .inr (.inr (.inr (.inr (zfT t0 t1 t2))))))]) (va_runV (As := []) (rest := []) ⟨hx, hb, hml, hown, hts⟩ (c_T_isClosed_3 l eD eI ad dC dI H.size t2 i2 kT) (cwV 0 hts g_c_M_would_20 rfl rfl rfl (by decide +kernel) ⟨Nat.le_of_ble_eq_true rfl, Nat.le_of_ble_eq_true rfl⟩) (z_preV (wc := [(t2, .inr (18, [.int (-3), .ref i2])), (i2, .inl (kT, 0, .inr (.inr (.inr (.inr (fun _ => none))))))]) hP hD hK hS hA hE [6, 1] [1] rfl (by decide) rfl (ci := 18) (q0 := 0) rfl rfl) rfl rfl hl.1 rfl (lv_room (Nat.le_of_ble_eq_true rfl)) dX19_wouldChoose_88 ⟨Nat.le_of_ble_eq_true rfl, Nat.le_of_ble_eq_true rfl⟩) hP hD hK hS hA [6, 1] [0, 2, 3, 4, 5] rfl rfl (by decide) (by decide) (fun r_26 u H locs hw_27 hP hD hK hS => ?_)
  obtain ⟨⟩ := u
  have hP : va_P (dC, dI) vwCl [(mh, .inr (1, [.int 0, .ref eD, .int 0])), (u_20, .inl (u_21, 1, .inr (.inr (.inr (.inr (va_up (fun _ => none) (0 : Int32).toNatClampNeg (some t2))))))), (mm, .inr (21, [.int 0, .ref ms, .ref mt, .ref mh, .ref me])), (mt, .inr (1, [.int mo, .ref ma, .int 3])), (ma, .inl (kO, 10, .inr (.inr (.inr (.inr (zfT t0 t1 t2)))))), (t2, .inr (18, [.int (-3), .ref i2])), (i2, .inl (kT, 0, .inr (.inr (.inr (.inr (fun _ => none))))))] H := hP
  have hD : va_D A [(mh, .inr (1, [.int 0, .ref eD, .int 0])), (u_20, .inl (u_21, 1, .inr (.inr (.inr (.inr (va_up (fun _ => none) (0 : Int32).toNatClampNeg (some t2))))))), (mm, .inr (21, [.int 0, .ref ms, .ref mt, .ref mh, .ref me])), (mt, .inr (1, [.int mo, .ref ma, .int 3])), (ma, .inl (kO, 10, .inr (.inr (.inr (.inr (zfT t0 t1 t2)))))), (t2, .inr (18, [.int (-3), .ref i2])), (i2, .inl (kT, 0, .inr (.inr (.inr (.inr (fun _ => none))))))] := hD
  have hK : va_K (dC, dI) vwCl [(kO, .object "java/lang/Object"), (kT, .object "HornbookModel$Tree"), (kO, .object "java/lang/Object"), (u_21, .object "HornbookModel$Tree")] s := by simpa using hK
  have hw_27 : r_26 = 0 := hw_27
  have hw_27 := hw_27.symm
  subst hw_27
  refine lv_istore (lv' := [(6, .int 0), (5, .ref u_20), (0, .ref mm), (1, .int 2), (2, .int x2), (3, .int 2), (4, .int (-1))]) hx hb dX19_wouldChoose_91 hl (by decide) rfl (fun ls hl => ?_)
  refine lv_aload hx hb dX19_wouldChoose_93 (lv_at hl 1 rfl) ?_
  refine lv_astore (lv' := [(7, .ref u_20), (6, .int 0), (5, .ref u_20), (0, .ref mm), (1, .int 2), (2, .int x2), (3, .int 2), (4, .int (-1))]) hx hb dX19_wouldChoose_95 hl (by decide) rfl (fun ls hl => ?_)
  refine lv_aload hx hb dX19_wouldChoose_97 (lv_at hl 0 rfl) ?_
  refine va_alen (D := (dC, dI)) (v := 1) hx hb hK hP 1 3 rfl rfl rfl dX19_wouldChoose_99 ?_
  refine lv_istore (lv' := [(8, .int 1), (7, .ref u_20), (6, .int 0), (5, .ref u_20), (0, .ref mm), (1, .int 2), (2, .int x2), (3, .int 2), (4, .int (-1))]) hx hb dX19_wouldChoose_100 hl (by decide) rfl (fun ls hl => ?_)
  refine lv_iconst (v := 0) hx hb dX19_wouldChoose_102 (by decide) ?_
  refine lv_istore (lv' := [(9, .int 0), (8, .int 1), (7, .ref u_20), (6, .int 0), (5, .ref u_20), (0, .ref mm), (1, .int 2), (2, .int x2), (3, .int 2), (4, .int (-1))]) hx hb dX19_wouldChoose_103 hl (by decide) rfl (fun ls hl => ?_)
  refine lv_iload hx hb dX19_wouldChoose_105 (lv_at hl 0 rfl) ?_
  refine lv_iload hx hb dX19_wouldChoose_107 (lv_at hl 1 rfl) ?_
  refine lv_icmp_ge (tgt := 135) hx hb dX19_wouldChoose_109 (by decide) (fun c_28 => ?_) (fun c_28 => ?_)
  · exact absurd c_28 (by decide)
  refine lv_aload hx hb dX19_wouldChoose_112 (lv_at hl 2 rfl) ?_
  refine lv_iload hx hb dX19_wouldChoose_114 (lv_at hl 0 rfl) ?_
  refine va_aldq (D := (dC, dI)) hx hb hK hP 1 3 rfl rfl (by unfold vp_in; decide) dX19_wouldChoose_116 ?_
  refine z_top (v' := .ref t2) (by first | rfl | decide | simp [va_up, va_rf]) ?_
  refine lv_astore (lv' := [(10, .ref t2), (9, .int 0), (8, .int 1), (7, .ref u_20), (6, .int 0), (5, .ref u_20), (0, .ref mm), (1, .int 2), (2, .int x2), (3, .int 2), (4, .int (-1))]) hx hb dX19_wouldChoose_117 hl (by decide) rfl (fun ls hl => ?_)
  refine lv_iload hx hb dX19_wouldChoose_119 (lv_at hl 4 rfl) ?_
  refine lv_aload hx hb dX19_wouldChoose_121 (lv_at hl 0 rfl) ?_
  refine z_i (wr := [(mh, .inr (1, [.int 0, .ref eD, .int 0])), (u_20, .inl (u_21, 1, .inr (.inr (.inr (.inr (va_up (fun _ => none) (0 : Int32).toNatClampNeg (some t2))))))), (mm, .inr (21, [.int 0, .ref ms, .ref mt, .ref mh, .ref me])), (mt, .inr (1, [.int mo, .ref ma, .int 3])), (ma, .inl (kO, 10, .inr (.inr (.inr (.inr (zfT t0 t1 t2))))))]) (va_runV (As := []) (rest := [.int 0]) ⟨hx, hb, hml, hown, hts⟩ (c_T_isClosed_3 l eD eI ad dC dI H.size t2 i2 kT) (cwV 0 hts g_c_M_would_20 rfl rfl rfl (by decide +kernel) ⟨Nat.le_of_ble_eq_true rfl, Nat.le_of_ble_eq_true rfl⟩) (z_preV (wc := [(t2, .inr (18, [.int (-3), .ref i2])), (i2, .inl (kT, 0, .inr (.inr (.inr (.inr (fun _ => none))))))]) hP hD hK hS hA hE [5, 6] [1] rfl (by decide) rfl (ci := 18) (q0 := 0) rfl rfl) rfl rfl hl.1 rfl (lv_room (Nat.le_of_ble_eq_true rfl)) dX19_wouldChoose_123 ⟨Nat.le_of_ble_eq_true rfl, Nat.le_of_ble_eq_true rfl⟩) hP hD hK hS hA [5, 6] [0, 1, 2, 3, 4] rfl rfl (by decide) (by decide) (fun r_29 u H locs hw_30 hP hD hK hS => ?_)
  obtain ⟨⟩ := u
  have hP : va_P (dC, dI) vwCl [(mh, .inr (1, [.int 0, .ref eD, .int 0])), (u_20, .inl (u_21, 1, .inr (.inr (.inr (.inr (va_up (fun _ => none) (0 : Int32).toNatClampNeg (some t2))))))), (mm, .inr (21, [.int 0, .ref ms, .ref mt, .ref mh, .ref me])), (mt, .inr (1, [.int mo, .ref ma, .int 3])), (ma, .inl (kO, 10, .inr (.inr (.inr (.inr (zfT t0 t1 t2)))))), (t2, .inr (18, [.int (-3), .ref i2])), (i2, .inl (kT, 0, .inr (.inr (.inr (.inr (fun _ => none))))))] H := hP
  have hD : va_D A [(mh, .inr (1, [.int 0, .ref eD, .int 0])), (u_20, .inl (u_21, 1, .inr (.inr (.inr (.inr (va_up (fun _ => none) (0 : Int32).toNatClampNeg (some t2))))))), (mm, .inr (21, [.int 0, .ref ms, .ref mt, .ref mh, .ref me])), (mt, .inr (1, [.int mo, .ref ma, .int 3])), (ma, .inl (kO, 10, .inr (.inr (.inr (.inr (zfT t0 t1 t2)))))), (t2, .inr (18, [.int (-3), .ref i2])), (i2, .inl (kT, 0, .inr (.inr (.inr (.inr (fun _ => none))))))] := hD
  have hK : va_K (dC, dI) vwCl [(kO, .object "java/lang/Object"), (kT, .object "HornbookModel$Tree"), (kO, .object "java/lang/Object"), (u_21, .object "HornbookModel$Tree")] s := by simpa using hK
  have hw_30 : r_29 = 0 := hw_30
  have hw_30 := hw_30.symm
  subst hw_30
  refine lv_iand hx hb dX19_wouldChoose_126 ?_
  refine z_top (v' := .int 0) (congrArg Value.int (by decide)) ?_
  refine lv_istore (lv' := [(6, .int 0), (10, .ref t2), (9, .int 0), (8, .int 1), (7, .ref u_20), (5, .ref u_20), (0, .ref mm), (1, .int 2), (2, .int x2), (3, .int 2), (4, .int (-1))]) hx hb dX19_wouldChoose_127 hl (by decide) rfl (fun ls hl => ?_)
  refine lv_iinc (v := 1) (lv' := [(9, .int 1), (6, .int 0), (10, .ref t2), (8, .int 1), (7, .ref u_20), (5, .ref u_20), (0, .ref mm), (1, .int 2), (2, .int x2), (3, .int 2), (4, .int (-1))]) hx hb dX19_wouldChoose_129 hl (k := 2) rfl (by decide) (by decide) rfl (fun ls hl => ?_)
  refine lv_goto (tgt := 105) hx hb dX19_wouldChoose_132 (by decide) ?_
  refine lv_iload hx hb dX19_wouldChoose_105 (lv_at hl 0 rfl) ?_
  refine lv_iload hx hb dX19_wouldChoose_107 (lv_at hl 3 rfl) ?_
  refine lv_icmp_ge (tgt := 135) hx hb dX19_wouldChoose_109 (by decide) (fun c_31 => ?_) (fun c_31 => ?_)
  rotate_left
  · exact absurd (by decide) c_31
  refine lv_aload_n hx hb dX19_wouldChoose_135 rfl (lv_at hl 6 rfl) ?_
  refine lv_iload hx hb dX19_wouldChoose_136 (lv_at hl 1 rfl) ?_
  refine lv_if_ne (tgt := 145) hx hb dX19_wouldChoose_138 (by decide) (fun c_32 => ?_) (fun c_32 => ?_)
  · exact absurd (by decide) c_32
  refine lv_iconst (v := 1) hx hb dX19_wouldChoose_141 (by decide) ?_
  refine lv_goto (tgt := 146) hx hb dX19_wouldChoose_142 (by decide) ?_
  refine lv_iconst (v := 2) hx hb dX19_wouldChoose_146 (by decide) ?_
  refine z_i (wr := [(mh, .inr (1, [.int 0, .ref eD, .int 0])), (u_20, .inl (u_21, 1, .inr (.inr (.inr (.inr (va_up (fun _ => none) (0 : Int32).toNatClampNeg (some t2))))))), (mt, .inr (1, [.int mo, .ref ma, .int 3])), (ma, .inl (kO, 10, .inr (.inr (.inr (.inr (zfT t0 t1 t2)))))), (t2, .inr (18, [.int (-3), .ref i2])), (i2, .inl (kT, 0, .inr (.inr (.inr (.inr (fun _ => none))))))]) (va_runV (As := [.int 1, .int 2]) (rest := []) ⟨hx, hb, hml, hown, hts⟩ (c_M_refuse_yes l eD eI ad dC dI H.size mm ((.ref ms)) ((.ref mt)) ((.ref mh)) ((.ref me)) 2 (by decide)) (cwV 2 hts g_c_M_would_7 rfl rfl rfl (by decide +kernel) ⟨Nat.le_of_ble_eq_true rfl, Nat.le_of_ble_eq_true rfl⟩) (z_preV (wc := [(mm, .inr (21, [.int 0, .ref ms, .ref mt, .ref mh, .ref me]))]) hP hD hK hS hA hE [2] [] rfl (by decide) rfl (ci := 21) (q0 := 0) rfl rfl) rfl rfl hl.1 rfl (lv_room (Nat.le_of_ble_eq_true rfl)) dX19_wouldChoose_147 ⟨Nat.le_of_ble_eq_true rfl, Nat.le_of_ble_eq_true rfl⟩) hP hD hK hS hA [2] [0, 1, 3, 4, 5, 6] rfl rfl (by decide) (by decide) (fun r_33 u H locs hw_34 hP hD hK hS => ?_)
  obtain ⟨⟩ := u
  have hP : va_P (dC, dI) vwCl [(mh, .inr (1, [.int 0, .ref eD, .int 0])), (u_20, .inl (u_21, 1, .inr (.inr (.inr (.inr (va_up (fun _ => none) (0 : Int32).toNatClampNeg (some t2))))))), (mt, .inr (1, [.int mo, .ref ma, .int 3])), (ma, .inl (kO, 10, .inr (.inr (.inr (.inr (zfT t0 t1 t2)))))), (t2, .inr (18, [.int (-3), .ref i2])), (i2, .inl (kT, 0, .inr (.inr (.inr (.inr (fun _ => none)))))), (mm, .inr (21, [.int 2, .ref ms, .ref mt, .ref mh, .ref me]))] H := hP
  have hD : va_D A [(mh, .inr (1, [.int 0, .ref eD, .int 0])), (u_20, .inl (u_21, 1, .inr (.inr (.inr (.inr (va_up (fun _ => none) (0 : Int32).toNatClampNeg (some t2))))))), (mt, .inr (1, [.int mo, .ref ma, .int 3])), (ma, .inl (kO, 10, .inr (.inr (.inr (.inr (zfT t0 t1 t2)))))), (t2, .inr (18, [.int (-3), .ref i2])), (i2, .inl (kT, 0, .inr (.inr (.inr (.inr (fun _ => none)))))), (mm, .inr (21, [.int 2, .ref ms, .ref mt, .ref mh, .ref me]))] := hD
  have hK : va_K (dC, dI) vwCl [(kO, .object "java/lang/Object"), (kT, .object "HornbookModel$Tree"), (kO, .object "java/lang/Object"), (u_21, .object "HornbookModel$Tree")] s := by simpa using hK
  have hw_34 : r_33 = 1 := hw_34
  have hw_34 := hw_34.symm
  subst hw_34
  refine lv_if_eq (tgt := 155) hx hb dX19_wouldChoose_150 (by decide) (fun c_35 => ?_) (fun c_35 => ?_)
  · exact absurd c_35 (by decide)
  refine lv_iconst (v := 0) hx hb dX19_wouldChoose_153 (by decide) ?_
  have hP9 := hP.sub (ws' := [(mm, .inr (21, [.int 2, .ref ms, .ref mt, .ref mh, .ref me]))]) [6] rfl
  have hD9 := hD.sub (ws' := [(mm, .inr (21, [.int 2, .ref ms, .ref mt, .ref mh, .ref me]))]) [6] (by decide) rfl
  have hK9 := hK.sub (tys' := []) [] rfl
  refine W.widen (k := 7) (n := 22) (Nat.le_of_ble_eq_true rfl) (Nat.le_of_ble_eq_true rfl) ?_
  exact W.iret (v := 0) hx hb hr (fun t ht hW => ⟨⟨0, (2, 0), rfl, ⟨rfl, by first | decide | simp [hx20, hx21], by first | exact fun h => absurd h (by decide) | exact fun _ => rfl | rfl | decide | simp⟩, ⟨by rw [ht]; exact hP9, va_K.moved hW.alike hK9, hD9⟩⟩, hS.F ht⟩) hS.2.2 dX19_wouldChoose_154

set_option maxHeartbeats 4000000 in
set_option maxRecDepth 100000 in
theorem c_M_would_Ckl (l : Launch) (eD eI : Nat) (ad : Nat → Nat) (dC : Nat → ClassId) (dI : Nat → Nat → Nat) (sz : Nat) (mm : Nat) (ms : Nat) (mt : Nat) (mh : Nat) (me : Nat) (mo : Int32) (ma : Nat) (kO : ClassId) (kT : ClassId) (t0 : Nat) (t1 : Nat) (t2 : Nat) (i0 : Nat) (i1 : Nat) (i2 : Nat) (th : Int32) (x1 : Int32) (x2 : Int32) (x3 : Int32) (x4 : Int32) (hx10 : ¬ x1 < 0) (hx11 : ¬ 2 < x1) (hx39 : ¬ x3 = (-1)) (hx30 : ¬ x3 < 0) (hx31 : ¬ 2 < x3) (hx49 : ¬ x4 = (-1)) (hx41 : x4 < 0) : Met l yX19_wouldChoose w_c_M_would ({ frames := 6, cells := 7, slots := 22, locals := 123 }) (va_Pc [.ref mm, .int x1, .int x2, .int x3, .int x4] (zPre eD eI ad (dC, dI) [(mm, .inr (21, [.int th, .ref ms, .ref mt, .ref mh, .ref me])), (ms, .inr (1, [.int 0, .ref eD, .int 0])), (mt, .inr (1, [.int mo, .ref ma, .int 3])), (mh, .inr (1, [.int 0, .ref eD, .int 0])), (me, .inr (1, [.int 0, .ref eD, .int 0])), (ma, .inl (kO, 10, .inr (.inr (.inr (.inr (zfT t0 t1 t2)))))), (t0, .inr (18, [.int (-1), .ref i0])), (t1, .inr (18, [.int (-2), .ref i1])), (t2, .inr (18, [.int (-3), .ref i2])), (i0, .inl (kT, 0, .inr (.inr (.inr (.inr (fun _ => none)))))), (i1, .inl (kT, 0, .inr (.inr (.inr (.inr (fun _ => none)))))), (i2, .inl (kT, 0, .inr (.inr (.inr (.inr (fun _ => none))))))] [(kO, .object "java/lang/Object"), (kT, .object "HornbookModel$Tree")] sz)) (va_Qi (fun (r : Int32) (u : Int32 × Int32) => match u with | (th2, v2) => r = v2 ∧ th2 = (if x1 < 0 ∨ 2 < x1 then 1 else if ¬ x3 = (-1) ∧ (x3 < 0 ∨ 2 < x3) then 1 else if ¬ x4 = (-1) ∧ (x4 < 0 ∨ 2 < x4) then 1 else if x2 < 0 ∨ 9 < x2 then 2 else if x3 = (-1) ∧ ¬ x4 = (-1) then 2 else if x1 = 2 ∨ x3 = 2 ∨ x4 = 2 then 2 else 0) ∧ (th2 = 0 → v2 = (-1))) (fun (u : Int32 × Int32) => match u with | (th2, v2) => zEnd (dC, dI) (va_A [(mm, .inr (21, [.int th, .ref ms, .ref mt, .ref mh, .ref me])), (ms, .inr (1, [.int 0, .ref eD, .int 0])), (mt, .inr (1, [.int mo, .ref ma, .int 3])), (mh, .inr (1, [.int 0, .ref eD, .int 0])), (me, .inr (1, [.int 0, .ref eD, .int 0])), (ma, .inl (kO, 10, .inr (.inr (.inr (.inr (zfT t0 t1 t2)))))), (t0, .inr (18, [.int (-1), .ref i0])), (t1, .inr (18, [.int (-2), .ref i1])), (t2, .inr (18, [.int (-3), .ref i2])), (i0, .inl (kT, 0, .inr (.inr (.inr (.inr (fun _ => none)))))), (i1, .inl (kT, 0, .inr (.inr (.inr (.inr (fun _ => none)))))), (i2, .inl (kT, 0, .inr (.inr (.inr (.inr (fun _ => none))))))] sz) [(mm, .inr (21, [.int th2, .ref ms, .ref mt, .ref mh, .ref me]))] []) (va_A [(mm, .inr (21, [.int th, .ref ms, .ref mt, .ref mh, .ref me])), (ms, .inr (1, [.int 0, .ref eD, .int 0])), (mt, .inr (1, [.int mo, .ref ma, .int 3])), (mh, .inr (1, [.int 0, .ref eD, .int 0])), (me, .inr (1, [.int 0, .ref eD, .int 0])), (ma, .inl (kO, 10, .inr (.inr (.inr (.inr (zfT t0 t1 t2)))))), (t0, .inr (18, [.int (-1), .ref i0])), (t1, .inr (18, [.int (-2), .ref i1])), (t2, .inr (18, [.int (-3), .ref i2])), (i0, .inl (kT, 0, .inr (.inr (.inr (.inr (fun _ => none)))))), (i1, .inl (kT, 0, .inr (.inr (.inr (.inr (fun _ => none)))))), (i2, .inl (kT, 0, .inr (.inr (.inr (.inr (fun _ => none))))))] sz)) 7 22 (va_A [(mm, .inr (21, [.int th, .ref ms, .ref mt, .ref mh, .ref me])), (ms, .inr (1, [.int 0, .ref eD, .int 0])), (mt, .inr (1, [.int mo, .ref ma, .int 3])), (mh, .inr (1, [.int 0, .ref eD, .int 0])), (me, .inr (1, [.int 0, .ref eD, .int 0])), (ma, .inl (kO, 10, .inr (.inr (.inr (.inr (zfT t0 t1 t2)))))), (t0, .inr (18, [.int (-1), .ref i0])), (t1, .inr (18, [.int (-2), .ref i1])), (t2, .inr (18, [.int (-3), .ref i2])), (i0, .inl (kT, 0, .inr (.inr (.inr (.inr (fun _ => none)))))), (i1, .inl (kT, 0, .inr (.inr (.inr (.inr (fun _ => none)))))), (i2, .inl (kT, 0, .inr (.inr (.inr (.inr (fun _ => none))))))] sz) := by
  refine Met.ofW (cc := cX19_wouldChoose) (maxL := 11) (ret := (some .int)) (by decide) rfl ?_
  intro p e s m args below meth c s₁ B hml hv
  obtain ⟨rfl, hsz, hP, hK, hD0, hE⟩ := hv
  have hx := B.exec
  have hb := B.bytes
  have hr := B.returns
  have hts := atoms_spec (ws := w_c_M_would) B.pre
  have hown : s.vm.findClass RX19 = some m.cls := findClass_of_methodNamed B.named
  have hlocks := B.notSynchronized
  subst hsz
  have hD := hD0.self (sz := s.heap.size)
  generalize hAe : va_A [(mm, .inr (21, [.int th, .ref ms, .ref mt, .ref mh, .ref me])), (ms, .inr (1, [.int 0, .ref eD, .int 0])), (mt, .inr (1, [.int mo, .ref ma, .int 3])), (mh, .inr (1, [.int 0, .ref eD, .int 0])), (me, .inr (1, [.int 0, .ref eD, .int 0])), (ma, .inl (kO, 10, .inr (.inr (.inr (.inr (zfT t0 t1 t2)))))), (t0, .inr (18, [.int (-1), .ref i0])), (t1, .inr (18, [.int (-2), .ref i1])), (t2, .inr (18, [.int (-3), .ref i2])), (i0, .inl (kT, 0, .inr (.inr (.inr (.inr (fun _ => none)))))), (i1, .inl (kT, 0, .inr (.inr (.inr (.inr (fun _ => none)))))), (i2, .inl (kT, 0, .inr (.inr (.inr (.inr (fun _ => none))))))] s.heap.size = A at hD hE ⊢
  have hA : ∀ q : Nat, s.heap.size ≤ q → A q := fun q h => by rw [← hAe]; exact Or.inr h
  have hS : va_S A s.heap s.heap [] := va_S.rf
  have hP : va_P (dC, dI) vwCl [(mm, .inr (21, [.int th, .ref ms, .ref mt, .ref mh, .ref me])), (ms, .inr (1, [.int 0, .ref eD, .int 0])), (mt, .inr (1, [.int mo, .ref ma, .int 3])), (mh, .inr (1, [.int 0, .ref eD, .int 0])), (me, .inr (1, [.int 0, .ref eD, .int 0])), (ma, .inl (kO, 10, .inr (.inr (.inr (.inr (zfT t0 t1 t2)))))), (t0, .inr (18, [.int (-1), .ref i0])), (t1, .inr (18, [.int (-2), .ref i1])), (t2, .inr (18, [.int (-3), .ref i2])), (i0, .inl (kT, 0, .inr (.inr (.inr (.inr (fun _ => none)))))), (i1, .inl (kT, 0, .inr (.inr (.inr (.inr (fun _ => none)))))), (i2, .inl (kT, 0, .inr (.inr (.inr (.inr (fun _ => none))))))] s.heap := hP
  have hl := lv_entry ([.ref mm, .int x1, .int x2, .int x3, .int x4]) (n := 11) (Nat.le_of_ble_eq_true rfl)
  rw [lg_entry_eq]
  generalize (lg_sl ([.ref mm, .int x1, .int x2, .int x3, .int x4]) ++ List.replicate (11 - (lg_sl ([.ref mm, .int x1, .int x2, .int x3, .int x4])).length) Slot.unset).toArray = ls at hl ⊢
  have hl : lv_has ls 11 [(0, .ref mm), (1, .int x1), (2, .int x2), (3, .int x3), (4, .int x4)] := hl
  have hP := hP.sub (ws' := [(mm, .inr (21, [.int th, .ref ms, .ref mt, .ref mh, .ref me])), (mt, .inr (1, [.int mo, .ref ma, .int 3]))]) [0, 2] rfl
  have hD := hD.sub (ws' := [(mm, .inr (21, [.int th, .ref ms, .ref mt, .ref mh, .ref me])), (mt, .inr (1, [.int mo, .ref ma, .int 3]))]) [0, 2] (by decide) rfl
  refine lv_aload_n hx hb dX19_wouldChoose_0 rfl (lv_at hl 0 rfl) ?_
  refine lv_aload_n hx hb dX19_wouldChoose_1 rfl (lv_at hl 0 rfl) ?_
  refine lv_iload_n hx hb dX19_wouldChoose_2 rfl (lv_at hl 1 rfl) ?_
  refine z_i (wr := []) (va_runV (As := [.int x1]) (rest := [.ref mm]) ⟨hx, hb, hml, hown, hts⟩ (c_M_isNoType_ok l eD eI ad dC dI s.heap.size mm ms mt mh me th ((.int mo)) ((.ref ma)) x1 (hx10) (hx11)) (cwV 1 hts g_c_M_would_3 rfl rfl rfl (by decide +kernel) ⟨Nat.le_of_ble_eq_true rfl, Nat.le_of_ble_eq_true rfl⟩) (z_preV (wc := [(mm, .inr (21, [.int th, .ref ms, .ref mt, .ref mh, .ref me])), (mt, .inr (1, [.int mo, .ref ma, .int 3]))]) hP hD hK hS hA hE [0, 1] [] rfl (by decide) rfl (ci := 21) (q0 := 0) rfl rfl) rfl rfl hl.1 rfl (lv_room (Nat.le_of_ble_eq_true rfl)) dX19_wouldChoose_3 ⟨Nat.le_of_ble_eq_true rfl, Nat.le_of_ble_eq_true rfl⟩) hP hD hK hS hA [0, 1] [] rfl rfl (by decide) (by decide) (fun r_1 u H locs hw_2 hP hD hK hS => ?_)
  obtain ⟨⟩ := u
  have hP : va_P (dC, dI) vwCl [(mm, .inr (21, [.int th, .ref ms, .ref mt, .ref mh, .ref me])), (mt, .inr (1, [.int mo, .ref ma, .int 3]))] H := hP
  have hD : va_D A [(mm, .inr (21, [.int th, .ref ms, .ref mt, .ref mh, .ref me])), (mt, .inr (1, [.int mo, .ref ma, .int 3]))] := hD
  have hK : va_K (dC, dI) vwCl [(kO, .object "java/lang/Object"), (kT, .object "HornbookModel$Tree")] s := by simpa using hK
  have hw_2 : r_1 = 0 := hw_2
  have hw_2 := hw_2.symm
  subst hw_2
  refine lv_if_ne (tgt := 26) hx hb dX19_wouldChoose_6 (by decide) (fun c_3 => ?_) (fun c_3 => ?_)
  · exact absurd (by decide) c_3
  refine lv_aload_n hx hb dX19_wouldChoose_9 rfl (lv_at hl 0 rfl) ?_
  refine lv_iload_n hx hb dX19_wouldChoose_10 rfl (lv_at hl 3 rfl) ?_
  refine z_i (wr := []) (va_runV (As := [.int x3]) (rest := [.ref mm]) ⟨hx, hb, hml, hown, hts⟩ (c_M_isNoTypeN_ok l eD eI ad dC dI H.size mm ms mt mh me th ((.int mo)) ((.ref ma)) x3 (hx39) (hx30) (hx31)) (cwV 1 hts g_c_M_would_23 rfl rfl rfl (by decide +kernel) ⟨Nat.le_of_ble_eq_true rfl, Nat.le_of_ble_eq_true rfl⟩) (z_preV (wc := [(mm, .inr (21, [.int th, .ref ms, .ref mt, .ref mh, .ref me])), (mt, .inr (1, [.int mo, .ref ma, .int 3]))]) hP hD hK hS hA hE [0, 1] [] rfl (by decide) rfl (ci := 21) (q0 := 0) rfl rfl) rfl rfl hl.1 rfl (lv_room (Nat.le_of_ble_eq_true rfl)) dX19_wouldChoose_11 ⟨Nat.le_of_ble_eq_true rfl, Nat.le_of_ble_eq_true rfl⟩) hP hD hK hS hA [0, 1] [] rfl rfl (by decide) (by decide) (fun r_4 u H locs hw_5 hP hD hK hS => ?_)
  obtain ⟨⟩ := u
  have hP : va_P (dC, dI) vwCl [(mm, .inr (21, [.int th, .ref ms, .ref mt, .ref mh, .ref me])), (mt, .inr (1, [.int mo, .ref ma, .int 3]))] H := hP
  have hD : va_D A [(mm, .inr (21, [.int th, .ref ms, .ref mt, .ref mh, .ref me])), (mt, .inr (1, [.int mo, .ref ma, .int 3]))] := hD
  have hK : va_K (dC, dI) vwCl [(kO, .object "java/lang/Object"), (kT, .object "HornbookModel$Tree")] s := by simpa using hK
  have hw_5 : r_4 = 0 := hw_5
  have hw_5 := hw_5.symm
  subst hw_5
  refine lv_if_ne (tgt := 26) hx hb dX19_wouldChoose_14 (by decide) (fun c_6 => ?_) (fun c_6 => ?_)
  · exact absurd (by decide) c_6
  refine lv_aload_n hx hb dX19_wouldChoose_17 rfl (lv_at hl 0 rfl) ?_
  refine lv_iload hx hb dX19_wouldChoose_18 (lv_at hl 4 rfl) ?_
  refine z_i (wr := []) (va_runV (As := [.int x4]) (rest := [.ref mm]) ⟨hx, hb, hml, hown, hts⟩ (c_M_isNoTypeN_lo l eD eI ad dC dI H.size mm ms mt mh me th ((.int mo)) ((.ref ma)) x4 (hx49) (hx41)) (cwV 1 hts g_c_M_would_21 rfl rfl rfl (by decide +kernel) ⟨Nat.le_of_ble_eq_true rfl, Nat.le_of_ble_eq_true rfl⟩) (z_preV (wc := [(mm, .inr (21, [.int th, .ref ms, .ref mt, .ref mh, .ref me])), (mt, .inr (1, [.int mo, .ref ma, .int 3]))]) hP hD hK hS hA hE [0, 1] [] rfl (by decide) rfl (ci := 21) (q0 := 0) rfl rfl) rfl rfl hl.1 rfl (lv_room (Nat.le_of_ble_eq_true rfl)) dX19_wouldChoose_20 ⟨Nat.le_of_ble_eq_true rfl, Nat.le_of_ble_eq_true rfl⟩) hP hD hK hS hA [0, 1] [] rfl rfl (by decide) (by decide) (fun r_7 u H locs hw_8 hP hD hK hS => ?_)
  obtain ⟨⟩ := u
  have hP : va_P (dC, dI) vwCl [(mm, .inr (21, [.int th, .ref ms, .ref mt, .ref mh, .ref me])), (mt, .inr (1, [.int mo, .ref ma, .int 3]))] H := hP
  have hD : va_D A [(mm, .inr (21, [.int th, .ref ms, .ref mt, .ref mh, .ref me])), (mt, .inr (1, [.int mo, .ref ma, .int 3]))] := hD
  have hK : va_K (dC, dI) vwCl [(kO, .object "java/lang/Object"), (kT, .object "HornbookModel$Tree")] s := by simpa using hK
  have hw_8 : r_7 = 1 := hw_8
  have hw_8 := hw_8.symm
  subst hw_8
  refine lv_if_eq (tgt := 30) hx hb dX19_wouldChoose_23 (by decide) (fun c_9 => ?_) (fun c_9 => ?_)
  · exact absurd c_9 (by decide)
  refine lv_iconst (v := 1) hx hb dX19_wouldChoose_26 (by decide) ?_
  refine lv_goto (tgt := 31) hx hb dX19_wouldChoose_27 (by decide) ?_
  refine lv_iconst (v := 1) hx hb dX19_wouldChoose_31 (by decide) ?_
  refine z_i (wr := [(mt, .inr (1, [.int mo, .ref ma, .int 3]))]) (va_runV (As := [.int 1, .int 1]) (rest := []) ⟨hx, hb, hml, hown, hts⟩ (c_M_start_yes l eD eI ad dC dI H.size mm ((.ref ms)) ((.ref mt)) ((.ref mh)) ((.ref me)) 1 th (by decide)) (cwV 2 hts g_c_M_would_1 rfl rfl rfl (by decide +kernel) ⟨Nat.le_of_ble_eq_true rfl, Nat.le_of_ble_eq_true rfl⟩) (z_preV (wc := [(mm, .inr (21, [.int th, .ref ms, .ref mt, .ref mh, .ref me]))]) hP hD hK hS hA hE [0] [] rfl (by decide) rfl (ci := 21) (q0 := 0) rfl rfl) rfl rfl hl.1 rfl (lv_room (Nat.le_of_ble_eq_true rfl)) dX19_wouldChoose_32 ⟨Nat.le_of_ble_eq_true rfl, Nat.le_of_ble_eq_true rfl⟩) hP hD hK hS hA [0] [1] rfl rfl (by decide) (by decide) (fun r_10 u H locs hw_11 hP hD hK hS => ?_)
  obtain ⟨⟩ := u
  have hP : va_P (dC, dI) vwCl [(mt, .inr (1, [.int mo, .ref ma, .int 3])), (mm, .inr (21, [.int 1, .ref ms, .ref mt, .ref mh, .ref me]))] H := hP
  have hD : va_D A [(mt, .inr (1, [.int mo, .ref ma, .int 3])), (mm, .inr (21, [.int 1, .ref ms, .ref mt, .ref mh, .ref me]))] := hD
  have hK : va_K (dC, dI) vwCl [(kO, .object "java/lang/Object"), (kT, .object "HornbookModel$Tree")] s := by simpa using hK
  have hw_11 : r_10 = 1 := hw_11
  have hw_11 := hw_11.symm
  subst hw_11
  refine lv_if_ne (tgt := 72) hx hb dX19_wouldChoose_35 (by decide) (fun c_12 => ?_) (fun c_12 => ?_)
  rotate_left
  · exact absurd c_12 (by decide)
  refine lv_iconst (v := 0) hx hb dX19_wouldChoose_72 (by decide) ?_
  have hP9 := hP.sub (ws' := [(mm, .inr (21, [.int 1, .ref ms, .ref mt, .ref mh, .ref me]))]) [1] rfl
  have hD9 := hD.sub (ws' := [(mm, .inr (21, [.int 1, .ref ms, .ref mt, .ref mh, .ref me]))]) [1] (by decide) rfl
  have hK9 := hK.sub (tys' := []) [] rfl
  refine W.widen (k := 7) (n := 22) (Nat.le_of_ble_eq_true rfl) (Nat.le_of_ble_eq_true rfl) ?_
  exact W.iret (v := 0) hx hb hr (fun t ht hW => ⟨⟨0, (1, 0), rfl, ⟨rfl, by first | decide | simp [hx10, hx11, hx39, hx30, hx31, hx49, hx41], by first | exact fun h => absurd h (by decide) | exact fun _ => rfl | rfl | decide | simp⟩, ⟨by rw [ht]; exact hP9, va_K.moved hW.alike hK9, hD9⟩⟩, hS.F ht⟩) hS.2.2 dX19_wouldChoose_73

set_option maxHeartbeats 4000000 in
set_option maxRecDepth 100000 in
theorem c_M_would_Ckh (l : Launch) (eD eI : Nat) (ad : Nat → Nat) (dC : Nat → ClassId) (dI : Nat → Nat → Nat) (sz : Nat) (mm : Nat) (ms : Nat) (mt : Nat) (mh : Nat) (me : Nat) (mo : Int32) (ma : Nat) (kO : ClassId) (kT : ClassId) (t0 : Nat) (t1 : Nat) (t2 : Nat) (i0 : Nat) (i1 : Nat) (i2 : Nat) (th : Int32) (x1 : Int32) (x2 : Int32) (x3 : Int32) (x4 : Int32) (hx10 : ¬ x1 < 0) (hx11 : ¬ 2 < x1) (hx39 : ¬ x3 = (-1)) (hx30 : ¬ x3 < 0) (hx31 : ¬ 2 < x3) (hx49 : ¬ x4 = (-1)) (hx40 : ¬ x4 < 0) (hx41 : 2 < x4) : Met l yX19_wouldChoose w_c_M_would ({ frames := 6, cells := 7, slots := 22, locals := 123 }) (va_Pc [.ref mm, .int x1, .int x2, .int x3, .int x4] (zPre eD eI ad (dC, dI) [(mm, .inr (21, [.int th, .ref ms, .ref mt, .ref mh, .ref me])), (ms, .inr (1, [.int 0, .ref eD, .int 0])), (mt, .inr (1, [.int mo, .ref ma, .int 3])), (mh, .inr (1, [.int 0, .ref eD, .int 0])), (me, .inr (1, [.int 0, .ref eD, .int 0])), (ma, .inl (kO, 10, .inr (.inr (.inr (.inr (zfT t0 t1 t2)))))), (t0, .inr (18, [.int (-1), .ref i0])), (t1, .inr (18, [.int (-2), .ref i1])), (t2, .inr (18, [.int (-3), .ref i2])), (i0, .inl (kT, 0, .inr (.inr (.inr (.inr (fun _ => none)))))), (i1, .inl (kT, 0, .inr (.inr (.inr (.inr (fun _ => none)))))), (i2, .inl (kT, 0, .inr (.inr (.inr (.inr (fun _ => none))))))] [(kO, .object "java/lang/Object"), (kT, .object "HornbookModel$Tree")] sz)) (va_Qi (fun (r : Int32) (u : Int32 × Int32) => match u with | (th2, v2) => r = v2 ∧ th2 = (if x1 < 0 ∨ 2 < x1 then 1 else if ¬ x3 = (-1) ∧ (x3 < 0 ∨ 2 < x3) then 1 else if ¬ x4 = (-1) ∧ (x4 < 0 ∨ 2 < x4) then 1 else if x2 < 0 ∨ 9 < x2 then 2 else if x3 = (-1) ∧ ¬ x4 = (-1) then 2 else if x1 = 2 ∨ x3 = 2 ∨ x4 = 2 then 2 else 0) ∧ (th2 = 0 → v2 = (-1))) (fun (u : Int32 × Int32) => match u with | (th2, v2) => zEnd (dC, dI) (va_A [(mm, .inr (21, [.int th, .ref ms, .ref mt, .ref mh, .ref me])), (ms, .inr (1, [.int 0, .ref eD, .int 0])), (mt, .inr (1, [.int mo, .ref ma, .int 3])), (mh, .inr (1, [.int 0, .ref eD, .int 0])), (me, .inr (1, [.int 0, .ref eD, .int 0])), (ma, .inl (kO, 10, .inr (.inr (.inr (.inr (zfT t0 t1 t2)))))), (t0, .inr (18, [.int (-1), .ref i0])), (t1, .inr (18, [.int (-2), .ref i1])), (t2, .inr (18, [.int (-3), .ref i2])), (i0, .inl (kT, 0, .inr (.inr (.inr (.inr (fun _ => none)))))), (i1, .inl (kT, 0, .inr (.inr (.inr (.inr (fun _ => none)))))), (i2, .inl (kT, 0, .inr (.inr (.inr (.inr (fun _ => none))))))] sz) [(mm, .inr (21, [.int th2, .ref ms, .ref mt, .ref mh, .ref me]))] []) (va_A [(mm, .inr (21, [.int th, .ref ms, .ref mt, .ref mh, .ref me])), (ms, .inr (1, [.int 0, .ref eD, .int 0])), (mt, .inr (1, [.int mo, .ref ma, .int 3])), (mh, .inr (1, [.int 0, .ref eD, .int 0])), (me, .inr (1, [.int 0, .ref eD, .int 0])), (ma, .inl (kO, 10, .inr (.inr (.inr (.inr (zfT t0 t1 t2)))))), (t0, .inr (18, [.int (-1), .ref i0])), (t1, .inr (18, [.int (-2), .ref i1])), (t2, .inr (18, [.int (-3), .ref i2])), (i0, .inl (kT, 0, .inr (.inr (.inr (.inr (fun _ => none)))))), (i1, .inl (kT, 0, .inr (.inr (.inr (.inr (fun _ => none)))))), (i2, .inl (kT, 0, .inr (.inr (.inr (.inr (fun _ => none))))))] sz)) 7 22 (va_A [(mm, .inr (21, [.int th, .ref ms, .ref mt, .ref mh, .ref me])), (ms, .inr (1, [.int 0, .ref eD, .int 0])), (mt, .inr (1, [.int mo, .ref ma, .int 3])), (mh, .inr (1, [.int 0, .ref eD, .int 0])), (me, .inr (1, [.int 0, .ref eD, .int 0])), (ma, .inl (kO, 10, .inr (.inr (.inr (.inr (zfT t0 t1 t2)))))), (t0, .inr (18, [.int (-1), .ref i0])), (t1, .inr (18, [.int (-2), .ref i1])), (t2, .inr (18, [.int (-3), .ref i2])), (i0, .inl (kT, 0, .inr (.inr (.inr (.inr (fun _ => none)))))), (i1, .inl (kT, 0, .inr (.inr (.inr (.inr (fun _ => none)))))), (i2, .inl (kT, 0, .inr (.inr (.inr (.inr (fun _ => none))))))] sz) := by
  refine Met.ofW (cc := cX19_wouldChoose) (maxL := 11) (ret := (some .int)) (by decide) rfl ?_
  intro p e s m args below meth c s₁ B hml hv
  obtain ⟨rfl, hsz, hP, hK, hD0, hE⟩ := hv
  have hx := B.exec
  have hb := B.bytes
  have hr := B.returns
  have hts := atoms_spec (ws := w_c_M_would) B.pre
  have hown : s.vm.findClass RX19 = some m.cls := findClass_of_methodNamed B.named
  have hlocks := B.notSynchronized
  subst hsz
  have hD := hD0.self (sz := s.heap.size)
  generalize hAe : va_A [(mm, .inr (21, [.int th, .ref ms, .ref mt, .ref mh, .ref me])), (ms, .inr (1, [.int 0, .ref eD, .int 0])), (mt, .inr (1, [.int mo, .ref ma, .int 3])), (mh, .inr (1, [.int 0, .ref eD, .int 0])), (me, .inr (1, [.int 0, .ref eD, .int 0])), (ma, .inl (kO, 10, .inr (.inr (.inr (.inr (zfT t0 t1 t2)))))), (t0, .inr (18, [.int (-1), .ref i0])), (t1, .inr (18, [.int (-2), .ref i1])), (t2, .inr (18, [.int (-3), .ref i2])), (i0, .inl (kT, 0, .inr (.inr (.inr (.inr (fun _ => none)))))), (i1, .inl (kT, 0, .inr (.inr (.inr (.inr (fun _ => none)))))), (i2, .inl (kT, 0, .inr (.inr (.inr (.inr (fun _ => none))))))] s.heap.size = A at hD hE ⊢
  have hA : ∀ q : Nat, s.heap.size ≤ q → A q := fun q h => by rw [← hAe]; exact Or.inr h
  have hS : va_S A s.heap s.heap [] := va_S.rf
  have hP : va_P (dC, dI) vwCl [(mm, .inr (21, [.int th, .ref ms, .ref mt, .ref mh, .ref me])), (ms, .inr (1, [.int 0, .ref eD, .int 0])), (mt, .inr (1, [.int mo, .ref ma, .int 3])), (mh, .inr (1, [.int 0, .ref eD, .int 0])), (me, .inr (1, [.int 0, .ref eD, .int 0])), (ma, .inl (kO, 10, .inr (.inr (.inr (.inr (zfT t0 t1 t2)))))), (t0, .inr (18, [.int (-1), .ref i0])), (t1, .inr (18, [.int (-2), .ref i1])), (t2, .inr (18, [.int (-3), .ref i2])), (i0, .inl (kT, 0, .inr (.inr (.inr (.inr (fun _ => none)))))), (i1, .inl (kT, 0, .inr (.inr (.inr (.inr (fun _ => none)))))), (i2, .inl (kT, 0, .inr (.inr (.inr (.inr (fun _ => none))))))] s.heap := hP
  have hl := lv_entry ([.ref mm, .int x1, .int x2, .int x3, .int x4]) (n := 11) (Nat.le_of_ble_eq_true rfl)
  rw [lg_entry_eq]
  generalize (lg_sl ([.ref mm, .int x1, .int x2, .int x3, .int x4]) ++ List.replicate (11 - (lg_sl ([.ref mm, .int x1, .int x2, .int x3, .int x4])).length) Slot.unset).toArray = ls at hl ⊢
  have hl : lv_has ls 11 [(0, .ref mm), (1, .int x1), (2, .int x2), (3, .int x3), (4, .int x4)] := hl
  have hP := hP.sub (ws' := [(mm, .inr (21, [.int th, .ref ms, .ref mt, .ref mh, .ref me])), (mt, .inr (1, [.int mo, .ref ma, .int 3]))]) [0, 2] rfl
  have hD := hD.sub (ws' := [(mm, .inr (21, [.int th, .ref ms, .ref mt, .ref mh, .ref me])), (mt, .inr (1, [.int mo, .ref ma, .int 3]))]) [0, 2] (by decide) rfl
  refine lv_aload_n hx hb dX19_wouldChoose_0 rfl (lv_at hl 0 rfl) ?_
  refine lv_aload_n hx hb dX19_wouldChoose_1 rfl (lv_at hl 0 rfl) ?_
  refine lv_iload_n hx hb dX19_wouldChoose_2 rfl (lv_at hl 1 rfl) ?_
  refine z_i (wr := []) (va_runV (As := [.int x1]) (rest := [.ref mm]) ⟨hx, hb, hml, hown, hts⟩ (c_M_isNoType_ok l eD eI ad dC dI s.heap.size mm ms mt mh me th ((.int mo)) ((.ref ma)) x1 (hx10) (hx11)) (cwV 1 hts g_c_M_would_3 rfl rfl rfl (by decide +kernel) ⟨Nat.le_of_ble_eq_true rfl, Nat.le_of_ble_eq_true rfl⟩) (z_preV (wc := [(mm, .inr (21, [.int th, .ref ms, .ref mt, .ref mh, .ref me])), (mt, .inr (1, [.int mo, .ref ma, .int 3]))]) hP hD hK hS hA hE [0, 1] [] rfl (by decide) rfl (ci := 21) (q0 := 0) rfl rfl) rfl rfl hl.1 rfl (lv_room (Nat.le_of_ble_eq_true rfl)) dX19_wouldChoose_3 ⟨Nat.le_of_ble_eq_true rfl, Nat.le_of_ble_eq_true rfl⟩) hP hD hK hS hA [0, 1] [] rfl rfl (by decide) (by decide) (fun r_1 u H locs hw_2 hP hD hK hS => ?_)
  obtain ⟨⟩ := u
  have hP : va_P (dC, dI) vwCl [(mm, .inr (21, [.int th, .ref ms, .ref mt, .ref mh, .ref me])), (mt, .inr (1, [.int mo, .ref ma, .int 3]))] H := hP
  have hD : va_D A [(mm, .inr (21, [.int th, .ref ms, .ref mt, .ref mh, .ref me])), (mt, .inr (1, [.int mo, .ref ma, .int 3]))] := hD
  have hK : va_K (dC, dI) vwCl [(kO, .object "java/lang/Object"), (kT, .object "HornbookModel$Tree")] s := by simpa using hK
  have hw_2 : r_1 = 0 := hw_2
  have hw_2 := hw_2.symm
  subst hw_2
  refine lv_if_ne (tgt := 26) hx hb dX19_wouldChoose_6 (by decide) (fun c_3 => ?_) (fun c_3 => ?_)
  · exact absurd (by decide) c_3
  refine lv_aload_n hx hb dX19_wouldChoose_9 rfl (lv_at hl 0 rfl) ?_
  refine lv_iload_n hx hb dX19_wouldChoose_10 rfl (lv_at hl 3 rfl) ?_
  refine z_i (wr := []) (va_runV (As := [.int x3]) (rest := [.ref mm]) ⟨hx, hb, hml, hown, hts⟩ (c_M_isNoTypeN_ok l eD eI ad dC dI H.size mm ms mt mh me th ((.int mo)) ((.ref ma)) x3 (hx39) (hx30) (hx31)) (cwV 1 hts g_c_M_would_23 rfl rfl rfl (by decide +kernel) ⟨Nat.le_of_ble_eq_true rfl, Nat.le_of_ble_eq_true rfl⟩) (z_preV (wc := [(mm, .inr (21, [.int th, .ref ms, .ref mt, .ref mh, .ref me])), (mt, .inr (1, [.int mo, .ref ma, .int 3]))]) hP hD hK hS hA hE [0, 1] [] rfl (by decide) rfl (ci := 21) (q0 := 0) rfl rfl) rfl rfl hl.1 rfl (lv_room (Nat.le_of_ble_eq_true rfl)) dX19_wouldChoose_11 ⟨Nat.le_of_ble_eq_true rfl, Nat.le_of_ble_eq_true rfl⟩) hP hD hK hS hA [0, 1] [] rfl rfl (by decide) (by decide) (fun r_4 u H locs hw_5 hP hD hK hS => ?_)
  obtain ⟨⟩ := u
  have hP : va_P (dC, dI) vwCl [(mm, .inr (21, [.int th, .ref ms, .ref mt, .ref mh, .ref me])), (mt, .inr (1, [.int mo, .ref ma, .int 3]))] H := hP
  have hD : va_D A [(mm, .inr (21, [.int th, .ref ms, .ref mt, .ref mh, .ref me])), (mt, .inr (1, [.int mo, .ref ma, .int 3]))] := hD
  have hK : va_K (dC, dI) vwCl [(kO, .object "java/lang/Object"), (kT, .object "HornbookModel$Tree")] s := by simpa using hK
  have hw_5 : r_4 = 0 := hw_5
  have hw_5 := hw_5.symm
  subst hw_5
  refine lv_if_ne (tgt := 26) hx hb dX19_wouldChoose_14 (by decide) (fun c_6 => ?_) (fun c_6 => ?_)
  · exact absurd (by decide) c_6
  refine lv_aload_n hx hb dX19_wouldChoose_17 rfl (lv_at hl 0 rfl) ?_
  refine lv_iload hx hb dX19_wouldChoose_18 (lv_at hl 4 rfl) ?_
  refine z_i (wr := []) (va_runV (As := [.int x4]) (rest := [.ref mm]) ⟨hx, hb, hml, hown, hts⟩ (c_M_isNoTypeN_hi l eD eI ad dC dI H.size mm ms mt mh me th ((.int mo)) ((.ref ma)) x4 (hx49) (hx40) (hx41)) (cwV 1 hts g_c_M_would_22 rfl rfl rfl (by decide +kernel) ⟨Nat.le_of_ble_eq_true rfl, Nat.le_of_ble_eq_true rfl⟩) (z_preV (wc := [(mm, .inr (21, [.int th, .ref ms, .ref mt, .ref mh, .ref me])), (mt, .inr (1, [.int mo, .ref ma, .int 3]))]) hP hD hK hS hA hE [0, 1] [] rfl (by decide) rfl (ci := 21) (q0 := 0) rfl rfl) rfl rfl hl.1 rfl (lv_room (Nat.le_of_ble_eq_true rfl)) dX19_wouldChoose_20 ⟨Nat.le_of_ble_eq_true rfl, Nat.le_of_ble_eq_true rfl⟩) hP hD hK hS hA [0, 1] [] rfl rfl (by decide) (by decide) (fun r_7 u H locs hw_8 hP hD hK hS => ?_)
  obtain ⟨⟩ := u
  have hP : va_P (dC, dI) vwCl [(mm, .inr (21, [.int th, .ref ms, .ref mt, .ref mh, .ref me])), (mt, .inr (1, [.int mo, .ref ma, .int 3]))] H := hP
  have hD : va_D A [(mm, .inr (21, [.int th, .ref ms, .ref mt, .ref mh, .ref me])), (mt, .inr (1, [.int mo, .ref ma, .int 3]))] := hD
  have hK : va_K (dC, dI) vwCl [(kO, .object "java/lang/Object"), (kT, .object "HornbookModel$Tree")] s := by simpa using hK
  have hw_8 : r_7 = 1 := hw_8
  have hw_8 := hw_8.symm
  subst hw_8
  refine lv_if_eq (tgt := 30) hx hb dX19_wouldChoose_23 (by decide) (fun c_9 => ?_) (fun c_9 => ?_)
  · exact absurd c_9 (by decide)
  refine lv_iconst (v := 1) hx hb dX19_wouldChoose_26 (by decide) ?_
  refine lv_goto (tgt := 31) hx hb dX19_wouldChoose_27 (by decide) ?_
  refine lv_iconst (v := 1) hx hb dX19_wouldChoose_31 (by decide) ?_
  refine z_i (wr := [(mt, .inr (1, [.int mo, .ref ma, .int 3]))]) (va_runV (As := [.int 1, .int 1]) (rest := []) ⟨hx, hb, hml, hown, hts⟩ (c_M_start_yes l eD eI ad dC dI H.size mm ((.ref ms)) ((.ref mt)) ((.ref mh)) ((.ref me)) 1 th (by decide)) (cwV 2 hts g_c_M_would_1 rfl rfl rfl (by decide +kernel) ⟨Nat.le_of_ble_eq_true rfl, Nat.le_of_ble_eq_true rfl⟩) (z_preV (wc := [(mm, .inr (21, [.int th, .ref ms, .ref mt, .ref mh, .ref me]))]) hP hD hK hS hA hE [0] [] rfl (by decide) rfl (ci := 21) (q0 := 0) rfl rfl) rfl rfl hl.1 rfl (lv_room (Nat.le_of_ble_eq_true rfl)) dX19_wouldChoose_32 ⟨Nat.le_of_ble_eq_true rfl, Nat.le_of_ble_eq_true rfl⟩) hP hD hK hS hA [0] [1] rfl rfl (by decide) (by decide) (fun r_10 u H locs hw_11 hP hD hK hS => ?_)
  obtain ⟨⟩ := u
  have hP : va_P (dC, dI) vwCl [(mt, .inr (1, [.int mo, .ref ma, .int 3])), (mm, .inr (21, [.int 1, .ref ms, .ref mt, .ref mh, .ref me]))] H := hP
  have hD : va_D A [(mt, .inr (1, [.int mo, .ref ma, .int 3])), (mm, .inr (21, [.int 1, .ref ms, .ref mt, .ref mh, .ref me]))] := hD
  have hK : va_K (dC, dI) vwCl [(kO, .object "java/lang/Object"), (kT, .object "HornbookModel$Tree")] s := by simpa using hK
  have hw_11 : r_10 = 1 := hw_11
  have hw_11 := hw_11.symm
  subst hw_11
  refine lv_if_ne (tgt := 72) hx hb dX19_wouldChoose_35 (by decide) (fun c_12 => ?_) (fun c_12 => ?_)
  rotate_left
  · exact absurd c_12 (by decide)
  refine lv_iconst (v := 0) hx hb dX19_wouldChoose_72 (by decide) ?_
  have hP9 := hP.sub (ws' := [(mm, .inr (21, [.int 1, .ref ms, .ref mt, .ref mh, .ref me]))]) [1] rfl
  have hD9 := hD.sub (ws' := [(mm, .inr (21, [.int 1, .ref ms, .ref mt, .ref mh, .ref me]))]) [1] (by decide) rfl
  have hK9 := hK.sub (tys' := []) [] rfl
  refine W.widen (k := 7) (n := 22) (Nat.le_of_ble_eq_true rfl) (Nat.le_of_ble_eq_true rfl) ?_
  exact W.iret (v := 0) hx hb hr (fun t ht hW => ⟨⟨0, (1, 0), rfl, ⟨rfl, by first | decide | simp [hx10, hx11, hx39, hx30, hx31, hx49, hx40, hx41], by first | exact fun h => absurd h (by decide) | exact fun _ => rfl | rfl | decide | simp⟩, ⟨by rw [ht]; exact hP9, va_K.moved hW.alike hK9, hD9⟩⟩, hS.F ht⟩) hS.2.2 dX19_wouldChoose_73

set_option maxHeartbeats 4000000 in
set_option maxRecDepth 100000 in
theorem c_M_would_Dkkl (l : Launch) (eD eI : Nat) (ad : Nat → Nat) (dC : Nat → ClassId) (dI : Nat → Nat → Nat) (sz : Nat) (mm : Nat) (ms : Nat) (mt : Nat) (mh : Nat) (me : Nat) (mo : Int32) (ma : Nat) (kO : ClassId) (kT : ClassId) (t0 : Nat) (t1 : Nat) (t2 : Nat) (i0 : Nat) (i1 : Nat) (i2 : Nat) (th : Int32) (x1 : Int32) (x2 : Int32) (x3 : Int32) (x4 : Int32) (hx10 : ¬ x1 < 0) (hx11 : ¬ 2 < x1) (hx39 : ¬ x3 = (-1)) (hx30 : ¬ x3 < 0) (hx31 : ¬ 2 < x3) (hx49 : ¬ x4 = (-1)) (hx40 : ¬ x4 < 0) (hx41 : ¬ 2 < x4) (hx21 : x2 < 0) : Met l yX19_wouldChoose w_c_M_would ({ frames := 6, cells := 7, slots := 22, locals := 123 }) (va_Pc [.ref mm, .int x1, .int x2, .int x3, .int x4] (zPre eD eI ad (dC, dI) [(mm, .inr (21, [.int th, .ref ms, .ref mt, .ref mh, .ref me])), (ms, .inr (1, [.int 0, .ref eD, .int 0])), (mt, .inr (1, [.int mo, .ref ma, .int 3])), (mh, .inr (1, [.int 0, .ref eD, .int 0])), (me, .inr (1, [.int 0, .ref eD, .int 0])), (ma, .inl (kO, 10, .inr (.inr (.inr (.inr (zfT t0 t1 t2)))))), (t0, .inr (18, [.int (-1), .ref i0])), (t1, .inr (18, [.int (-2), .ref i1])), (t2, .inr (18, [.int (-3), .ref i2])), (i0, .inl (kT, 0, .inr (.inr (.inr (.inr (fun _ => none)))))), (i1, .inl (kT, 0, .inr (.inr (.inr (.inr (fun _ => none)))))), (i2, .inl (kT, 0, .inr (.inr (.inr (.inr (fun _ => none))))))] [(kO, .object "java/lang/Object"), (kT, .object "HornbookModel$Tree")] sz)) (va_Qi (fun (r : Int32) (u : Int32 × Int32) => match u with | (th2, v2) => r = v2 ∧ th2 = (if x1 < 0 ∨ 2 < x1 then 1 else if ¬ x3 = (-1) ∧ (x3 < 0 ∨ 2 < x3) then 1 else if ¬ x4 = (-1) ∧ (x4 < 0 ∨ 2 < x4) then 1 else if x2 < 0 ∨ 9 < x2 then 2 else if x3 = (-1) ∧ ¬ x4 = (-1) then 2 else if x1 = 2 ∨ x3 = 2 ∨ x4 = 2 then 2 else 0) ∧ (th2 = 0 → v2 = (-1))) (fun (u : Int32 × Int32) => match u with | (th2, v2) => zEnd (dC, dI) (va_A [(mm, .inr (21, [.int th, .ref ms, .ref mt, .ref mh, .ref me])), (ms, .inr (1, [.int 0, .ref eD, .int 0])), (mt, .inr (1, [.int mo, .ref ma, .int 3])), (mh, .inr (1, [.int 0, .ref eD, .int 0])), (me, .inr (1, [.int 0, .ref eD, .int 0])), (ma, .inl (kO, 10, .inr (.inr (.inr (.inr (zfT t0 t1 t2)))))), (t0, .inr (18, [.int (-1), .ref i0])), (t1, .inr (18, [.int (-2), .ref i1])), (t2, .inr (18, [.int (-3), .ref i2])), (i0, .inl (kT, 0, .inr (.inr (.inr (.inr (fun _ => none)))))), (i1, .inl (kT, 0, .inr (.inr (.inr (.inr (fun _ => none)))))), (i2, .inl (kT, 0, .inr (.inr (.inr (.inr (fun _ => none))))))] sz) [(mm, .inr (21, [.int th2, .ref ms, .ref mt, .ref mh, .ref me]))] []) (va_A [(mm, .inr (21, [.int th, .ref ms, .ref mt, .ref mh, .ref me])), (ms, .inr (1, [.int 0, .ref eD, .int 0])), (mt, .inr (1, [.int mo, .ref ma, .int 3])), (mh, .inr (1, [.int 0, .ref eD, .int 0])), (me, .inr (1, [.int 0, .ref eD, .int 0])), (ma, .inl (kO, 10, .inr (.inr (.inr (.inr (zfT t0 t1 t2)))))), (t0, .inr (18, [.int (-1), .ref i0])), (t1, .inr (18, [.int (-2), .ref i1])), (t2, .inr (18, [.int (-3), .ref i2])), (i0, .inl (kT, 0, .inr (.inr (.inr (.inr (fun _ => none)))))), (i1, .inl (kT, 0, .inr (.inr (.inr (.inr (fun _ => none)))))), (i2, .inl (kT, 0, .inr (.inr (.inr (.inr (fun _ => none))))))] sz)) 7 22 (va_A [(mm, .inr (21, [.int th, .ref ms, .ref mt, .ref mh, .ref me])), (ms, .inr (1, [.int 0, .ref eD, .int 0])), (mt, .inr (1, [.int mo, .ref ma, .int 3])), (mh, .inr (1, [.int 0, .ref eD, .int 0])), (me, .inr (1, [.int 0, .ref eD, .int 0])), (ma, .inl (kO, 10, .inr (.inr (.inr (.inr (zfT t0 t1 t2)))))), (t0, .inr (18, [.int (-1), .ref i0])), (t1, .inr (18, [.int (-2), .ref i1])), (t2, .inr (18, [.int (-3), .ref i2])), (i0, .inl (kT, 0, .inr (.inr (.inr (.inr (fun _ => none)))))), (i1, .inl (kT, 0, .inr (.inr (.inr (.inr (fun _ => none)))))), (i2, .inl (kT, 0, .inr (.inr (.inr (.inr (fun _ => none))))))] sz) := by
  refine Met.ofW (cc := cX19_wouldChoose) (maxL := 11) (ret := (some .int)) (by decide) rfl ?_
  intro p e s m args below meth c s₁ B hml hv
  obtain ⟨rfl, hsz, hP, hK, hD0, hE⟩ := hv
  have hx := B.exec
  have hb := B.bytes
  have hr := B.returns
  have hts := atoms_spec (ws := w_c_M_would) B.pre
  have hown : s.vm.findClass RX19 = some m.cls := findClass_of_methodNamed B.named
  have hlocks := B.notSynchronized
  subst hsz
  have hD := hD0.self (sz := s.heap.size)
  generalize hAe : va_A [(mm, .inr (21, [.int th, .ref ms, .ref mt, .ref mh, .ref me])), (ms, .inr (1, [.int 0, .ref eD, .int 0])), (mt, .inr (1, [.int mo, .ref ma, .int 3])), (mh, .inr (1, [.int 0, .ref eD, .int 0])), (me, .inr (1, [.int 0, .ref eD, .int 0])), (ma, .inl (kO, 10, .inr (.inr (.inr (.inr (zfT t0 t1 t2)))))), (t0, .inr (18, [.int (-1), .ref i0])), (t1, .inr (18, [.int (-2), .ref i1])), (t2, .inr (18, [.int (-3), .ref i2])), (i0, .inl (kT, 0, .inr (.inr (.inr (.inr (fun _ => none)))))), (i1, .inl (kT, 0, .inr (.inr (.inr (.inr (fun _ => none)))))), (i2, .inl (kT, 0, .inr (.inr (.inr (.inr (fun _ => none))))))] s.heap.size = A at hD hE ⊢
  have hA : ∀ q : Nat, s.heap.size ≤ q → A q := fun q h => by rw [← hAe]; exact Or.inr h
  have hS : va_S A s.heap s.heap [] := va_S.rf
  have hP : va_P (dC, dI) vwCl [(mm, .inr (21, [.int th, .ref ms, .ref mt, .ref mh, .ref me])), (ms, .inr (1, [.int 0, .ref eD, .int 0])), (mt, .inr (1, [.int mo, .ref ma, .int 3])), (mh, .inr (1, [.int 0, .ref eD, .int 0])), (me, .inr (1, [.int 0, .ref eD, .int 0])), (ma, .inl (kO, 10, .inr (.inr (.inr (.inr (zfT t0 t1 t2)))))), (t0, .inr (18, [.int (-1), .ref i0])), (t1, .inr (18, [.int (-2), .ref i1])), (t2, .inr (18, [.int (-3), .ref i2])), (i0, .inl (kT, 0, .inr (.inr (.inr (.inr (fun _ => none)))))), (i1, .inl (kT, 0, .inr (.inr (.inr (.inr (fun _ => none)))))), (i2, .inl (kT, 0, .inr (.inr (.inr (.inr (fun _ => none))))))] s.heap := hP
  have hl := lv_entry ([.ref mm, .int x1, .int x2, .int x3, .int x4]) (n := 11) (Nat.le_of_ble_eq_true rfl)
  rw [lg_entry_eq]
  generalize (lg_sl ([.ref mm, .int x1, .int x2, .int x3, .int x4]) ++ List.replicate (11 - (lg_sl ([.ref mm, .int x1, .int x2, .int x3, .int x4])).length) Slot.unset).toArray = ls at hl ⊢
  have hl : lv_has ls 11 [(0, .ref mm), (1, .int x1), (2, .int x2), (3, .int x3), (4, .int x4)] := hl
  have hP := hP.sub (ws' := [(mm, .inr (21, [.int th, .ref ms, .ref mt, .ref mh, .ref me])), (mt, .inr (1, [.int mo, .ref ma, .int 3]))]) [0, 2] rfl
  have hD := hD.sub (ws' := [(mm, .inr (21, [.int th, .ref ms, .ref mt, .ref mh, .ref me])), (mt, .inr (1, [.int mo, .ref ma, .int 3]))]) [0, 2] (by decide) rfl
  refine lv_aload_n hx hb dX19_wouldChoose_0 rfl (lv_at hl 0 rfl) ?_
  refine lv_aload_n hx hb dX19_wouldChoose_1 rfl (lv_at hl 0 rfl) ?_
  refine lv_iload_n hx hb dX19_wouldChoose_2 rfl (lv_at hl 1 rfl) ?_
  refine z_i (wr := []) (va_runV (As := [.int x1]) (rest := [.ref mm]) ⟨hx, hb, hml, hown, hts⟩ (c_M_isNoType_ok l eD eI ad dC dI s.heap.size mm ms mt mh me th ((.int mo)) ((.ref ma)) x1 (hx10) (hx11)) (cwV 1 hts g_c_M_would_3 rfl rfl rfl (by decide +kernel) ⟨Nat.le_of_ble_eq_true rfl, Nat.le_of_ble_eq_true rfl⟩) (z_preV (wc := [(mm, .inr (21, [.int th, .ref ms, .ref mt, .ref mh, .ref me])), (mt, .inr (1, [.int mo, .ref ma, .int 3]))]) hP hD hK hS hA hE [0, 1] [] rfl (by decide) rfl (ci := 21) (q0 := 0) rfl rfl) rfl rfl hl.1 rfl (lv_room (Nat.le_of_ble_eq_true rfl)) dX19_wouldChoose_3 ⟨Nat.le_of_ble_eq_true rfl, Nat.le_of_ble_eq_true rfl⟩) hP hD hK hS hA [0, 1] [] rfl rfl (by decide) (by decide) (fun r_1 u H locs hw_2 hP hD hK hS => ?_)
  obtain ⟨⟩ := u
  have hP : va_P (dC, dI) vwCl [(mm, .inr (21, [.int th, .ref ms, .ref mt, .ref mh, .ref me])), (mt, .inr (1, [.int mo, .ref ma, .int 3]))] H := hP
  have hD : va_D A [(mm, .inr (21, [.int th, .ref ms, .ref mt, .ref mh, .ref me])), (mt, .inr (1, [.int mo, .ref ma, .int 3]))] := hD
  have hK : va_K (dC, dI) vwCl [(kO, .object "java/lang/Object"), (kT, .object "HornbookModel$Tree")] s := by simpa using hK
  have hw_2 : r_1 = 0 := hw_2
  have hw_2 := hw_2.symm
  subst hw_2
  refine lv_if_ne (tgt := 26) hx hb dX19_wouldChoose_6 (by decide) (fun c_3 => ?_) (fun c_3 => ?_)
  · exact absurd (by decide) c_3
  refine lv_aload_n hx hb dX19_wouldChoose_9 rfl (lv_at hl 0 rfl) ?_
  refine lv_iload_n hx hb dX19_wouldChoose_10 rfl (lv_at hl 3 rfl) ?_
  refine z_i (wr := []) (va_runV (As := [.int x3]) (rest := [.ref mm]) ⟨hx, hb, hml, hown, hts⟩ (c_M_isNoTypeN_ok l eD eI ad dC dI H.size mm ms mt mh me th ((.int mo)) ((.ref ma)) x3 (hx39) (hx30) (hx31)) (cwV 1 hts g_c_M_would_23 rfl rfl rfl (by decide +kernel) ⟨Nat.le_of_ble_eq_true rfl, Nat.le_of_ble_eq_true rfl⟩) (z_preV (wc := [(mm, .inr (21, [.int th, .ref ms, .ref mt, .ref mh, .ref me])), (mt, .inr (1, [.int mo, .ref ma, .int 3]))]) hP hD hK hS hA hE [0, 1] [] rfl (by decide) rfl (ci := 21) (q0 := 0) rfl rfl) rfl rfl hl.1 rfl (lv_room (Nat.le_of_ble_eq_true rfl)) dX19_wouldChoose_11 ⟨Nat.le_of_ble_eq_true rfl, Nat.le_of_ble_eq_true rfl⟩) hP hD hK hS hA [0, 1] [] rfl rfl (by decide) (by decide) (fun r_4 u H locs hw_5 hP hD hK hS => ?_)
  obtain ⟨⟩ := u
  have hP : va_P (dC, dI) vwCl [(mm, .inr (21, [.int th, .ref ms, .ref mt, .ref mh, .ref me])), (mt, .inr (1, [.int mo, .ref ma, .int 3]))] H := hP
  have hD : va_D A [(mm, .inr (21, [.int th, .ref ms, .ref mt, .ref mh, .ref me])), (mt, .inr (1, [.int mo, .ref ma, .int 3]))] := hD
  have hK : va_K (dC, dI) vwCl [(kO, .object "java/lang/Object"), (kT, .object "HornbookModel$Tree")] s := by simpa using hK
  have hw_5 : r_4 = 0 := hw_5
  have hw_5 := hw_5.symm
  subst hw_5
  refine lv_if_ne (tgt := 26) hx hb dX19_wouldChoose_14 (by decide) (fun c_6 => ?_) (fun c_6 => ?_)
  · exact absurd (by decide) c_6
  refine lv_aload_n hx hb dX19_wouldChoose_17 rfl (lv_at hl 0 rfl) ?_
  refine lv_iload hx hb dX19_wouldChoose_18 (lv_at hl 4 rfl) ?_
  refine z_i (wr := []) (va_runV (As := [.int x4]) (rest := [.ref mm]) ⟨hx, hb, hml, hown, hts⟩ (c_M_isNoTypeN_ok l eD eI ad dC dI H.size mm ms mt mh me th ((.int mo)) ((.ref ma)) x4 (hx49) (hx40) (hx41)) (cwV 1 hts g_c_M_would_23 rfl rfl rfl (by decide +kernel) ⟨Nat.le_of_ble_eq_true rfl, Nat.le_of_ble_eq_true rfl⟩) (z_preV (wc := [(mm, .inr (21, [.int th, .ref ms, .ref mt, .ref mh, .ref me])), (mt, .inr (1, [.int mo, .ref ma, .int 3]))]) hP hD hK hS hA hE [0, 1] [] rfl (by decide) rfl (ci := 21) (q0 := 0) rfl rfl) rfl rfl hl.1 rfl (lv_room (Nat.le_of_ble_eq_true rfl)) dX19_wouldChoose_20 ⟨Nat.le_of_ble_eq_true rfl, Nat.le_of_ble_eq_true rfl⟩) hP hD hK hS hA [0, 1] [] rfl rfl (by decide) (by decide) (fun r_7 u H locs hw_8 hP hD hK hS => ?_)
  obtain ⟨⟩ := u
  have hP : va_P (dC, dI) vwCl [(mm, .inr (21, [.int th, .ref ms, .ref mt, .ref mh, .ref me])), (mt, .inr (1, [.int mo, .ref ma, .int 3]))] H := hP
  have hD : va_D A [(mm, .inr (21, [.int th, .ref ms, .ref mt, .ref mh, .ref me])), (mt, .inr (1, [.int mo, .ref ma, .int 3]))] := hD
  have hK : va_K (dC, dI) vwCl [(kO, .object "java/lang/Object"), (kT, .object "HornbookModel$Tree")] s := by simpa using hK
  have hw_8 : r_7 = 0 := hw_8
  have hw_8 := hw_8.symm
  subst hw_8
  refine lv_if_eq (tgt := 30) hx hb dX19_wouldChoose_23 (by decide) (fun c_9 => ?_) (fun c_9 => ?_)
  rotate_left
  · exact absurd (by decide) c_9
  refine lv_iconst (v := 0) hx hb dX19_wouldChoose_30 (by decide) ?_
  refine lv_iconst (v := 1) hx hb dX19_wouldChoose_31 (by decide) ?_
  refine z_i (wr := [(mt, .inr (1, [.int mo, .ref ma, .int 3]))]) (va_runV (As := [.int 0, .int 1]) (rest := []) ⟨hx, hb, hml, hown, hts⟩ (c_M_start_no l eD eI ad dC dI H.size mm ((.ref ms)) ((.ref mt)) ((.ref mh)) ((.ref me)) 1 th) (cwV 2 hts g_c_M_would_5 rfl rfl rfl (by decide +kernel) ⟨Nat.le_of_ble_eq_true rfl, Nat.le_of_ble_eq_true rfl⟩) (z_preV (wc := [(mm, .inr (21, [.int th, .ref ms, .ref mt, .ref mh, .ref me]))]) hP hD hK hS hA hE [0] [] rfl (by decide) rfl (ci := 21) (q0 := 0) rfl rfl) rfl rfl hl.1 rfl (lv_room (Nat.le_of_ble_eq_true rfl)) dX19_wouldChoose_32 ⟨Nat.le_of_ble_eq_true rfl, Nat.le_of_ble_eq_true rfl⟩) hP hD hK hS hA [0] [1] rfl rfl (by decide) (by decide) (fun r_10 u H locs hw_11 hP hD hK hS => ?_)
  obtain ⟨⟩ := u
  have hP : va_P (dC, dI) vwCl [(mt, .inr (1, [.int mo, .ref ma, .int 3])), (mm, .inr (21, [.int 0, .ref ms, .ref mt, .ref mh, .ref me]))] H := hP
  have hD : va_D A [(mt, .inr (1, [.int mo, .ref ma, .int 3])), (mm, .inr (21, [.int 0, .ref ms, .ref mt, .ref mh, .ref me]))] := hD
  have hK : va_K (dC, dI) vwCl [(kO, .object "java/lang/Object"), (kT, .object "HornbookModel$Tree")] s := by simpa using hK
  have hw_11 : r_10 = 0 := hw_11
  have hw_11 := hw_11.symm
  subst hw_11
  refine lv_if_ne (tgt := 72) hx hb dX19_wouldChoose_35 (by decide) (fun c_12 => ?_) (fun c_12 => ?_)
  · exact absurd (by decide) c_12
  refine lv_aload_n hx hb dX19_wouldChoose_38 rfl (lv_at hl 0 rfl) ?_
  refine lv_iload_n hx hb dX19_wouldChoose_39 rfl (lv_at hl 2 rfl) ?_
  refine lv_iconst (v := 0) hx hb dX19_wouldChoose_40 (by decide) ?_
  refine lv_bipush (v := 9) hx hb dX19_wouldChoose_41 (by decide) ?_
  refine z_i (wr := [(mt, .inr (1, [.int mo, .ref ma, .int 3])), (mm, .inr (21, [.int 0, .ref ms, .ref mt, .ref mh, .ref me]))]) (va_runS (As := [.int x2, .int 0, .int 9]) (rest := [.ref mm]) ⟨hx, hb, hml, hown, hts⟩ (c_M_isIn_lo l eD eI ad dC dI H.size x2 0 9 (hx21)) (va_cwS 3 hts g_c_M_would_6 rfl rfl rfl (by decide +kernel) ⟨Nat.le_of_ble_eq_true rfl, Nat.le_of_ble_eq_true rfl⟩) (z_preS (wc := []) hP hD hK hS hA hE [] [] rfl (by decide) rfl) rfl rfl hl.1 rfl (lv_room (Nat.le_of_ble_eq_true rfl)) dX19_wouldChoose_43 ⟨Nat.le_of_ble_eq_true rfl, Nat.le_of_ble_eq_true rfl⟩) hP hD hK hS hA [] [0, 1] rfl rfl (by decide) (by decide) (fun r_13 u H locs hw_14 hP hD hK hS => ?_)
  obtain ⟨⟩ := u
  have hP : va_P (dC, dI) vwCl [(mt, .inr (1, [.int mo, .ref ma, .int 3])), (mm, .inr (21, [.int 0, .ref ms, .ref mt, .ref mh, .ref me]))] H := hP
  have hD : va_D A [(mt, .inr (1, [.int mo, .ref ma, .int 3])), (mm, .inr (21, [.int 0, .ref ms, .ref mt, .ref mh, .ref me]))] := hD
  have hK : va_K (dC, dI) vwCl [(kO, .object "java/lang/Object"), (kT, .object "HornbookModel$Tree")] s := by simpa using hK
  have hw_14 : r_13 = 0 := hw_14
  have hw_14 := hw_14.symm
  subst hw_14
  refine lv_if_eq (tgt := 60) hx hb dX19_wouldChoose_46 (by decide) (fun c_15 => ?_) (fun c_15 => ?_)
  rotate_left
  · exact absurd (by decide) c_15
  refine lv_iconst (v := 1) hx hb dX19_wouldChoose_60 (by decide) ?_
  refine lv_goto (tgt := 65) hx hb dX19_wouldChoose_61 (by decide) ?_
  refine lv_iconst (v := 2) hx hb dX19_wouldChoose_65 (by decide) ?_
  refine z_i (wr := [(mt, .inr (1, [.int mo, .ref ma, .int 3]))]) (va_runV (As := [.int 1, .int 2]) (rest := []) ⟨hx, hb, hml, hown, hts⟩ (c_M_refuse_yes l eD eI ad dC dI H.size mm ((.ref ms)) ((.ref mt)) ((.ref mh)) ((.ref me)) 2 (by decide)) (cwV 2 hts g_c_M_would_7 rfl rfl rfl (by decide +kernel) ⟨Nat.le_of_ble_eq_true rfl, Nat.le_of_ble_eq_true rfl⟩) (z_preV (wc := [(mm, .inr (21, [.int 0, .ref ms, .ref mt, .ref mh, .ref me]))]) hP hD hK hS hA hE [1] [] rfl (by decide) rfl (ci := 21) (q0 := 0) rfl rfl) rfl rfl hl.1 rfl (lv_room (Nat.le_of_ble_eq_true rfl)) dX19_wouldChoose_66 ⟨Nat.le_of_ble_eq_true rfl, Nat.le_of_ble_eq_true rfl⟩) hP hD hK hS hA [1] [0] rfl rfl (by decide) (by decide) (fun r_16 u H locs hw_17 hP hD hK hS => ?_)
  obtain ⟨⟩ := u
  have hP : va_P (dC, dI) vwCl [(mt, .inr (1, [.int mo, .ref ma, .int 3])), (mm, .inr (21, [.int 2, .ref ms, .ref mt, .ref mh, .ref me]))] H := hP
  have hD : va_D A [(mt, .inr (1, [.int mo, .ref ma, .int 3])), (mm, .inr (21, [.int 2, .ref ms, .ref mt, .ref mh, .ref me]))] := hD
  have hK : va_K (dC, dI) vwCl [(kO, .object "java/lang/Object"), (kT, .object "HornbookModel$Tree")] s := by simpa using hK
  have hw_17 : r_16 = 1 := hw_17
  have hw_17 := hw_17.symm
  subst hw_17
  refine lv_if_eq (tgt := 74) hx hb dX19_wouldChoose_69 (by decide) (fun c_18 => ?_) (fun c_18 => ?_)
  · exact absurd c_18 (by decide)
  refine lv_iconst (v := 0) hx hb dX19_wouldChoose_72 (by decide) ?_
  have hP9 := hP.sub (ws' := [(mm, .inr (21, [.int 2, .ref ms, .ref mt, .ref mh, .ref me]))]) [1] rfl
  have hD9 := hD.sub (ws' := [(mm, .inr (21, [.int 2, .ref ms, .ref mt, .ref mh, .ref me]))]) [1] (by decide) rfl
  have hK9 := hK.sub (tys' := []) [] rfl
  refine W.widen (k := 7) (n := 22) (Nat.le_of_ble_eq_true rfl) (Nat.le_of_ble_eq_true rfl) ?_
  exact W.iret (v := 0) hx hb hr (fun t ht hW => ⟨⟨0, (2, 0), rfl, ⟨rfl, by first | decide | simp [hx10, hx11, hx39, hx30, hx31, hx49, hx40, hx41, hx21], by first | exact fun h => absurd h (by decide) | exact fun _ => rfl | rfl | decide | simp⟩, ⟨by rw [ht]; exact hP9, va_K.moved hW.alike hK9, hD9⟩⟩, hS.F ht⟩) hS.2.2 dX19_wouldChoose_73

set_option maxHeartbeats 4000000 in
set_option maxRecDepth 100000 in
theorem c_M_would_Dkkh (l : Launch) (eD eI : Nat) (ad : Nat → Nat) (dC : Nat → ClassId) (dI : Nat → Nat → Nat) (sz : Nat) (mm : Nat) (ms : Nat) (mt : Nat) (mh : Nat) (me : Nat) (mo : Int32) (ma : Nat) (kO : ClassId) (kT : ClassId) (t0 : Nat) (t1 : Nat) (t2 : Nat) (i0 : Nat) (i1 : Nat) (i2 : Nat) (th : Int32) (x1 : Int32) (x2 : Int32) (x3 : Int32) (x4 : Int32) (hx10 : ¬ x1 < 0) (hx11 : ¬ 2 < x1) (hx39 : ¬ x3 = (-1)) (hx30 : ¬ x3 < 0) (hx31 : ¬ 2 < x3) (hx49 : ¬ x4 = (-1)) (hx40 : ¬ x4 < 0) (hx41 : ¬ 2 < x4) (hx20 : ¬ x2 < 0) (hx21 : 9 < x2) : Met l yX19_wouldChoose w_c_M_would ({ frames := 6, cells := 7, slots := 22, locals := 123 }) (va_Pc [.ref mm, .int x1, .int x2, .int x3, .int x4] (zPre eD eI ad (dC, dI) [(mm, .inr (21, [.int th, .ref ms, .ref mt, .ref mh, .ref me])), (ms, .inr (1, [.int 0, .ref eD, .int 0])), (mt, .inr (1, [.int mo, .ref ma, .int 3])), (mh, .inr (1, [.int 0, .ref eD, .int 0])), (me, .inr (1, [.int 0, .ref eD, .int 0])), (ma, .inl (kO, 10, .inr (.inr (.inr (.inr (zfT t0 t1 t2)))))), (t0, .inr (18, [.int (-1), .ref i0])), (t1, .inr (18, [.int (-2), .ref i1])), (t2, .inr (18, [.int (-3), .ref i2])), (i0, .inl (kT, 0, .inr (.inr (.inr (.inr (fun _ => none)))))), (i1, .inl (kT, 0, .inr (.inr (.inr (.inr (fun _ => none)))))), (i2, .inl (kT, 0, .inr (.inr (.inr (.inr (fun _ => none))))))] [(kO, .object "java/lang/Object"), (kT, .object "HornbookModel$Tree")] sz)) (va_Qi (fun (r : Int32) (u : Int32 × Int32) => match u with | (th2, v2) => r = v2 ∧ th2 = (if x1 < 0 ∨ 2 < x1 then 1 else if ¬ x3 = (-1) ∧ (x3 < 0 ∨ 2 < x3) then 1 else if ¬ x4 = (-1) ∧ (x4 < 0 ∨ 2 < x4) then 1 else if x2 < 0 ∨ 9 < x2 then 2 else if x3 = (-1) ∧ ¬ x4 = (-1) then 2 else if x1 = 2 ∨ x3 = 2 ∨ x4 = 2 then 2 else 0) ∧ (th2 = 0 → v2 = (-1))) (fun (u : Int32 × Int32) => match u with | (th2, v2) => zEnd (dC, dI) (va_A [(mm, .inr (21, [.int th, .ref ms, .ref mt, .ref mh, .ref me])), (ms, .inr (1, [.int 0, .ref eD, .int 0])), (mt, .inr (1, [.int mo, .ref ma, .int 3])), (mh, .inr (1, [.int 0, .ref eD, .int 0])), (me, .inr (1, [.int 0, .ref eD, .int 0])), (ma, .inl (kO, 10, .inr (.inr (.inr (.inr (zfT t0 t1 t2)))))), (t0, .inr (18, [.int (-1), .ref i0])), (t1, .inr (18, [.int (-2), .ref i1])), (t2, .inr (18, [.int (-3), .ref i2])), (i0, .inl (kT, 0, .inr (.inr (.inr (.inr (fun _ => none)))))), (i1, .inl (kT, 0, .inr (.inr (.inr (.inr (fun _ => none)))))), (i2, .inl (kT, 0, .inr (.inr (.inr (.inr (fun _ => none))))))] sz) [(mm, .inr (21, [.int th2, .ref ms, .ref mt, .ref mh, .ref me]))] []) (va_A [(mm, .inr (21, [.int th, .ref ms, .ref mt, .ref mh, .ref me])), (ms, .inr (1, [.int 0, .ref eD, .int 0])), (mt, .inr (1, [.int mo, .ref ma, .int 3])), (mh, .inr (1, [.int 0, .ref eD, .int 0])), (me, .inr (1, [.int 0, .ref eD, .int 0])), (ma, .inl (kO, 10, .inr (.inr (.inr (.inr (zfT t0 t1 t2)))))), (t0, .inr (18, [.int (-1), .ref i0])), (t1, .inr (18, [.int (-2), .ref i1])), (t2, .inr (18, [.int (-3), .ref i2])), (i0, .inl (kT, 0, .inr (.inr (.inr (.inr (fun _ => none)))))), (i1, .inl (kT, 0, .inr (.inr (.inr (.inr (fun _ => none)))))), (i2, .inl (kT, 0, .inr (.inr (.inr (.inr (fun _ => none))))))] sz)) 7 22 (va_A [(mm, .inr (21, [.int th, .ref ms, .ref mt, .ref mh, .ref me])), (ms, .inr (1, [.int 0, .ref eD, .int 0])), (mt, .inr (1, [.int mo, .ref ma, .int 3])), (mh, .inr (1, [.int 0, .ref eD, .int 0])), (me, .inr (1, [.int 0, .ref eD, .int 0])), (ma, .inl (kO, 10, .inr (.inr (.inr (.inr (zfT t0 t1 t2)))))), (t0, .inr (18, [.int (-1), .ref i0])), (t1, .inr (18, [.int (-2), .ref i1])), (t2, .inr (18, [.int (-3), .ref i2])), (i0, .inl (kT, 0, .inr (.inr (.inr (.inr (fun _ => none)))))), (i1, .inl (kT, 0, .inr (.inr (.inr (.inr (fun _ => none)))))), (i2, .inl (kT, 0, .inr (.inr (.inr (.inr (fun _ => none))))))] sz) := by
  refine Met.ofW (cc := cX19_wouldChoose) (maxL := 11) (ret := (some .int)) (by decide) rfl ?_
  intro p e s m args below meth c s₁ B hml hv
  obtain ⟨rfl, hsz, hP, hK, hD0, hE⟩ := hv
  have hx := B.exec
  have hb := B.bytes
  have hr := B.returns
  have hts := atoms_spec (ws := w_c_M_would) B.pre
  have hown : s.vm.findClass RX19 = some m.cls := findClass_of_methodNamed B.named
  have hlocks := B.notSynchronized
  subst hsz
  have hD := hD0.self (sz := s.heap.size)
  generalize hAe : va_A [(mm, .inr (21, [.int th, .ref ms, .ref mt, .ref mh, .ref me])), (ms, .inr (1, [.int 0, .ref eD, .int 0])), (mt, .inr (1, [.int mo, .ref ma, .int 3])), (mh, .inr (1, [.int 0, .ref eD, .int 0])), (me, .inr (1, [.int 0, .ref eD, .int 0])), (ma, .inl (kO, 10, .inr (.inr (.inr (.inr (zfT t0 t1 t2)))))), (t0, .inr (18, [.int (-1), .ref i0])), (t1, .inr (18, [.int (-2), .ref i1])), (t2, .inr (18, [.int (-3), .ref i2])), (i0, .inl (kT, 0, .inr (.inr (.inr (.inr (fun _ => none)))))), (i1, .inl (kT, 0, .inr (.inr (.inr (.inr (fun _ => none)))))), (i2, .inl (kT, 0, .inr (.inr (.inr (.inr (fun _ => none))))))] s.heap.size = A at hD hE ⊢
  have hA : ∀ q : Nat, s.heap.size ≤ q → A q := fun q h => by rw [← hAe]; exact Or.inr h
  have hS : va_S A s.heap s.heap [] := va_S.rf
  have hP : va_P (dC, dI) vwCl [(mm, .inr (21, [.int th, .ref ms, .ref mt, .ref mh, .ref me])), (ms, .inr (1, [.int 0, .ref eD, .int 0])), (mt, .inr (1, [.int mo, .ref ma, .int 3])), (mh, .inr (1, [.int 0, .ref eD, .int 0])), (me, .inr (1, [.int 0, .ref eD, .int 0])), (ma, .inl (kO, 10, .inr (.inr (.inr (.inr (zfT t0 t1 t2)))))), (t0, .inr (18, [.int (-1), .ref i0])), (t1, .inr (18, [.int (-2), .ref i1])), (t2, .inr (18, [.int (-3), .ref i2])), (i0, .inl (kT, 0, .inr (.inr (.inr (.inr (fun _ => none)))))), (i1, .inl (kT, 0, .inr (.inr (.inr (.inr (fun _ => none)))))), (i2, .inl (kT, 0, .inr (.inr (.inr (.inr (fun _ => none))))))] s.heap := hP
  have hl := lv_entry ([.ref mm, .int x1, .int x2, .int x3, .int x4]) (n := 11) (Nat.le_of_ble_eq_true rfl)
  rw [lg_entry_eq]
  generalize (lg_sl ([.ref mm, .int x1, .int x2, .int x3, .int x4]) ++ List.replicate (11 - (lg_sl ([.ref mm, .int x1, .int x2, .int x3, .int x4])).length) Slot.unset).toArray = ls at hl ⊢
  have hl : lv_has ls 11 [(0, .ref mm), (1, .int x1), (2, .int x2), (3, .int x3), (4, .int x4)] := hl
  have hP := hP.sub (ws' := [(mm, .inr (21, [.int th, .ref ms, .ref mt, .ref mh, .ref me])), (mt, .inr (1, [.int mo, .ref ma, .int 3]))]) [0, 2] rfl
  have hD := hD.sub (ws' := [(mm, .inr (21, [.int th, .ref ms, .ref mt, .ref mh, .ref me])), (mt, .inr (1, [.int mo, .ref ma, .int 3]))]) [0, 2] (by decide) rfl
  refine lv_aload_n hx hb dX19_wouldChoose_0 rfl (lv_at hl 0 rfl) ?_
  refine lv_aload_n hx hb dX19_wouldChoose_1 rfl (lv_at hl 0 rfl) ?_
  refine lv_iload_n hx hb dX19_wouldChoose_2 rfl (lv_at hl 1 rfl) ?_
  refine z_i (wr := []) (va_runV (As := [.int x1]) (rest := [.ref mm]) ⟨hx, hb, hml, hown, hts⟩ (c_M_isNoType_ok l eD eI ad dC dI s.heap.size mm ms mt mh me th ((.int mo)) ((.ref ma)) x1 (hx10) (hx11)) (cwV 1 hts g_c_M_would_3 rfl rfl rfl (by decide +kernel) ⟨Nat.le_of_ble_eq_true rfl, Nat.le_of_ble_eq_true rfl⟩) (z_preV (wc := [(mm, .inr (21, [.int th, .ref ms, .ref mt, .ref mh, .ref me])), (mt, .inr (1, [.int mo, .ref ma, .int 3]))]) hP hD hK hS hA hE [0, 1] [] rfl (by decide) rfl (ci := 21) (q0 := 0) rfl rfl) rfl rfl hl.1 rfl (lv_room (Nat.le_of_ble_eq_true rfl)) dX19_wouldChoose_3 ⟨Nat.le_of_ble_eq_true rfl, Nat.le_of_ble_eq_true rfl⟩) hP hD hK hS hA [0, 1] [] rfl rfl (by decide) (by decide) (fun r_1 u H locs hw_2 hP hD hK hS => ?_)
  obtain ⟨⟩ := u
  have hP : va_P (dC, dI) vwCl [(mm, .inr (21, [.int th, .ref ms, .ref mt, .ref mh, .ref me])), (mt, .inr (1, [.int mo, .ref ma, .int 3]))] H := hP
  have hD : va_D A [(mm, .inr (21, [.int th, .ref ms, .ref mt, .ref mh, .ref me])), (mt, .inr (1, [.int mo, .ref ma, .int 3]))] := hD
  have hK : va_K (dC, dI) vwCl [(kO, .object "java/lang/Object"), (kT, .object "HornbookModel$Tree")] s := by simpa using hK
  have hw_2 : r_1 = 0 := hw_2
  have hw_2 := hw_2.symm
  subst hw_2
  refine lv_if_ne (tgt := 26) hx hb dX19_wouldChoose_6 (by decide) (fun c_3 => ?_) (fun c_3 => ?_)
  · exact absurd (by decide) c_3
  refine lv_aload_n hx hb dX19_wouldChoose_9 rfl (lv_at hl 0 rfl) ?_
  refine lv_iload_n hx hb dX19_wouldChoose_10 rfl (lv_at hl 3 rfl) ?_
  refine z_i (wr := []) (va_runV (As := [.int x3]) (rest := [.ref mm]) ⟨hx, hb, hml, hown, hts⟩ (c_M_isNoTypeN_ok l eD eI ad dC dI H.size mm ms mt mh me th ((.int mo)) ((.ref ma)) x3 (hx39) (hx30) (hx31)) (cwV 1 hts g_c_M_would_23 rfl rfl rfl (by decide +kernel) ⟨Nat.le_of_ble_eq_true rfl, Nat.le_of_ble_eq_true rfl⟩) (z_preV (wc := [(mm, .inr (21, [.int th, .ref ms, .ref mt, .ref mh, .ref me])), (mt, .inr (1, [.int mo, .ref ma, .int 3]))]) hP hD hK hS hA hE [0, 1] [] rfl (by decide) rfl (ci := 21) (q0 := 0) rfl rfl) rfl rfl hl.1 rfl (lv_room (Nat.le_of_ble_eq_true rfl)) dX19_wouldChoose_11 ⟨Nat.le_of_ble_eq_true rfl, Nat.le_of_ble_eq_true rfl⟩) hP hD hK hS hA [0, 1] [] rfl rfl (by decide) (by decide) (fun r_4 u H locs hw_5 hP hD hK hS => ?_)
  obtain ⟨⟩ := u
  have hP : va_P (dC, dI) vwCl [(mm, .inr (21, [.int th, .ref ms, .ref mt, .ref mh, .ref me])), (mt, .inr (1, [.int mo, .ref ma, .int 3]))] H := hP
  have hD : va_D A [(mm, .inr (21, [.int th, .ref ms, .ref mt, .ref mh, .ref me])), (mt, .inr (1, [.int mo, .ref ma, .int 3]))] := hD
  have hK : va_K (dC, dI) vwCl [(kO, .object "java/lang/Object"), (kT, .object "HornbookModel$Tree")] s := by simpa using hK
  have hw_5 : r_4 = 0 := hw_5
  have hw_5 := hw_5.symm
  subst hw_5
  refine lv_if_ne (tgt := 26) hx hb dX19_wouldChoose_14 (by decide) (fun c_6 => ?_) (fun c_6 => ?_)
  · exact absurd (by decide) c_6
  refine lv_aload_n hx hb dX19_wouldChoose_17 rfl (lv_at hl 0 rfl) ?_
  refine lv_iload hx hb dX19_wouldChoose_18 (lv_at hl 4 rfl) ?_
  refine z_i (wr := []) (va_runV (As := [.int x4]) (rest := [.ref mm]) ⟨hx, hb, hml, hown, hts⟩ (c_M_isNoTypeN_ok l eD eI ad dC dI H.size mm ms mt mh me th ((.int mo)) ((.ref ma)) x4 (hx49) (hx40) (hx41)) (cwV 1 hts g_c_M_would_23 rfl rfl rfl (by decide +kernel) ⟨Nat.le_of_ble_eq_true rfl, Nat.le_of_ble_eq_true rfl⟩) (z_preV (wc := [(mm, .inr (21, [.int th, .ref ms, .ref mt, .ref mh, .ref me])), (mt, .inr (1, [.int mo, .ref ma, .int 3]))]) hP hD hK hS hA hE [0, 1] [] rfl (by decide) rfl (ci := 21) (q0 := 0) rfl rfl) rfl rfl hl.1 rfl (lv_room (Nat.le_of_ble_eq_true rfl)) dX19_wouldChoose_20 ⟨Nat.le_of_ble_eq_true rfl, Nat.le_of_ble_eq_true rfl⟩) hP hD hK hS hA [0, 1] [] rfl rfl (by decide) (by decide) (fun r_7 u H locs hw_8 hP hD hK hS => ?_)
  obtain ⟨⟩ := u
  have hP : va_P (dC, dI) vwCl [(mm, .inr (21, [.int th, .ref ms, .ref mt, .ref mh, .ref me])), (mt, .inr (1, [.int mo, .ref ma, .int 3]))] H := hP
  have hD : va_D A [(mm, .inr (21, [.int th, .ref ms, .ref mt, .ref mh, .ref me])), (mt, .inr (1, [.int mo, .ref ma, .int 3]))] := hD
  have hK : va_K (dC, dI) vwCl [(kO, .object "java/lang/Object"), (kT, .object "HornbookModel$Tree")] s := by simpa using hK
  have hw_8 : r_7 = 0 := hw_8
  have hw_8 := hw_8.symm
  subst hw_8
  refine lv_if_eq (tgt := 30) hx hb dX19_wouldChoose_23 (by decide) (fun c_9 => ?_) (fun c_9 => ?_)
  rotate_left
  · exact absurd (by decide) c_9
  refine lv_iconst (v := 0) hx hb dX19_wouldChoose_30 (by decide) ?_
  refine lv_iconst (v := 1) hx hb dX19_wouldChoose_31 (by decide) ?_
  refine z_i (wr := [(mt, .inr (1, [.int mo, .ref ma, .int 3]))]) (va_runV (As := [.int 0, .int 1]) (rest := []) ⟨hx, hb, hml, hown, hts⟩ (c_M_start_no l eD eI ad dC dI H.size mm ((.ref ms)) ((.ref mt)) ((.ref mh)) ((.ref me)) 1 th) (cwV 2 hts g_c_M_would_5 rfl rfl rfl (by decide +kernel) ⟨Nat.le_of_ble_eq_true rfl, Nat.le_of_ble_eq_true rfl⟩) (z_preV (wc := [(mm, .inr (21, [.int th, .ref ms, .ref mt, .ref mh, .ref me]))]) hP hD hK hS hA hE [0] [] rfl (by decide) rfl (ci := 21) (q0 := 0) rfl rfl) rfl rfl hl.1 rfl (lv_room (Nat.le_of_ble_eq_true rfl)) dX19_wouldChoose_32 ⟨Nat.le_of_ble_eq_true rfl, Nat.le_of_ble_eq_true rfl⟩) hP hD hK hS hA [0] [1] rfl rfl (by decide) (by decide) (fun r_10 u H locs hw_11 hP hD hK hS => ?_)
  obtain ⟨⟩ := u
  have hP : va_P (dC, dI) vwCl [(mt, .inr (1, [.int mo, .ref ma, .int 3])), (mm, .inr (21, [.int 0, .ref ms, .ref mt, .ref mh, .ref me]))] H := hP
  have hD : va_D A [(mt, .inr (1, [.int mo, .ref ma, .int 3])), (mm, .inr (21, [.int 0, .ref ms, .ref mt, .ref mh, .ref me]))] := hD
  have hK : va_K (dC, dI) vwCl [(kO, .object "java/lang/Object"), (kT, .object "HornbookModel$Tree")] s := by simpa using hK
  have hw_11 : r_10 = 0 := hw_11
  have hw_11 := hw_11.symm
  subst hw_11
  refine lv_if_ne (tgt := 72) hx hb dX19_wouldChoose_35 (by decide) (fun c_12 => ?_) (fun c_12 => ?_)
  · exact absurd (by decide) c_12
  refine lv_aload_n hx hb dX19_wouldChoose_38 rfl (lv_at hl 0 rfl) ?_
  refine lv_iload_n hx hb dX19_wouldChoose_39 rfl (lv_at hl 2 rfl) ?_
  refine lv_iconst (v := 0) hx hb dX19_wouldChoose_40 (by decide) ?_
  refine lv_bipush (v := 9) hx hb dX19_wouldChoose_41 (by decide) ?_
  refine z_i (wr := [(mt, .inr (1, [.int mo, .ref ma, .int 3])), (mm, .inr (21, [.int 0, .ref ms, .ref mt, .ref mh, .ref me]))]) (va_runS (As := [.int x2, .int 0, .int 9]) (rest := [.ref mm]) ⟨hx, hb, hml, hown, hts⟩ (c_M_isIn_hi l eD eI ad dC dI H.size x2 0 9 (hx20) (hx21)) (va_cwS 3 hts g_c_M_would_8 rfl rfl rfl (by decide +kernel) ⟨Nat.le_of_ble_eq_true rfl, Nat.le_of_ble_eq_true rfl⟩) (z_preS (wc := []) hP hD hK hS hA hE [] [] rfl (by decide) rfl) rfl rfl hl.1 rfl (lv_room (Nat.le_of_ble_eq_true rfl)) dX19_wouldChoose_43 ⟨Nat.le_of_ble_eq_true rfl, Nat.le_of_ble_eq_true rfl⟩) hP hD hK hS hA [] [0, 1] rfl rfl (by decide) (by decide) (fun r_13 u H locs hw_14 hP hD hK hS => ?_)
  obtain ⟨⟩ := u
  have hP : va_P (dC, dI) vwCl [(mt, .inr (1, [.int mo, .ref ma, .int 3])), (mm, .inr (21, [.int 0, .ref ms, .ref mt, .ref mh, .ref me]))] H := hP
  have hD : va_D A [(mt, .inr (1, [.int mo, .ref ma, .int 3])), (mm, .inr (21, [.int 0, .ref ms, .ref mt, .ref mh, .ref me]))] := hD
  have hK : va_K (dC, dI) vwCl [(kO, .object "java/lang/Object"), (kT, .object "HornbookModel$Tree")] s := by simpa using hK
  have hw_14 : r_13 = 0 := hw_14
  have hw_14 := hw_14.symm
  subst hw_14
  refine lv_if_eq (tgt := 60) hx hb dX19_wouldChoose_46 (by decide) (fun c_15 => ?_) (fun c_15 => ?_)
  rotate_left
  · exact absurd (by decide) c_15
  refine lv_iconst (v := 1) hx hb dX19_wouldChoose_60 (by decide) ?_
  refine lv_goto (tgt := 65) hx hb dX19_wouldChoose_61 (by decide) ?_
  refine lv_iconst (v := 2) hx hb dX19_wouldChoose_65 (by decide) ?_
  refine z_i (wr := [(mt, .inr (1, [.int mo, .ref ma, .int 3]))]) (va_runV (As := [.int 1, .int 2]) (rest := []) ⟨hx, hb, hml, hown, hts⟩ (c_M_refuse_yes l eD eI ad dC dI H.size mm ((.ref ms)) ((.ref mt)) ((.ref mh)) ((.ref me)) 2 (by decide)) (cwV 2 hts g_c_M_would_7 rfl rfl rfl (by decide +kernel) ⟨Nat.le_of_ble_eq_true rfl, Nat.le_of_ble_eq_true rfl⟩) (z_preV (wc := [(mm, .inr (21, [.int 0, .ref ms, .ref mt, .ref mh, .ref me]))]) hP hD hK hS hA hE [1] [] rfl (by decide) rfl (ci := 21) (q0 := 0) rfl rfl) rfl rfl hl.1 rfl (lv_room (Nat.le_of_ble_eq_true rfl)) dX19_wouldChoose_66 ⟨Nat.le_of_ble_eq_true rfl, Nat.le_of_ble_eq_true rfl⟩) hP hD hK hS hA [1] [0] rfl rfl (by decide) (by decide) (fun r_16 u H locs hw_17 hP hD hK hS => ?_)
  obtain ⟨⟩ := u
  have hP : va_P (dC, dI) vwCl [(mt, .inr (1, [.int mo, .ref ma, .int 3])), (mm, .inr (21, [.int 2, .ref ms, .ref mt, .ref mh, .ref me]))] H := hP
  have hD : va_D A [(mt, .inr (1, [.int mo, .ref ma, .int 3])), (mm, .inr (21, [.int 2, .ref ms, .ref mt, .ref mh, .ref me]))] := hD
  have hK : va_K (dC, dI) vwCl [(kO, .object "java/lang/Object"), (kT, .object "HornbookModel$Tree")] s := by simpa using hK
  have hw_17 : r_16 = 1 := hw_17
  have hw_17 := hw_17.symm
  subst hw_17
  refine lv_if_eq (tgt := 74) hx hb dX19_wouldChoose_69 (by decide) (fun c_18 => ?_) (fun c_18 => ?_)
  · exact absurd c_18 (by decide)
  refine lv_iconst (v := 0) hx hb dX19_wouldChoose_72 (by decide) ?_
  have hP9 := hP.sub (ws' := [(mm, .inr (21, [.int 2, .ref ms, .ref mt, .ref mh, .ref me]))]) [1] rfl
  have hD9 := hD.sub (ws' := [(mm, .inr (21, [.int 2, .ref ms, .ref mt, .ref mh, .ref me]))]) [1] (by decide) rfl
  have hK9 := hK.sub (tys' := []) [] rfl
  refine W.widen (k := 7) (n := 22) (Nat.le_of_ble_eq_true rfl) (Nat.le_of_ble_eq_true rfl) ?_
  exact W.iret (v := 0) hx hb hr (fun t ht hW => ⟨⟨0, (2, 0), rfl, ⟨rfl, by first | decide | simp [hx10, hx11, hx39, hx30, hx31, hx49, hx40, hx41, hx20, hx21], by first | exact fun h => absurd h (by decide) | exact fun _ => rfl | rfl | decide | simp⟩, ⟨by rw [ht]; exact hP9, va_K.moved hW.alike hK9, hD9⟩⟩, hS.F ht⟩) hS.2.2 dX19_wouldChoose_73

set_option maxHeartbeats 4000000 in
set_option maxRecDepth 100000 in
theorem c_M_would_Fkk000 (l : Launch) (eD eI : Nat) (ad : Nat → Nat) (dC : Nat → ClassId) (dI : Nat → Nat → Nat) (sz : Nat) (mm : Nat) (ms : Nat) (mt : Nat) (mh : Nat) (me : Nat) (mo : Int32) (ma : Nat) (kO : ClassId) (kT : ClassId) (t0 : Nat) (t1 : Nat) (t2 : Nat) (i0 : Nat) (i1 : Nat) (i2 : Nat) (th : Int32) (x2 : Int32) (hx20 : ¬ x2 < 0) (hx21 : ¬ 9 < x2) : Met l yX19_wouldChoose w_c_M_would ({ frames := 6, cells := 7, slots := 22, locals := 123 }) (va_Pc [.ref mm, .int 0, .int x2, .int 0, .int 0] (zPre eD eI ad (dC, dI) [(mm, .inr (21, [.int th, .ref ms, .ref mt, .ref mh, .ref me])), (ms, .inr (1, [.int 0, .ref eD, .int 0])), (mt, .inr (1, [.int mo, .ref ma, .int 3])), (mh, .inr (1, [.int 0, .ref eD, .int 0])), (me, .inr (1, [.int 0, .ref eD, .int 0])), (ma, .inl (kO, 10, .inr (.inr (.inr (.inr (zfT t0 t1 t2)))))), (t0, .inr (18, [.int (-1), .ref i0])), (t1, .inr (18, [.int (-2), .ref i1])), (t2, .inr (18, [.int (-3), .ref i2])), (i0, .inl (kT, 0, .inr (.inr (.inr (.inr (fun _ => none)))))), (i1, .inl (kT, 0, .inr (.inr (.inr (.inr (fun _ => none)))))), (i2, .inl (kT, 0, .inr (.inr (.inr (.inr (fun _ => none))))))] [(kO, .object "java/lang/Object"), (kT, .object "HornbookModel$Tree")] sz)) (va_Qi (fun (r : Int32) (u : Int32 × Int32) => match u with | (th2, v2) => r = v2 ∧ th2 = (if (0 : Int32) < 0 ∨ 2 < (0 : Int32) then 1 else if ¬ (0 : Int32) = (-1) ∧ ((0 : Int32) < 0 ∨ 2 < (0 : Int32)) then 1 else if ¬ (0 : Int32) = (-1) ∧ ((0 : Int32) < 0 ∨ 2 < (0 : Int32)) then 1 else if x2 < 0 ∨ 9 < x2 then 2 else if (0 : Int32) = (-1) ∧ ¬ (0 : Int32) = (-1) then 2 else if (0 : Int32) = 2 ∨ (0 : Int32) = 2 ∨ (0 : Int32) = 2 then 2 else 0) ∧ (th2 = 0 → v2 = (-1))) (fun (u : Int32 × Int32) => match u with | (th2, v2) => zEnd (dC, dI) (va_A [(mm, .inr (21, [.int th, .ref ms, .ref mt, .ref mh, .ref me])), (ms, .inr (1, [.int 0, .ref eD, .int 0])), (mt, .inr (1, [.int mo, .ref ma, .int 3])), (mh, .inr (1, [.int 0, .ref eD, .int 0])), (me, .inr (1, [.int 0, .ref eD, .int 0])), (ma, .inl (kO, 10, .inr (.inr (.inr (.inr (zfT t0 t1 t2)))))), (t0, .inr (18, [.int (-1), .ref i0])), (t1, .inr (18, [.int (-2), .ref i1])), (t2, .inr (18, [.int (-3), .ref i2])), (i0, .inl (kT, 0, .inr (.inr (.inr (.inr (fun _ => none)))))), (i1, .inl (kT, 0, .inr (.inr (.inr (.inr (fun _ => none)))))), (i2, .inl (kT, 0, .inr (.inr (.inr (.inr (fun _ => none))))))] sz) [(mm, .inr (21, [.int th2, .ref ms, .ref mt, .ref mh, .ref me]))] []) (va_A [(mm, .inr (21, [.int th, .ref ms, .ref mt, .ref mh, .ref me])), (ms, .inr (1, [.int 0, .ref eD, .int 0])), (mt, .inr (1, [.int mo, .ref ma, .int 3])), (mh, .inr (1, [.int 0, .ref eD, .int 0])), (me, .inr (1, [.int 0, .ref eD, .int 0])), (ma, .inl (kO, 10, .inr (.inr (.inr (.inr (zfT t0 t1 t2)))))), (t0, .inr (18, [.int (-1), .ref i0])), (t1, .inr (18, [.int (-2), .ref i1])), (t2, .inr (18, [.int (-3), .ref i2])), (i0, .inl (kT, 0, .inr (.inr (.inr (.inr (fun _ => none)))))), (i1, .inl (kT, 0, .inr (.inr (.inr (.inr (fun _ => none)))))), (i2, .inl (kT, 0, .inr (.inr (.inr (.inr (fun _ => none))))))] sz)) 7 22 (va_A [(mm, .inr (21, [.int th, .ref ms, .ref mt, .ref mh, .ref me])), (ms, .inr (1, [.int 0, .ref eD, .int 0])), (mt, .inr (1, [.int mo, .ref ma, .int 3])), (mh, .inr (1, [.int 0, .ref eD, .int 0])), (me, .inr (1, [.int 0, .ref eD, .int 0])), (ma, .inl (kO, 10, .inr (.inr (.inr (.inr (zfT t0 t1 t2)))))), (t0, .inr (18, [.int (-1), .ref i0])), (t1, .inr (18, [.int (-2), .ref i1])), (t2, .inr (18, [.int (-3), .ref i2])), (i0, .inl (kT, 0, .inr (.inr (.inr (.inr (fun _ => none)))))), (i1, .inl (kT, 0, .inr (.inr (.inr (.inr (fun _ => none)))))), (i2, .inl (kT, 0, .inr (.inr (.inr (.inr (fun _ => none))))))] sz) := by
  refine Met.ofW (cc := cX19_wouldChoose) (maxL := 11) (ret := (some .int)) (by decide) rfl ?_
  intro p e s m args below meth c s₁ B hml hv
  obtain ⟨rfl, hsz, hP, hK, hD0, hE⟩ := hv
  have hx := B.exec
  have hb := B.bytes
  have hr := B.returns
  have hts := atoms_spec (ws := w_c_M_would) B.pre
  have hown : s.vm.findClass RX19 = some m.cls := findClass_of_methodNamed B.named
  have hlocks := B.notSynchronized
  subst hsz
  have hD := hD0.self (sz := s.heap.size)
  generalize hAe : va_A [(mm, .inr (21, [.int th, .ref ms, .ref mt, .ref mh, .ref me])), (ms, .inr (1, [.int 0, .ref eD, .int 0])), (mt, .inr (1, [.int mo, .ref ma, .int 3])), (mh, .inr (1, [.int 0, .ref eD, .int 0])), (me, .inr (1, [.int 0, .ref eD, .int 0])), (ma, .inl (kO, 10, .inr (.inr (.inr (.inr (zfT t0 t1 t2)))))), (t0, .inr (18, [.int (-1), .ref i0])), (t1, .inr (18, [.int (-2), .ref i1])), (t2, .inr (18, [.int (-3), .ref i2])), (i0, .inl (kT, 0, .inr (.inr (.inr (.inr (fun _ => none)))))), (i1, .inl (kT, 0, .inr (.inr (.inr (.inr (fun _ => none)))))), (i2, .inl (kT, 0, .inr (.inr (.inr (.inr (fun _ => none))))))] s.heap.size = A at hD hE ⊢
  have hA : ∀ q : Nat, s.heap.size ≤ q → A q := fun q h => by rw [← hAe]; exact Or.inr h
  have hS : va_S A s.heap s.heap [] := va_S.rf
  have hP : va_P (dC, dI) vwCl [(mm, .inr (21, [.int th, .ref ms, .ref mt, .ref mh, .ref me])), (ms, .inr (1, [.int 0, .ref eD, .int 0])), (mt, .inr (1, [.int mo, .ref ma, .int 3])), (mh, .inr (1, [.int 0, .ref eD, .int 0])), (me, .inr (1, [.int 0, .ref eD, .int 0])), (ma, .inl (kO, 10, .inr (.inr (.inr (.inr (zfT t0 t1 t2)))))), (t0, .inr (18, [.int (-1), .ref i0])), (t1, .inr (18, [.int (-2), .ref i1])), (t2, .inr (18, [.int (-3), .ref i2])), (i0, .inl (kT, 0, .inr (.inr (.inr (.inr (fun _ => none)))))), (i1, .inl (kT, 0, .inr (.inr (.inr (.inr (fun _ => none)))))), (i2, .inl (kT, 0, .inr (.inr (.inr (.inr (fun _ => none))))))] s.heap := hP
  have hl := lv_entry ([.ref mm, .int 0, .int x2, .int 0, .int 0]) (n := 11) (Nat.le_of_ble_eq_true rfl)
  rw [lg_entry_eq]
  generalize (lg_sl ([.ref mm, .int 0, .int x2, .int 0, .int 0]) ++ List.replicate (11 - (lg_sl ([.ref mm, .int 0, .int x2, .int 0, .int 0])).length) Slot.unset).toArray = ls at hl ⊢
  have hl : lv_has ls 11 [(0, .ref mm), (1, .int 0), (2, .int x2), (3, .int 0), (4, .int 0)] := hl
  have in_RJx4a65c : ∀ w ∈ u_ws RJx4a65c TJx4a65c 3, w ∈ w_c_M_would := by decide +kernel
  have in_RX18 : ∀ w ∈ u_ws RX18 TX18 7, w ∈ w_c_M_would := by decide +kernel
  have in_RX19 : ∀ w ∈ u_ws RX19 TX19 5, w ∈ w_c_M_would := by decide +kernel
  have hP := hP.sub (ws' := [(mm, .inr (21, [.int th, .ref ms, .ref mt, .ref mh, .ref me])), (mt, .inr (1, [.int mo, .ref ma, .int 3])), (mh, .inr (1, [.int 0, .ref eD, .int 0])), (ma, .inl (kO, 10, .inr (.inr (.inr (.inr (zfT t0 t1 t2)))))), (t0, .inr (18, [.int (-1), .ref i0])), (i0, .inl (kT, 0, .inr (.inr (.inr (.inr (fun _ => none))))))]) [0, 2, 3, 5, 6, 9] rfl
  have hD := hD.sub (ws' := [(mm, .inr (21, [.int th, .ref ms, .ref mt, .ref mh, .ref me])), (mt, .inr (1, [.int mo, .ref ma, .int 3])), (mh, .inr (1, [.int 0, .ref eD, .int 0])), (ma, .inl (kO, 10, .inr (.inr (.inr (.inr (zfT t0 t1 t2)))))), (t0, .inr (18, [.int (-1), .ref i0])), (i0, .inl (kT, 0, .inr (.inr (.inr (.inr (fun _ => none))))))]) [0, 2, 3, 5, 6, 9] (by decide) rfl
  refine lv_aload_n hx hb dX19_wouldChoose_0 rfl (lv_at hl 0 rfl) ?_
  refine lv_aload_n hx hb dX19_wouldChoose_1 rfl (lv_at hl 0 rfl) ?_
  refine lv_iload_n hx hb dX19_wouldChoose_2 rfl (lv_at hl 1 rfl) ?_
  refine z_i (wr := [(mh, .inr (1, [.int 0, .ref eD, .int 0])), (ma, .inl (kO, 10, .inr (.inr (.inr (.inr (zfT t0 t1 t2)))))), (t0, .inr (18, [.int (-1), .ref i0])), (i0, .inl (kT, 0, .inr (.inr (.inr (.inr (fun _ => none))))))]) (va_runV (As := [.int 0]) (rest := [.ref mm]) ⟨hx, hb, hml, hown, hts⟩ (c_M_isNoType_ok l eD eI ad dC dI s.heap.size mm ms mt mh me th ((.int mo)) ((.ref ma)) 0 (by decide) (by decide)) (cwV 1 hts g_c_M_would_3 rfl rfl rfl (by decide +kernel) ⟨Nat.le_of_ble_eq_true rfl, Nat.le_of_ble_eq_true rfl⟩) (z_preV (wc := [(mm, .inr (21, [.int th, .ref ms, .ref mt, .ref mh, .ref me])), (mt, .inr (1, [.int mo, .ref ma, .int 3]))]) hP hD hK hS hA hE [0, 1] [] rfl (by decide) rfl (ci := 21) (q0 := 0) rfl rfl) rfl rfl hl.1 rfl (lv_room (Nat.le_of_ble_eq_true rfl)) dX19_wouldChoose_3 ⟨Nat.le_of_ble_eq_true rfl, Nat.le_of_ble_eq_true rfl⟩) hP hD hK hS hA [0, 1] [2, 3, 4, 5] rfl rfl (by decide) (by decide) (fun r_1 u H locs hw_2 hP hD hK hS => ?_)
  obtain ⟨⟩ := u
  have hP : va_P (dC, dI) vwCl [(mh, .inr (1, [.int 0, .ref eD, .int 0])), (ma, .inl (kO, 10, .inr (.inr (.inr (.inr (zfT t0 t1 t2)))))), (t0, .inr (18, [.int (-1), .ref i0])), (i0, .inl (kT, 0, .inr (.inr (.inr (.inr (fun _ => none)))))), (mm, .inr (21, [.int th, .ref ms, .ref mt, .ref mh, .ref me])), (mt, .inr (1, [.int mo, .ref ma, .int 3]))] H := hP
  have hD : va_D A [(mh, .inr (1, [.int 0, .ref eD, .int 0])), (ma, .inl (kO, 10, .inr (.inr (.inr (.inr (zfT t0 t1 t2)))))), (t0, .inr (18, [.int (-1), .ref i0])), (i0, .inl (kT, 0, .inr (.inr (.inr (.inr (fun _ => none)))))), (mm, .inr (21, [.int th, .ref ms, .ref mt, .ref mh, .ref me])), (mt, .inr (1, [.int mo, .ref ma, .int 3]))] := hD
  have hK : va_K (dC, dI) vwCl [(kO, .object "java/lang/Object"), (kT, .object "HornbookModel$Tree")] s := by simpa using hK
  have hw_2 : r_1 = 0 := hw_2
  have hw_2 := hw_2.symm
  subst hw_2
  refine lv_if_ne (tgt := 26) hx hb dX19_wouldChoose_6 (by decide) (fun c_3 => ?_) (fun c_3 => ?_)
  · exact absurd (by decide) c_3
  refine lv_aload_n hx hb dX19_wouldChoose_9 rfl (lv_at hl 0 rfl) ?_
  refine lv_iload_n hx hb dX19_wouldChoose_10 rfl (lv_at hl 3 rfl) ?_
  refine z_i (wr := [(mh, .inr (1, [.int 0, .ref eD, .int 0])), (ma, .inl (kO, 10, .inr (.inr (.inr (.inr (zfT t0 t1 t2)))))), (t0, .inr (18, [.int (-1), .ref i0])), (i0, .inl (kT, 0, .inr (.inr (.inr (.inr (fun _ => none))))))]) (va_runV (As := [.int 0]) (rest := [.ref mm]) ⟨hx, hb, hml, hown, hts⟩ (c_M_isNoTypeN_ok l eD eI ad dC dI H.size mm ms mt mh me th ((.int mo)) ((.ref ma)) 0 (by decide) (by decide) (by decide)) (cwV 1 hts g_c_M_would_23 rfl rfl rfl (by decide +kernel) ⟨Nat.le_of_ble_eq_true rfl, Nat.le_of_ble_eq_true rfl⟩) (z_preV (wc := [(mm, .inr (21, [.int th, .ref ms, .ref mt, .ref mh, .ref me])), (mt, .inr (1, [.int mo, .ref ma, .int 3]))]) hP hD hK hS hA hE [4, 5] [] rfl (by decide) rfl (ci := 21) (q0 := 0) rfl rfl) rfl rfl hl.1 rfl (lv_room (Nat.le_of_ble_eq_true rfl)) dX19_wouldChoose_11 ⟨Nat.le_of_ble_eq_true rfl, Nat.le_of_ble_eq_true rfl⟩) hP hD hK hS hA [4, 5] [0, 1, 2, 3] rfl rfl (by decide) (by decide) (fun r_4 u H locs hw_5 hP hD hK hS => ?_)
  obtain ⟨⟩ := u
  have hP : va_P (dC, dI) vwCl [(mh, .inr (1, [.int 0, .ref eD, .int 0])), (ma, .inl (kO, 10, .inr (.inr (.inr (.inr (zfT t0 t1 t2)))))), (t0, .inr (18, [.int (-1), .ref i0])), (i0, .inl (kT, 0, .inr (.inr (.inr (.inr (fun _ => none)))))), (mm, .inr (21, [.int th, .ref ms, .ref mt, .ref mh, .ref me])), (mt, .inr (1, [.int mo, .ref ma, .int 3]))] H := hP
  have hD : va_D A [(mh, .inr (1, [.int 0, .ref eD, .int 0])), (ma, .inl (kO, 10, .inr (.inr (.inr (.inr (zfT t0 t1 t2)))))), (t0, .inr (18, [.int (-1), .ref i0])), (i0, .inl (kT, 0, .inr (.inr (.inr (.inr (fun _ => none)))))), (mm, .inr (21, [.int th, .ref ms, .ref mt, .ref mh, .ref me])), (mt, .inr (1, [.int mo, .ref ma, .int 3]))] := hD
  have hK : va_K (dC, dI) vwCl [(kO, .object "java/lang/Object"), (kT, .object "HornbookModel$Tree")] s := by simpa using hK
  have hw_5 : r_4 = 0 := hw_5
  have hw_5 := hw_5.symm
  subst hw_5
  refine lv_if_ne (tgt := 26) hx hb dX19_wouldChoose_14 (by decide) (fun c_6 => ?_) (fun c_6 => ?_)
  · exact absurd (by decide) c_6
  refine lv_aload_n hx hb dX19_wouldChoose_17 rfl (lv_at hl 0 rfl) ?_
  refine lv_iload hx hb dX19_wouldChoose_18 (lv_at hl 4 rfl) ?_
  refine z_i (wr := [(mh, .inr (1, [.int 0, .ref eD, .int 0])), (ma, .inl (kO, 10, .inr (.inr (.inr (.inr (zfT t0 t1 t2)))))), (t0, .inr (18, [.int (-1), .ref i0])), (i0, .inl (kT, 0, .inr (.inr (.inr (.inr (fun _ => none))))))]) (va_runV (As := [.int 0]) (rest := [.ref mm]) ⟨hx, hb, hml, hown, hts⟩ (c_M_isNoTypeN_ok l eD eI ad dC dI H.size mm ms mt mh me th ((.int mo)) ((.ref ma)) 0 (by decide) (by decide) (by decide)) (cwV 1 hts g_c_M_would_23 rfl rfl rfl (by decide +kernel) ⟨Nat.le_of_ble_eq_true rfl, Nat.le_of_ble_eq_true rfl⟩) (z_preV (wc := [(mm, .inr (21, [.int th, .ref ms, .ref mt, .ref mh, .ref me])), (mt, .inr (1, [.int mo, .ref ma, .int 3]))]) hP hD hK hS hA hE [4, 5] [] rfl (by decide) rfl (ci := 21) (q0 := 0) rfl rfl) rfl rfl hl.1 rfl (lv_room (Nat.le_of_ble_eq_true rfl)) dX19_wouldChoose_20 ⟨Nat.le_of_ble_eq_true rfl, Nat.le_of_ble_eq_true rfl⟩) hP hD hK hS hA [4, 5] [0, 1, 2, 3] rfl rfl (by decide) (by decide) (fun r_7 u H locs hw_8 hP hD hK hS => ?_)
  obtain ⟨⟩ := u
  have hP : va_P (dC, dI) vwCl [(mh, .inr (1, [.int 0, .ref eD, .int 0])), (ma, .inl (kO, 10, .inr (.inr (.inr (.inr (zfT t0 t1 t2)))))), (t0, .inr (18, [.int (-1), .ref i0])), (i0, .inl (kT, 0, .inr (.inr (.inr (.inr (fun _ => none)))))), (mm, .inr (21, [.int th, .ref ms, .ref mt, .ref mh, .ref me])), (mt, .inr (1, [.int mo, .ref ma, .int 3]))] H := hP
  have hD : va_D A [(mh, .inr (1, [.int 0, .ref eD, .int 0])), (ma, .inl (kO, 10, .inr (.inr (.inr (.inr (zfT t0 t1 t2)))))), (t0, .inr (18, [.int (-1), .ref i0])), (i0, .inl (kT, 0, .inr (.inr (.inr (.inr (fun _ => none)))))), (mm, .inr (21, [.int th, .ref ms, .ref mt, .ref mh, .ref me])), (mt, .inr (1, [.int mo, .ref ma, .int 3]))] := hD
  have hK : va_K (dC, dI) vwCl [(kO, .object "java/lang/Object"), (kT, .object "HornbookModel$Tree")] s := by simpa using hK
  have hw_8 : r_7 = 0 := hw_8
  have hw_8 := hw_8.symm
  subst hw_8
  refine lv_if_eq (tgt := 30) hx hb dX19_wouldChoose_23 (by decide) (fun c_9 => ?_) (fun c_9 => ?_)
  rotate_left
  · exact absurd (by decide) c_9
  refine lv_iconst (v := 0) hx hb dX19_wouldChoose_30 (by decide) ?_
  refine lv_iconst (v := 1) hx hb dX19_wouldChoose_31 (by decide) ?_
  refine z_i (wr := [(mh, .inr (1, [.int 0, .ref eD, .int 0])), (ma, .inl (kO, 10, .inr (.inr (.inr (.inr (zfT t0 t1 t2)))))), (t0, .inr (18, [.int (-1), .ref i0])), (i0, .inl (kT, 0, .inr (.inr (.inr (.inr (fun _ => none)))))), (mt, .inr (1, [.int mo, .ref ma, .int 3]))]) (va_runV (As := [.int 0, .int 1]) (rest := []) ⟨hx, hb, hml, hown, hts⟩ (c_M_start_no l eD eI ad dC dI H.size mm ((.ref ms)) ((.ref mt)) ((.ref mh)) ((.ref me)) 1 th) (cwV 2 hts g_c_M_would_5 rfl rfl rfl (by decide +kernel) ⟨Nat.le_of_ble_eq_true rfl, Nat.le_of_ble_eq_true rfl⟩) (z_preV (wc := [(mm, .inr (21, [.int th, .ref ms, .ref mt, .ref mh, .ref me]))]) hP hD hK hS hA hE [4] [] rfl (by decide) rfl (ci := 21) (q0 := 0) rfl rfl) rfl rfl hl.1 rfl (lv_room (Nat.le_of_ble_eq_true rfl)) dX19_wouldChoose_32 ⟨Nat.le_of_ble_eq_true rfl, Nat.le_of_ble_eq_true rfl⟩) hP hD hK hS hA [4] [0, 1, 2, 3, 5] rfl rfl (by decide) (by decide) (fun r_10 u H locs hw_11 hP hD hK hS => ?_)
  obtain ⟨⟩ := u
  have hP : va_P (dC, dI) vwCl [(mh, .inr (1, [.int 0, .ref eD, .int 0])), (ma, .inl (kO, 10, .inr (.inr (.inr (.inr (zfT t0 t1 t2)))))), (t0, .inr (18, [.int (-1), .ref i0])), (i0, .inl (kT, 0, .inr (.inr (.inr (.inr (fun _ => none)))))), (mt, .inr (1, [.int mo, .ref ma, .int 3])), (mm, .inr (21, [.int 0, .ref ms, .ref mt, .ref mh, .ref me]))] H := hP
  have hD : va_D A [(mh, .inr (1, [.int 0, .ref eD, .int 0])), (ma, .inl (kO, 10, .inr (.inr (.inr (.inr (zfT t0 t1 t2)))))), (t0, .inr (18, [.int (-1), .ref i0])), (i0, .inl (kT, 0, .inr (.inr (.inr (.inr (fun _ => none)))))), (mt, .inr (1, [.int mo, .ref ma, .int 3])), (mm, .inr (21, [.int 0, .ref ms, .ref mt, .ref mh, .ref me]))] := hD
  have hK : va_K (dC, dI) vwCl [(kO, .object "java/lang/Object"), (kT, .object "HornbookModel$Tree")] s := by simpa using hK
  have hw_11 : r_10 = 0 := hw_11
  have hw_11 := hw_11.symm
  subst hw_11
  refine lv_if_ne (tgt := 72) hx hb dX19_wouldChoose_35 (by decide) (fun c_12 => ?_) (fun c_12 => ?_)
  · exact absurd (by decide) c_12
  refine lv_aload_n hx hb dX19_wouldChoose_38 rfl (lv_at hl 0 rfl) ?_
  refine lv_iload_n hx hb dX19_wouldChoose_39 rfl (lv_at hl 2 rfl) ?_
  refine lv_iconst (v := 0) hx hb dX19_wouldChoose_40 (by decide) ?_
  refine lv_bipush (v := 9) hx hb dX19_wouldChoose_41 (by decide) ?_
  refine z_i (wr := [(mh, .inr (1, [.int 0, .ref eD, .int 0])), (ma, .inl (kO, 10, .inr (.inr (.inr (.inr (zfT t0 t1 t2)))))), (t0, .inr (18, [.int (-1), .ref i0])), (i0, .inl (kT, 0, .inr (.inr (.inr (.inr (fun _ => none)))))), (mt, .inr (1, [.int mo, .ref ma, .int 3])), (mm, .inr (21, [.int 0, .ref ms, .ref mt, .ref mh, .ref me]))]) (va_runS (As := [.int x2, .int 0, .int 9]) (rest := [.ref mm]) ⟨hx, hb, hml, hown, hts⟩ (c_M_isIn_ok l eD eI ad dC dI H.size x2 0 9 (hx20) (hx21)) (va_cwS 3 hts g_c_M_would_9 rfl rfl rfl (by decide +kernel) ⟨Nat.le_of_ble_eq_true rfl, Nat.le_of_ble_eq_true rfl⟩) (z_preS (wc := []) hP hD hK hS hA hE [] [] rfl (by decide) rfl) rfl rfl hl.1 rfl (lv_room (Nat.le_of_ble_eq_true rfl)) dX19_wouldChoose_43 ⟨Nat.le_of_ble_eq_true rfl, Nat.le_of_ble_eq_true rfl⟩) hP hD hK hS hA [] [0, 1, 2, 3, 4, 5] rfl rfl (by decide) (by decide) (fun r_13 u H locs hw_14 hP hD hK hS => ?_)
  obtain ⟨⟩ := u
  have hP : va_P (dC, dI) vwCl [(mh, .inr (1, [.int 0, .ref eD, .int 0])), (ma, .inl (kO, 10, .inr (.inr (.inr (.inr (zfT t0 t1 t2)))))), (t0, .inr (18, [.int (-1), .ref i0])), (i0, .inl (kT, 0, .inr (.inr (.inr (.inr (fun _ => none)))))), (mt, .inr (1, [.int mo, .ref ma, .int 3])), (mm, .inr (21, [.int 0, .ref ms, .ref mt, .ref mh, .ref me]))] H := hP
  have hD : va_D A [(mh, .inr (1, [.int 0, .ref eD, .int 0])), (ma, .inl (kO, 10, .inr (.inr (.inr (.inr (zfT t0 t1 t2)))))), (t0, .inr (18, [.int (-1), .ref i0])), (i0, .inl (kT, 0, .inr (.inr (.inr (.inr (fun _ => none)))))), (mt, .inr (1, [.int mo, .ref ma, .int 3])), (mm, .inr (21, [.int 0, .ref ms, .ref mt, .ref mh, .ref me]))] := hD
  have hK : va_K (dC, dI) vwCl [(kO, .object "java/lang/Object"), (kT, .object "HornbookModel$Tree")] s := by simpa using hK
  have hw_14 : r_13 = 1 := hw_14
  have hw_14 := hw_14.symm
  subst hw_14
  refine lv_if_eq (tgt := 60) hx hb dX19_wouldChoose_46 (by decide) (fun c_15 => ?_) (fun c_15 => ?_)
  · exact absurd c_15 (by decide)
  refine lv_iload_n hx hb dX19_wouldChoose_49 rfl (lv_at hl 3 rfl) ?_
  refine lv_iconst (v := (-1)) hx hb dX19_wouldChoose_50 (by decide) ?_
  refine lv_icmp_ne (tgt := 64) hx hb dX19_wouldChoose_51 (by decide) (fun c_16 => ?_) (fun c_16 => ?_)
  rotate_left
  · exact absurd c_16 (by decide)
  refine lv_iconst (v := 0) hx hb dX19_wouldChoose_64 (by decide) ?_
  refine lv_iconst (v := 2) hx hb dX19_wouldChoose_65 (by decide) ?_
  refine z_i (wr := [(mh, .inr (1, [.int 0, .ref eD, .int 0])), (ma, .inl (kO, 10, .inr (.inr (.inr (.inr (zfT t0 t1 t2)))))), (t0, .inr (18, [.int (-1), .ref i0])), (i0, .inl (kT, 0, .inr (.inr (.inr (.inr (fun _ => none)))))), (mt, .inr (1, [.int mo, .ref ma, .int 3]))]) (va_runV (As := [.int 0, .int 2]) (rest := []) ⟨hx, hb, hml, hown, hts⟩ (c_M_refuse_no l eD eI ad dC dI H.size mm ((.ref ms)) ((.ref mt)) ((.ref mh)) ((.ref me)) 2) (cwV 2 hts g_c_M_would_10 rfl rfl rfl (by decide +kernel) ⟨Nat.le_of_ble_eq_true rfl, Nat.le_of_ble_eq_true rfl⟩) (z_preV (wc := [(mm, .inr (21, [.int 0, .ref ms, .ref mt, .ref mh, .ref me]))]) hP hD hK hS hA hE [5] [] rfl (by decide) rfl (ci := 21) (q0 := 0) rfl rfl) rfl rfl hl.1 rfl (lv_room (Nat.le_of_ble_eq_true rfl)) dX19_wouldChoose_66 ⟨Nat.le_of_ble_eq_true rfl, Nat.le_of_ble_eq_true rfl⟩) hP hD hK hS hA [5] [0, 1, 2, 3, 4] rfl rfl (by decide) (by decide) (fun r_17 u H locs hw_18 hP hD hK hS => ?_)
  obtain ⟨⟩ := u
  have hP : va_P (dC, dI) vwCl [(mh, .inr (1, [.int 0, .ref eD, .int 0])), (ma, .inl (kO, 10, .inr (.inr (.inr (.inr (zfT t0 t1 t2)))))), (t0, .inr (18, [.int (-1), .ref i0])), (i0, .inl (kT, 0, .inr (.inr (.inr (.inr (fun _ => none)))))), (mt, .inr (1, [.int mo, .ref ma, .int 3])), (mm, .inr (21, [.int 0, .ref ms, .ref mt, .ref mh, .ref me]))] H := hP
  have hD : va_D A [(mh, .inr (1, [.int 0, .ref eD, .int 0])), (ma, .inl (kO, 10, .inr (.inr (.inr (.inr (zfT t0 t1 t2)))))), (t0, .inr (18, [.int (-1), .ref i0])), (i0, .inl (kT, 0, .inr (.inr (.inr (.inr (fun _ => none)))))), (mt, .inr (1, [.int mo, .ref ma, .int 3])), (mm, .inr (21, [.int 0, .ref ms, .ref mt, .ref mh, .ref me]))] := hD
  have hK : va_K (dC, dI) vwCl [(kO, .object "java/lang/Object"), (kT, .object "HornbookModel$Tree")] s := by simpa using hK
  have hw_18 : r_17 = 0 := hw_18
  have hw_18 := hw_18.symm
  subst hw_18
  refine lv_if_eq (tgt := 74) hx hb dX19_wouldChoose_69 (by decide) (fun c_19 => ?_) (fun c_19 => ?_)
  rotate_left
  · exact absurd (by decide) c_19
  refine lv_aload_n hx hb dX19_wouldChoose_74 rfl (lv_at hl 0 rfl) ?_
  refine lv_iload_n hx hb dX19_wouldChoose_75 rfl (lv_at hl 3 rfl) ?_
  refine lv_iload hx hb dX19_wouldChoose_76 (lv_at hl 4 rfl) ?_
  refine z_q (wr := [(mh, .inr (1, [.int 0, .ref eD, .int 0])), (i0, .inl (kT, 0, .inr (.inr (.inr (.inr (fun _ => none))))))]) (va_runV (As := [.int 0, .int 0]) (rest := []) ⟨hx, hb, hml, hown, hts⟩ (c_M_trees_00 l eD eI ad dC dI H.size mm ms mt mh me 0 mo ma kO t0 t1 t2 ((.ref i0))) (cwV 2 hts g_c_M_would_27 rfl rfl rfl (by decide +kernel) ⟨Nat.le_of_ble_eq_true rfl, Nat.le_of_ble_eq_true rfl⟩) (z_preV (wc := [(mm, .inr (21, [.int 0, .ref ms, .ref mt, .ref mh, .ref me])), (mt, .inr (1, [.int mo, .ref ma, .int 3])), (ma, .inl (kO, 10, .inr (.inr (.inr (.inr (zfT t0 t1 t2)))))), (t0, .inr (18, [.int (-1), .ref i0]))]) hP hD hK hS hA hE [5, 4, 1, 2] [0] rfl (by decide) rfl (ci := 21) (q0 := 0) rfl rfl) rfl rfl hl.1 rfl (lv_room (Nat.le_of_ble_eq_true rfl)) dX19_wouldChoose_78 ⟨Nat.le_of_ble_eq_true rfl, Nat.le_of_ble_eq_true rfl⟩) hP hD hK hS hA [5, 4, 1, 2] [0, 3] rfl rfl (by decide) (by decide) (fun r_22 u H locs hw_23 hP hD hK hS => ?_)
  obtain ⟨u_20, u_21⟩ := u
  have hP : va_P (dC, dI) vwCl [(mh, .inr (1, [.int 0, .ref eD, .int 0])), (i0, .inl (kT, 0, .inr (.inr (.inr (.inr (fun _ => none)))))), (mm, .inr (21, [.int 0, .ref ms, .ref mt, .ref mh, .ref me])), (mt, .inr (1, [.int mo, .ref ma, .int 3])), (ma, .inl (kO, 10, .inr (.inr (.inr (.inr (zfT t0 t1 t2)))))), (t0, .inr (18, [.int (-1), .ref i0])), (u_20, .inl (u_21, 2, .inr (.inr (.inr (.inr (va_up (va_up (fun _ => none) (0 : Int32).toNatClampNeg (some t0)) (1 : Int32).toNatClampNeg (some t0)))))))] H := hP
  have hD : va_D A [(mh, .inr (1, [.int 0, .ref eD, .int 0])), (i0, .inl (kT, 0, .inr (.inr (.inr (.inr (fun _ => none)))))), (mm, .inr (21, [.int 0, .ref ms, .ref mt, .ref mh, .ref me])), (mt, .inr (1, [.int mo, .ref ma, .int 3])), (ma, .inl (kO, 10, .inr (.inr (.inr (.inr (zfT t0 t1 t2)))))), (t0, .inr (18, [.int (-1), .ref i0])), (u_20, .inl (u_21, 2, .inr (.inr (.inr (.inr (va_up (va_up (fun _ => none) (0 : Int32).toNatClampNeg (some t0)) (1 : Int32).toNatClampNeg (some t0)))))))] := hD
  have hK : va_K (dC, dI) vwCl [(kO, .object "java/lang/Object"), (kT, .object "HornbookModel$Tree"), (kO, .object "java/lang/Object"), (u_21, .object "HornbookModel$Tree")] s := hK
  have hw_23 : r_22 = some u_20 := hw_23
  have hw_23 := hw_23.symm
  subst hw_23
  refine W.eq (g2 := F0 m 81 ls (.ref u_20 :: [])) rfl ?_
  refine lv_astore (lv' := [(5, .ref u_20), (0, .ref mm), (1, .int 0), (2, .int x2), (3, .int 0), (4, .int 0)]) hx hb dX19_wouldChoose_81 hl (by decide) rfl (fun ls hl => ?_)
  refine lv_aload_n hx hb dX19_wouldChoose_83 rfl (lv_at hl 1 rfl) ?_
  refine lv_iload_n hx hb dX19_wouldChoose_84 rfl (lv_at hl 2 rfl) ?_
  refine z_q (wr := [(mh, .inr (1, [.int 0, .ref eD, .int 0])), (i0, .inl (kT, 0, .inr (.inr (.inr (.inr (fun _ => none)))))), (u_20, .inl (u_21, 2, .inr (.inr (.inr (.inr (va_up (va_up (fun _ => none) (0 : Int32).toNatClampNeg (some t0)) (1 : Int32).toNatClampNeg (some t0)))))))]) (va_runV (As := [.int 0]) (rest := []) ⟨hx, hb, hml, hown, hts⟩ (c_M_type_0 l eD eI ad dC dI H.size mm ms mt mh me 0 mo ma kO t0 t1 t2 ((.ref i0))) (cwV 1 hts g_c_M_would_12 rfl rfl rfl (by decide +kernel) ⟨Nat.le_of_ble_eq_true rfl, Nat.le_of_ble_eq_true rfl⟩) (z_preV (wc := [(mm, .inr (21, [.int 0, .ref ms, .ref mt, .ref mh, .ref me])), (mt, .inr (1, [.int mo, .ref ma, .int 3])), (ma, .inl (kO, 10, .inr (.inr (.inr (.inr (zfT t0 t1 t2)))))), (t0, .inr (18, [.int (-1), .ref i0]))]) hP hD hK hS hA hE [2, 3, 4, 5] [0] rfl (by decide) rfl (ci := 21) (q0 := 0) rfl rfl) rfl rfl hl.1 rfl (lv_room (Nat.le_of_ble_eq_true rfl)) dX19_wouldChoose_85 ⟨Nat.le_of_ble_eq_true rfl, Nat.le_of_ble_eq_true rfl⟩) hP hD hK hS hA [2, 3, 4, 5] [0, 1, 6] rfl rfl (by decide) (by decide) (fun r_24 u H locs hw_25 hP hD hK hS => ?_)
  obtain ⟨⟩ := u
  have hP : va_P (dC, dI) vwCl [(mh, .inr (1, [.int 0, .ref eD, .int 0])), (i0, .inl (kT, 0, .inr (.inr (.inr (.inr (fun _ => none)))))), (u_20, .inl (u_21, 2, .inr (.inr (.inr (.inr (va_up (va_up (fun _ => none) (0 : Int32).toNatClampNeg (some t0)) (1 : Int32).toNatClampNeg (some t0))))))), (mm, .inr (21, [.int 0, .ref ms, .ref mt, .ref mh, .ref me])), (mt, .inr (1, [.int mo, .ref ma, .int 3])), (ma, .inl (kO, 10, .inr (.inr (.inr (.inr (zfT t0 t1 t2)))))), (t0, .inr (18, [.int (-1), .ref i0]))] H := hP
  have hD : va_D A [(mh, .inr (1, [.int 0, .ref eD, .int 0])), (i0, .inl (kT, 0, .inr (.inr (.inr (.inr (fun _ => none)))))), (u_20, .inl (u_21, 2, .inr (.inr (.inr (.inr (va_up (va_up (fun _ => none) (0 : Int32).toNatClampNeg (some t0)) (1 : Int32).toNatClampNeg (some t0))))))), (mm, .inr (21, [.int 0, .ref ms, .ref mt, .ref mh, .ref me])), (mt, .inr (1, [.int mo, .ref ma, .int 3])), (ma, .inl (kO, 10, .inr (.inr (.inr (.inr (zfT t0 t1 t2)))))), (t0, .inr (18, [.int (-1), .ref i0]))] := hD
  have hK : va_K (dC, dI) vwCl [(kO, .object "java/lang/Object"), (kT, .object "HornbookModel$Tree"), (kO, .object "java/lang/Object"), (u_21, .object "HornbookModel$Tree")] s := by simpa using hK
  have hw_25 : r_24 = some t0 := hw_25
  have hw_25 := hw_25.symm
  subst hw_25
  refine W.eq (g2 := F0 m 88 ls (.ref t0 :: [])) rfl ?_
  refine z_i (wr := [(mh, .inr (1, [.int 0, .ref eD, .int 0])), (u_20, .inl (u_21, 2, .inr (.inr (.inr (.inr (va_up (va_up (fun _ => none) (0 : Int32).toNatClampNeg (some t0)) (1 : Int32).toNatClampNeg (some t0))))))), (mm, .inr (21, [.int 0, .ref ms, .ref mt, .ref mh, .ref me])), (mt, .inr (1, [.int mo, .ref ma, .int 3])), (ma, .inl (kO, 10, .inr (.inr (.inr (.inr (zfT t0 t1 t2))))))]) (va_runV (As := []) (rest := []) ⟨hx, hb, hml, hown, hts⟩ (c_T_isClosed_1 l eD eI ad dC dI H.size t0 i0 kT) (cwV 0 hts g_c_M_would_13 rfl rfl rfl (by decide +kernel) ⟨Nat.le_of_ble_eq_true rfl, Nat.le_of_ble_eq_true rfl⟩) (z_preV (wc := [(t0, .inr (18, [.int (-1), .ref i0])), (i0, .inl (kT, 0, .inr (.inr (.inr (.inr (fun _ => none))))))]) hP hD hK hS hA hE [6, 1] [1] rfl (by decide) rfl (ci := 18) (q0 := 0) rfl rfl) rfl rfl hl.1 rfl (lv_room (Nat.le_of_ble_eq_true rfl)) dX19_wouldChoose_88 ⟨Nat.le_of_ble_eq_true rfl, Nat.le_of_ble_eq_true rfl⟩) hP hD hK hS hA [6, 1] [0, 2, 3, 4, 5] rfl rfl (by decide) (by decide) (fun r_26 u H locs hw_27 hP hD hK hS => ?_)
  obtain ⟨⟩ := u
  have hP : va_P (dC, dI) vwCl [(mh, .inr (1, [.int 0, .ref eD, .int 0])), (u_20, .inl (u_21, 2, .inr (.inr (.inr (.inr (va_up (va_up (fun _ => none) (0 : Int32).toNatClampNeg (some t0)) (1 : Int32).toNatClampNeg (some t0))))))), (mm, .inr (21, [.int 0, .ref ms, .ref mt, .ref mh, .ref me])), (mt, .inr (1, [.int mo, .ref ma, .int 3])), (ma, .inl (kO, 10, .inr (.inr (.inr (.inr (zfT t0 t1 t2)))))), (t0, .inr (18, [.int (-1), .ref i0])), (i0, .inl (kT, 0, .inr (.inr (.inr (.inr (fun _ => none))))))] H := hP
  have hD : va_D A [(mh, .inr (1, [.int 0, .ref eD, .int 0])), (u_20, .inl (u_21, 2, .inr (.inr (.inr (.inr (va_up (va_up (fun _ => none) (0 : Int32).toNatClampNeg (some t0)) (1 : Int32).toNatClampNeg (some t0))))))), (mm, .inr (21, [.int 0, .ref ms, .ref mt, .ref mh, .ref me])), (mt, .inr (1, [.int mo, .ref ma, .int 3])), (ma, .inl (kO, 10, .inr (.inr (.inr (.inr (zfT t0 t1 t2)))))), (t0, .inr (18, [.int (-1), .ref i0])), (i0, .inl (kT, 0, .inr (.inr (.inr (.inr (fun _ => none))))))] := hD
  have hK : va_K (dC, dI) vwCl [(kO, .object "java/lang/Object"), (kT, .object "HornbookModel$Tree"), (kO, .object "java/lang/Object"), (u_21, .object "HornbookModel$Tree")] s := by simpa using hK
  have hw_27 : r_26 = 1 := hw_27
  have hw_27 := hw_27.symm
  subst hw_27
  refine lv_istore (lv' := [(6, .int 1), (5, .ref u_20), (0, .ref mm), (1, .int 0), (2, .int x2), (3, .int 0), (4, .int 0)]) hx hb dX19_wouldChoose_91 hl (by decide) rfl (fun ls hl => ?_)
  refine lv_aload hx hb dX19_wouldChoose_93 (lv_at hl 1 rfl) ?_
  refine lv_astore (lv' := [(7, .ref u_20), (6, .int 1), (5, .ref u_20), (0, .ref mm), (1, .int 0), (2, .int x2), (3, .int 0), (4, .int 0)]) hx hb dX19_wouldChoose_95 hl (by decide) rfl (fun ls hl => ?_)
  refine lv_aload hx hb dX19_wouldChoose_97 (lv_at hl 0 rfl) ?_
  refine va_alen (D := (dC, dI)) (v := 2) hx hb hK hP 1 3 rfl rfl rfl dX19_wouldChoose_99 ?_
  refine lv_istore (lv' := [(8, .int 2), (7, .ref u_20), (6, .int 1), (5, .ref u_20), (0, .ref mm), (1, .int 0), (2, .int x2), (3, .int 0), (4, .int 0)]) hx hb dX19_wouldChoose_100 hl (by decide) rfl (fun ls hl => ?_)
  refine lv_iconst (v := 0) hx hb dX19_wouldChoose_102 (by decide) ?_
  refine lv_istore (lv' := [(9, .int 0), (8, .int 2), (7, .ref u_20), (6, .int 1), (5, .ref u_20), (0, .ref mm), (1, .int 0), (2, .int x2), (3, .int 0), (4, .int 0)]) hx hb dX19_wouldChoose_103 hl (by decide) rfl (fun ls hl => ?_)
  refine lv_iload hx hb dX19_wouldChoose_105 (lv_at hl 0 rfl) ?_
  refine lv_iload hx hb dX19_wouldChoose_107 (lv_at hl 1 rfl) ?_
  refine lv_icmp_ge (tgt := 135) hx hb dX19_wouldChoose_109 (by decide) (fun c_28 => ?_) (fun c_28 => ?_)
  · exact absurd c_28 (by decide)
  refine lv_aload hx hb dX19_wouldChoose_112 (lv_at hl 2 rfl) ?_
  refine lv_iload hx hb dX19_wouldChoose_114 (lv_at hl 0 rfl) ?_
  refine va_aldq (D := (dC, dI)) hx hb hK hP 1 3 rfl rfl (by unfold vp_in; decide) dX19_wouldChoose_116 ?_
  refine z_top (v' := .ref t0) (by first | rfl | decide | simp [va_up, va_rf]) ?_
  refine lv_astore (lv' := [(10, .ref t0), (9, .int 0), (8, .int 2), (7, .ref u_20), (6, .int 1), (5, .ref u_20), (0, .ref mm), (1, .int 0), (2, .int x2), (3, .int 0), (4, .int 0)]) hx hb dX19_wouldChoose_117 hl (by decide) rfl (fun ls hl => ?_)
  refine lv_iload hx hb dX19_wouldChoose_119 (lv_at hl 4 rfl) ?_
  refine lv_aload hx hb dX19_wouldChoose_121 (lv_at hl 0 rfl) ?_
  refine z_i (wr := [(mh, .inr (1, [.int 0, .ref eD, .int 0])), (u_20, .inl (u_21, 2, .inr (.inr (.inr (.inr (va_up (va_up (fun _ => none) (0 : Int32).toNatClampNeg (some t0)) (1 : Int32).toNatClampNeg (some t0))))))), (mm, .inr (21, [.int 0, .ref ms, .ref mt, .ref mh, .ref me])), (mt, .inr (1, [.int mo, .ref ma, .int 3])), (ma, .inl (kO, 10, .inr (.inr (.inr (.inr (zfT t0 t1 t2))))))]) (va_runV (As := []) (rest := [.int 1]) ⟨hx, hb, hml, hown, hts⟩ (c_T_isClosed_1 l eD eI ad dC dI H.size t0 i0 kT) (cwV 0 hts g_c_M_would_13 rfl rfl rfl (by decide +kernel) ⟨Nat.le_of_ble_eq_true rfl, Nat.le_of_ble_eq_true rfl⟩) (z_preV (wc := [(t0, .inr (18, [.int (-1), .ref i0])), (i0, .inl (kT, 0, .inr (.inr (.inr (.inr (fun _ => none))))))]) hP hD hK hS hA hE [5, 6] [1] rfl (by decide) rfl (ci := 18) (q0 := 0) rfl rfl) rfl rfl hl.1 rfl (lv_room (Nat.le_of_ble_eq_true rfl)) dX19_wouldChoose_123 ⟨Nat.le_of_ble_eq_true rfl, Nat.le_of_ble_eq_true rfl⟩) hP hD hK hS hA [5, 6] [0, 1, 2, 3, 4] rfl rfl (by decide) (by decide) (fun r_29 u H locs hw_30 hP hD hK hS => ?_)
  obtain ⟨⟩ := u
  have hP : va_P (dC, dI) vwCl [(mh, .inr (1, [.int 0, .ref eD, .int 0])), (u_20, .inl (u_21, 2, .inr (.inr (.inr (.inr (va_up (va_up (fun _ => none) (0 : Int32).toNatClampNeg (some t0)) (1 : Int32).toNatClampNeg (some t0))))))), (mm, .inr (21, [.int 0, .ref ms, .ref mt, .ref mh, .ref me])), (mt, .inr (1, [.int mo, .ref ma, .int 3])), (ma, .inl (kO, 10, .inr (.inr (.inr (.inr (zfT t0 t1 t2)))))), (t0, .inr (18, [.int (-1), .ref i0])), (i0, .inl (kT, 0, .inr (.inr (.inr (.inr (fun _ => none))))))] H := hP
  have hD : va_D A [(mh, .inr (1, [.int 0, .ref eD, .int 0])), (u_20, .inl (u_21, 2, .inr (.inr (.inr (.inr (va_up (va_up (fun _ => none) (0 : Int32).toNatClampNeg (some t0)) (1 : Int32).toNatClampNeg (some t0))))))), (mm, .inr (21, [.int 0, .ref ms, .ref mt, .ref mh, .ref me])), (mt, .inr (1, [.int mo, .ref ma, .int 3])), (ma, .inl (kO, 10, .inr (.inr (.inr (.inr (zfT t0 t1 t2)))))), (t0, .inr (18, [.int (-1), .ref i0])), (i0, .inl (kT, 0, .inr (.inr (.inr (.inr (fun _ => none))))))] := hD
  have hK : va_K (dC, dI) vwCl [(kO, .object "java/lang/Object"), (kT, .object "HornbookModel$Tree"), (kO, .object "java/lang/Object"), (u_21, .object "HornbookModel$Tree")] s := by simpa using hK
  have hw_30 : r_29 = 1 := hw_30
  have hw_30 := hw_30.symm
  subst hw_30
  refine lv_iand hx hb dX19_wouldChoose_126 ?_
  refine z_top (v' := .int 1) (congrArg Value.int (by decide)) ?_
  refine lv_istore (lv' := [(6, .int 1), (10, .ref t0), (9, .int 0), (8, .int 2), (7, .ref u_20), (5, .ref u_20), (0, .ref mm), (1, .int 0), (2, .int x2), (3, .int 0), (4, .int 0)]) hx hb dX19_wouldChoose_127 hl (by decide) rfl (fun ls hl => ?_)
  refine lv_iinc (v := 1) (lv' := [(9, .int 1), (6, .int 1), (10, .ref t0), (8, .int 2), (7, .ref u_20), (5, .ref u_20), (0, .ref mm), (1, .int 0), (2, .int x2), (3, .int 0), (4, .int 0)]) hx hb dX19_wouldChoose_129 hl (k := 2) rfl (by decide) (by decide) rfl (fun ls hl => ?_)
  refine lv_goto (tgt := 105) hx hb dX19_wouldChoose_132 (by decide) ?_
  refine lv_iload hx hb dX19_wouldChoose_105 (lv_at hl 0 rfl) ?_
  refine lv_iload hx hb dX19_wouldChoose_107 (lv_at hl 3 rfl) ?_
  refine lv_icmp_ge (tgt := 135) hx hb dX19_wouldChoose_109 (by decide) (fun c_31 => ?_) (fun c_31 => ?_)
  · exact absurd c_31 (by decide)
  refine lv_aload hx hb dX19_wouldChoose_112 (lv_at hl 4 rfl) ?_
  refine lv_iload hx hb dX19_wouldChoose_114 (lv_at hl 0 rfl) ?_
  refine va_aldq (D := (dC, dI)) hx hb hK hP 1 3 rfl rfl (by unfold vp_in; decide) dX19_wouldChoose_116 ?_
  refine z_top (v' := .ref t0) (by first | rfl | decide | simp [va_up, va_rf]) ?_
  refine lv_astore (lv' := [(10, .ref t0), (9, .int 1), (6, .int 1), (8, .int 2), (7, .ref u_20), (5, .ref u_20), (0, .ref mm), (1, .int 0), (2, .int x2), (3, .int 0), (4, .int 0)]) hx hb dX19_wouldChoose_117 hl (by decide) rfl (fun ls hl => ?_)
  refine lv_iload hx hb dX19_wouldChoose_119 (lv_at hl 2 rfl) ?_
  refine lv_aload hx hb dX19_wouldChoose_121 (lv_at hl 0 rfl) ?_
  refine z_i (wr := [(mh, .inr (1, [.int 0, .ref eD, .int 0])), (u_20, .inl (u_21, 2, .inr (.inr (.inr (.inr (va_up (va_up (fun _ => none) (0 : Int32).toNatClampNeg (some t0)) (1 : Int32).toNatClampNeg (some t0))))))), (mm, .inr (21, [.int 0, .ref ms, .ref mt, .ref mh, .ref me])), (mt, .inr (1, [.int mo, .ref ma, .int 3])), (ma, .inl (kO, 10, .inr (.inr (.inr (.inr (zfT t0 t1 t2))))))]) (va_runV (As := []) (rest := [.int 1]) ⟨hx, hb, hml, hown, hts⟩ (c_T_isClosed_1 l eD eI ad dC dI H.size t0 i0 kT) (cwV 0 hts g_c_M_would_13 rfl rfl rfl (by decide +kernel) ⟨Nat.le_of_ble_eq_true rfl, Nat.le_of_ble_eq_true rfl⟩) (z_preV (wc := [(t0, .inr (18, [.int (-1), .ref i0])), (i0, .inl (kT, 0, .inr (.inr (.inr (.inr (fun _ => none))))))]) hP hD hK hS hA hE [5, 6] [1] rfl (by decide) rfl (ci := 18) (q0 := 0) rfl rfl) rfl rfl hl.1 rfl (lv_room (Nat.le_of_ble_eq_true rfl)) dX19_wouldChoose_123 ⟨Nat.le_of_ble_eq_true rfl, Nat.le_of_ble_eq_true rfl⟩) hP hD hK hS hA [5, 6] [0, 1, 2, 3, 4] rfl rfl (by decide) (by decide) (fun r_32 u H locs hw_33 hP hD hK hS => ?_)
  obtain ⟨⟩ := u
  have hP : va_P (dC, dI) vwCl [(mh, .inr (1, [.int 0, .ref eD, .int 0])), (u_20, .inl (u_21, 2, .inr (.inr (.inr (.inr (va_up (va_up (fun _ => none) (0 : Int32).toNatClampNeg (some t0)) (1 : Int32).toNatClampNeg (some t0))))))), (mm, .inr (21, [.int 0, .ref ms, .ref mt, .ref mh, .ref me])), (mt, .inr (1, [.int mo, .ref ma, .int 3])), (ma, .inl (kO, 10, .inr (.inr (.inr (.inr (zfT t0 t1 t2)))))), (t0, .inr (18, [.int (-1), .ref i0])), (i0, .inl (kT, 0, .inr (.inr (.inr (.inr (fun _ => none))))))] H := hP
  have hD : va_D A [(mh, .inr (1, [.int 0, .ref eD, .int 0])), (u_20, .inl (u_21, 2, .inr (.inr (.inr (.inr (va_up (va_up (fun _ => none) (0 : Int32).toNatClampNeg (some t0)) (1 : Int32).toNatClampNeg (some t0))))))), (mm, .inr (21, [.int 0, .ref ms, .ref mt, .ref mh, .ref me])), (mt, .inr (1, [.int mo, .ref ma, .int 3])), (ma, .inl (kO, 10, .inr (.inr (.inr (.inr (zfT t0 t1 t2)))))), (t0, .inr (18, [.int (-1), .ref i0])), (i0, .inl (kT, 0, .inr (.inr (.inr (.inr (fun _ => none))))))] := hD
  have hK : va_K (dC, dI) vwCl [(kO, .object "java/lang/Object"), (kT, .object "HornbookModel$Tree"), (kO, .object "java/lang/Object"), (u_21, .object "HornbookModel$Tree")] s := by simpa using hK
  have hw_33 : r_32 = 1 := hw_33
  have hw_33 := hw_33.symm
  subst hw_33
  refine lv_iand hx hb dX19_wouldChoose_126 ?_
  refine z_top (v' := .int 1) (congrArg Value.int (by decide)) ?_
  refine lv_istore (lv' := [(6, .int 1), (10, .ref t0), (9, .int 1), (8, .int 2), (7, .ref u_20), (5, .ref u_20), (0, .ref mm), (1, .int 0), (2, .int x2), (3, .int 0), (4, .int 0)]) hx hb dX19_wouldChoose_127 hl (by decide) rfl (fun ls hl => ?_)
  refine lv_iinc (v := 2) (lv' := [(9, .int 2), (6, .int 1), (10, .ref t0), (8, .int 2), (7, .ref u_20), (5, .ref u_20), (0, .ref mm), (1, .int 0), (2, .int x2), (3, .int 0), (4, .int 0)]) hx hb dX19_wouldChoose_129 hl (k := 2) rfl (by decide) (by decide) rfl (fun ls hl => ?_)
  refine lv_goto (tgt := 105) hx hb dX19_wouldChoose_132 (by decide) ?_
  refine lv_iload hx hb dX19_wouldChoose_105 (lv_at hl 0 rfl) ?_
  refine lv_iload hx hb dX19_wouldChoose_107 (lv_at hl 3 rfl) ?_
  refine lv_icmp_ge (tgt := 135) hx hb dX19_wouldChoose_109 (by decide) (fun c_34 => ?_) (fun c_34 => ?_)
  rotate_left
  · exact absurd (by decide) c_34
  refine lv_aload_n hx hb dX19_wouldChoose_135 rfl (lv_at hl 6 rfl) ?_
  refine lv_iload hx hb dX19_wouldChoose_136 (lv_at hl 1 rfl) ?_
  refine lv_if_ne (tgt := 145) hx hb dX19_wouldChoose_138 (by decide) (fun c_35 => ?_) (fun c_35 => ?_)
  rotate_left
  · exact absurd c_35 (by decide)
  refine lv_iconst (v := 0) hx hb dX19_wouldChoose_145 (by decide) ?_
  refine lv_iconst (v := 2) hx hb dX19_wouldChoose_146 (by decide) ?_
  refine z_i (wr := [(mh, .inr (1, [.int 0, .ref eD, .int 0])), (u_20, .inl (u_21, 2, .inr (.inr (.inr (.inr (va_up (va_up (fun _ => none) (0 : Int32).toNatClampNeg (some t0)) (1 : Int32).toNatClampNeg (some t0))))))), (mt, .inr (1, [.int mo, .ref ma, .int 3])), (ma, .inl (kO, 10, .inr (.inr (.inr (.inr (zfT t0 t1 t2)))))), (t0, .inr (18, [.int (-1), .ref i0])), (i0, .inl (kT, 0, .inr (.inr (.inr (.inr (fun _ => none))))))]) (va_runV (As := [.int 0, .int 2]) (rest := []) ⟨hx, hb, hml, hown, hts⟩ (c_M_refuse_no l eD eI ad dC dI H.size mm ((.ref ms)) ((.ref mt)) ((.ref mh)) ((.ref me)) 2) (cwV 2 hts g_c_M_would_10 rfl rfl rfl (by decide +kernel) ⟨Nat.le_of_ble_eq_true rfl, Nat.le_of_ble_eq_true rfl⟩) (z_preV (wc := [(mm, .inr (21, [.int 0, .ref ms, .ref mt, .ref mh, .ref me]))]) hP hD hK hS hA hE [2] [] rfl (by decide) rfl (ci := 21) (q0 := 0) rfl rfl) rfl rfl hl.1 rfl (lv_room (Nat.le_of_ble_eq_true rfl)) dX19_wouldChoose_147 ⟨Nat.le_of_ble_eq_true rfl, Nat.le_of_ble_eq_true rfl⟩) hP hD hK hS hA [2] [0, 1, 3, 4, 5, 6] rfl rfl (by decide) (by decide) (fun r_36 u H locs hw_37 hP hD hK hS => ?_)
  obtain ⟨⟩ := u
  have hP : va_P (dC, dI) vwCl [(mh, .inr (1, [.int 0, .ref eD, .int 0])), (u_20, .inl (u_21, 2, .inr (.inr (.inr (.inr (va_up (va_up (fun _ => none) (0 : Int32).toNatClampNeg (some t0)) (1 : Int32).toNatClampNeg (some t0))))))), (mt, .inr (1, [.int mo, .ref ma, .int 3])), (ma, .inl (kO, 10, .inr (.inr (.inr (.inr (zfT t0 t1 t2)))))), (t0, .inr (18, [.int (-1), .ref i0])), (i0, .inl (kT, 0, .inr (.inr (.inr (.inr (fun _ => none)))))), (mm, .inr (21, [.int 0, .ref ms, .ref mt, .ref mh, .ref me]))] H := hP
  have hD : va_D A [(mh, .inr (1, [.int 0, .ref eD, .int 0])), (u_20, .inl (u_21, 2, .inr (.inr (.inr (.inr (va_up (va_up (fun _ => none) (0 : Int32).toNatClampNeg (some t0)) (1 : Int32).toNatClampNeg (some t0))))))), (mt, .inr (1, [.int mo, .ref ma, .int 3])), (ma, .inl (kO, 10, .inr (.inr (.inr (.inr (zfT t0 t1 t2)))))), (t0, .inr (18, [.int (-1), .ref i0])), (i0, .inl (kT, 0, .inr (.inr (.inr (.inr (fun _ => none)))))), (mm, .inr (21, [.int 0, .ref ms, .ref mt, .ref mh, .ref me]))] := hD
  have hK : va_K (dC, dI) vwCl [(kO, .object "java/lang/Object"), (kT, .object "HornbookModel$Tree"), (kO, .object "java/lang/Object"), (u_21, .object "HornbookModel$Tree")] s := by simpa using hK
  have hw_37 : r_36 = 0 := hw_37
  have hw_37 := hw_37.symm
  subst hw_37
  refine lv_if_eq (tgt := 155) hx hb dX19_wouldChoose_150 (by decide) (fun c_38 => ?_) (fun c_38 => ?_)
  rotate_left
  · exact absurd (by decide) c_38
  refine va_new (ci := 20) (fs := [.null, .int 0, .int 0, .int 0, .null, .int 0, .int 0]) (C := RX18) (T := TX18) (N := 7) hx hb hts in_RX18 tyX18 tyX18_ok hown (hts (.classLink RX19 184 RX18) (by decide +kernel)) (hts (.instantiable RX18 7) (by decide +kernel)) (hts (.initialized RX18) (by decide +kernel)) hK hP hD hS hA rfl (fun j hj => by rcases (show j = 0 ∨ j = 1 ∨ j = 2 ∨ j = 3 ∨ j = 4 ∨ j = 5 ∨ j = 6 by omega) with rfl | rfl | rfl | rfl | rfl | rfl | rfl <;> rfl) (Nat.le_of_ble_eq_true rfl) (Nat.le_of_ble_eq_true rfl) dX19_wouldChoose_155 (fun q_39 H hP hD hS => ?_)
  have hP : va_P (dC, dI) vwCl [(mh, .inr (1, [.int 0, .ref eD, .int 0])), (u_20, .inl (u_21, 2, .inr (.inr (.inr (.inr (va_up (va_up (fun _ => none) (0 : Int32).toNatClampNeg (some t0)) (1 : Int32).toNatClampNeg (some t0))))))), (mt, .inr (1, [.int mo, .ref ma, .int 3])), (ma, .inl (kO, 10, .inr (.inr (.inr (.inr (zfT t0 t1 t2)))))), (t0, .inr (18, [.int (-1), .ref i0])), (i0, .inl (kT, 0, .inr (.inr (.inr (.inr (fun _ => none)))))), (mm, .inr (21, [.int 0, .ref ms, .ref mt, .ref mh, .ref me])), (q_39, .inr (20, [.null, .int 0, .int 0, .int 0, .null, .int 0, .int 0]))] H := hP
  have hD : va_D A [(mh, .inr (1, [.int 0, .ref eD, .int 0])), (u_20, .inl (u_21, 2, .inr (.inr (.inr (.inr (va_up (va_up (fun _ => none) (0 : Int32).toNatClampNeg (some t0)) (1 : Int32).toNatClampNeg (some t0))))))), (mt, .inr (1, [.int mo, .ref ma, .int 3])), (ma, .inl (kO, 10, .inr (.inr (.inr (.inr (zfT t0 t1 t2)))))), (t0, .inr (18, [.int (-1), .ref i0])), (i0, .inl (kT, 0, .inr (.inr (.inr (.inr (fun _ => none)))))), (mm, .inr (21, [.int 0, .ref ms, .ref mt, .ref mh, .ref me])), (q_39, .inr (20, [.null, .int 0, .int 0, .int 0, .null, .int 0, .int 0]))] := hD
  refine lv_dup hx hb dX19_wouldChoose_158 rfl ?_
  refine z_v (wr := [(mh, .inr (1, [.int 0, .ref eD, .int 0])), (u_20, .inl (u_21, 2, .inr (.inr (.inr (.inr (va_up (va_up (fun _ => none) (0 : Int32).toNatClampNeg (some t0)) (1 : Int32).toNatClampNeg (some t0))))))), (mt, .inr (1, [.int mo, .ref ma, .int 3])), (ma, .inl (kO, 10, .inr (.inr (.inr (.inr (zfT t0 t1 t2)))))), (t0, .inr (18, [.int (-1), .ref i0])), (i0, .inl (kT, 0, .inr (.inr (.inr (.inr (fun _ => none)))))), (mm, .inr (21, [.int 0, .ref ms, .ref mt, .ref mh, .ref me]))]) (va_runIN (As := []) (rest := [.ref q_39]) ⟨hx, hb, hml, hown, hts⟩ (c_W_init l eD eI ad dC dI H.size q_39) (⟨va_cnB 0 hts g_c_M_would_14 rfl rfl rfl (hE.2.2.1 (.methodLinkNest RX19 226 yX18_init "HornbookModel") (by decide +kernel)) (hts (.initialized RX18) (by decide +kernel)) (by decide +kernel) ⟨Nat.le_of_ble_eq_true rfl, Nat.le_of_ble_eq_true rfl⟩, rfl, (hts (.instanceMethod yX18_init) (by decide +kernel))⟩) (z_preS (wc := [(q_39, .inr (20, [.null, .int 0, .int 0, .int 0, .null, .int 0, .int 0]))]) hP hD hK hS hA hE [7] [] rfl (by decide) rfl) rfl rfl hl.1 rfl (lv_room (Nat.le_of_ble_eq_true rfl)) dX19_wouldChoose_159 ⟨Nat.le_of_ble_eq_true rfl, Nat.le_of_ble_eq_true rfl⟩) hP hD hK hS hA [7] [0, 1, 2, 3, 4, 5, 6] rfl rfl (by decide) (by decide) (fun u H locs hw_41 hP hD hK hS => ?_)
  obtain ⟨⟩ := u
  have hP : va_P (dC, dI) vwCl [(mh, .inr (1, [.int 0, .ref eD, .int 0])), (u_20, .inl (u_21, 2, .inr (.inr (.inr (.inr (va_up (va_up (fun _ => none) (0 : Int32).toNatClampNeg (some t0)) (1 : Int32).toNatClampNeg (some t0))))))), (mt, .inr (1, [.int mo, .ref ma, .int 3])), (ma, .inl (kO, 10, .inr (.inr (.inr (.inr (zfT t0 t1 t2)))))), (t0, .inr (18, [.int (-1), .ref i0])), (i0, .inl (kT, 0, .inr (.inr (.inr (.inr (fun _ => none)))))), (mm, .inr (21, [.int 0, .ref ms, .ref mt, .ref mh, .ref me])), (q_39, .inr (20, [.null, .int 0, .int 0, .int (-1), .null, .int 0, .int 0]))] H := hP
  have hD : va_D A [(mh, .inr (1, [.int 0, .ref eD, .int 0])), (u_20, .inl (u_21, 2, .inr (.inr (.inr (.inr (va_up (va_up (fun _ => none) (0 : Int32).toNatClampNeg (some t0)) (1 : Int32).toNatClampNeg (some t0))))))), (mt, .inr (1, [.int mo, .ref ma, .int 3])), (ma, .inl (kO, 10, .inr (.inr (.inr (.inr (zfT t0 t1 t2)))))), (t0, .inr (18, [.int (-1), .ref i0])), (i0, .inl (kT, 0, .inr (.inr (.inr (.inr (fun _ => none)))))), (mm, .inr (21, [.int 0, .ref ms, .ref mt, .ref mh, .ref me])), (q_39, .inr (20, [.null, .int 0, .int 0, .int (-1), .null, .int 0, .int 0]))] := hD
  have hK : va_K (dC, dI) vwCl [(kO, .object "java/lang/Object"), (kT, .object "HornbookModel$Tree"), (kO, .object "java/lang/Object"), (u_21, .object "HornbookModel$Tree")] s := by simpa using hK
  refine lv_astore (lv' := [(7, .ref q_39), (9, .int 2), (6, .int 1), (10, .ref t0), (8, .int 2), (5, .ref u_20), (0, .ref mm), (1, .int 0), (2, .int x2), (3, .int 0), (4, .int 0)]) hx hb dX19_wouldChoose_162 hl (by decide) rfl (fun ls hl => ?_)
  refine lv_aload_n hx hb dX19_wouldChoose_164 rfl (lv_at hl 6 rfl) ?_
  refine z_q (wr := [(mh, .inr (1, [.int 0, .ref eD, .int 0])), (u_20, .inl (u_21, 2, .inr (.inr (.inr (.inr (va_up (va_up (fun _ => none) (0 : Int32).toNatClampNeg (some t0)) (1 : Int32).toNatClampNeg (some t0))))))), (mt, .inr (1, [.int mo, .ref ma, .int 3])), (ma, .inl (kO, 10, .inr (.inr (.inr (.inr (zfT t0 t1 t2)))))), (t0, .inr (18, [.int (-1), .ref i0])), (i0, .inl (kT, 0, .inr (.inr (.inr (.inr (fun _ => none)))))), (q_39, .inr (20, [.null, .int 0, .int 0, .int (-1), .null, .int 0, .int 0]))]) (va_runV (As := []) (rest := []) ⟨hx, hb, hml, hown, hts⟩ (c_M_view l eD eI ad dC dI H.size mm ms mt mh me 0) (cwV 0 hts g_c_M_would_15 rfl rfl rfl (by decide +kernel) ⟨Nat.le_of_ble_eq_true rfl, Nat.le_of_ble_eq_true rfl⟩) (z_preV (wc := [(mm, .inr (21, [.int 0, .ref ms, .ref mt, .ref mh, .ref me]))]) hP hD hK hS hA hE [6] [] rfl (by decide) rfl (ci := 21) (q0 := 0) rfl rfl) rfl rfl hl.1 rfl (lv_room (Nat.le_of_ble_eq_true rfl)) dX19_wouldChoose_165 ⟨Nat.le_of_ble_eq_true rfl, Nat.le_of_ble_eq_true rfl⟩) hP hD hK hS hA [6] [0, 1, 2, 3, 4, 5, 7] rfl rfl (by decide) (by decide) (fun r_43 u H locs hw_44 hP hD hK hS => ?_)
  obtain ⟨u_42, rfl⟩ : ∃ z, z = u := ⟨_, rfl⟩
  have hP : va_P (dC, dI) vwCl [(mh, .inr (1, [.int 0, .ref eD, .int 0])), (u_20, .inl (u_21, 2, .inr (.inr (.inr (.inr (va_up (va_up (fun _ => none) (0 : Int32).toNatClampNeg (some t0)) (1 : Int32).toNatClampNeg (some t0))))))), (mt, .inr (1, [.int mo, .ref ma, .int 3])), (ma, .inl (kO, 10, .inr (.inr (.inr (.inr (zfT t0 t1 t2)))))), (t0, .inr (18, [.int (-1), .ref i0])), (i0, .inl (kT, 0, .inr (.inr (.inr (.inr (fun _ => none)))))), (q_39, .inr (20, [.null, .int 0, .int 0, .int (-1), .null, .int 0, .int 0])), (mm, .inr (21, [.int 0, .ref ms, .ref mt, .ref mh, .ref me])), (u_42, .inr (19, [.int (-1), .int (-1), .int (-1), .int (-1), .ref mm]))] H := hP
  have hD : va_D A [(mh, .inr (1, [.int 0, .ref eD, .int 0])), (u_20, .inl (u_21, 2, .inr (.inr (.inr (.inr (va_up (va_up (fun _ => none) (0 : Int32).toNatClampNeg (some t0)) (1 : Int32).toNatClampNeg (some t0))))))), (mt, .inr (1, [.int mo, .ref ma, .int 3])), (ma, .inl (kO, 10, .inr (.inr (.inr (.inr (zfT t0 t1 t2)))))), (t0, .inr (18, [.int (-1), .ref i0])), (i0, .inl (kT, 0, .inr (.inr (.inr (.inr (fun _ => none)))))), (q_39, .inr (20, [.null, .int 0, .int 0, .int (-1), .null, .int 0, .int 0])), (mm, .inr (21, [.int 0, .ref ms, .ref mt, .ref mh, .ref me])), (u_42, .inr (19, [.int (-1), .int (-1), .int (-1), .int (-1), .ref mm]))] := hD
  have hK : va_K (dC, dI) vwCl [(kO, .object "java/lang/Object"), (kT, .object "HornbookModel$Tree"), (kO, .object "java/lang/Object"), (u_21, .object "HornbookModel$Tree")] s := by simpa using hK
  have hw_44 : r_43 = some u_42 := hw_44
  have hw_44 := hw_44.symm
  subst hw_44
  refine W.eq (g2 := F0 m 168 ls (.ref u_42 :: [])) rfl ?_
  refine lv_aload_n hx hb dX19_wouldChoose_168 rfl (lv_at hl 6 rfl) ?_
  refine lv_iload_n hx hb dX19_wouldChoose_169 rfl (lv_at hl 7 rfl) ?_
  refine z_q (wr := [(mh, .inr (1, [.int 0, .ref eD, .int 0])), (u_20, .inl (u_21, 2, .inr (.inr (.inr (.inr (va_up (va_up (fun _ => none) (0 : Int32).toNatClampNeg (some t0)) (1 : Int32).toNatClampNeg (some t0))))))), (i0, .inl (kT, 0, .inr (.inr (.inr (.inr (fun _ => none)))))), (q_39, .inr (20, [.null, .int 0, .int 0, .int (-1), .null, .int 0, .int 0])), (u_42, .inr (19, [.int (-1), .int (-1), .int (-1), .int (-1), .ref mm]))]) (va_runV (As := [.int 0]) (rest := [.ref u_42]) ⟨hx, hb, hml, hown, hts⟩ (c_M_type_0 l eD eI ad dC dI H.size mm ms mt mh me 0 mo ma kO t0 t1 t2 ((.ref i0))) (cwV 1 hts g_c_M_would_12 rfl rfl rfl (by decide +kernel) ⟨Nat.le_of_ble_eq_true rfl, Nat.le_of_ble_eq_true rfl⟩) (z_preV (wc := [(mm, .inr (21, [.int 0, .ref ms, .ref mt, .ref mh, .ref me])), (mt, .inr (1, [.int mo, .ref ma, .int 3])), (ma, .inl (kO, 10, .inr (.inr (.inr (.inr (zfT t0 t1 t2)))))), (t0, .inr (18, [.int (-1), .ref i0]))]) hP hD hK hS hA hE [7, 2, 3, 4] [0] rfl (by decide) rfl (ci := 21) (q0 := 0) rfl rfl) rfl rfl hl.1 rfl (lv_room (Nat.le_of_ble_eq_true rfl)) dX19_wouldChoose_170 ⟨Nat.le_of_ble_eq_true rfl, Nat.le_of_ble_eq_true rfl⟩) hP hD hK hS hA [7, 2, 3, 4] [0, 1, 5, 6, 8] rfl rfl (by decide) (by decide) (fun r_45 u H locs hw_46 hP hD hK hS => ?_)
  obtain ⟨⟩ := u
  have hP : va_P (dC, dI) vwCl [(mh, .inr (1, [.int 0, .ref eD, .int 0])), (u_20, .inl (u_21, 2, .inr (.inr (.inr (.inr (va_up (va_up (fun _ => none) (0 : Int32).toNatClampNeg (some t0)) (1 : Int32).toNatClampNeg (some t0))))))), (i0, .inl (kT, 0, .inr (.inr (.inr (.inr (fun _ => none)))))), (q_39, .inr (20, [.null, .int 0, .int 0, .int (-1), .null, .int 0, .int 0])), (u_42, .inr (19, [.int (-1), .int (-1), .int (-1), .int (-1), .ref mm])), (mm, .inr (21, [.int 0, .ref ms, .ref mt, .ref mh, .ref me])), (mt, .inr (1, [.int mo, .ref ma, .int 3])), (ma, .inl (kO, 10, .inr (.inr (.inr (.inr (zfT t0 t1 t2)))))), (t0, .inr (18, [.int (-1), .ref i0]))] H := hP
  have hD : va_D A [(mh, .inr (1, [.int 0, .ref eD, .int 0])), (u_20, .inl (u_21, 2, .inr (.inr (.inr (.inr (va_up (va_up (fun _ => none) (0 : Int32).toNatClampNeg (some t0)) (1 : Int32).toNatClampNeg (some t0))))))), (i0, .inl (kT, 0, .inr (.inr (.inr (.inr (fun _ => none)))))), (q_39, .inr (20, [.null, .int 0, .int 0, .int (-1), .null, .int 0, .int 0])), (u_42, .inr (19, [.int (-1), .int (-1), .int (-1), .int (-1), .ref mm])), (mm, .inr (21, [.int 0, .ref ms, .ref mt, .ref mh, .ref me])), (mt, .inr (1, [.int mo, .ref ma, .int 3])), (ma, .inl (kO, 10, .inr (.inr (.inr (.inr (zfT t0 t1 t2)))))), (t0, .inr (18, [.int (-1), .ref i0]))] := hD
  have hK : va_K (dC, dI) vwCl [(kO, .object "java/lang/Object"), (kT, .object "HornbookModel$Tree"), (kO, .object "java/lang/Object"), (u_21, .object "HornbookModel$Tree")] s := by simpa using hK
  have hw_46 : r_45 = some t0 := hw_46
  have hw_46 := hw_46.symm
  subst hw_46
  refine W.eq (g2 := F0 m 173 ls (.ref t0 :: .ref u_42 :: [])) rfl ?_
  refine lv_iload_n hx hb dX19_wouldChoose_173 rfl (lv_at hl 8 rfl) ?_
  refine lv_aload hx hb dX19_wouldChoose_174 (lv_at hl 5 rfl) ?_
  refine lv_aload hx hb dX19_wouldChoose_176 (lv_at hl 0 rfl) ?_
  refine z_v (wr := [(u_20, .inl (u_21, 2, .inr (.inr (.inr (.inr (va_up (va_up (fun _ => none) (0 : Int32).toNatClampNeg (some t0)) (1 : Int32).toNatClampNeg (some t0))))))), (i0, .inl (kT, 0, .inr (.inr (.inr (.inr (fun _ => none)))))), (mt, .inr (1, [.int mo, .ref ma, .int 3])), (ma, .inl (kO, 10, .inr (.inr (.inr (.inr (zfT t0 t1 t2))))))]) (va_runV (As := [.ref t0, .int x2, .ref u_20, .ref q_39]) (rest := []) ⟨hx, hb, hml, hown, hts⟩ (c_V_call l eD eI ad dC dI H.size u_42 mm ms mt mh me 0 t0 (-1) ((.ref i0)) x2 u_20 q_39 (by decide)) (cwV 4 hts g_c_M_would_16 rfl rfl rfl (by decide +kernel) ⟨Nat.le_of_ble_eq_true rfl, Nat.le_of_ble_eq_true rfl⟩) (z_preV (wc := [(u_42, .inr (19, [.int (-1), .int (-1), .int (-1), .int (-1), .ref mm])), (mm, .inr (21, [.int 0, .ref ms, .ref mt, .ref mh, .ref me])), (mh, .inr (1, [.int 0, .ref eD, .int 0])), (t0, .inr (18, [.int (-1), .ref i0])), (q_39, .inr (20, [.null, .int 0, .int 0, .int (-1), .null, .int 0, .int 0]))]) hP hD hK hS hA hE [4, 5, 0, 8, 3] [] rfl (by decide) rfl (ci := 19) (q0 := 0) rfl rfl) rfl rfl hl.1 rfl (lv_room (Nat.le_of_ble_eq_true rfl)) dX19_wouldChoose_178 ⟨Nat.le_of_ble_eq_true rfl, Nat.le_of_ble_eq_true rfl⟩) hP hD hK hS hA [4, 5, 0, 8, 3] [1, 2, 6, 7] rfl rfl (by decide) (by decide) (fun u H locs hw_49 hP hD hK hS => ?_)
  obtain ⟨u_47, rfl⟩ : ∃ z, z = u := ⟨_, rfl⟩
  have hP : va_P (dC, dI) vwCl [(u_20, .inl (u_21, 2, .inr (.inr (.inr (.inr (va_up (va_up (fun _ => none) (0 : Int32).toNatClampNeg (some t0)) (1 : Int32).toNatClampNeg (some t0))))))), (i0, .inl (kT, 0, .inr (.inr (.inr (.inr (fun _ => none)))))), (mt, .inr (1, [.int mo, .ref ma, .int 3])), (ma, .inl (kO, 10, .inr (.inr (.inr (.inr (zfT t0 t1 t2)))))), (mm, .inr (21, [.int 0, .ref ms, .ref mt, .ref mh, .ref me])), (q_39, .inr (20, [.ref u_47, .int 0, .int 0, .int (-1), .null, .int 1, .int 0]))] H := hP
  have hD : va_D A [(u_20, .inl (u_21, 2, .inr (.inr (.inr (.inr (va_up (va_up (fun _ => none) (0 : Int32).toNatClampNeg (some t0)) (1 : Int32).toNatClampNeg (some t0))))))), (i0, .inl (kT, 0, .inr (.inr (.inr (.inr (fun _ => none)))))), (mt, .inr (1, [.int mo, .ref ma, .int 3])), (ma, .inl (kO, 10, .inr (.inr (.inr (.inr (zfT t0 t1 t2)))))), (mm, .inr (21, [.int 0, .ref ms, .ref mt, .ref mh, .ref me])), (q_39, .inr (20, [.ref u_47, .int 0, .int 0, .int (-1), .null, .int 1, .int 0]))] := hD
  have hK : va_K (dC, dI) vwCl [(kO, .object "java/lang/Object"), (kT, .object "HornbookModel$Tree"), (kO, .object "java/lang/Object"), (u_21, .object "HornbookModel$Tree")] s := by simpa using hK
  refine lv_aload hx hb dX19_wouldChoose_181 (lv_at hl 0 rfl) ?_
  refine va_get (D := (dC, dI)) (ci := 20) (v := .int 1) (C := RX18) (T := TX18) (N := 7) hx hb hts in_RX18 hown hK hP 5 rfl rfl 5 (by decide) (hts (.fieldLink RX19 231 "HornbookModel$Word" "fault" "I") (by decide +kernel)) (fun _ h9 => h9) rfl dX19_wouldChoose_183 ?_
  refine lv_if_le (tgt := 198) hx hb dX19_wouldChoose_186 (by decide) (fun c_50 => ?_) (fun c_50 => ?_)
  · exact absurd c_50 (by decide)
  refine lv_aload hx hb dX19_wouldChoose_189 (lv_at hl 0 rfl) ?_
  refine va_get (D := (dC, dI)) (ci := 20) (v := .int 1) (C := RX18) (T := TX18) (N := 7) hx hb hts in_RX18 hown hK hP 5 rfl rfl 5 (by decide) (hts (.fieldLink RX19 231 "HornbookModel$Word" "fault" "I") (by decide +kernel)) (fun _ h9 => h9) rfl dX19_wouldChoose_191 ?_
  refine lv_ineg hx hb dX19_wouldChoose_194 ?_
  refine z_top (v' := .int (-1)) (congrArg Value.int (by decide)) ?_
  refine lv_goto (tgt := 203) hx hb dX19_wouldChoose_195 (by decide) ?_
  have hP9 := hP.sub (ws' := [(mm, .inr (21, [.int 0, .ref ms, .ref mt, .ref mh, .ref me]))]) [4] rfl
  have hD9 := hD.sub (ws' := [(mm, .inr (21, [.int 0, .ref ms, .ref mt, .ref mh, .ref me]))]) [4] (by decide) rfl
  have hK9 := hK.sub (tys' := []) [] rfl
  refine W.widen (k := 7) (n := 22) (Nat.le_of_ble_eq_true rfl) (Nat.le_of_ble_eq_true rfl) ?_
  exact W.iret (v := (-1)) hx hb hr (fun t ht hW => ⟨⟨(-1), (0, (-1)), rfl, ⟨rfl, by first | decide | simp [hx20, hx21], by first | exact fun h => absurd h (by decide) | exact fun _ => rfl | rfl | decide | simp⟩, ⟨by rw [ht]; exact hP9, va_K.moved hW.alike hK9, hD9⟩⟩, hS.F ht⟩) hS.2.2 dX19_wouldChoose_203
