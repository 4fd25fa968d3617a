
set_option maxHeartbeats 4000000 in
set_option maxRecDepth 100000 in
theorem c_M_would_Fkk222 (l : Launch) (eD eI : Nat) (ad : Nat → Nat) (dC : Nat → ClassId) (dI : Nat → Nat → Nat) (sz : Nat) (mm : Nat) (ms : Nat) (mt : Nat) (mh : Nat) (me : Nat) (mo : Int32) (ma : Nat) (kO : ClassId) (kT : ClassId) (t0 : Nat) (t1 : Nat) (t2 : Nat) (i0 : Nat) (i1 : Nat) (i2 : Nat) (th : Int32) (x2 : Int32) (hx20 : ¬ x2 < 0) (hx21 : ¬ 9 < x2) : Met l yX19_wouldChoose w_c_M_would ({ frames := 6, cells := 7, slots := 22, locals := 123 }) (va_Pc [.ref mm, .int 2, .int x2, .int 2, .int 2] (zPre eD eI ad (dC, dI) [(mm, .inr (21, [.int th, .ref ms, .ref mt, .ref mh, .ref me])), (ms, .inr (1, [.int 0, .ref eD, .int 0])), (mt, .inr (1, [.int mo, .ref ma, .int 3])), (mh, .inr (1, [.int 0, .ref eD, .int 0])), (me, .inr (1, [.int 0, .ref eD, .int 0])), (ma, .inl (kO, 10, .inr (.inr (.inr (.inr (zfT t0 t1 t2)))))), (t0, .inr (18, [.int (-1), .ref i0])), (t1, .inr (18, [.int (-2), .ref i1])), (t2, .inr (18, [.int (-3), .ref i2])), (i0, .inl (kT, 0, .inr (.inr (.inr (.inr (fun _ => none)))))), (i1, .inl (kT, 0, .inr (.inr (.inr (.inr (fun _ => none)))))), (i2, .inl (kT, 0, .inr (.inr (.inr (.inr (fun _ => none))))))] [(kO, .object "java/lang/Object"), (kT, .object "HornbookModel$Tree")] sz)) (va_Qi (fun (r : Int32) (u : Int32 × Int32) => match u with | (th2, v2) => r = v2 ∧ th2 = (if (2 : Int32) < 0 ∨ 2 < (2 : Int32) then 1 else if ¬ (2 : Int32) = (-1) ∧ ((2 : Int32) < 0 ∨ 2 < (2 : Int32)) then 1 else if ¬ (2 : Int32) = (-1) ∧ ((2 : Int32) < 0 ∨ 2 < (2 : Int32)) then 1 else if x2 < 0 ∨ 9 < x2 then 2 else if (2 : Int32) = (-1) ∧ ¬ (2 : Int32) = (-1) then 2 else if (2 : Int32) = 2 ∨ (2 : Int32) = 2 ∨ (2 : Int32) = 2 then 2 else 0) ∧ (th2 = 0 → v2 = (-1))) (fun (u : Int32 × Int32) => match u with | (th2, v2) => zEnd (dC, dI) (va_A [(mm, .inr (21, [.int th, .ref ms, .ref mt, .ref mh, .ref me])), (ms, .inr (1, [.int 0, .ref eD, .int 0])), (mt, .inr (1, [.int mo, .ref ma, .int 3])), (mh, .inr (1, [.int 0, .ref eD, .int 0])), (me, .inr (1, [.int 0, .ref eD, .int 0])), (ma, .inl (kO, 10, .inr (.inr (.inr (.inr (zfT t0 t1 t2)))))), (t0, .inr (18, [.int (-1), .ref i0])), (t1, .inr (18, [.int (-2), .ref i1])), (t2, .inr (18, [.int (-3), .ref i2])), (i0, .inl (kT, 0, .inr (.inr (.inr (.inr (fun _ => none)))))), (i1, .inl (kT, 0, .inr (.inr (.inr (.inr (fun _ => none)))))), (i2, .inl (kT, 0, .inr (.inr (.inr (.inr (fun _ => none))))))] sz) [(mm, .inr (21, [.int th2, .ref ms, .ref mt, .ref mh, .ref me]))] []) (va_A [(mm, .inr (21, [.int th, .ref ms, .ref mt, .ref mh, .ref me])), (ms, .inr (1, [.int 0, .ref eD, .int 0])), (mt, .inr (1, [.int mo, .ref ma, .int 3])), (mh, .inr (1, [.int 0, .ref eD, .int 0])), (me, .inr (1, [.int 0, .ref eD, .int 0])), (ma, .inl (kO, 10, .inr (.inr (.inr (.inr (zfT t0 t1 t2)))))), (t0, .inr (18, [.int (-1), .ref i0])), (t1, .inr (18, [.int (-2), .ref i1])), (t2, .inr (18, [.int (-3), .ref i2])), (i0, .inl (kT, 0, .inr (.inr (.inr (.inr (fun _ => none)))))), (i1, .inl (kT, 0, .inr (.inr (.inr (.inr (fun _ => none)))))), (i2, .inl (kT, 0, .inr (.inr (.inr (.inr (fun _ => none))))))] sz)) 7 22 (va_A [(mm, .inr (21, [.int th, .ref ms, .ref mt, .ref mh, .ref me])), (ms, .inr (1, [.int 0, .ref eD, .int 0])), (mt, .inr (1, [.int mo, .ref ma, .int 3])), (mh, .inr (1, [.int 0, .ref eD, .int 0])), (me, .inr (1, [.int 0, .ref eD, .int 0])), (ma, .inl (kO, 10, .inr (.inr (.inr (.inr (zfT t0 t1 t2)))))), (t0, .inr (18, [.int (-1), .ref i0])), (t1, .inr (18, [.int (-2), .ref i1])), (t2, .inr (18, [.int (-3), .ref i2])), (i0, .inl (kT, 0, .inr (.inr (.inr (.inr (fun _ => none)))))), (i1, .inl (kT, 0, .inr (.inr (.inr (.inr (fun _ => none)))))), (i2, .inl (kT, 0, .inr (.inr (.inr (.inr (fun _ => none))))))] sz) := by
  refine Met.ofW (cc := cX19_wouldChoose) (maxL := 11) (ret := (some .int)) (by decide) rfl ?_
  intro p e s m args below meth c s₁ B hml hv
  obtain ⟨rfl, hsz, hP, hK, hD0, hE⟩ := hv
  have hx := B.exec
  have hb := B.bytes
  have hr := B.returns
  have hts := atoms_spec (ws := w_c_M_would) B.pre
  have hown : s.vm.findClass RX19 = some m.cls := findClass_of_methodNamed B.named
  have hlocks := B.notSynchronized
  subst hsz
  have hD := hD0.self (sz := s.heap.size)
  generalize hAe : va_A [(mm, .inr (21, [.int th, .ref ms, .ref mt, .ref mh, .ref me])), (ms, .inr (1, [.int 0, .ref eD, .int 0])), (mt, .inr (1, [.int mo, .ref ma, .int 3])), (mh, .inr (1, [.int 0, .ref eD, .int 0])), (me, .inr (1, [.int 0, .ref eD, .int 0])), (ma, .inl (kO, 10, .inr (.inr (.inr (.inr (zfT t0 t1 t2)))))), (t0, .inr (18, [.int (-1), .ref i0])), (t1, .inr (18, [.int (-2), .ref i1])), (t2, .inr (18, [.int (-3), .ref i2])), (i0, .inl (kT, 0, .inr (.inr (.inr (.inr (fun _ => none)))))), (i1, .inl (kT, 0, .inr (.inr (.inr (.inr (fun _ => none)))))), (i2, .inl (kT, 0, .inr (.inr (.inr (.inr (fun _ => none))))))] s.heap.size = A at hD hE ⊢
  have hA : ∀ q : Nat, s.heap.size ≤ q → A q := fun q h => by rw [← hAe]; exact Or.inr h
  have hS : va_S A s.heap s.heap [] := va_S.rf
  have hP : va_P (dC, dI) vwCl [(mm, .inr (21, [.int th, .ref ms, .ref mt, .ref mh, .ref me])), (ms, .inr (1, [.int 0, .ref eD, .int 0])), (mt, .inr (1, [.int mo, .ref ma, .int 3])), (mh, .inr (1, [.int 0, .ref eD, .int 0])), (me, .inr (1, [.int 0, .ref eD, .int 0])), (ma, .inl (kO, 10, .inr (.inr (.inr (.inr (zfT t0 t1 t2)))))), (t0, .inr (18, [.int (-1), .ref i0])), (t1, .inr (18, [.int (-2), .ref i1])), (t2, .inr (18, [.int (-3), .ref i2])), (i0, .inl (kT, 0, .inr (.inr (.inr (.inr (fun _ => none)))))), (i1, .inl (kT, 0, .inr (.inr (.inr (.inr (fun _ => none)))))), (i2, .inl (kT, 0, .inr (.inr (.inr (.inr (fun _ => none))))))] s.heap := hP
  have hl := lv_entry ([.ref mm, .int 2, .int x2, .int 2, .int 2]) (n := 11) (Nat.le_of_ble_eq_true rfl)
  rw [lg_entry_eq]
  generalize (lg_sl ([.ref mm, .int 2, .int x2, .int 2, .int 2]) ++ List.replicate (11 - (lg_sl ([.ref mm, .int 2, .int x2, .int 2, .int 2])).length) Slot.unset).toArray = ls at hl ⊢
  have hl : lv_has ls 11 [(0, .ref mm), (1, .int 2), (2, .int x2), (3, .int 2), (4, .int 2)] := hl
  have hP := hP.sub (ws' := [(mm, .inr (21, [.int th, .ref ms, .ref mt, .ref mh, .ref me])), (mt, .inr (1, [.int mo, .ref ma, .int 3])), (mh, .inr (1, [.int 0, .ref eD, .int 0])), (ma, .inl (kO, 10, .inr (.inr (.inr (.inr (zfT t0 t1 t2)))))), (t2, .inr (18, [.int (-3), .ref i2])), (i2, .inl (kT, 0, .inr (.inr (.inr (.inr (fun _ => none))))))]) [0, 2, 3, 5, 8, 11] rfl
  have hD := hD.sub (ws' := [(mm, .inr (21, [.int th, .ref ms, .ref mt, .ref mh, .ref me])), (mt, .inr (1, [.int mo, .ref ma, .int 3])), (mh, .inr (1, [.int 0, .ref eD, .int 0])), (ma, .inl (kO, 10, .inr (.inr (.inr (.inr (zfT t0 t1 t2)))))), (t2, .inr (18, [.int (-3), .ref i2])), (i2, .inl (kT, 0, .inr (.inr (.inr (.inr (fun _ => none))))))]) [0, 2, 3, 5, 8, 11] (by decide) rfl
  refine lv_aload_n hx hb dX19_wouldChoose_0 rfl (lv_at hl 0 rfl) ?_
  refine lv_aload_n hx hb dX19_wouldChoose_1 rfl (lv_at hl 0 rfl) ?_
  refine lv_iload_n hx hb dX19_wouldChoose_2 rfl (lv_at hl 1 rfl) ?_
  refine z_i (wr := [(mh, .inr (1, [.int 0, .ref eD, .int 0])), (ma, .inl (kO, 10, .inr (.inr (.inr (.inr (zfT t0 t1 t2)))))), (t2, .inr (18, [.int (-3), .ref i2])), (i2, .inl (kT, 0, .inr (.inr (.inr (.inr (fun _ => none))))))]) (va_runV (As := [.int 2]) (rest := [.ref mm]) ⟨hx, hb, hml, hown, hts⟩ (c_M_isNoType_ok l eD eI ad dC dI s.heap.size mm ms mt mh me th ((.int mo)) ((.ref ma)) 2 (by decide) (by decide)) (cwV 1 hts g_c_M_would_3 rfl rfl rfl (by decide +kernel) ⟨Nat.le_of_ble_eq_true rfl, Nat.le_of_ble_eq_true rfl⟩) (z_preV (wc := [(mm, .inr (21, [.int th, .ref ms, .ref mt, .ref mh, .ref me])), (mt, .inr (1, [.int mo, .ref ma, .int 3]))]) hP hD hK hS hA hE [0, 1] [] rfl (by decide) rfl (ci := 21) (q0 := 0) rfl rfl) rfl rfl hl.1 rfl (lv_room (Nat.le_of_ble_eq_true rfl)) dX19_wouldChoose_3 ⟨Nat.le_of_ble_eq_true rfl, Nat.le_of_ble_eq_true rfl⟩) hP hD hK hS hA [0, 1] [2, 3, 4, 5] rfl rfl (by decide) (by decide) (fun r_1 u H locs hw_2 hP hD hK hS => ?_)
  obtain ⟨⟩ := u
  have hP : va_P (dC, dI) vwCl [(mh, .inr (1, [.int 0, .ref eD, .int 0])), (ma, .inl (kO, 10, .inr (.inr (.inr (.inr (zfT t0 t1 t2)))))), (t2, .inr (18, [.int (-3), .ref i2])), (i2, .inl (kT, 0, .inr (.inr (.inr (.inr (fun _ => none)))))), (mm, .inr (21, [.int th, .ref ms, .ref mt, .ref mh, .ref me])), (mt, .inr (1, [.int mo, .ref ma, .int 3]))] H := hP
  have hD : va_D A [(mh, .inr (1, [.int 0, .ref eD, .int 0])), (ma, .inl (kO, 10, .inr (.inr (.inr (.inr (zfT t0 t1 t2)))))), (t2, .inr (18, [.int (-3), .ref i2])), (i2, .inl (kT, 0, .inr (.inr (.inr (.inr (fun _ => none)))))), (mm, .inr (21, [.int th, .ref ms, .ref mt, .ref mh, .ref me])), (mt, .inr (1, [.int mo, .ref ma, .int 3]))] := hD
  have hK : va_K (dC, dI) vwCl [(kO, .object "java/lang/Object"), (kT, .object "HornbookModel$Tree")] s := by simpa using hK
  have hw_2 : r_1 = 0 := hw_2
  have hw_2 := hw_2.symm
  subst hw_2
  refine lv_if_ne (tgt := 26) hx hb dX19_wouldChoose_6 (by decide) (fun c_3 => ?_) (fun c_3 => ?_)
  · exact absurd (by decide) c_3
  refine lv_aload_n hx hb dX19_wouldChoose_9 rfl (lv_at hl 0 rfl) ?_
  refine lv_iload_n hx hb dX19_wouldChoose_10 rfl (lv_at hl 3 rfl) ?_
  refine z_i (wr := [(mh, .inr (1, [.int 0, .ref eD, .int 0])), (ma, .inl (kO, 10, .inr (.inr (.inr (.inr (zfT t0 t1 t2)))))), (t2, .inr (18, [.int (-3), .ref i2])), (i2, .inl (kT, 0, .inr (.inr (.inr (.inr (fun _ => none))))))]) (va_runV (As := [.int 2]) (rest := [.ref mm]) ⟨hx, hb, hml, hown, hts⟩ (c_M_isNoTypeN_ok l eD eI ad dC dI H.size mm ms mt mh me th ((.int mo)) ((.ref ma)) 2 (by decide) (by decide) (by decide)) (cwV 1 hts g_c_M_would_23 rfl rfl rfl (by decide +kernel) ⟨Nat.le_of_ble_eq_true rfl, Nat.le_of_ble_eq_true rfl⟩) (z_preV (wc := [(mm, .inr (21, [.int th, .ref ms, .ref mt, .ref mh, .ref me])), (mt, .inr (1, [.int mo, .ref ma, .int 3]))]) hP hD hK hS hA hE [4, 5] [] rfl (by decide) rfl (ci := 21) (q0 := 0) rfl rfl) rfl rfl hl.1 rfl (lv_room (Nat.le_of_ble_eq_true rfl)) dX19_wouldChoose_11 ⟨Nat.le_of_ble_eq_true rfl, Nat.le_of_ble_eq_true rfl⟩) hP hD hK hS hA [4, 5] [0, 1, 2, 3] rfl rfl (by decide) (by decide) (fun r_4 u H locs hw_5 hP hD hK hS => ?_)
  obtain ⟨⟩ := u
  have hP : va_P (dC, dI) vwCl [(mh, .inr (1, [.int 0, .ref eD, .int 0])), (ma, .inl (kO, 10, .inr (.inr (.inr (.inr (zfT t0 t1 t2)))))), (t2, .inr (18, [.int (-3), .ref i2])), (i2, .inl (kT, 0, .inr (.inr (.inr (.inr (fun _ => none)))))), (mm, .inr (21, [.int th, .ref ms, .ref mt, .ref mh, .ref me])), (mt, .inr (1, [.int mo, .ref ma, .int 3]))] H := hP
  have hD : va_D A [(mh, .inr (1, [.int 0, .ref eD, .int 0])), (ma, .inl (kO, 10, .inr (.inr (.inr (.inr (zfT t0 t1 t2)))))), (t2, .inr (18, [.int (-3), .ref i2])), (i2, .inl (kT, 0, .inr (.inr (.inr (.inr (fun _ => none)))))), (mm, .inr (21, [.int th, .ref ms, .ref mt, .ref mh, .ref me])), (mt, .inr (1, [.int mo, .ref ma, .int 3]))] := hD
  have hK : va_K (dC, dI) vwCl [(kO, .object "java/lang/Object"), (kT, .object "HornbookModel$Tree")] s := by simpa using hK
  have hw_5 : r_4 = 0 := hw_5
  have hw_5 := hw_5.symm
  subst hw_5
  refine lv_if_ne (tgt := 26) hx hb dX19_wouldChoose_14 (by decide) (fun c_6 => ?_) (fun c_6 => ?_)
  · exact absurd (by decide) c_6
  refine lv_aload_n hx hb dX19_wouldChoose_17 rfl (lv_at hl 0 rfl) ?_
  refine lv_iload hx hb dX19_wouldChoose_18 (lv_at hl 4 rfl) ?_
  refine z_i (wr := [(mh, .inr (1, [.int 0, .ref eD, .int 0])), (ma, .inl (kO, 10, .inr (.inr (.inr (.inr (zfT t0 t1 t2)))))), (t2, .inr (18, [.int (-3), .ref i2])), (i2, .inl (kT, 0, .inr (.inr (.inr (.inr (fun _ => none))))))]) (va_runV (As := [.int 2]) (rest := [.ref mm]) ⟨hx, hb, hml, hown, hts⟩ (c_M_isNoTypeN_ok l eD eI ad dC dI H.size mm ms mt mh me th ((.int mo)) ((.ref ma)) 2 (by decide) (by decide) (by decide)) (cwV 1 hts g_c_M_would_23 rfl rfl rfl (by decide +kernel) ⟨Nat.le_of_ble_eq_true rfl, Nat.le_of_ble_eq_true rfl⟩) (z_preV (wc := [(mm, .inr (21, [.int th, .ref ms, .ref mt, .ref mh, .ref me])), (mt, .inr (1, [.int mo, .ref ma, .int 3]))]) hP hD hK hS hA hE [4, 5] [] rfl (by decide) rfl (ci := 21) (q0 := 0) rfl rfl) rfl rfl hl.1 rfl (lv_room (Nat.le_of_ble_eq_true rfl)) dX19_wouldChoose_20 ⟨Nat.le_of_ble_eq_true rfl, Nat.le_of_ble_eq_true rfl⟩) hP hD hK hS hA [4, 5] [0, 1, 2, 3] rfl rfl (by decide) (by decide) (fun r_7 u H locs hw_8 hP hD hK hS => ?_)
  obtain ⟨⟩ := u
  have hP : va_P (dC, dI) vwCl [(mh, .inr (1, [.int 0, .ref eD, .int 0])), (ma, .inl (kO, 10, .inr (.inr (.inr (.inr (zfT t0 t1 t2)))))), (t2, .inr (18, [.int (-3), .ref i2])), (i2, .inl (kT, 0, .inr (.inr (.inr (.inr (fun _ => none)))))), (mm, .inr (21, [.int th, .ref ms, .ref mt, .ref mh, .ref me])), (mt, .inr (1, [.int mo, .ref ma, .int 3]))] H := hP
  have hD : va_D A [(mh, .inr (1, [.int 0, .ref eD, .int 0])), (ma, .inl (kO, 10, .inr (.inr (.inr (.inr (zfT t0 t1 t2)))))), (t2, .inr (18, [.int (-3), .ref i2])), (i2, .inl (kT, 0, .inr (.inr (.inr (.inr (fun _ => none)))))), (mm, .inr (21, [.int th, .ref ms, .ref mt, .ref mh, .ref me])), (mt, .inr (1, [.int mo, .ref ma, .int 3]))] := hD
  have hK : va_K (dC, dI) vwCl [(kO, .object "java/lang/Object"), (kT, .object "HornbookModel$Tree")] s := by simpa using hK
  have hw_8 : r_7 = 0 := hw_8
  have hw_8 := hw_8.symm
  subst hw_8
  refine lv_if_eq (tgt := 30) hx hb dX19_wouldChoose_23 (by decide) (fun c_9 => ?_) (fun c_9 => ?_)
  rotate_left
  · exact absurd (by decide) c_9
  refine lv_iconst (v := 0) hx hb dX19_wouldChoose_30 (by decide) ?_
  refine lv_iconst (v := 1) hx hb dX19_wouldChoose_31 (by decide) ?_
  refine z_i (wr := [(mh, .inr (1, [.int 0, .ref eD, .int 0])), (ma, .inl (kO, 10, .inr (.inr (.inr (.inr (zfT t0 t1 t2)))))), (t2, .inr (18, [.int (-3), .ref i2])), (i2, .inl (kT, 0, .inr (.inr (.inr (.inr (fun _ => none)))))), (mt, .inr (1, [.int mo, .ref ma, .int 3]))]) (va_runV (As := [.int 0, .int 1]) (rest := []) ⟨hx, hb, hml, hown, hts⟩ (c_M_start_no l eD eI ad dC dI H.size mm ((.ref ms)) ((.ref mt)) ((.ref mh)) ((.ref me)) 1 th) (cwV 2 hts g_c_M_would_5 rfl rfl rfl (by decide +kernel) ⟨Nat.le_of_ble_eq_true rfl, Nat.le_of_ble_eq_true rfl⟩) (z_preV (wc := [(mm, .inr (21, [.int th, .ref ms, .ref mt, .ref mh, .ref me]))]) hP hD hK hS hA hE [4] [] rfl (by decide) rfl (ci := 21) (q0 := 0) rfl rfl) rfl rfl hl.1 rfl (lv_room (Nat.le_of_ble_eq_true rfl)) dX19_wouldChoose_32 ⟨Nat.le_of_ble_eq_true rfl, Nat.le_of_ble_eq_true rfl⟩) hP hD hK hS hA [4] [0, 1, 2, 3, 5] rfl rfl (by decide) (by decide) (fun r_10 u H locs hw_11 hP hD hK hS => ?_)
  obtain ⟨⟩ := u
  have hP : va_P (dC, dI) vwCl [(mh, .inr (1, [.int 0, .ref eD, .int 0])), (ma, .inl (kO, 10, .inr (.inr (.inr (.inr (zfT t0 t1 t2)))))), (t2, .inr (18, [.int (-3), .ref i2])), (i2, .inl (kT, 0, .inr (.inr (.inr (.inr (fun _ => none)))))), (mt, .inr (1, [.int mo, .ref ma, .int 3])), (mm, .inr (21, [.int 0, .ref ms, .ref mt, .ref mh, .ref me]))] H := hP
  have hD : va_D A [(mh, .inr (1, [.int 0, .ref eD, .int 0])), (ma, .inl (kO, 10, .inr (.inr (.inr (.inr (zfT t0 t1 t2)))))), (t2, .inr (18, [.int (-3), .ref i2])), (i2, .inl (kT, 0, .inr (.inr (.inr (.inr (fun _ => none)))))), (mt, .inr (1, [.int mo, .ref ma, .int 3])), (mm, .inr (21, [.int 0, .ref ms, .ref mt, .ref mh, .ref me]))] := hD
  have hK : va_K (dC, dI) vwCl [(kO, .object "java/lang/Object"), (kT, .object "HornbookModel$Tree")] s := by simpa using hK
  have hw_11 : r_10 = 0 := hw_11
  have hw_11 := hw_11.symm
  subst hw_11
  refine lv_if_ne (tgt := 72) hx hb dX19_wouldChoose_35 (by decide) (fun c_12 => ?_) (fun c_12 => ?_)
  · exact absurd (by decide) c_12
  refine lv_aload_n hx hb dX19_wouldChoose_38 rfl (lv_at hl 0 rfl) ?_
  refine lv_iload_n hx hb dX19_wouldChoose_39 rfl (lv_at hl 2 rfl) ?_
  refine lv_iconst (v := 0) hx hb dX19_wouldChoose_40 (by decide) ?_
  refine lv_bipush (v := 9) hx hb dX19_wouldChoose_41 (by decide) ?_
  refine z_i (wr := [(mh, .inr (1, [.int 0, .ref eD, .int 0])), (ma, .inl (kO, 10, .inr (.inr (.inr (.inr (zfT t0 t1 t2)))))), (t2, .inr (18, [.int (-3), .ref i2])), (i2, .inl (kT, 0, .inr (.inr (.inr (.inr (fun _ => none)))))), (mt, .inr (1, [.int mo, .ref ma, .int 3])), (mm, .inr (21, [.int 0, .ref ms, .ref mt, .ref mh, .ref me]))]) (va_runS (As := [.int x2, .int 0, .int 9]) (rest := [.ref mm]) ⟨hx, hb, hml, hown, hts⟩ (c_M_isIn_ok l eD eI ad dC dI H.size x2 0 9 (hx20) (hx21)) (va_cwS 3 hts g_c_M_would_9 rfl rfl rfl (by decide +kernel) ⟨Nat.le_of_ble_eq_true rfl, Nat.le_of_ble_eq_true rfl⟩) (z_preS (wc := []) hP hD hK hS hA hE [] [] rfl (by decide) rfl) rfl rfl hl.1 rfl (lv_room (Nat.le_of_ble_eq_true rfl)) dX19_wouldChoose_43 ⟨Nat.le_of_ble_eq_true rfl, Nat.le_of_ble_eq_true rfl⟩) hP hD hK hS hA [] [0, 1, 2, 3, 4, 5] rfl rfl (by decide) (by decide) (fun r_13 u H locs hw_14 hP hD hK hS => ?_)
  obtain ⟨⟩ := u
  have hP : va_P (dC, dI) vwCl [(mh, .inr (1, [.int 0, .ref eD, .int 0])), (ma, .inl (kO, 10, .inr (.inr (.inr (.inr (zfT t0 t1 t2)))))), (t2, .inr (18, [.int (-3), .ref i2])), (i2, .inl (kT, 0, .inr (.inr (.inr (.inr (fun _ => none)))))), (mt, .inr (1, [.int mo, .ref ma, .int 3])), (mm, .inr (21, [.int 0, .ref ms, .ref mt, .ref mh, .ref me]))] H := hP
  have hD : va_D A [(mh, .inr (1, [.int 0, .ref eD, .int 0])), (ma, .inl (kO, 10, .inr (.inr (.inr (.inr (zfT t0 t1 t2)))))), (t2, .inr (18, [.int (-3), .ref i2])), (i2, .inl (kT, 0, .inr (.inr (.inr (.inr (fun _ => none)))))), (mt, .inr (1, [.int mo, .ref ma, .int 3])), (mm, .inr (21, [.int 0, .ref ms, .ref mt, .ref mh, .ref me]))] := hD
  have hK : va_K (dC, dI) vwCl [(kO, .object "java/lang/Object"), (kT, .object "HornbookModel$Tree")] s := by simpa using hK
  have hw_14 : r_13 = 1 := hw_14
  have hw_14 := hw_14.symm
  subst hw_14
  refine lv_if_eq (tgt := 60) hx hb dX19_wouldChoose_46 (by decide) (fun c_15 => ?_) (fun c_15 => ?_)
  · exact absurd c_15 (by decide)
  refine lv_iload_n hx hb dX19_wouldChoose_49 rfl (lv_at hl 3 rfl) ?_
  refine lv_iconst (v := (-1)) hx hb dX19_wouldChoose_50 (by decide) ?_
  refine lv_icmp_ne (tgt := 64) hx hb dX19_wouldChoose_51 (by decide) (fun c_16 => ?_) (fun c_16 => ?_)
  rotate_left
  · exact absurd c_16 (by decide)
  refine lv_iconst (v := 0) hx hb dX19_wouldChoose_64 (by decide) ?_
  refine lv_iconst (v := 2) hx hb dX19_wouldChoose_65 (by decide) ?_
  refine z_i (wr := [(mh, .inr (1, [.int 0, .ref eD, .int 0])), (ma, .inl (kO, 10, .inr (.inr (.inr (.inr (zfT t0 t1 t2)))))), (t2, .inr (18, [.int (-3), .ref i2])), (i2, .inl (kT, 0, .inr (.inr (.inr (.inr (fun _ => none)))))), (mt, .inr (1, [.int mo, .ref ma, .int 3]))]) (va_runV (As := [.int 0, .int 2]) (rest := []) ⟨hx, hb, hml, hown, hts⟩ (c_M_refuse_no l eD eI ad dC dI H.size mm ((.ref ms)) ((.ref mt)) ((.ref mh)) ((.ref me)) 2) (cwV 2 hts g_c_M_would_10 rfl rfl rfl (by decide +kernel) ⟨Nat.le_of_ble_eq_true rfl, Nat.le_of_ble_eq_true rfl⟩) (z_preV (wc := [(mm, .inr (21, [.int 0, .ref ms, .ref mt, .ref mh, .ref me]))]) hP hD hK hS hA hE [5] [] rfl (by decide) rfl (ci := 21) (q0 := 0) rfl rfl) rfl rfl hl.1 rfl (lv_room (Nat.le_of_ble_eq_true rfl)) dX19_wouldChoose_66 ⟨Nat.le_of_ble_eq_true rfl, Nat.le_of_ble_eq_true rfl⟩) hP hD hK hS hA [5] [0, 1, 2, 3, 4] rfl rfl (by decide) (by decide) (fun r_17 u H locs hw_18 hP hD hK hS => ?_)
  obtain ⟨⟩ := u
  have hP : va_P (dC, dI) vwCl [(mh, .inr (1, [.int 0, .ref eD, .int 0])), (ma, .inl (kO, 10, .inr (.inr (.inr (.inr (zfT t0 t1 t2)))))), (t2, .inr (18, [.int (-3), .ref i2])), (i2, .inl (kT, 0, .inr (.inr (.inr (.inr (fun _ => none)))))), (mt, .inr (1, [.int mo, .ref ma, .int 3])), (mm, .inr (21, [.int 0, .ref ms, .ref mt, .ref mh, .ref me]))] H := hP
  have hD : va_D A [(mh, .inr (1, [.int 0, .ref eD, .int 0])), (ma, .inl (kO, 10, .inr (.inr (.inr (.inr (zfT t0 t1 t2)))))), (t2, .inr (18, [.int (-3), .ref i2])), (i2, .inl (kT, 0, .inr (.inr (.inr (.inr (fun _ => none)))))), (mt, .inr (1, [.int mo, .ref ma, .int 3])), (mm, .inr (21, [.int 0, .ref ms, .ref mt, .ref mh, .ref me]))] := hD
  have hK : va_K (dC, dI) vwCl [(kO, .object "java/lang/Object"), (kT, .object "HornbookModel$Tree")] s := by simpa using hK
  have hw_18 : r_17 = 0 := hw_18
  have hw_18 := hw_18.symm
  subst hw_18
  refine lv_if_eq (tgt := 74) hx hb dX19_wouldChoose_69 (by decide) (fun c_19 => ?_) (fun c_19 => ?_)
  rotate_left
  · exact absurd (by decide) c_19
  refine lv_aload_n hx hb dX19_wouldChoose_74 rfl (lv_at hl 0 rfl) ?_
  refine lv_iload_n hx hb dX19_wouldChoose_75 rfl (lv_at hl 3 rfl) ?_
  refine lv_iload hx hb dX19_wouldChoose_76 (lv_at hl 4 rfl) ?_
  refine z_q (wr := [(mh, .inr (1, [.int 0, .ref eD, .int 0])), (i2, .inl (kT, 0, .inr (.inr (.inr (.inr (fun _ => none))))))]) (va_runV (As := [.int 2, .int 2]) (rest := []) ⟨hx, hb, hml, hown, hts⟩ (c_M_trees_22 l eD eI ad dC dI H.size mm ms mt mh me 0 mo ma kO t0 t1 t2 ((.ref i2))) (cwV 2 hts g_c_M_would_35 rfl rfl rfl (by decide +kernel) ⟨Nat.le_of_ble_eq_true rfl, Nat.le_of_ble_eq_true rfl⟩) (z_preV (wc := [(mm, .inr (21, [.int 0, .ref ms, .ref mt, .ref mh, .ref me])), (mt, .inr (1, [.int mo, .ref ma, .int 3])), (ma, .inl (kO, 10, .inr (.inr (.inr (.inr (zfT t0 t1 t2)))))), (t2, .inr (18, [.int (-3), .ref i2]))]) hP hD hK hS hA hE [5, 4, 1, 2] [0] rfl (by decide) rfl (ci := 21) (q0 := 0) rfl rfl) rfl rfl hl.1 rfl (lv_room (Nat.le_of_ble_eq_true rfl)) dX19_wouldChoose_78 ⟨Nat.le_of_ble_eq_true rfl, Nat.le_of_ble_eq_true rfl⟩) hP hD hK hS hA [5, 4, 1, 2] [0, 3] rfl rfl (by decide) (by decide) (fun r_22 u H locs hw_23 hP hD hK hS => ?_)
  obtain ⟨u_20, u_21⟩ := u
  have hP : va_P (dC, dI) vwCl [(mh, .inr (1, [.int 0, .ref eD, .int 0])), (i2, .inl (kT, 0, .inr (.inr (.inr (.inr (fun _ => none)))))), (mm, .inr (21, [.int 0, .ref ms, .ref mt, .ref mh, .ref me])), (mt, .inr (1, [.int mo, .ref ma, .int 3])), (ma, .inl (kO, 10, .inr (.inr (.inr (.inr (zfT t0 t1 t2)))))), (t2, .inr (18, [.int (-3), .ref i2])), (u_20, .inl (u_21, 2, .inr (.inr (.inr (.inr (va_up (va_up (fun _ => none) (0 : Int32).toNatClampNeg (some t2)) (1 : Int32).toNatClampNeg (some t2)))))))] H := hP
  have hD : va_D A [(mh, .inr (1, [.int 0, .ref eD, .int 0])), (i2, .inl (kT, 0, .inr (.inr (.inr (.inr (fun _ => none)))))), (mm, .inr (21, [.int 0, .ref ms, .ref mt, .ref mh, .ref me])), (mt, .inr (1, [.int mo, .ref ma, .int 3])), (ma, .inl (kO, 10, .inr (.inr (.inr (.inr (zfT t0 t1 t2)))))), (t2, .inr (18, [.int (-3), .ref i2])), (u_20, .inl (u_21, 2, .inr (.inr (.inr (.inr (va_up (va_up (fun _ => none) (0 : Int32).toNatClampNeg (some t2)) (1 : Int32).toNatClampNeg (some t2)))))))] := hD
  have hK : va_K (dC, dI) vwCl [(kO, .object "java/lang/Object"), (kT, .object "HornbookModel$Tree"), (kO, .object "java/lang/Object"), (u_21, .object "HornbookModel$Tree")] s := hK
  have hw_23 : r_22 = some u_20 := hw_23
  have hw_23 := hw_23.symm
  subst hw_23
  refine W.eq (g2 := F0 m 81 ls (.ref u_20 :: [])) rfl ?_
  refine lv_astore (lv' := [(5, .ref u_20), (0, .ref mm), (1, .int 2), (2, .int x2), (3, .int 2), (4, .int 2)]) hx hb dX19_wouldChoose_81 hl (by decide) rfl (fun ls hl => ?_)
  refine lv_aload_n hx hb dX19_wouldChoose_83 rfl (lv_at hl 1 rfl) ?_
  refine lv_iload_n hx hb dX19_wouldChoose_84 rfl (lv_at hl 2 rfl) ?_
  refine z_q (wr := [(mh, .inr (1, [.int 0, .ref eD, .int 0])), (i2, .inl (kT, 0, .inr (.inr (.inr (.inr (fun _ => none)))))), (u_20, .inl (u_21, 2, .inr (.inr (.inr (.inr (va_up (va_up (fun _ => none) (0 : Int32).toNatClampNeg (some t2)) (1 : Int32).toNatClampNeg (some t2)))))))]) (va_runV (As := [.int 2]) (rest := []) ⟨hx, hb, hml, hown, hts⟩ (c_M_type_2 l eD eI ad dC dI H.size mm ms mt mh me 0 mo ma kO t0 t1 t2 ((.ref i2))) (cwV 1 hts g_c_M_would_19 rfl rfl rfl (by decide +kernel) ⟨Nat.le_of_ble_eq_true rfl, Nat.le_of_ble_eq_true rfl⟩) (z_preV (wc := [(mm, .inr (21, [.int 0, .ref ms, .ref mt, .ref mh, .ref me])), (mt, .inr (1, [.int mo, .ref ma, .int 3])), (ma, .inl (kO, 10, .inr (.inr (.inr (.inr (zfT t0 t1 t2)))))), (t2, .inr (18, [.int (-3), .ref i2]))]) hP hD hK hS hA hE [2, 3, 4, 5] [0] rfl (by decide) rfl (ci := 21) (q0 := 0) rfl rfl) rfl rfl hl.1 rfl (lv_room (Nat.le_of_ble_eq_true rfl)) dX19_wouldChoose_85 ⟨Nat.le_of_ble_eq_true rfl, Nat.le_of_ble_eq_true rfl⟩) hP hD hK hS hA [2, 3, 4, 5] [0, 1, 6] rfl rfl (by decide) (by decide) (fun r_24 u H locs hw_25 hP hD hK hS => ?_)
  obtain ⟨⟩ := u
  have hP : va_P (dC, dI) vwCl [(mh, .inr (1, [.int 0, .ref eD, .int 0])), (i2, .inl (kT, 0, .inr (.inr (.inr (.inr (fun _ => none)))))), (u_20, .inl (u_21, 2, .inr (.inr (.inr (.inr (va_up (va_up (fun _ => none) (0 : Int32).toNatClampNeg (some t2)) (1 : Int32).toNatClampNeg (some t2))))))), (mm, .inr (21, [.int 0, .ref ms, .ref mt, .ref mh, .ref me])), (mt, .inr (1, [.int mo, .ref ma, .int 3])), (ma, .inl (kO, 10, .inr (.inr (.inr (.inr (zfT t0 t1 t2)))))), (t2, .inr (18, [.int (-3), .ref i2]))] H := hP
  have hD : va_D A [(mh, .inr (1, [.int 0, .ref eD, .int 0])), (i2, .inl (kT, 0, .inr (.inr (.inr (.inr (fun _ => none)))))), (u_20, .inl (u_21, 2, .inr (.inr (.inr (.inr (va_up (va_up (fun _ => none) (0 : Int32).toNatClampNeg (some t2)) (1 : Int32).toNatClampNeg (some t2))))))), (mm, .inr (21, [.int 0, .ref ms, .ref mt, .ref mh, .ref me])), (mt, .inr (1, [.int mo, .ref ma, .int 3])), (ma, .inl (kO, 10, .inr (.inr (.inr (.inr (zfT t0 t1 t2)))))), (t2, .inr (18, [.int (-3), .ref i2]))] := hD
  have hK : va_K (dC, dI) vwCl [(kO, .object "java/lang/Object"), (kT, .object "HornbookModel$Tree"), (kO, .object "java/lang/Object"), (u_21, .object "HornbookModel$Tree")] s := by simpa using hK
  have hw_25 : r_24 = some t2 := hw_25
  have hw_25 := hw_25.symm
  subst hw_25
  refine W.eq (g2 := F0 m 88 ls (.ref t2 :: [])) rfl ?_
  refine z_i (wr := [(mh, .inr (1, [.int 0, .ref eD, .int 0])), (u_20, .inl (u_21, 2, .inr (.inr (.inr (.inr (va_up (va_up (fun _ => none) (0 : Int32).toNatClampNeg (some t2)) (1 : Int32).toNatClampNeg (some t2))))))), (mm, .inr (21, [.int 0, .ref ms, .ref mt, .ref mh, .ref me])), (mt, .inr (1, [.int mo, .ref ma, .int 3])), (ma, .inl (kO, 10, .inr (.inr (.inr (.inr (zfT t0 t1 t2))))))]) (va_runV (As := []) (rest := []) ⟨hx, hb, hml, hown, hts⟩ (c_T_isClosed_3 l eD eI ad dC dI H.size t2 i2 kT) (cwV 0 hts g_c_M_would_20 rfl rfl rfl (by decide +kernel) ⟨Nat.le_of_ble_eq_true rfl, Nat.le_of_ble_eq_true rfl⟩) (z_preV (wc := [(t2, .inr (18, [.int (-3), .ref i2])), (i2, .inl (kT, 0, .inr (.inr (.inr (.inr (fun _ => none))))))]) hP hD hK hS hA hE [6, 1] [1] rfl (by decide) rfl (ci := 18) (q0 := 0) rfl rfl) rfl rfl hl.1 rfl (lv_room (Nat.le_of_ble_eq_true rfl)) dX19_wouldChoose_88 ⟨Nat.le_of_ble_eq_true rfl, Nat.le_of_ble_eq_true rfl⟩) hP hD hK hS hA [6, 1] [0, 2, 3, 4, 5] rfl rfl (by decide) (by decide) (fun r_26 u H locs hw_27 hP hD hK hS => ?_)
  obtain ⟨⟩ := u
  have hP : va_P (dC, dI) vwCl [(mh, .inr (1, [.int 0, .ref eD, .int 0])), (u_20, .inl (u_21, 2, .inr (.inr (.inr (.inr (va_up (va_up (fun _ => none) (0 : Int32).toNatClampNeg (some t2)) (1 : Int32).toNatClampNeg (some t2))))))), (mm, .inr (21, [.int 0, .ref ms, .ref mt, .ref mh, .ref me])), (mt, .inr (1, [.int mo, .ref ma, .int 3])), (ma, .inl (kO, 10, .inr (.inr (.inr (.inr (zfT t0 t1 t2)))))), (t2, .inr (18, [.int (-3), .ref i2])), (i2, .inl (kT, 0, .inr (.inr (.inr (.inr (fun _ => none))))))] H := hP
  have hD : va_D A [(mh, .inr (1, [.int 0, .ref eD, .int 0])), (u_20, .inl (u_21, 2, .inr (.inr (.inr (.inr (va_up (va_up (fun _ => none) (0 : Int32).toNatClampNeg (some t2)) (1 : Int32).toNatClampNeg (some t2))))))), (mm, .inr (21, [.int 0, .ref ms, .ref mt, .ref mh, .ref me])), (mt, .inr (1, [.int mo, .ref ma, .int 3])), (ma, .inl (kO, 10, .inr (.inr (.inr (.inr (zfT t0 t1 t2)))))), (t2, .inr (18, [.int (-3), .ref i2])), (i2, .inl (kT, 0, .inr (.inr (.inr (.inr (fun _ => none))))))] := hD
  have hK : va_K (dC, dI) vwCl [(kO, .object "java/lang/Object"), (kT, .object "HornbookModel$Tree"), (kO, .object "java/lang/Object"), (u_21, .object "HornbookModel$Tree")] s := by simpa using hK
  have hw_27 : r_26 = 0 := hw_27
  have hw_27 := hw_27.symm
  subst hw_27
  refine lv_istore (lv' := [(6, .int 0), (5, .ref u_20), (0, .ref mm), (1, .int 2), (2, .int x2), (3, .int 2), (4, .int 2)]) hx hb dX19_wouldChoose_91 hl (by decide) rfl (fun ls hl => ?_)
  refine lv_aload hx hb dX19_wouldChoose_93 (lv_at hl 1 rfl) ?_
  refine lv_astore (lv' := [(7, .ref u_20), (6, .int 0), (5, .ref u_20), (0, .ref mm), (1, .int 2), (2, .int x2), (3, .int 2), (4, .int 2)]) hx hb dX19_wouldChoose_95 hl (by decide) rfl (fun ls hl => ?_)
  refine lv_aload hx hb dX19_wouldChoose_97 (lv_at hl 0 rfl) ?_
  refine va_alen (D := (dC, dI)) (v := 2) hx hb hK hP 1 3 rfl rfl rfl dX19_wouldChoose_99 ?_
  refine lv_istore (lv' := [(8, .int 2), (7, .ref u_20), (6, .int 0), (5, .ref u_20), (0, .ref mm), (1, .int 2), (2, .int x2), (3, .int 2), (4, .int 2)]) hx hb dX19_wouldChoose_100 hl (by decide) rfl (fun ls hl => ?_)
  refine lv_iconst (v := 0) hx hb dX19_wouldChoose_102 (by decide) ?_
  refine lv_istore (lv' := [(9, .int 0), (8, .int 2), (7, .ref u_20), (6, .int 0), (5, .ref u_20), (0, .ref mm), (1, .int 2), (2, .int x2), (3, .int 2), (4, .int 2)]) hx hb dX19_wouldChoose_103 hl (by decide) rfl (fun ls hl => ?_)
  refine lv_iload hx hb dX19_wouldChoose_105 (lv_at hl 0 rfl) ?_
  refine lv_iload hx hb dX19_wouldChoose_107 (lv_at hl 1 rfl) ?_
  refine lv_icmp_ge (tgt := 135) hx hb dX19_wouldChoose_109 (by decide) (fun c_28 => ?_) (fun c_28 => ?_)
  · exact absurd c_28 (by decide)
  refine lv_aload hx hb dX19_wouldChoose_112 (lv_at hl 2 rfl) ?_
  refine lv_iload hx hb dX19_wouldChoose_114 (lv_at hl 0 rfl) ?_
  refine va_aldq (D := (dC, dI)) hx hb hK hP 1 3 rfl rfl (by unfold vp_in; decide) dX19_wouldChoose_116 ?_
  refine z_top (v' := .ref t2) (by first | rfl | decide | simp [va_up, va_rf]) ?_
  refine lv_astore (lv' := [(10, .ref t2), (9, .int 0), (8, .int 2), (7, .ref u_20), (6, .int 0), (5, .ref u_20), (0, .ref mm), (1, .int 2), (2, .int x2), (3, .int 2), (4, .int 2)]) hx hb dX19_wouldChoose_117 hl (by decide) rfl (fun ls hl => ?_)
  refine lv_iload hx hb dX19_wouldChoose_119 (lv_at hl 4 rfl) ?_
  refine lv_aload hx hb dX19_wouldChoose_121 (lv_at hl 0 rfl) ?_
  refine z_i (wr := [(mh, .inr (1, [.int 0, .ref eD, .int 0])), (u_20, .inl (u_21, 2, .inr (.inr (.inr (.inr (va_up (va_up (fun _ => none) (0 : Int32).toNatClampNeg (some t2)) (1 : Int32).toNatClampNeg (some t2))))))), (mm, .inr (21, [.int 0, .ref ms, .ref mt, .ref mh, .ref me])), (mt, .inr (1, [.int mo, .ref ma, .int 3])), (ma, .inl (kO, 10, .inr (.inr (.inr (.inr (zfT t0 t1 t2))))))]) (va_runV (As := []) (rest := [.int 0]) ⟨hx, hb, hml, hown, hts⟩ (c_T_isClosed_3 l eD eI ad dC dI H.size t2 i2 kT) (cwV 0 hts g_c_M_would_20 rfl rfl rfl (by decide +kernel) ⟨Nat.le_of_ble_eq_true rfl, Nat.le_of_ble_eq_true rfl⟩) (z_preV (wc := [(t2, .inr (18, [.int (-3), .ref i2])), (i2, .inl (kT, 0, .inr (.inr (.inr (.inr (fun _ => none))))))]) hP hD hK hS hA hE [5, 6] [1] rfl (by decide) rfl (ci := 18) (q0 := 0) rfl rfl) rfl rfl hl.1 rfl (lv_room (Nat.le_of_ble_eq_true rfl)) dX19_wouldChoose_123 ⟨Nat.le_of_ble_eq_true rfl, Nat.le_of_ble_eq_true rfl⟩) hP hD hK hS hA [5, 6] [0, 1, 2, 3, 4] rfl rfl (by decide) (by decide) (fun r_29 u H locs hw_30 hP hD hK hS => ?_)
  obtain ⟨⟩ := u
  have hP : va_P (dC, dI) vwCl [(mh, .inr (1, [.int 0, .ref eD, .int 0])), (u_20, .inl (u_21, 2, .inr (.inr (.inr (.inr (va_up (va_up (fun _ => none) (0 : Int32).toNatClampNeg (some t2)) (1 : Int32).toNatClampNeg (some t2))))))), (mm, .inr (21, [.int 0, .ref ms, .ref mt, .ref mh, .ref me])), (mt, .inr (1, [.int mo, .ref ma, .int 3])), (ma, .inl (kO, 10, .inr (.inr (.inr (.inr (zfT t0 t1 t2)))))), (t2, .inr (18, [.int (-3), .ref i2])), (i2, .inl (kT, 0, .inr (.inr (.inr (.inr (fun _ => none))))))] H := hP
  have hD : va_D A [(mh, .inr (1, [.int 0, .ref eD, .int 0])), (u_20, .inl (u_21, 2, .inr (.inr (.inr (.inr (va_up (va_up (fun _ => none) (0 : Int32).toNatClampNeg (some t2)) (1 : Int32).toNatClampNeg (some t2))))))), (mm, .inr (21, [.int 0, .ref ms, .ref mt, .ref mh, .ref me])), (mt, .inr (1, [.int mo, .ref ma, .int 3])), (ma, .inl (kO, 10, .inr (.inr (.inr (.inr (zfT t0 t1 t2)))))), (t2, .inr (18, [.int (-3), .ref i2])), (i2, .inl (kT, 0, .inr (.inr (.inr (.inr (fun _ => none))))))] := hD
  have hK : va_K (dC, dI) vwCl [(kO, .object "java/lang/Object"), (kT, .object "HornbookModel$Tree"), (kO, .object "java/lang/Object"), (u_21, .object "HornbookModel$Tree")] s := by simpa using hK
  have hw_30 : r_29 = 0 := hw_30
  have hw_30 := hw_30.symm
  subst hw_30
  refine lv_iand hx hb dX19_wouldChoose_126 ?_
  refine z_top (v' := .int 0) (congrArg Value.int (by decide)) ?_
  refine lv_istore (lv' := [(6, .int 0), (10, .ref t2), (9, .int 0), (8, .int 2), (7, .ref u_20), (5, .ref u_20), (0, .ref mm), (1, .int 2), (2, .int x2), (3, .int 2), (4, .int 2)]) hx hb dX19_wouldChoose_127 hl (by decide) rfl (fun ls hl => ?_)
  refine lv_iinc (v := 1) (lv' := [(9, .int 1), (6, .int 0), (10, .ref t2), (8, .int 2), (7, .ref u_20), (5, .ref u_20), (0, .ref mm), (1, .int 2), (2, .int x2), (3, .int 2), (4, .int 2)]) hx hb dX19_wouldChoose_129 hl (k := 2) rfl (by decide) (by decide) rfl (fun ls hl => ?_)
  refine lv_goto (tgt := 105) hx hb dX19_wouldChoose_132 (by decide) ?_
  refine lv_iload hx hb dX19_wouldChoose_105 (lv_at hl 0 rfl) ?_
  refine lv_iload hx hb dX19_wouldChoose_107 (lv_at hl 3 rfl) ?_
  refine lv_icmp_ge (tgt := 135) hx hb dX19_wouldChoose_109 (by decide) (fun c_31 => ?_) (fun c_31 => ?_)
  · exact absurd c_31 (by decide)
  refine lv_aload hx hb dX19_wouldChoose_112 (lv_at hl 4 rfl) ?_
  refine lv_iload hx hb dX19_wouldChoose_114 (lv_at hl 0 rfl) ?_
  refine va_aldq (D := (dC, dI)) hx hb hK hP 1 3 rfl rfl (by unfold vp_in; decide) dX19_wouldChoose_116 ?_
  refine z_top (v' := .ref t2) (by first | rfl | decide | simp [va_up, va_rf]) ?_
  refine lv_astore (lv' := [(10, .ref t2), (9, .int 1), (6, .int 0), (8, .int 2), (7, .ref u_20), (5, .ref u_20), (0, .ref mm), (1, .int 2), (2, .int x2), (3, .int 2), (4, .int 2)]) hx hb dX19_wouldChoose_117 hl (by decide) rfl (fun ls hl => ?_)
  refine lv_iload hx hb dX19_wouldChoose_119 (lv_at hl 2 rfl) ?_
  refine lv_aload hx hb dX19_wouldChoose_121 (lv_at hl 0 rfl) ?_
  refine z_i (wr := [(mh, .inr (1, [.int 0, .ref eD, .int 0])), (u_20, .inl (u_21, 2, .inr (.inr (.inr (.inr (va_up (va_up (fun _ => none) (0 : Int32).toNatClampNeg (some t2)) (1 : Int32).toNatClampNeg (some t2))))))), (mm, .inr (21, [.int 0, .ref ms, .ref mt, .ref mh, .ref me])), (mt, .inr (1, [.int mo, .ref ma, .int 3])), (ma, .inl (kO, 10, .inr (.inr (.inr (.inr (zfT t0 t1 t2))))))]) (va_runV (As := []) (rest := [.int 0]) ⟨hx, hb, hml, hown, hts⟩ (c_T_isClosed_3 l eD eI ad dC dI H.size t2 i2 kT) (cwV 0 hts g_c_M_would_20 rfl rfl rfl (by decide +kernel) ⟨Nat.le_of_ble_eq_true rfl, Nat.le_of_ble_eq_true rfl⟩) (z_preV (wc := [(t2, .inr (18, [.int (-3), .ref i2])), (i2, .inl (kT, 0, .inr (.inr (.inr (.inr (fun _ => none))))))]) hP hD hK hS hA hE [5, 6] [1] rfl (by decide) rfl (ci := 18) (q0 := 0) rfl rfl) rfl rfl hl.1 rfl (lv_room (Nat.le_of_ble_eq_true rfl)) dX19_wouldChoose_123 ⟨Nat.le_of_ble_eq_true rfl, Nat.le_of_ble_eq_true rfl⟩) hP hD hK hS hA [5, 6] [0, 1, 2, 3, 4] rfl rfl (by decide) (by decide) (fun r_32 u H locs hw_33 hP hD hK hS => ?_)
  obtain ⟨⟩ := u
  have hP : va_P (dC, dI) vwCl [(mh, .inr (1, [.int 0, .ref eD, .int 0])), (u_20, .inl (u_21, 2, .inr (.inr (.inr (.inr (va_up (va_up (fun _ => none) (0 : Int32).toNatClampNeg (some t2)) (1 : Int32).toNatClampNeg (some t2))))))), (mm, .inr (21, [.int 0, .ref ms, .ref mt, .ref mh, .ref me])), (mt, .inr (1, [.int mo, .ref ma, .int 3])), (ma, .inl (kO, 10, .inr (.inr (.inr (.inr (zfT t0 t1 t2)))))), (t2, .inr (18, [.int (-3), .ref i2])), (i2, .inl (kT, 0, .inr (.inr (.inr (.inr (fun _ => none))))))] H := hP
  have hD : va_D A [(mh, .inr (1, [.int 0, .ref eD, .int 0])), (u_20, .inl (u_21, 2, .inr (.inr (.inr (.inr (va_up (va_up (fun _ => none) (0 : Int32).toNatClampNeg (some t2)) (1 : Int32).toNatClampNeg (some t2))))))), (mm, .inr (21, [.int 0, .ref ms, .ref mt, .ref mh, .ref me])), (mt, .inr (1, [.int mo, .ref ma, .int 3])), (ma, .inl (kO, 10, .inr (.inr (.inr (.inr (zfT t0 t1 t2)))))), (t2, .inr (18, [.int (-3), .ref i2])), (i2, .inl (kT, 0, .inr (.inr (.inr (.inr (fun _ => none))))))] := hD
  have hK : va_K (dC, dI) vwCl [(kO, .object "java/lang/Object"), (kT, .object "HornbookModel$Tree"), (kO, .object "java/lang/Object"), (u_21, .object "HornbookModel$Tree")] s := by simpa using hK
  have hw_33 : r_32 = 0 := hw_33
  have hw_33 := hw_33.symm
  subst hw_33
  refine lv_iand hx hb dX19_wouldChoose_126 ?_
  refine z_top (v' := .int 0) (congrArg Value.int (by decide)) ?_
  refine lv_istore (lv' := [(6, .int 0), (10, .ref t2), (9, .int 1), (8, .int 2), (7, .ref u_20), (5, .ref u_20), (0, .ref mm), (1, .int 2), (2, .int x2), (3, .int 2), (4, .int 2)]) hx hb dX19_wouldChoose_127 hl (by decide) rfl (fun ls hl => ?_)
  refine lv_iinc (v := 2) (lv' := [(9, .int 2), (6, .int 0), (10, .ref t2), (8, .int 2), (7, .ref u_20), (5, .ref u_20), (0, .ref mm), (1, .int 2), (2, .int x2), (3, .int 2), (4, .int 2)]) hx hb dX19_wouldChoose_129 hl (k := 2) rfl (by decide) (by decide) rfl (fun ls hl => ?_)
  refine lv_goto (tgt := 105) hx hb dX19_wouldChoose_132 (by decide) ?_
  refine lv_iload hx hb dX19_wouldChoose_105 (lv_at hl 0 rfl) ?_
  refine lv_iload hx hb dX19_wouldChoose_107 (lv_at hl 3 rfl) ?_
  refine lv_icmp_ge (tgt := 135) hx hb dX19_wouldChoose_109 (by decide) (fun c_34 => ?_) (fun c_34 => ?_)
  rotate_left
  · exact absurd (by decide) c_34
  refine lv_aload_n hx hb dX19_wouldChoose_135 rfl (lv_at hl 6 rfl) ?_
  refine lv_iload hx hb dX19_wouldChoose_136 (lv_at hl 1 rfl) ?_
  refine lv_if_ne (tgt := 145) hx hb dX19_wouldChoose_138 (by decide) (fun c_35 => ?_) (fun c_35 => ?_)
  · exact absurd (by decide) c_35
  refine lv_iconst (v := 1) hx hb dX19_wouldChoose_141 (by decide) ?_
  refine lv_goto (tgt := 146) hx hb dX19_wouldChoose_142 (by decide) ?_
  refine lv_iconst (v := 2) hx hb dX19_wouldChoose_146 (by decide) ?_
  refine z_i (wr := [(mh, .inr (1, [.int 0, .ref eD, .int 0])), (u_20, .inl (u_21, 2, .inr (.inr (.inr (.inr (va_up (va_up (fun _ => none) (0 : Int32).toNatClampNeg (some t2)) (1 : Int32).toNatClampNeg (some t2))))))), (mt, .inr (1, [.int mo, .ref ma, .int 3])), (ma, .inl (kO, 10, .inr (.inr (.inr (.inr (zfT t0 t1 t2)))))), (t2, .inr (18, [.int (-3), .ref i2])), (i2, .inl (kT, 0, .inr (.inr (.inr (.inr (fun _ => none))))))]) (va_runV (As := [.int 1, .int 2]) (rest := []) ⟨hx, hb, hml, hown, hts⟩ (c_M_refuse_yes l eD eI ad dC dI H.size mm ((.ref ms)) ((.ref mt)) ((.ref mh)) ((.ref me)) 2 (by decide)) (cwV 2 hts g_c_M_would_7 rfl rfl rfl (by decide +kernel) ⟨Nat.le_of_ble_eq_true rfl, Nat.le_of_ble_eq_true rfl⟩) (z_preV (wc := [(mm, .inr (21, [.int 0, .ref ms, .ref mt, .ref mh, .ref me]))]) hP hD hK hS hA hE [2] [] rfl (by decide) rfl (ci := 21) (q0 := 0) rfl rfl) rfl rfl hl.1 rfl (lv_room (Nat.le_of_ble_eq_true rfl)) dX19_wouldChoose_147 ⟨Nat.le_of_ble_eq_true rfl, Nat.le_of_ble_eq_true rfl⟩) hP hD hK hS hA [2] [0, 1, 3, 4, 5, 6] rfl rfl (by decide) (by decide) (fun r_36 u H locs hw_37 hP hD hK hS => ?_)
  obtain ⟨⟩ := u
  have hP : va_P (dC, dI) vwCl [(mh, .inr (1, [.int 0, .ref eD, .int 0])), (u_20, .inl (u_21, 2, .inr (.inr (.inr (.inr (va_up (va_up (fun _ => none) (0 : Int32).toNatClampNeg (some t2)) (1 : Int32).toNatClampNeg (some t2))))))), (mt, .inr (1, [.int mo, .ref ma, .int 3])), (ma, .inl (kO, 10, .inr (.inr (.inr (.inr (zfT t0 t1 t2)))))), (t2, .inr (18, [.int (-3), .ref i2])), (i2, .inl (kT, 0, .inr (.inr (.inr (.inr (fun _ => none)))))), (mm, .inr (21, [.int 2, .ref ms, .ref mt, .ref mh, .ref me]))] H := hP
  have hD : va_D A [(mh, .inr (1, [.int 0, .ref eD, .int 0])), (u_20, .inl (u_21, 2, .inr (.inr (.inr (.inr (va_up (va_up (fun _ => none) (0 : Int32).toNatClampNeg (some t2)) (1 : Int32).toNatClampNeg (some t2))))))), (mt, .inr (1, [.int mo, .ref ma, .int 3])), (ma, .inl (kO, 10, .inr (.inr (.inr (.inr (zfT t0 t1 t2)))))), (t2, .inr (18, [.int (-3), .ref i2])), (i2, .inl (kT, 0, .inr (.inr (.inr (.inr (fun _ => none)))))), (mm, .inr (21, [.int 2, .ref ms, .ref mt, .ref mh, .ref me]))] := hD
  have hK : va_K (dC, dI) vwCl [(kO, .object "java/lang/Object"), (kT, .object "HornbookModel$Tree"), (kO, .object "java/lang/Object"), (u_21, .object "HornbookModel$Tree")] s := by simpa using hK
  have hw_37 : r_36 = 1 := hw_37
  have hw_37 := hw_37.symm
  subst hw_37
  refine lv_if_eq (tgt := 155) hx hb dX19_wouldChoose_150 (by decide) (fun c_38 => ?_) (fun c_38 => ?_)
  · exact absurd c_38 (by decide)
  refine lv_iconst (v := 0) hx hb dX19_wouldChoose_153 (by decide) ?_
  have hP9 := hP.sub (ws' := [(mm, .inr (21, [.int 2, .ref ms, .ref mt, .ref mh, .ref me]))]) [6] rfl
  have hD9 := hD.sub (ws' := [(mm, .inr (21, [.int 2, .ref ms, .ref mt, .ref mh, .ref me]))]) [6] (by decide) rfl
  have hK9 := hK.sub (tys' := []) [] rfl
  refine W.widen (k := 7) (n := 22) (Nat.le_of_ble_eq_true rfl) (Nat.le_of_ble_eq_true rfl) ?_
  exact W.iret (v := 0) hx hb hr (fun t ht hW => ⟨⟨0, (2, 0), rfl, ⟨rfl, by first | decide | simp [hx20, hx21], by first | exact fun h => absurd h (by decide) | exact fun _ => rfl | rfl | decide | simp⟩, ⟨by rw [ht]; exact hP9, va_K.moved hW.alike hK9, hD9⟩⟩, hS.F ht⟩) hS.2.2 dX19_wouldChoose_154

set_option maxHeartbeats 4000000 in
set_option maxRecDepth 100000 in
theorem c_M_wouldChoose (l : Launch) (eD eI : Nat) (ad : Nat → Nat) (dC : Nat → ClassId) (dI : Nat → Nat → Nat) (sz : Nat) (mm : Nat) (ms : Nat) (mt : Nat) (mh : Nat) (me : Nat) (mo : Int32) (ma : Nat) (kO : ClassId) (kT : ClassId) (t0 : Nat) (t1 : Nat) (t2 : Nat) (i0 : Nat) (i1 : Nat) (i2 : Nat) (th : Int32) (x1 : Int32) (x2 : Int32) (x3 : Int32) (x4 : Int32) : Met l yX19_wouldChoose w_c_M_would ({ frames := 6, cells := 7, slots := 22, locals := 123 }) (va_Pc [.ref mm, .int x1, .int x2, .int x3, .int x4] (zPre eD eI ad (dC, dI) [(mm, .inr (21, [.int th, .ref ms, .ref mt, .ref mh, .ref me])), (ms, .inr (1, [.int 0, .ref eD, .int 0])), (mt, .inr (1, [.int mo, .ref ma, .int 3])), (mh, .inr (1, [.int 0, .ref eD, .int 0])), (me, .inr (1, [.int 0, .ref eD, .int 0])), (ma, .inl (kO, 10, .inr (.inr (.inr (.inr (zfT t0 t1 t2)))))), (t0, .inr (18, [.int (-1), .ref i0])), (t1, .inr (18, [.int (-2), .ref i1])), (t2, .inr (18, [.int (-3), .ref i2])), (i0, .inl (kT, 0, .inr (.inr (.inr (.inr (fun _ => none)))))), (i1, .inl (kT, 0, .inr (.inr (.inr (.inr (fun _ => none)))))), (i2, .inl (kT, 0, .inr (.inr (.inr (.inr (fun _ => none))))))] [(kO, .object "java/lang/Object"), (kT, .object "HornbookModel$Tree")] sz)) (va_Qi (fun (r : Int32) (u : Int32 × Int32) => match u with | (th2, v2) => r = v2 ∧ th2 = (if x1 < 0 ∨ 2 < x1 then 1 else if ¬ x3 = (-1) ∧ (x3 < 0 ∨ 2 < x3) then 1 else if ¬ x4 = (-1) ∧ (x4 < 0 ∨ 2 < x4) then 1 else if x2 < 0 ∨ 9 < x2 then 2 else if x3 = (-1) ∧ ¬ x4 = (-1) then 2 else if x1 = 2 ∨ x3 = 2 ∨ x4 = 2 then 2 else 0) ∧ (th2 = 0 → v2 = (-1))) (fun (u : Int32 × Int32) => match u with | (th2, v2) => zEnd (dC, dI) (va_A [(mm, .inr (21, [.int th, .ref ms, .ref mt, .ref mh, .ref me])), (ms, .inr (1, [.int 0, .ref eD, .int 0])), (mt, .inr (1, [.int mo, .ref ma, .int 3])), (mh, .inr (1, [.int 0, .ref eD, .int 0])), (me, .inr (1, [.int 0, .ref eD, .int 0])), (ma, .inl (kO, 10, .inr (.inr (.inr (.inr (zfT t0 t1 t2)))))), (t0, .inr (18, [.int (-1), .ref i0])), (t1, .inr (18, [.int (-2), .ref i1])), (t2, .inr (18, [.int (-3), .ref i2])), (i0, .inl (kT, 0, .inr (.inr (.inr (.inr (fun _ => none)))))), (i1, .inl (kT, 0, .inr (.inr (.inr (.inr (fun _ => none)))))), (i2, .inl (kT, 0, .inr (.inr (.inr (.inr (fun _ => none))))))] sz) [(mm, .inr (21, [.int th2, .ref ms, .ref mt, .ref mh, .ref me]))] []) (va_A [(mm, .inr (21, [.int th, .ref ms, .ref mt, .ref mh, .ref me])), (ms, .inr (1, [.int 0, .ref eD, .int 0])), (mt, .inr (1, [.int mo, .ref ma, .int 3])), (mh, .inr (1, [.int 0, .ref eD, .int 0])), (me, .inr (1, [.int 0, .ref eD, .int 0])), (ma, .inl (kO, 10, .inr (.inr (.inr (.inr (zfT t0 t1 t2)))))), (t0, .inr (18, [.int (-1), .ref i0])), (t1, .inr (18, [.int (-2), .ref i1])), (t2, .inr (18, [.int (-3), .ref i2])), (i0, .inl (kT, 0, .inr (.inr (.inr (.inr (fun _ => none)))))), (i1, .inl (kT, 0, .inr (.inr (.inr (.inr (fun _ => none)))))), (i2, .inl (kT, 0, .inr (.inr (.inr (.inr (fun _ => none))))))] sz)) 7 22 (va_A [(mm, .inr (21, [.int th, .ref ms, .ref mt, .ref mh, .ref me])), (ms, .inr (1, [.int 0, .ref eD, .int 0])), (mt, .inr (1, [.int mo, .ref ma, .int 3])), (mh, .inr (1, [.int 0, .ref eD, .int 0])), (me, .inr (1, [.int 0, .ref eD, .int 0])), (ma, .inl (kO, 10, .inr (.inr (.inr (.inr (zfT t0 t1 t2)))))), (t0, .inr (18, [.int (-1), .ref i0])), (t1, .inr (18, [.int (-2), .ref i1])), (t2, .inr (18, [.int (-3), .ref i2])), (i0, .inl (kT, 0, .inr (.inr (.inr (.inr (fun _ => none)))))), (i1, .inl (kT, 0, .inr (.inr (.inr (.inr (fun _ => none)))))), (i2, .inl (kT, 0, .inr (.inr (.inr (.inr (fun _ => none))))))] sz) := by
  rcases z_splitQ x1 with hx11 | ⟨hx10, hx11⟩ | ⟨hx10, hx11⟩
  · exact c_M_would_Al l eD eI ad dC dI sz mm ms mt mh me mo ma kO kT t0 t1 t2 i0 i1 i2 th x1 x2 x3 x4 hx11
  · exact c_M_would_Ah l eD eI ad dC dI sz mm ms mt mh me mo ma kO kT t0 t1 t2 i0 i1 i2 th x1 x2 x3 x4 hx10 hx11
  rcases z_splitP x3 with rfl | ⟨hx39, hx31⟩ | ⟨hx39, hx30, hx31⟩ | ⟨hx39, hx30, hx31⟩
  · rcases z_splitP x4 with rfl | ⟨hx49, hx41⟩ | ⟨hx49, hx40, hx41⟩ | ⟨hx49, hx40, hx41⟩
    · rcases z_splitM x2 with hx21 | ⟨hx20, hx21⟩ | ⟨hx20, hx21⟩
      · exact c_M_would_Dnnl l eD eI ad dC dI sz mm ms mt mh me mo ma kO kT t0 t1 t2 i0 i1 i2 th x1 x2 hx10 hx11 hx21
      · exact c_M_would_Dnnh l eD eI ad dC dI sz mm ms mt mh me mo ma kO kT t0 t1 t2 i0 i1 i2 th x1 x2 hx10 hx11 hx20 hx21
      · rcases z_ok3 hx10 hx11 with rfl | rfl | rfl
        · exact c_M_would_Fnn0 l eD eI ad dC dI sz mm ms mt mh me mo ma kO kT t0 t1 t2 i0 i1 i2 th x2 hx20 hx21
        · exact c_M_would_Fnn1 l eD eI ad dC dI sz mm ms mt mh me mo ma kO kT t0 t1 t2 i0 i1 i2 th x2 hx20 hx21
        · exact c_M_would_Fnn2 l eD eI ad dC dI sz mm ms mt mh me mo ma kO kT t0 t1 t2 i0 i1 i2 th x2 hx20 hx21
    · exact c_M_would_Cnl l eD eI ad dC dI sz mm ms mt mh me mo ma kO kT t0 t1 t2 i0 i1 i2 th x1 x2 x4 hx10 hx11 hx49 hx41
    · exact c_M_would_Cnh l eD eI ad dC dI sz mm ms mt mh me mo ma kO kT t0 t1 t2 i0 i1 i2 th x1 x2 x4 hx10 hx11 hx49 hx40 hx41
    · rcases z_splitM x2 with hx21 | ⟨hx20, hx21⟩ | ⟨hx20, hx21⟩
      · exact c_M_would_Dnkl l eD eI ad dC dI sz mm ms mt mh me mo ma kO kT t0 t1 t2 i0 i1 i2 th x1 x2 x4 hx10 hx11 hx49 hx40 hx41 hx21
      · exact c_M_would_Dnkh l eD eI ad dC dI sz mm ms mt mh me mo ma kO kT t0 t1 t2 i0 i1 i2 th x1 x2 x4 hx10 hx11 hx49 hx40 hx41 hx20 hx21
      · exact c_M_would_E l eD eI ad dC dI sz mm ms mt mh me mo ma kO kT t0 t1 t2 i0 i1 i2 th x1 x2 x4 hx10 hx11 hx49 hx40 hx41 hx20 hx21
  · exact c_M_would_Bl l eD eI ad dC dI sz mm ms mt mh me mo ma kO kT t0 t1 t2 i0 i1 i2 th x1 x2 x3 x4 hx10 hx11 hx39 hx31
  · exact c_M_would_Bh l eD eI ad dC dI sz mm ms mt mh me mo ma kO kT t0 t1 t2 i0 i1 i2 th x1 x2 x3 x4 hx10 hx11 hx39 hx30 hx31
  · rcases z_splitP x4 with rfl | ⟨hx49, hx41⟩ | ⟨hx49, hx40, hx41⟩ | ⟨hx49, hx40, hx41⟩
    · rcases z_splitM x2 with hx21 | ⟨hx20, hx21⟩ | ⟨hx20, hx21⟩
      · exact c_M_would_Dknl l eD eI ad dC dI sz mm ms mt mh me mo ma kO kT t0 t1 t2 i0 i1 i2 th x1 x2 x3 hx10 hx11 hx39 hx30 hx31 hx21
      · exact c_M_would_Dknh l eD eI ad dC dI sz mm ms mt mh me mo ma kO kT t0 t1 t2 i0 i1 i2 th x1 x2 x3 hx10 hx11 hx39 hx30 hx31 hx20 hx21
      · rcases z_ok3 hx10 hx11 with rfl | rfl | rfl
        · rcases z_ok3 hx30 hx31 with rfl | rfl | rfl
          · exact c_M_would_Fkn00 l eD eI ad dC dI sz mm ms mt mh me mo ma kO kT t0 t1 t2 i0 i1 i2 th x2 hx20 hx21
          · exact c_M_would_Fkn01 l eD eI ad dC dI sz mm ms mt mh me mo ma kO kT t0 t1 t2 i0 i1 i2 th x2 hx20 hx21
          · exact c_M_would_Fkn02 l eD eI ad dC dI sz mm ms mt mh me mo ma kO kT t0 t1 t2 i0 i1 i2 th x2 hx20 hx21
        · rcases z_ok3 hx30 hx31 with rfl | rfl | rfl
          · exact c_M_would_Fkn10 l eD eI ad dC dI sz mm ms mt mh me mo ma kO kT t0 t1 t2 i0 i1 i2 th x2 hx20 hx21
          · exact c_M_would_Fkn11 l eD eI ad dC dI sz mm ms mt mh me mo ma kO kT t0 t1 t2 i0 i1 i2 th x2 hx20 hx21
          · exact c_M_would_Fkn12 l eD eI ad dC dI sz mm ms mt mh me mo ma kO kT t0 t1 t2 i0 i1 i2 th x2 hx20 hx21
        · rcases z_ok3 hx30 hx31 with rfl | rfl | rfl
          · exact c_M_would_Fkn20 l eD eI ad dC dI sz mm ms mt mh me mo ma kO kT t0 t1 t2 i0 i1 i2 th x2 hx20 hx21
          · exact c_M_would_Fkn21 l eD eI ad dC dI sz mm ms mt mh me mo ma kO kT t0 t1 t2 i0 i1 i2 th x2 hx20 hx21
          · exact c_M_would_Fkn22 l eD eI ad dC dI sz mm ms mt mh me mo ma kO kT t0 t1 t2 i0 i1 i2 th x2 hx20 hx21
    · exact c_M_would_Ckl l eD eI ad dC dI sz mm ms mt mh me mo ma kO kT t0 t1 t2 i0 i1 i2 th x1 x2 x3 x4 hx10 hx11 hx39 hx30 hx31 hx49 hx41
    · exact c_M_would_Ckh l eD eI ad dC dI sz mm ms mt mh me mo ma kO kT t0 t1 t2 i0 i1 i2 th x1 x2 x3 x4 hx10 hx11 hx39 hx30 hx31 hx49 hx40 hx41
    · rcases z_splitM x2 with hx21 | ⟨hx20, hx21⟩ | ⟨hx20, hx21⟩
      · exact c_M_would_Dkkl l eD eI ad dC dI sz mm ms mt mh me mo ma kO kT t0 t1 t2 i0 i1 i2 th x1 x2 x3 x4 hx10 hx11 hx39 hx30 hx31 hx49 hx40 hx41 hx21
      · exact c_M_would_Dkkh l eD eI ad dC dI sz mm ms mt mh me mo ma kO kT t0 t1 t2 i0 i1 i2 th x1 x2 x3 x4 hx10 hx11 hx39 hx30 hx31 hx49 hx40 hx41 hx20 hx21
      · rcases z_ok3 hx10 hx11 with rfl | rfl | rfl
        · rcases z_ok3 hx30 hx31 with rfl | rfl | rfl
          · rcases z_ok3 hx40 hx41 with rfl | rfl | rfl
            · exact c_M_would_Fkk000 l eD eI ad dC dI sz mm ms mt mh me mo ma kO kT t0 t1 t2 i0 i1 i2 th x2 hx20 hx21
            · exact c_M_would_Fkk001 l eD eI ad dC dI sz mm ms mt mh me mo ma kO kT t0 t1 t2 i0 i1 i2 th x2 hx20 hx21
            · exact c_M_would_Fkk002 l eD eI ad dC dI sz mm ms mt mh me mo ma kO kT t0 t1 t2 i0 i1 i2 th x2 hx20 hx21
          · rcases z_ok3 hx40 hx41 with rfl | rfl | rfl
            · exact c_M_would_Fkk010 l eD eI ad dC dI sz mm ms mt mh me mo ma kO kT t0 t1 t2 i0 i1 i2 th x2 hx20 hx21
            · exact c_M_would_Fkk011 l eD eI ad dC dI sz mm ms mt mh me mo ma kO kT t0 t1 t2 i0 i1 i2 th x2 hx20 hx21
            · exact c_M_would_Fkk012 l eD eI ad dC dI sz mm ms mt mh me mo ma kO kT t0 t1 t2 i0 i1 i2 th x2 hx20 hx21
          · rcases z_ok3 hx40 hx41 with rfl | rfl | rfl
            · exact c_M_would_Fkk020 l eD eI ad dC dI sz mm ms mt mh me mo ma kO kT t0 t1 t2 i0 i1 i2 th x2 hx20 hx21
            · exact c_M_would_Fkk021 l eD eI ad dC dI sz mm ms mt mh me mo ma kO kT t0 t1 t2 i0 i1 i2 th x2 hx20 hx21
            · exact c_M_would_Fkk022 l eD eI ad dC dI sz mm ms mt mh me mo ma kO kT t0 t1 t2 i0 i1 i2 th x2 hx20 hx21
        · rcases z_ok3 hx30 hx31 with rfl | rfl | rfl
          · rcases z_ok3 hx40 hx41 with rfl | rfl | rfl
            · exact c_M_would_Fkk100 l eD eI ad dC dI sz mm ms mt mh me mo ma kO kT t0 t1 t2 i0 i1 i2 th x2 hx20 hx21
            · exact c_M_would_Fkk101 l eD eI ad dC dI sz mm ms mt mh me mo ma kO kT t0 t1 t2 i0 i1 i2 th x2 hx20 hx21
            · exact c_M_would_Fkk102 l eD eI ad dC dI sz mm ms mt mh me mo ma kO kT t0 t1 t2 i0 i1 i2 th x2 hx20 hx21
          · rcases z_ok3 hx40 hx41 with rfl | rfl | rfl
            · exact c_M_would_Fkk110 l eD eI ad dC dI sz mm ms mt mh me mo ma kO kT t0 t1 t2 i0 i1 i2 th x2 hx20 hx21
            · exact c_M_would_Fkk111 l eD eI ad dC dI sz mm ms mt mh me mo ma kO kT t0 t1 t2 i0 i1 i2 th x2 hx20 hx21
            · exact c_M_would_Fkk112 l eD eI ad dC dI sz mm ms mt mh me mo ma kO kT t0 t1 t2 i0 i1 i2 th x2 hx20 hx21
          · rcases z_ok3 hx40 hx41 with rfl | rfl | rfl
            · exact c_M_would_Fkk120 l eD eI ad dC dI sz mm ms mt mh me mo ma kO kT t0 t1 t2 i0 i1 i2 th x2 hx20 hx21
            · exact c_M_would_Fkk121 l eD eI ad dC dI sz mm ms mt mh me mo ma kO kT t0 t1 t2 i0 i1 i2 th x2 hx20 hx21
            · exact c_M_would_Fkk122 l eD eI ad dC dI sz mm ms mt mh me mo ma kO kT t0 t1 t2 i0 i1 i2 th x2 hx20 hx21
        · rcases z_ok3 hx30 hx31 with rfl | rfl | rfl
          · rcases z_ok3 hx40 hx41 with rfl | rfl | rfl
            · exact c_M_would_Fkk200 l eD eI ad dC dI sz mm ms mt mh me mo ma kO kT t0 t1 t2 i0 i1 i2 th x2 hx20 hx21
            · exact c_M_would_Fkk201 l eD eI ad dC dI sz mm ms mt mh me mo ma kO kT t0 t1 t2 i0 i1 i2 th x2 hx20 hx21
            · exact c_M_would_Fkk202 l eD eI ad dC dI sz mm ms mt mh me mo ma kO kT t0 t1 t2 i0 i1 i2 th x2 hx20 hx21
          · rcases z_ok3 hx40 hx41 with rfl | rfl | rfl
            · exact c_M_would_Fkk210 l eD eI ad dC dI sz mm ms mt mh me mo ma kO kT t0 t1 t2 i0 i1 i2 th x2 hx20 hx21
            · exact c_M_would_Fkk211 l eD eI ad dC dI sz mm ms mt mh me mo ma kO kT t0 t1 t2 i0 i1 i2 th x2 hx20 hx21
            · exact c_M_would_Fkk212 l eD eI ad dC dI sz mm ms mt mh me mo ma kO kT t0 t1 t2 i0 i1 i2 th x2 hx20 hx21
          · rcases z_ok3 hx40 hx41 with rfl | rfl | rfl
            · exact c_M_would_Fkk220 l eD eI ad dC dI sz mm ms mt mh me mo ma kO kT t0 t1 t2 i0 i1 i2 th x2 hx20 hx21
            · exact c_M_would_Fkk221 l eD eI ad dC dI sz mm ms mt mh me mo ma kO kT t0 t1 t2 i0 i1 i2 th x2 hx20 hx21
            · exact c_M_would_Fkk222 l eD eI ad dC dI sz mm ms mt mh me mo ma kO kT t0 t1 t2 i0 i1 i2 th x2 hx20 hx21
