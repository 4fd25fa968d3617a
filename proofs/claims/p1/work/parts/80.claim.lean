theorem dL_law_0 : decode cL_law 0 = .ok (.new 8, 3) := by decide +kernel
theorem dL_law_3 : decode cL_law 3 = .ok (.dup, 1) := by decide +kernel
theorem dL_law_4 : decode cL_law 4 = .ok (.invokespecial 103, 3) := by decide +kernel
theorem dL_law_7 : decode cL_law 7 = .ok (.astore_n 1, 1) := by decide +kernel
theorem dL_law_8 : decode cL_law 8 = .ok (.new 104, 3) := by decide +kernel
theorem dL_law_11 : decode cL_law 11 = .ok (.dup, 1) := by decide +kernel
theorem dL_law_12 : decode cL_law 12 = .ok (.invokespecial 106, 3) := by decide +kernel
theorem dL_law_15 : decode cL_law 15 = .ok (.astore_n 2, 1) := by decide +kernel
theorem dL_law_16 : decode cL_law 16 = .ok (.iconst 1, 1) := by decide +kernel
theorem dL_law_17 : decode cL_law 17 = .ok (.newarray .long, 2) := by decide +kernel
theorem dL_law_19 : decode cL_law 19 = .ok (.astore_n 3, 1) := by decide +kernel
theorem dL_law_20 : decode cL_law 20 = .ok (.iconst 0, 1) := by decide +kernel
theorem dL_law_21 : decode cL_law 21 = .ok (.istore 4, 2) := by decide +kernel
set_option maxHeartbeats 4000000 in
theorem law_short {p : Program} {l : Launch} {e : Env} {s : State} {m : MethodId} {below : List Frame} {meth : Method} {c : Code} {b L : Nat} {xs : Nat → Int32} {A : Nat → Prop} (hL : L < 7) (hx : p.tables.exec = Jvm.exec) (hb : c.code = code) (hr : meth.sig.returnType = ret) (hX : va_X b L xs s s.heap) (hbl : b < s.heap.size) (hbA : ¬ A b) (hlocks : meth.locks = false) (hAs : ∀ q : Nat, A q → s.heap.size ≤ q) {H : Heap} {locs : List Loc} {ls : Array Slot} {cells slots : Nat} (hS : va_S A s.heap H locs) (hl : lv_has ls 9 [(4, .int 0), (0, .ref b)]) (h1 : cells ≤ 600002) (h2 : slots ≤ 7302232) : W p l e room_1 s m #[Value.ref b] below meth c H locs cells slots (lw_Z below #[Value.ref b] s) (F0 m 23 ls []) := by
  have hlt : Int32.ofNat L - 7 < 0 := by
    rcases (show L = 0 ∨ L = 1 ∨ L = 2 ∨ L = 3 ∨ L = 4 ∨ L = 5 ∨ L = 6 by omega) with rfl | rfl | rfl | rfl | rfl | rfl | rfl <;> decide
  refine lv_iload hx hb dL_law_23 (lv_at hl 0 rfl) ?_
  refine lv_aload_n hx hb dL_law_25 rfl (lv_at hl 1 rfl) ?_
  refine va_slen hx hb hX hbl hbA hS dL_law_26 ?_
  refine lv_bipush (v := 7) hx hb dL_law_27 (by decide) ?_
  refine lv_isub hx hb dL_law_29 ?_
  refine z_top (v' := .int ((Int32.ofNat L - 7))) (congrArg Value.int rfl) ?_
  refine lv_icmp_gt (tgt := 2202) hx hb dL_law_30 (by decide) (fun c_1 => ?_) (fun c_1 => ?_)
  rotate_left
  · exact absurd (hlt) c_1
  refine lv_iconst (v := 1) hx hb dL_law_2202 (by decide) ?_
  refine va_forget (fun q hq => hAs _ (hS.2.2 q hq)) ?_
  refine W.widen (k := 600002) (n := 7302232) h1 h2 ?_
  exact W.base (lw_ret (Drawn.sameBut.refl s.drawn lw_cs) hx hb hr hlocks dL_law_2203)
set_option maxRecDepth 100000 in
theorem gl_c_Hornbook_init : GoodIn lw_tbl (w_c_Hornbook_init) := goodIn_q (big := lw_tbl) (.code yX11_init cX11_init 1 none :: wb_c_Hornbook_init) [125, 128, 133, 136, 139, 159, 165, 173, 229, 245, 310, 380] [126, 127, 129, 130, 86, 140, 84, 137, 138, 145, 85, 134, 135, 141, 143, 131, 132, 396, 155, 156, 87, 160, 161, 162, 88, 166, 167, 168, 254, 169, 170, 89, 174, 223, 179, 181, 182, 183, 224, 184, 185, 186, 187, 188, 189, 190, 191, 192, 193, 175, 176, 177, 178, 171, 172, 257, 260, 261, 263, 264, 225, 226, 90, 230, 231, 232, 233, 228, 266, 267, 268, 269, 270, 271, 272, 241, 242, 91, 246, 247, 248, 244, 273, 163, 164, 341, 303, 304, 343, 305, 345, 346, 347, 348, 350, 352, 354, 305, 307, 92, 311, 309, 157, 158, 397, 344, 398, 342, 399, 258, 400, 255, 401, 376, 377, 93, 381, 382, 383, 384, 385, 379, 402, 403, 404, 405, 152, 148, 150, 324, 326, 328, 330, 332, 334, 336, 338, 357, 359, 361, 363, 365, 367, 369, 371, 373, 406, 408, 410, 412, 414, 416, 418, 420, 422, 424, 387, 389, 391, 393, 194, 196, 198, 200, 202, 204, 206, 208, 210, 212, 214, 216, 218, 220, 234, 236, 238, 274, 276, 278, 280, 282, 284, 286, 288, 290, 292, 294, 296, 298, 300, 249, 251] rfl (by decide +kernel) (by decide +kernel)
set_option maxRecDepth 100000 in
theorem gl_c_M_init : GoodIn lw_tbl (w_c_M_init) := goodIn_q (big := lw_tbl) (.code yX19_init cX19_init 5 none :: wb_c_M_init) [1610, 128, 133, 136, 139, 1618, 1623, 649, 653, 657, 661, 580] [1611, 127, 1612, 130, 86, 140, 84, 137, 138, 145, 85, 134, 135, 141, 143, 1613, 132, 1636, 1638, 1639, 1641, 223, 1614, 1615, 95, 1619, 1624, 1625, 1627, 1621, 1622, 1616, 1617, 147, 146, 144, 708, 579, 97, 709, 658, 660, 6, 654, 656, 5, 650, 652, 4, 1634, 647, 648, 152, 148, 150, 1629, 1631, 1643, 1645, 1647, 1649, 1651] rfl (by decide +kernel) (by decide +kernel)
set_option maxHeartbeats 4000000 in
set_option maxRecDepth 100000 in
theorem whole_start {p : Program} {e : Env} {s : State} {m : MethodId} {below : List Frame} {meth : Method} {c : Code} (l : Launch) (hflags : l.flags = flags0) {b L : Nat} {xs : Nat → Int32} (hL : L ≤ 7) (C0 : lw_At p s m meth c b L xs) : W p l e room_1 s m #[Value.ref b] below meth c s.heap [] 0 0 (lw_Z below #[Value.ref b] s) (entryFrame m ([Value.ref b] : List Value).toArray 9) := by
  obtain ⟨hx, hb, hr, hml, hown, hts, hX, hbl, hlocks, hgv⟩ := id C0
  have hfl := hflags
  obtain ⟨eD, eI, ad, hE⟩ := z_env hts hgv
  generalize hAe : (fun q : Nat => s.heap.size ≤ q) = A at hE
  have hA : ∀ q : Nat, s.heap.size ≤ q → A q := fun q h => by rw [← hAe]; exact h
  have hAs : ∀ q : Nat, A q → s.heap.size ≤ q := fun q h => by rw [← hAe] at h; exact h
  have hbA : ¬ A b := fun h => Nat.not_le.mpr hbl (hAs b h)
  have in_RJ6 := zin_RJ6
  obtain ⟨cc0, ii0, hKn0⟩ := u_known (C := RJ6) (T := TJ6) (N := 1) (n := 1) hts in_RJ6 (hts (.instantiable RJ6 1) (List.mem_of_getElem? (i := 1956) (by decide +kernel)))
  have in_RJx4a65c := zin_RJx4a65c
  obtain ⟨cc1, ii1, hKn1⟩ := u_known (C := RJx4a65c) (T := TJx4a65c) (N := 3) (n := 3) hts in_RJx4a65c (hts (.instantiable RJx4a65c 3) (List.mem_of_getElem? (i := 130) (by decide +kernel)))
  have in_RX0 := zin_RX0
  obtain ⟨cc2, ii2, hKn2⟩ := u_known (C := RX0) (T := TX0) (N := 8) (n := 8) hts in_RX0 (hts (.instantiable RX0 8) (List.mem_of_getElem? (i := 307) (by decide +kernel)))
  have in_RX1 := zin_RX1
  obtain ⟨cc3, ii3, hKn3⟩ := u_known (C := RX1) (T := TX1) (N := 9) (n := 9) hts in_RX1 (hts (.instantiable RX1 9) (List.mem_of_getElem? (i := 156) (by decide +kernel)))
  have in_RX2 := zin_RX2
  obtain ⟨cc4, ii4, hKn4⟩ := u_known (C := RX2) (T := TX2) (N := 15) (n := 15) hts in_RX2 (hts (.instantiable RX2 15) (List.mem_of_getElem? (i := 1370) (by decide +kernel)))
  have in_RX3 := zin_RX3
  obtain ⟨cc5, ii5, hKn5⟩ := u_known (C := RX3) (T := TX3) (N := 4) (n := 4) hts in_RX3 (hts (.instantiable RX3 4) (List.mem_of_getElem? (i := 377) (by decide +kernel)))
  have in_RX4 := zin_RX4
  obtain ⟨cc6, ii6, hKn6⟩ := u_known (C := RX4) (T := TX4) (N := 7) (n := 7) hts in_RX4 (hts (.instantiable RX4 7) (List.mem_of_getElem? (i := 1319) (by decide +kernel)))
  have in_RX5 := zin_RX5
  obtain ⟨cc7, ii7, hKn7⟩ := u_known (C := RX5) (T := TX5) (N := 14) (n := 14) hts in_RX5 (hts (.instantiable RX5 14) (List.mem_of_getElem? (i := 170) (by decide +kernel)))
  have in_RX6 := zin_RX6
  obtain ⟨cc8, ii8, hKn8⟩ := u_known (C := RX6) (T := TX6) (N := 3) (n := 3) hts in_RX6 (hts (.instantiable RX6 3) (List.mem_of_getElem? (i := 226) (by decide +kernel)))
  have in_RX7 := zin_RX7
  obtain ⟨cc9, ii9, hKn9⟩ := u_known (C := RX7) (T := TX7) (N := 14) (n := 14) hts in_RX7 (hts (.instantiable RX7 14) (List.mem_of_getElem? (i := 162) (by decide +kernel)))
  have in_RX8 := zin_RX8
  obtain ⟨cc10, ii10, hKn10⟩ := u_known (C := RX8) (T := TX8) (N := 2) (n := 2) hts in_RX8 (hts (.instantiable RX8 2) (List.mem_of_getElem? (i := 242) (by decide +kernel)))
  have in_RX9 := zin_RX9
  obtain ⟨cc11, ii11, hKn11⟩ := u_known (C := RX9) (T := TX9) (N := 9) (n := 9) hts in_RX9 (hts (.instantiable RX9 9) (List.mem_of_getElem? (i := 1123) (by decide +kernel)))
  have in_RX10 := zin_RX10
  obtain ⟨cc12, ii12, hKn12⟩ := u_known (C := RX10) (T := TX10) (N := 14) (n := 14) hts in_RX10 (hts (.instantiable RX10 14) (List.mem_of_getElem? (i := 594) (by decide +kernel)))
  have in_RX11 := zin_RX11
  obtain ⟨cc13, ii13, hKn13⟩ := u_known (C := RX11) (T := TX11) (N := 10) (n := 10) hts in_RX11 (hts (.instantiable RX11 10) (List.mem_of_getElem? (i := 122) (by decide +kernel)))
  have in_RX12 := zin_RX12
  obtain ⟨cc14, ii14, hKn14⟩ := u_known (C := RX12) (T := TX12) (N := 5) (n := 5) hts in_RX12 (hts (.instantiable RX12 5) (List.mem_of_getElem? (i := 1800) (by decide +kernel)))
  have in_RX13 := zin_RX13
  obtain ⟨cc15, ii15, hKn15⟩ := u_known (C := RX13) (T := TX13) (N := 5) (n := 5) hts in_RX13 (hts (.instantiable RX13 5) (List.mem_of_getElem? (i := 1761) (by decide +kernel)))
  have in_RX14 := zin_RX14
  obtain ⟨cc16, ii16, hKn16⟩ := u_known (C := RX14) (T := TX14) (N := 2) (n := 2) hts in_RX14 (hts (.instantiable RX14 2) (List.mem_of_getElem? (i := 1676) (by decide +kernel)))
  have in_RX15 := zin_RX15
  obtain ⟨cc17, ii17, hKn17⟩ := u_known (C := RX15) (T := TX15) (N := 5) (n := 5) hts in_RX15 (hts (.instantiable RX15 5) (List.mem_of_getElem? (i := 2066) (by decide +kernel)))
  have in_RX16 := zin_RX16
  obtain ⟨cc18, ii18, hKn18⟩ := u_known (C := RX16) (T := TX16) (N := 2) (n := 2) hts in_RX16 (hts (.instantiable RX16 2) (List.mem_of_getElem? (i := 1615) (by decide +kernel)))
  have in_RX17 := zin_RX17
  obtain ⟨cc19, ii19, hKn19⟩ := u_known (C := RX17) (T := TX17) (N := 5) (n := 5) hts in_RX17 (hts (.instantiable RX17 5) (List.mem_of_getElem? (i := 1872) (by decide +kernel)))
  have in_RX18 := zin_RX18
  obtain ⟨cc20, ii20, hKn20⟩ := u_known (C := RX18) (T := TX18) (N := 7) (n := 7) hts in_RX18 (hts (.instantiable RX18 7) (List.mem_of_getElem? (i := 2012) (by decide +kernel)))
  have in_RX19 := zin_RX19
  obtain ⟨cc21, ii21, hKn21⟩ := u_known (C := RX19) (T := TX19) (N := 5) (n := 5) hts in_RX19 (hts (.instantiable RX19 5) (List.mem_of_getElem? (i := 1607) (by decide +kernel)))
  obtain ⟨dC, dI, hKc⟩ : ∃ (dC : Nat → ClassId) (dI : Nat → Nat → Nat), ∀ (k : Nat) (q : vw_C), vwCl[k]? = some q → u_Kn s q.1 q.2.1 q.2.2 (dC k) (dI k) := by
    refine ⟨fun k => match k with | 0 => cc0 | 1 => cc1 | 2 => cc2 | 3 => cc3 | 4 => cc4 | 5 => cc5 | 6 => cc6 | 7 => cc7 | 8 => cc8 | 9 => cc9 | 10 => cc10 | 11 => cc11 | 12 => cc12 | 13 => cc13 | 14 => cc14 | 15 => cc15 | 16 => cc16 | 17 => cc17 | 18 => cc18 | 19 => cc19 | 20 => cc20 | 21 => cc21 | _ => cc0, fun k => match k with | 0 => ii0 | 1 => ii1 | 2 => ii2 | 3 => ii3 | 4 => ii4 | 5 => ii5 | 6 => ii6 | 7 => ii7 | 8 => ii8 | 9 => ii9 | 10 => ii10 | 11 => ii11 | 12 => ii12 | 13 => ii13 | 14 => ii14 | 15 => ii15 | 16 => ii16 | 17 => ii17 | 18 => ii18 | 19 => ii19 | 20 => ii20 | 21 => ii21 | _ => ii0, ?_⟩
    intro k q hq
    match k, hq with
    | 0, hq => cases hq; exact hKn0
    | 1, hq => cases hq; exact hKn1
    | 2, hq => cases hq; exact hKn2
    | 3, hq => cases hq; exact hKn3
    | 4, hq => cases hq; exact hKn4
    | 5, hq => cases hq; exact hKn5
    | 6, hq => cases hq; exact hKn6
    | 7, hq => cases hq; exact hKn7
    | 8, hq => cases hq; exact hKn8
    | 9, hq => cases hq; exact hKn9
    | 10, hq => cases hq; exact hKn10
    | 11, hq => cases hq; exact hKn11
    | 12, hq => cases hq; exact hKn12
    | 13, hq => cases hq; exact hKn13
    | 14, hq => cases hq; exact hKn14
    | 15, hq => cases hq; exact hKn15
    | 16, hq => cases hq; exact hKn16
    | 17, hq => cases hq; exact hKn17
    | 18, hq => cases hq; exact hKn18
    | 19, hq => cases hq; exact hKn19
    | 20, hq => cases hq; exact hKn20
    | 21, hq => cases hq; exact hKn21
    | k + 22, hq => simp [vwCl] at hq
  have hS : va_S A s.heap s.heap [] := va_S.rf
  have hK : va_K (dC, dI) vwCl [] s := ⟨hKc, fun k q h => by simp at h⟩
  have hP : va_P (dC, dI) vwCl [] s.heap := fun k q h => by simp at h
  have hD : va_D A [] := ⟨fun i j p q h => by simp at h, fun k q h => by simp at h⟩
  have hl := lv_entry ([.ref b]) (n := 9) (Nat.le_of_ble_eq_true rfl)
  rw [lg_entry_eq]
  generalize (lg_sl ([.ref b]) ++ List.replicate (9 - (lg_sl ([.ref b])).length) Slot.unset).toArray = ls at hl ⊢
  have hl : lv_has ls 9 [(0, .ref b)] := hl
  suffices K9 : ∀ (H : Heap) (locs : List Loc), va_S A s.heap H locs → va_P (dC, dI) vwCl [] H → W p l e room_1 s m #[Value.ref b] below meth c H locs 0 0 (lw_Z below #[Value.ref b] s) (F0 m 0 ls []) from K9 s.heap [] hS hP
  clear hS hP
  intro H locs hS hP
  refine va_new (ci := 13) (fs := [.null, .null, .null, .null, .null, .null, .null, .null, .int 0, .int 0]) (C := RX11) (T := TX11) (N := 10) hx hb hts in_RX11 tyX11 tyX11_ok hown (hts (.classLink RL 8 RX11) (List.mem_of_getElem? (i := 121) (by decide +kernel))) (hts (.instantiable RX11 10) (List.mem_of_getElem? (i := 122) (by decide +kernel))) (hts (.initialized RX11) (List.mem_of_getElem? (i := 83) (by decide +kernel))) hK hP hD hS hA rfl (fun j hj => by rcases (show j = 0 ∨ j = 1 ∨ j = 2 ∨ j = 3 ∨ j = 4 ∨ j = 5 ∨ j = 6 ∨ j = 7 ∨ j = 8 ∨ j = 9 by omega) with rfl | rfl | rfl | rfl | rfl | rfl | rfl | rfl | rfl | rfl <;> rfl) (Nat.le_of_ble_eq_true rfl) (Nat.le_of_ble_eq_true rfl) dL_law_0 (fun q_1 H hP hD hS => ?_)
  have hP : va_P (dC, dI) vwCl [(q_1, .inr (13, [.null, .null, .null, .null, .null, .null, .null, .null, .int 0, .int 0]))] H := hP
  have hD : va_D A [(q_1, .inr (13, [.null, .null, .null, .null, .null, .null, .null, .null, .int 0, .int 0]))] := hD
  refine lv_dup hx hb dL_law_3 rfl ?_
  refine z_v (wr := []) (va_runI (As := []) (rest := [.ref q_1]) ⟨hx, hb, hml, hown, hts⟩ (c_Hornbook_init l eD eI ad dC dI H.size q_1) (cwI 0 hts gl_c_Hornbook_init rfl rfl rfl (hts (.initialized RX11) (List.mem_of_getElem? (i := 83) (by decide +kernel))) (hts (.methodLink RL 103 yX11_init) (List.mem_of_getElem? (i := 123) (by decide +kernel))) (hts (.instanceMethod yX11_init) (List.mem_of_getElem? (i := 124) (by decide +kernel))) rfl (by decide +kernel) ⟨Nat.le_of_ble_eq_true rfl, Nat.le_of_ble_eq_true rfl⟩) (z_preS (wc := [(q_1, .inr (13, [.null, .null, .null, .null, .null, .null, .null, .null, .int 0, .int 0]))]) hP hD hK hS hA hE [0] [] rfl (by decide) rfl) rfl rfl hl.1 rfl (lv_room (Nat.le_of_ble_eq_true rfl)) dL_law_4 ⟨Nat.le_of_ble_eq_true rfl, Nat.le_of_ble_eq_true rfl⟩) hP hD hK hS hA [0] [] rfl rfl (by decide) (by decide) (fun u H locs hw_41 hP hD hK hS => ?_)
  obtain ⟨u_2, u_3, u_4, u_5, u_6, u_7, u_8, u_9, u_10, u_11, u_12, u_13, u_14, u_15, u_16, u_17, u_18, u_19, u_20, u_21, u_22, u_23, u_24, u_25, u_26, u_27, u_28, u_29, u_30, u_31, u_32, u_33, u_34, u_35, u_36, u_37, u_38, u_39⟩ := u
  have hP : va_P (dC, dI) vwCl [(q_1, .inr (13, [.ref u_2, .ref u_3, .ref u_10, .ref u_9, .ref u_14, .ref u_13, .ref u_4, .ref u_5, .int 0, .int 1])), (u_3, .inr (3, [.ref u_9, .ref u_10, .ref u_11, .ref u_12, .int 0, .int (-1), .int 0, .int 0, .null])), (u_9, .inr (9, [.ref u_13, .ref u_14, .ref u_15, .int 3, .ref u_16, .int 0, .ref u_17, .ref u_18, .int 0, .int 0, .int (-1), .int 0, .int 0, .ref u_19])), (u_13, .inr (1, [.int 0, .ref eD, .int 0])), (u_18, .inr (1, [.int 0, .ref eD, .int 0])), (u_15, .inl (u_20, 60, .inl zTold)), (u_14, .inr (7, [.ref u_21, .ref u_22, .ref u_23, .ref u_24, .ref u_25, .ref u_26, .ref u_27, .ref u_28, .ref u_29, .int 16, .int 0, .int 16, .int 0, .int 0])), (u_21, .inl (u_30, 12, .inl (fun _ => 0))), (u_22, .inl (u_31, 12, .inl (fun _ => 0))), (u_23, .inl (u_32, 12, .inl (fun _ => 0))), (u_24, .inl (u_33, 12, .inl (fun _ => 0))), (u_25, .inl (u_34, 1024, .inr (.inl zFir))), (u_26, .inl (u_35, 1024, .inr (.inl zSec))), (u_17, .inr (8, [.ref u_36, .int 0, .int 0])), (u_36, .inl (u_37, 512, .inr (.inl (fun _ => 0)))), (u_19, .inr (10, [.ref u_38, .int 0])), (u_38, .inl (u_39, 0, .inr (.inl (fun _ => 0)))), (u_10, .inr (1, [.int 0, .ref eD, .int 0])), (u_2, .inr (1, [.int 0, .ref eD, .int 0])), (u_4, .inr (5, [.ref u_6, .ref u_7, .ref u_8, .int 0]))] H := hP
  have hD : va_D A [(q_1, .inr (13, [.ref u_2, .ref u_3, .ref u_10, .ref u_9, .ref u_14, .ref u_13, .ref u_4, .ref u_5, .int 0, .int 1])), (u_3, .inr (3, [.ref u_9, .ref u_10, .ref u_11, .ref u_12, .int 0, .int (-1), .int 0, .int 0, .null])), (u_9, .inr (9, [.ref u_13, .ref u_14, .ref u_15, .int 3, .ref u_16, .int 0, .ref u_17, .ref u_18, .int 0, .int 0, .int (-1), .int 0, .int 0, .ref u_19])), (u_13, .inr (1, [.int 0, .ref eD, .int 0])), (u_18, .inr (1, [.int 0, .ref eD, .int 0])), (u_15, .inl (u_20, 60, .inl zTold)), (u_14, .inr (7, [.ref u_21, .ref u_22, .ref u_23, .ref u_24, .ref u_25, .ref u_26, .ref u_27, .ref u_28, .ref u_29, .int 16, .int 0, .int 16, .int 0, .int 0])), (u_21, .inl (u_30, 12, .inl (fun _ => 0))), (u_22, .inl (u_31, 12, .inl (fun _ => 0))), (u_23, .inl (u_32, 12, .inl (fun _ => 0))), (u_24, .inl (u_33, 12, .inl (fun _ => 0))), (u_25, .inl (u_34, 1024, .inr (.inl zFir))), (u_26, .inl (u_35, 1024, .inr (.inl zSec))), (u_17, .inr (8, [.ref u_36, .int 0, .int 0])), (u_36, .inl (u_37, 512, .inr (.inl (fun _ => 0)))), (u_19, .inr (10, [.ref u_38, .int 0])), (u_38, .inl (u_39, 0, .inr (.inl (fun _ => 0)))), (u_10, .inr (1, [.int 0, .ref eD, .int 0])), (u_2, .inr (1, [.int 0, .ref eD, .int 0])), (u_4, .inr (5, [.ref u_6, .ref u_7, .ref u_8, .int 0]))] := hD
  have hK : va_K (dC, dI) vwCl [(u_20, .int), (u_30, .int), (u_31, .int), (u_32, .int), (u_33, .int), (u_34, .long), (u_35, .long), (u_37, .long), (u_39, .long)] s := hK
  refine lv_astore_n (lv' := [(1, .ref q_1), (0, .ref b)]) hx hb dL_law_7 rfl hl (by decide) rfl (fun ls hl => ?_)
  refine va_new (ci := 21) (fs := [.int 0, .null, .null, .null, .null]) (C := RX19) (T := TX19) (N := 5) hx hb hts in_RX19 tyX19 tyX19_ok hown (hts (.classLink RL 104 RX19) (List.mem_of_getElem? (i := 1606) (by decide +kernel))) (hts (.instantiable RX19 5) (List.mem_of_getElem? (i := 1607) (by decide +kernel))) (hts (.initialized RX19) (List.mem_of_getElem? (i := 94) (by decide +kernel))) hK hP hD hS hA rfl (fun j hj => by rcases (show j = 0 ∨ j = 1 ∨ j = 2 ∨ j = 3 ∨ j = 4 by omega) with rfl | rfl | rfl | rfl | rfl <;> rfl) (Nat.le_of_ble_eq_true rfl) (Nat.le_of_ble_eq_true rfl) dL_law_8 (fun q_42 H hP hD hS => ?_)
  have hP : va_P (dC, dI) vwCl [(q_1, .inr (13, [.ref u_2, .ref u_3, .ref u_10, .ref u_9, .ref u_14, .ref u_13, .ref u_4, .ref u_5, .int 0, .int 1])), (u_3, .inr (3, [.ref u_9, .ref u_10, .ref u_11, .ref u_12, .int 0, .int (-1), .int 0, .int 0, .null])), (u_9, .inr (9, [.ref u_13, .ref u_14, .ref u_15, .int 3, .ref u_16, .int 0, .ref u_17, .ref u_18, .int 0, .int 0, .int (-1), .int 0, .int 0, .ref u_19])), (u_13, .inr (1, [.int 0, .ref eD, .int 0])), (u_18, .inr (1, [.int 0, .ref eD, .int 0])), (u_15, .inl (u_20, 60, .inl zTold)), (u_14, .inr (7, [.ref u_21, .ref u_22, .ref u_23, .ref u_24, .ref u_25, .ref u_26, .ref u_27, .ref u_28, .ref u_29, .int 16, .int 0, .int 16, .int 0, .int 0])), (u_21, .inl (u_30, 12, .inl (fun _ => 0))), (u_22, .inl (u_31, 12, .inl (fun _ => 0))), (u_23, .inl (u_32, 12, .inl (fun _ => 0))), (u_24, .inl (u_33, 12, .inl (fun _ => 0))), (u_25, .inl (u_34, 1024, .inr (.inl zFir))), (u_26, .inl (u_35, 1024, .inr (.inl zSec))), (u_17, .inr (8, [.ref u_36, .int 0, .int 0])), (u_36, .inl (u_37, 512, .inr (.inl (fun _ => 0)))), (u_19, .inr (10, [.ref u_38, .int 0])), (u_38, .inl (u_39, 0, .inr (.inl (fun _ => 0)))), (u_10, .inr (1, [.int 0, .ref eD, .int 0])), (u_2, .inr (1, [.int 0, .ref eD, .int 0])), (u_4, .inr (5, [.ref u_6, .ref u_7, .ref u_8, .int 0])), (q_42, .inr (21, [.int 0, .null, .null, .null, .null]))] H := hP
  have hD : va_D A [(q_1, .inr (13, [.ref u_2, .ref u_3, .ref u_10, .ref u_9, .ref u_14, .ref u_13, .ref u_4, .ref u_5, .int 0, .int 1])), (u_3, .inr (3, [.ref u_9, .ref u_10, .ref u_11, .ref u_12, .int 0, .int (-1), .int 0, .int 0, .null])), (u_9, .inr (9, [.ref u_13, .ref u_14, .ref u_15, .int 3, .ref u_16, .int 0, .ref u_17, .ref u_18, .int 0, .int 0, .int (-1), .int 0, .int 0, .ref u_19])), (u_13, .inr (1, [.int 0, .ref eD, .int 0])), (u_18, .inr (1, [.int 0, .ref eD, .int 0])), (u_15, .inl (u_20, 60, .inl zTold)), (u_14, .inr (7, [.ref u_21, .ref u_22, .ref u_23, .ref u_24, .ref u_25, .ref u_26, .ref u_27, .ref u_28, .ref u_29, .int 16, .int 0, .int 16, .int 0, .int 0])), (u_21, .inl (u_30, 12, .inl (fun _ => 0))), (u_22, .inl (u_31, 12, .inl (fun _ => 0))), (u_23, .inl (u_32, 12, .inl (fun _ => 0))), (u_24, .inl (u_33, 12, .inl (fun _ => 0))), (u_25, .inl (u_34, 1024, .inr (.inl zFir))), (u_26, .inl (u_35, 1024, .inr (.inl zSec))), (u_17, .inr (8, [.ref u_36, .int 0, .int 0])), (u_36, .inl (u_37, 512, .inr (.inl (fun _ => 0)))), (u_19, .inr (10, [.ref u_38, .int 0])), (u_38, .inl (u_39, 0, .inr (.inl (fun _ => 0)))), (u_10, .inr (1, [.int 0, .ref eD, .int 0])), (u_2, .inr (1, [.int 0, .ref eD, .int 0])), (u_4, .inr (5, [.ref u_6, .ref u_7, .ref u_8, .int 0])), (q_42, .inr (21, [.int 0, .null, .null, .null, .null]))] := hD
  refine lv_dup hx hb dL_law_11 rfl ?_
  refine z_v (wr := [(q_1, .inr (13, [.ref u_2, .ref u_3, .ref u_10, .ref u_9, .ref u_14, .ref u_13, .ref u_4, .ref u_5, .int 0, .int 1])), (u_3, .inr (3, [.ref u_9, .ref u_10, .ref u_11, .ref u_12, .int 0, .int (-1), .int 0, .int 0, .null])), (u_9, .inr (9, [.ref u_13, .ref u_14, .ref u_15, .int 3, .ref u_16, .int 0, .ref u_17, .ref u_18, .int 0, .int 0, .int (-1), .int 0, .int 0, .ref u_19])), (u_13, .inr (1, [.int 0, .ref eD, .int 0])), (u_18, .inr (1, [.int 0, .ref eD, .int 0])), (u_15, .inl (u_20, 60, .inl zTold)), (u_14, .inr (7, [.ref u_21, .ref u_22, .ref u_23, .ref u_24, .ref u_25, .ref u_26, .ref u_27, .ref u_28, .ref u_29, .int 16, .int 0, .int 16, .int 0, .int 0])), (u_21, .inl (u_30, 12, .inl (fun _ => 0))), (u_22, .inl (u_31, 12, .inl (fun _ => 0))), (u_23, .inl (u_32, 12, .inl (fun _ => 0))), (u_24, .inl (u_33, 12, .inl (fun _ => 0))), (u_25, .inl (u_34, 1024, .inr (.inl zFir))), (u_26, .inl (u_35, 1024, .inr (.inl zSec))), (u_17, .inr (8, [.ref u_36, .int 0, .int 0])), (u_36, .inl (u_37, 512, .inr (.inl (fun _ => 0)))), (u_19, .inr (10, [.ref u_38, .int 0])), (u_38, .inl (u_39, 0, .inr (.inl (fun _ => 0)))), (u_10, .inr (1, [.int 0, .ref eD, .int 0])), (u_2, .inr (1, [.int 0, .ref eD, .int 0])), (u_4, .inr (5, [.ref u_6, .ref u_7, .ref u_8, .int 0]))]) (va_runI (As := []) (rest := [.ref q_42]) ⟨hx, hb, hml, hown, hts⟩ (c_M_init l eD eI ad dC dI H.size q_42) (cwI 0 hts gl_c_M_init rfl rfl rfl (hts (.initialized RX19) (List.mem_of_getElem? (i := 94) (by decide +kernel))) (hts (.methodLink RL 106 yX19_init) (List.mem_of_getElem? (i := 1608) (by decide +kernel))) (hts (.instanceMethod yX19_init) (List.mem_of_getElem? (i := 1609) (by decide +kernel))) rfl (by decide +kernel) ⟨Nat.le_of_ble_eq_true rfl, Nat.le_of_ble_eq_true rfl⟩) (z_preS (wc := [(q_42, .inr (21, [.int 0, .null, .null, .null, .null]))]) hP hD hK hS hA hE [20] [] rfl (by decide) rfl) rfl rfl hl.1 rfl (lv_room (Nat.le_of_ble_eq_true rfl)) dL_law_12 ⟨Nat.le_of_ble_eq_true rfl, Nat.le_of_ble_eq_true rfl⟩) hP hD hK hS hA [20] [0, 1, 2, 3, 4, 5, 6, 7, 8, 9, 10, 11, 12, 13, 14, 15, 16, 17, 18, 19] rfl rfl (by decide) (by decide) (fun u H locs hw_60 hP hD hK hS => ?_)
  obtain ⟨u_43, u_44, u_45, u_46, u_47, u_48, u_49, u_50, u_51, u_52, u_53, u_54, u_55, u_56, u_57, u_58⟩ := u
  have hP : va_P (dC, dI) vwCl [(q_1, .inr (13, [.ref u_2, .ref u_3, .ref u_10, .ref u_9, .ref u_14, .ref u_13, .ref u_4, .ref u_5, .int 0, .int 1])), (u_3, .inr (3, [.ref u_9, .ref u_10, .ref u_11, .ref u_12, .int 0, .int (-1), .int 0, .int 0, .null])), (u_9, .inr (9, [.ref u_13, .ref u_14, .ref u_15, .int 3, .ref u_16, .int 0, .ref u_17, .ref u_18, .int 0, .int 0, .int (-1), .int 0, .int 0, .ref u_19])), (u_13, .inr (1, [.int 0, .ref eD, .int 0])), (u_18, .inr (1, [.int 0, .ref eD, .int 0])), (u_15, .inl (u_20, 60, .inl zTold)), (u_14, .inr (7, [.ref u_21, .ref u_22, .ref u_23, .ref u_24, .ref u_25, .ref u_26, .ref u_27, .ref u_28, .ref u_29, .int 16, .int 0, .int 16, .int 0, .int 0])), (u_21, .inl (u_30, 12, .inl (fun _ => 0))), (u_22, .inl (u_31, 12, .inl (fun _ => 0))), (u_23, .inl (u_32, 12, .inl (fun _ => 0))), (u_24, .inl (u_33, 12, .inl (fun _ => 0))), (u_25, .inl (u_34, 1024, .inr (.inl zFir))), (u_26, .inl (u_35, 1024, .inr (.inl zSec))), (u_17, .inr (8, [.ref u_36, .int 0, .int 0])), (u_36, .inl (u_37, 512, .inr (.inl (fun _ => 0)))), (u_19, .inr (10, [.ref u_38, .int 0])), (u_38, .inl (u_39, 0, .inr (.inl (fun _ => 0)))), (u_10, .inr (1, [.int 0, .ref eD, .int 0])), (u_2, .inr (1, [.int 0, .ref eD, .int 0])), (u_4, .inr (5, [.ref u_6, .ref u_7, .ref u_8, .int 0])), (q_42, .inr (21, [.int 0, .ref u_43, .ref u_44, .ref u_45, .ref u_46])), (u_43, .inr (1, [.int 0, .ref eD, .int 0])), (u_44, .inr (1, [.int u_55, .ref u_47, .int 3])), (u_45, .inr (1, [.int 0, .ref eD, .int 0])), (u_46, .inr (1, [.int 0, .ref eD, .int 0])), (u_47, .inl (u_48, 10, .inr (.inr (.inr (.inr (zfT u_49 u_50 u_51)))))), (u_49, .inr (18, [.int (-1), .ref u_52])), (u_50, .inr (18, [.int (-2), .ref u_53])), (u_51, .inr (18, [.int (-3), .ref u_54])), (u_52, .inl (u_56, 0, .inr (.inr (.inr (.inr (fun _ => none)))))), (u_53, .inl (u_57, 0, .inr (.inr (.inr (.inr (fun _ => none)))))), (u_54, .inl (u_58, 0, .inr (.inr (.inr (.inr (fun _ => none))))))] H := hP
  have hD : va_D A [(q_1, .inr (13, [.ref u_2, .ref u_3, .ref u_10, .ref u_9, .ref u_14, .ref u_13, .ref u_4, .ref u_5, .int 0, .int 1])), (u_3, .inr (3, [.ref u_9, .ref u_10, .ref u_11, .ref u_12, .int 0, .int (-1), .int 0, .int 0, .null])), (u_9, .inr (9, [.ref u_13, .ref u_14, .ref u_15, .int 3, .ref u_16, .int 0, .ref u_17, .ref u_18, .int 0, .int 0, .int (-1), .int 0, .int 0, .ref u_19])), (u_13, .inr (1, [.int 0, .ref eD, .int 0])), (u_18, .inr (1, [.int 0, .ref eD, .int 0])), (u_15, .inl (u_20, 60, .inl zTold)), (u_14, .inr (7, [.ref u_21, .ref u_22, .ref u_23, .ref u_24, .ref u_25, .ref u_26, .ref u_27, .ref u_28, .ref u_29, .int 16, .int 0, .int 16, .int 0, .int 0])), (u_21, .inl (u_30, 12, .inl (fun _ => 0))), (u_22, .inl (u_31, 12, .inl (fun _ => 0))), (u_23, .inl (u_32, 12, .inl (fun _ => 0))), (u_24, .inl (u_33, 12, .inl (fun _ => 0))), (u_25, .inl (u_34, 1024, .inr (.inl zFir))), (u_26, .inl (u_35, 1024, .inr (.inl zSec))), (u_17, .inr (8, [.ref u_36, .int 0, .int 0])), (u_36, .inl (u_37, 512, .inr (.inl (fun _ => 0)))), (u_19, .inr (10, [.ref u_38, .int 0])), (u_38, .inl (u_39, 0, .inr (.inl (fun _ => 0)))), (u_10, .inr (1, [.int 0, .ref eD, .int 0])), (u_2, .inr (1, [.int 0, .ref eD, .int 0])), (u_4, .inr (5, [.ref u_6, .ref u_7, .ref u_8, .int 0])), (q_42, .inr (21, [.int 0, .ref u_43, .ref u_44, .ref u_45, .ref u_46])), (u_43, .inr (1, [.int 0, .ref eD, .int 0])), (u_44, .inr (1, [.int u_55, .ref u_47, .int 3])), (u_45, .inr (1, [.int 0, .ref eD, .int 0])), (u_46, .inr (1, [.int 0, .ref eD, .int 0])), (u_47, .inl (u_48, 10, .inr (.inr (.inr (.inr (zfT u_49 u_50 u_51)))))), (u_49, .inr (18, [.int (-1), .ref u_52])), (u_50, .inr (18, [.int (-2), .ref u_53])), (u_51, .inr (18, [.int (-3), .ref u_54])), (u_52, .inl (u_56, 0, .inr (.inr (.inr (.inr (fun _ => none)))))), (u_53, .inl (u_57, 0, .inr (.inr (.inr (.inr (fun _ => none)))))), (u_54, .inl (u_58, 0, .inr (.inr (.inr (.inr (fun _ => none))))))] := hD
  have hK : va_K (dC, dI) vwCl [(u_20, .int), (u_30, .int), (u_31, .int), (u_32, .int), (u_33, .int), (u_34, .long), (u_35, .long), (u_37, .long), (u_39, .long), (u_48, .object "java/lang/Object"), (u_56, .object "HornbookModel$Tree"), (u_57, .object "HornbookModel$Tree"), (u_58, .object "HornbookModel$Tree")] s := hK
  refine lv_astore_n (lv' := [(2, .ref q_42), (1, .ref q_1), (0, .ref b)]) hx hb dL_law_15 rfl hl (by decide) rfl (fun ls hl => ?_)
  refine lv_iconst (v := 1) hx hb dL_law_16 (by decide) ?_
  refine va_newa (atype := .long) (ty := .long) (a0 := (1, .inr (.inl (fun _ => 0)))) hx hb (hts (.arrayClass .long) (List.mem_of_getElem? (i := 224) (by decide +kernel))) rfl hK hP hD hS hA (fun _ => rfl) (by decide) (by decide) (Nat.le_of_ble_eq_true rfl) (Nat.le_of_ble_eq_true rfl) (Nat.le_of_ble_eq_true rfl) dL_law_17 (fun q_61 k_62 H hK hP hD hS => ?_)
  have hP : va_P (dC, dI) vwCl [(q_1, .inr (13, [.ref u_2, .ref u_3, .ref u_10, .ref u_9, .ref u_14, .ref u_13, .ref u_4, .ref u_5, .int 0, .int 1])), (u_3, .inr (3, [.ref u_9, .ref u_10, .ref u_11, .ref u_12, .int 0, .int (-1), .int 0, .int 0, .null])), (u_9, .inr (9, [.ref u_13, .ref u_14, .ref u_15, .int 3, .ref u_16, .int 0, .ref u_17, .ref u_18, .int 0, .int 0, .int (-1), .int 0, .int 0, .ref u_19])), (u_13, .inr (1, [.int 0, .ref eD, .int 0])), (u_18, .inr (1, [.int 0, .ref eD, .int 0])), (u_15, .inl (u_20, 60, .inl zTold)), (u_14, .inr (7, [.ref u_21, .ref u_22, .ref u_23, .ref u_24, .ref u_25, .ref u_26, .ref u_27, .ref u_28, .ref u_29, .int 16, .int 0, .int 16, .int 0, .int 0])), (u_21, .inl (u_30, 12, .inl (fun _ => 0))), (u_22, .inl (u_31, 12, .inl (fun _ => 0))), (u_23, .inl (u_32, 12, .inl (fun _ => 0))), (u_24, .inl (u_33, 12, .inl (fun _ => 0))), (u_25, .inl (u_34, 1024, .inr (.inl zFir))), (u_26, .inl (u_35, 1024, .inr (.inl zSec))), (u_17, .inr (8, [.ref u_36, .int 0, .int 0])), (u_36, .inl (u_37, 512, .inr (.inl (fun _ => 0)))), (u_19, .inr (10, [.ref u_38, .int 0])), (u_38, .inl (u_39, 0, .inr (.inl (fun _ => 0)))), (u_10, .inr (1, [.int 0, .ref eD, .int 0])), (u_2, .inr (1, [.int 0, .ref eD, .int 0])), (u_4, .inr (5, [.ref u_6, .ref u_7, .ref u_8, .int 0])), (q_42, .inr (21, [.int 0, .ref u_43, .ref u_44, .ref u_45, .ref u_46])), (u_43, .inr (1, [.int 0, .ref eD, .int 0])), (u_44, .inr (1, [.int u_55, .ref u_47, .int 3])), (u_45, .inr (1, [.int 0, .ref eD, .int 0])), (u_46, .inr (1, [.int 0, .ref eD, .int 0])), (u_47, .inl (u_48, 10, .inr (.inr (.inr (.inr (zfT u_49 u_50 u_51)))))), (u_49, .inr (18, [.int (-1), .ref u_52])), (u_50, .inr (18, [.int (-2), .ref u_53])), (u_51, .inr (18, [.int (-3), .ref u_54])), (u_52, .inl (u_56, 0, .inr (.inr (.inr (.inr (fun _ => none)))))), (u_53, .inl (u_57, 0, .inr (.inr (.inr (.inr (fun _ => none)))))), (u_54, .inl (u_58, 0, .inr (.inr (.inr (.inr (fun _ => none)))))), (q_61, .inl (k_62, 1, .inr (.inl (fun _ => 0))))] H := hP
  have hD : va_D A [(q_1, .inr (13, [.ref u_2, .ref u_3, .ref u_10, .ref u_9, .ref u_14, .ref u_13, .ref u_4, .ref u_5, .int 0, .int 1])), (u_3, .inr (3, [.ref u_9, .ref u_10, .ref u_11, .ref u_12, .int 0, .int (-1), .int 0, .int 0, .null])), (u_9, .inr (9, [.ref u_13, .ref u_14, .ref u_15, .int 3, .ref u_16, .int 0, .ref u_17, .ref u_18, .int 0, .int 0, .int (-1), .int 0, .int 0, .ref u_19])), (u_13, .inr (1, [.int 0, .ref eD, .int 0])), (u_18, .inr (1, [.int 0, .ref eD, .int 0])), (u_15, .inl (u_20, 60, .inl zTold)), (u_14, .inr (7, [.ref u_21, .ref u_22, .ref u_23, .ref u_24, .ref u_25, .ref u_26, .ref u_27, .ref u_28, .ref u_29, .int 16, .int 0, .int 16, .int 0, .int 0])), (u_21, .inl (u_30, 12, .inl (fun _ => 0))), (u_22, .inl (u_31, 12, .inl (fun _ => 0))), (u_23, .inl (u_32, 12, .inl (fun _ => 0))), (u_24, .inl (u_33, 12, .inl (fun _ => 0))), (u_25, .inl (u_34, 1024, .inr (.inl zFir))), (u_26, .inl (u_35, 1024, .inr (.inl zSec))), (u_17, .inr (8, [.ref u_36, .int 0, .int 0])), (u_36, .inl (u_37, 512, .inr (.inl (fun _ => 0)))), (u_19, .inr (10, [.ref u_38, .int 0])), (u_38, .inl (u_39, 0, .inr (.inl (fun _ => 0)))), (u_10, .inr (1, [.int 0, .ref eD, .int 0])), (u_2, .inr (1, [.int 0, .ref eD, .int 0])), (u_4, .inr (5, [.ref u_6, .ref u_7, .ref u_8, .int 0])), (q_42, .inr (21, [.int 0, .ref u_43, .ref u_44, .ref u_45, .ref u_46])), (u_43, .inr (1, [.int 0, .ref eD, .int 0])), (u_44, .inr (1, [.int u_55, .ref u_47, .int 3])), (u_45, .inr (1, [.int 0, .ref eD, .int 0])), (u_46, .inr (1, [.int 0, .ref eD, .int 0])), (u_47, .inl (u_48, 10, .inr (.inr (.inr (.inr (zfT u_49 u_50 u_51)))))), (u_49, .inr (18, [.int (-1), .ref u_52])), (u_50, .inr (18, [.int (-2), .ref u_53])), (u_51, .inr (18, [.int (-3), .ref u_54])), (u_52, .inl (u_56, 0, .inr (.inr (.inr (.inr (fun _ => none)))))), (u_53, .inl (u_57, 0, .inr (.inr (.inr (.inr (fun _ => none)))))), (u_54, .inl (u_58, 0, .inr (.inr (.inr (.inr (fun _ => none)))))), (q_61, .inl (k_62, 1, .inr (.inl (fun _ => 0))))] := hD
  have hK : va_K (dC, dI) vwCl [(u_20, .int), (u_30, .int), (u_31, .int), (u_32, .int), (u_33, .int), (u_34, .long), (u_35, .long), (u_37, .long), (u_39, .long), (u_48, .object "java/lang/Object"), (u_56, .object "HornbookModel$Tree"), (u_57, .object "HornbookModel$Tree"), (u_58, .object "HornbookModel$Tree"), (k_62, .long)] s := hK
  refine lv_astore_n (lv' := [(3, .ref q_61), (2, .ref q_42), (1, .ref q_1), (0, .ref b)]) hx hb dL_law_19 rfl hl (by decide) rfl (fun ls hl => ?_)
  refine lv_iconst (v := 0) hx hb dL_law_20 (by decide) ?_
  refine lv_istore (lv' := [(4, .int 0), (3, .ref q_61), (2, .ref q_42), (1, .ref q_1), (0, .ref b)]) hx hb dL_law_21 hl (by decide) rfl (fun ls hl => ?_)
  have h9 : u_20 = u_30 := z_kk hK 0 1 rfl rfl
  subst h9
  have h9 : u_20 = u_31 := z_kk hK 0 2 rfl rfl
  subst h9
  have h9 : u_20 = u_32 := z_kk hK 0 3 rfl rfl
  subst h9
  have h9 : u_20 = u_33 := z_kk hK 0 4 rfl rfl
  subst h9
  have h9 : u_34 = u_35 := z_kk hK 5 6 rfl rfl
  subst h9
  have h9 : u_34 = u_37 := z_kk hK 5 7 rfl rfl
  subst h9
  have h9 : u_34 = u_39 := z_kk hK 5 8 rfl rfl
  subst h9
  have h9 : u_56 = u_57 := z_kk hK 10 11 rfl rfl
  subst h9
  have h9 : u_56 = u_58 := z_kk hK 10 12 rfl rfl
  subst h9
  have h9 : u_34 = k_62 := z_kk hK 5 13 rfl rfl
  subst h9
  rcases Nat.lt_or_ge L 7 with hL7 | hL7
  · exact law_short hL7 hx hb hr hX hbl hbA hlocks hAs hS (lv_sub hl [0, 4] rfl) (Nat.le_of_ble_eq_true rfl) (Nat.le_of_ble_eq_true rfl)
  · have hL9 : L = 7 := Nat.le_antisymm hL hL7
    subst hL9
    have Z : zLaw l p s m meth c b xs A eD eI ad := ⟨hfl, hx, hb, hr, hml, hown, hts, hX, hbl, hbA, hlocks, hE, hA, hAs, fun w hw => va_Nw.of (zDecs_on w hw) (hts w (z_decIn w hw))⟩
    exact law_switch l Z  dC dI q_1 u_2 u_3 u_10 u_9 u_14 u_13 u_4 u_5 u_15 u_16 u_17 u_18 u_19 u_21 u_22 u_23 u_24 u_25 u_26 u_27 u_28 u_29 u_36 u_38 u_11 u_12 u_6 u_7 u_8 q_61 q_42 u_43 u_44 u_45 u_46 u_47 u_49 u_50 u_51 u_52 u_53 u_54 u_20 u_34 u_48 u_56 u_55 (fun _ => 0) (hP.sub [0, 1, 2, 6, 13, 15, 19, 18, 17, 3, 4, 5, 12, 11, 7, 8, 9, 10, 14, 16, 20, 21, 22, 23, 24, 25, 26, 27, 28, 29, 30, 31, 32] rfl) (hD.sub [0, 1, 2, 6, 13, 15, 19, 18, 17, 3, 4, 5, 12, 11, 7, 8, 9, 10, 14, 16, 20, 21, 22, 23, 24, 25, 26, 27, 28, 29, 30, 31, 32] (by decide) rfl) (hK.sub [0, 5, 9, 10] rfl) hS (lv_sub hl [0, 1, 2, 3, 4] rfl)
set_option maxHeartbeats 4000000 in
theorem lw_walk (l : Launch) (hflags : l.flags = flags0) (b : Addr) (xs : List Int32) : MetFree l x (headSpec (Jvm.Cond.code x code maxLocals ret :: tables_1) room_1) (lw_P b xs) (fun _ _ _ _ _ => True) lw_Q := by
  refine MetFree.of_bodyS (code := code) (maxLocals := maxLocals) (ret := ret) (by decide) ?_ ?_
  · intro args s m h hn
    obtain ⟨meth, c, h1, h2, h3, h4, h5, h6, -, -⟩ := Cond.code_spec hn (atoms_spec (ws := Jvm.Cond.code x code maxLocals ret :: tables_1) h _ List.mem_cons_self)
    exact ⟨meth, c, h1, h2, h3, h4, h5, h6⟩
  · intro p e s m args below meth c s₁ B hml0 hP _
    obtain ⟨rfl, hx, hbd, hgv⟩ := hP
    obtain ⟨scr, harrAt, hlist, hof, hsmall⟩ := hx
    obtain ⟨hcb, hkn, -, -⟩ := State.arrayAt?_spec harrAt
    have hown : s.vm.findClass R_law = some m.cls := findClass_of_methodNamed B.named
    have hts0 : ∀ c ∈ (Jvm.Cond.code x code maxLocals ret :: tables_1), c.before #[Value.ref b] s = true := atoms_spec (ws := Jvm.Cond.code x code maxLocals ret :: tables_1) B.pre
    have hts : ∀ w ∈ lw_tbl, w.before #[Value.ref b] s = true := k2_hts_sels lw_privs (fun w hw => hts0 w (List.mem_cons_of_mem _ hw)) lw_privs_ok
    have hml : c.maxLocals = 9 := B.maxLocals_eq (hts0 _ List.mem_cons_self)
    have X₀ : Stand p l e room_1 s m #[Value.ref b] below meth c s₁ [] 0 0 := Stand.of_body B
    have hh0 : s₁.heap = s.heap := by rw [B.state]; rfl
    have hsz : scr.slots.size = xs.length := by rw [← Array.length_toList, hlist, List.length_map]
    have hval : ∀ j : Nat, j < xs.length → scr.slots[j]? = some (.int (xs.getD j 0)) := fun j hj => by
      rw [← Array.getElem?_toList, hlist]
      simp [hj]
    have hbl : b < s.heap.size := (Array.getElem?_eq_some_iff.mp hcb).1
    have hX : va_X b xs.length (fun j => xs.getD j 0) s s.heap := ⟨scr, hcb, hof, hkn, hsz, hval⟩
    have K : W p l e room_1 s m #[Value.ref b] below meth c s₁.heap [] 0 0 (lw_Z below #[Value.ref b] s) (entryFrame m ([Value.ref b] : List Value).toArray 9) := by
      rw [hh0]
      exact whole_start l hflags hbd ⟨B.exec, B.bytes, B.returns, hml, hown, hts, hX, hbl, B.notSynchronized, hgv⟩
    obtain ⟨t, a1, o, b1, b2, b3⟩ := K s₁ rfl X₀
    exact ⟨t, o, a1, b1, b2, b3⟩
theorem lw_pre_spec {args : Array Value} {s : State} (h : (Jvm.Cond.and given_1 narrow_1).before args s = true) (hr : rest_1_c.before args s = true) : ∃ (b : Addr) (xs : List Int32), lw_P b xs args s := by
  have hs := flat_of_before _ h
  have hq := flat_of_before _ hr
  have hc : (Cond.count 1).before args s = true := hs _ (by decide +kernel)
  have harr : (Cond.arrayOf (.arg 0) .int).before args s = true := hs _ (by decide +kernel)
  have hle : (Cond.le (.length (.arg 0)) (.int 7)).before args s = true := hs _ (by decide +kernel)
  have hlen : (Cond.isInt (.length (.arg 0))).before args s = true := hq _ (by decide +kernel)
  have hall : (Cond.all (.arg 0) (.isInt (.elem (.arg 0) (.index 0)))).before args s = true := hq _ (by decide +kernel)
  obtain ⟨b, xs, hb, hx⟩ := State.ints_of_pre rfl harr hlen hall
  have hsm : xs.length < 2 ^ 31 := hx.choose_spec.2.2.2
  have hev : (Term.length (.arg 0)).eval args s none [] s = some (.int xs.length.toInt32) := hx.length_eval hb
  have hv := Cond.le_ints hev (show (Term.int 7).eval args s none [] s = some (.int 7) from rfl)
  have hd : xs.length.toInt32 ≤ 7 := by
    simpa [Cond.before, Cond.holds, hv] using hle
  have hN : xs.length ≤ 7 := (Int32.ofNat_le_ofNat hsm (by decide)).mp (show Int32.ofNat xs.length ≤ Int32.ofNat 7 from hd)
  exact ⟨b, xs, Cond.one_arg hc (show args[0]? = some (.ref b) from hb), hx, hN, h⟩
theorem lw_comes (l : Launch) (hflags : l.flags = flags0) : Comes l x (Jvm.Cond.code x code maxLocals ret :: tables_1) room_1 (fun tb e args s => Calls_1 tb e args s ∧ rest_1 tb e args s ∧ Pre_1 tb e args s)
    (fun _ _ args s o t => lw_Q args s o t) := by
  intro p e ha hc hk s m args below hf hfit hheap happ hpre
  obtain ⟨b, xs, hP⟩ := lw_pre_spec hpre.2.2 hpre.2.1
  obtain ⟨k, o, h1, h2, h3, hQ⟩ := lw_walk l hflags b xs p e ha hc hk s m args below hf ((Spec.applies_iff_loose hf).mp happ).1 hP trivial
  exact ⟨k, o, h1, h2, h3, hQ⟩
theorem lw_frame {s t : State} {o : Outcome} {args : Array Value} (h : State.butDraws s t lw_cs (fun t1 => Framed s o t1 [] 600002 7302232)) :
    State.butDraws s t [Jvm.Choice.named "NaN.bits"] (fun t1 => Framed s o t1 (fieldLocs frame_1_writes args s ++ arrayLocs frame_1_arrays args s ++ staticLocs frame_1_statics s) 600002 7302232) := h
theorem lw_limb (L : Cond) (hL : ∀ (args : Array Value) (s t : State), L.after args s (.returned (some (.int 1))) t = true) :
    ArmFor flags0 classFile x code maxLocals ret World_1 tables_1 room_1 Calls_1 rest_1 Pre_1
      (fun tb e a s o t => postC L tb e a s o t ∧ State.butDraws s t [Jvm.Choice.named "NaN.bits"] (fun t1 => Framed s o t1 (fieldLocs frame_1_writes a s ++ arrayLocs frame_1_arrays a s ++ staticLocs frame_1_statics s) 600002 7302232)) := by
  intro l hflags _ _ p e ha hc hk s m args below hf hfit hheap happ hpre
  obtain ⟨k, o, h1, h2, h3, rfl, hF⟩ := lw_comes l hflags p e ha hc hk s m args below hf hfit hheap happ hpre
  exact ⟨k, _, h1, h2, h3, hL args s _, lw_frame hF⟩
theorem i_vc : Claimed_1_1 ∧ Claimed_1_2 := ⟨lw_limb limb_1_1 (fun args s t => by simp [limb_1_1, Cond.after, Cond.holds, Cond.value]), lw_limb limb_1_2 (fun args s t => Cond.after_iff.mpr (by
  first | (rw [show limb_1_2 = Cond.eq .result (.int 1) from rfl, Cond.eq_ints (x := 1) (y := 1) rfl rfl]; simp; done) | (simp [limb_1_2, Cond.value, Term.eval]; done)))⟩
