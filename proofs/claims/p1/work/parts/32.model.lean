theorem dX17_words_0 : decode cX17_words 0 = .ok (.new 33, 3) := by decide +kernel
theorem dX17_words_3 : decode cX17_words 3 = .ok (.dup, 1) := by decide +kernel
theorem dX17_words_4 : decode cX17_words 4 = .ok (.invokespecial 67, 3) := by decide +kernel
theorem dX17_words_7 : decode cX17_words 7 = .ok (.astore_n 1, 1) := by decide +kernel
theorem dX17_words_8 : decode cX17_words 8 = .ok (.iconst 0, 1) := by decide +kernel
theorem dX17_words_9 : decode cX17_words 9 = .ok (.istore_n 2, 1) := by decide +kernel
theorem dX17_words_10 : decode cX17_words 10 = .ok (.iload_n 2, 1) := by decide +kernel
theorem dX17_words_11 : decode cX17_words 11 = .ok (.aload_n 0, 1) := by decide +kernel
theorem dX17_words_12 : decode cX17_words 12 = .ok (.getfield 3, 3) := by decide +kernel
theorem dX17_words_15 : decode cX17_words 15 = .ok (.getfield 208, 3) := by decide +kernel
theorem dX17_words_18 : decode cX17_words 18 = .ok (.invokevirtual 43, 3) := by decide +kernel
theorem dX17_words_21 : decode cX17_words 21 = .ok (.if_icmp .ge 33, 3) := by decide +kernel
theorem dX17_words_54 : decode cX17_words 54 = .ok (.aload_n 1, 1) := by decide +kernel
theorem dX17_words_55 : decode cX17_words 55 = .ok (.areturn, 1) := by decide +kernel
theorem dX17_faults_0 : decode cX17_faults 0 = .ok (.new 33, 3) := by decide +kernel
theorem dX17_faults_3 : decode cX17_faults 3 = .ok (.dup, 1) := by decide +kernel
theorem dX17_faults_4 : decode cX17_faults 4 = .ok (.invokespecial 67, 3) := by decide +kernel
theorem dX17_faults_7 : decode cX17_faults 7 = .ok (.astore_n 1, 1) := by decide +kernel
theorem dX17_faults_8 : decode cX17_faults 8 = .ok (.aload_n 0, 1) := by decide +kernel
theorem dX17_faults_9 : decode cX17_faults 9 = .ok (.invokevirtual 215, 3) := by decide +kernel
theorem dX17_faults_12 : decode cX17_faults 12 = .ok (.astore_n 2, 1) := by decide +kernel
theorem dX17_faults_13 : decode cX17_faults 13 = .ok (.iconst 0, 1) := by decide +kernel
theorem dX17_faults_14 : decode cX17_faults 14 = .ok (.istore_n 3, 1) := by decide +kernel
theorem dX17_faults_15 : decode cX17_faults 15 = .ok (.iload_n 3, 1) := by decide +kernel
theorem dX17_faults_16 : decode cX17_faults 16 = .ok (.aload_n 2, 1) := by decide +kernel
theorem dX17_faults_17 : decode cX17_faults 17 = .ok (.invokevirtual 43, 3) := by decide +kernel
theorem dX17_faults_20 : decode cX17_faults 20 = .ok (.if_icmp .ge 49, 3) := by decide +kernel
theorem dX17_faults_69 : decode cX17_faults 69 = .ok (.aload_n 1, 1) := by decide +kernel
theorem dX17_faults_70 : decode cX17_faults 70 = .ok (.areturn, 1) := by decide +kernel
theorem dX17_flaws_0 : decode cX17_flaws 0 = .ok (.new 33, 3) := by decide +kernel
theorem dX17_flaws_3 : decode cX17_flaws 3 = .ok (.dup, 1) := by decide +kernel
theorem dX17_flaws_4 : decode cX17_flaws 4 = .ok (.invokespecial 67, 3) := by decide +kernel
theorem dX17_flaws_7 : decode cX17_flaws 7 = .ok (.astore_n 1, 1) := by decide +kernel
theorem dX17_flaws_8 : decode cX17_flaws 8 = .ok (.iconst 0, 1) := by decide +kernel
theorem dX17_flaws_9 : decode cX17_flaws 9 = .ok (.istore_n 2, 1) := by decide +kernel
theorem dX17_flaws_10 : decode cX17_flaws 10 = .ok (.iload_n 2, 1) := by decide +kernel
theorem dX17_flaws_11 : decode cX17_flaws 11 = .ok (.aload_n 0, 1) := by decide +kernel
theorem dX17_flaws_12 : decode cX17_flaws 12 = .ok (.getfield 3, 3) := by decide +kernel
theorem dX17_flaws_15 : decode cX17_flaws 15 = .ok (.getfield 28, 3) := by decide +kernel
theorem dX17_flaws_18 : decode cX17_flaws 18 = .ok (.invokevirtual 43, 3) := by decide +kernel
theorem dX17_flaws_21 : decode cX17_flaws 21 = .ok (.if_icmp .ge 257, 3) := by decide +kernel
theorem dX17_flaws_278 : decode cX17_flaws 278 = .ok (.aload_n 1, 1) := by decide +kernel
theorem dX17_flaws_279 : decode cX17_flaws 279 = .ok (.areturn, 1) := by decide +kernel
theorem dX19_number_0 : decode cX19_number 0 = .ok (.aload_n 0, 1) := by decide +kernel
theorem dX19_number_1 : decode cX19_number 1 = .ok (.ifnonnull 6, 3) := by decide +kernel
theorem dX19_number_4 : decode cX19_number 4 = .ok (.bipush (-9), 2) := by decide +kernel
theorem dX19_number_6 : decode cX19_number 6 = .ok (.ireturn, 1) := by decide +kernel
theorem dX19_count_0 : decode cX19_count 0 = .ok (.iload_n 1, 1) := by decide +kernel
theorem dX19_count_1 : decode cX19_count 1 = .ok (.ifCond .ne 13, 3) := by decide +kernel
theorem dX19_count_4 : decode cX19_count 4 = .ok (.aload_n 0, 1) := by decide +kernel
theorem dX19_count_5 : decode cX19_count 5 = .ok (.getfield 10, 3) := by decide +kernel
theorem dX19_count_8 : decode cX19_count 8 = .ok (.invokevirtual 47, 3) := by decide +kernel
theorem dX19_count_11 : decode cX19_count 11 = .ok (.goto 40, 3) := by decide +kernel
theorem dX19_count_51 : decode cX19_count 51 = .ok (.ireturn, 1) := by decide +kernel
theorem dX19_count_14 : decode cX19_count 14 = .ok (.iload_n 1, 1) := by decide +kernel
theorem dX19_count_15 : decode cX19_count 15 = .ok (.iconst 1, 1) := by decide +kernel
theorem dX19_count_16 : decode cX19_count 16 = .ok (.if_icmp .ne 13, 3) := by decide +kernel
theorem dX19_count_19 : decode cX19_count 19 = .ok (.aload_n 0, 1) := by decide +kernel
theorem dX19_count_20 : decode cX19_count 20 = .ok (.getfield 16, 3) := by decide +kernel
theorem dX19_count_23 : decode cX19_count 23 = .ok (.invokevirtual 47, 3) := by decide +kernel
theorem dX19_count_26 : decode cX19_count 26 = .ok (.goto 25, 3) := by decide +kernel
theorem dX19_count_29 : decode cX19_count 29 = .ok (.iload_n 1, 1) := by decide +kernel
theorem dX19_count_30 : decode cX19_count 30 = .ok (.iconst 2, 1) := by decide +kernel
theorem dX19_count_31 : decode cX19_count 31 = .ok (.if_icmp .ne 13, 3) := by decide +kernel
theorem dX19_count_34 : decode cX19_count 34 = .ok (.aload_n 0, 1) := by decide +kernel
theorem dX19_count_35 : decode cX19_count 35 = .ok (.getfield 19, 3) := by decide +kernel
theorem dX19_count_38 : decode cX19_count 38 = .ok (.invokevirtual 47, 3) := by decide +kernel
theorem dX19_count_41 : decode cX19_count 41 = .ok (.goto 10, 3) := by decide +kernel
theorem dX19_count_44 : decode cX19_count 44 = .ok (.aload_n 0, 1) := by decide +kernel
theorem dX19_count_45 : decode cX19_count 45 = .ok (.getfield 22, 3) := by decide +kernel
theorem dX19_count_48 : decode cX19_count 48 = .ok (.invokevirtual 47, 3) := by decide +kernel
theorem dX19_isNone_0 : decode cX19_isNone 0 = .ok (.aload_n 0, 1) := by decide +kernel
theorem dX19_isNone_1 : decode cX19_isNone 1 = .ok (.aload_n 0, 1) := by decide +kernel
theorem dX19_isNone_2 : decode cX19_isNone 2 = .ok (.iload_n 1, 1) := by decide +kernel
theorem dX19_isNone_3 : decode cX19_isNone 3 = .ok (.invokevirtual 137, 3) := by decide +kernel
theorem dX19_isNone_6 : decode cX19_isNone 6 = .ok (.iconst 1, 1) := by decide +kernel
theorem dX19_isNone_7 : decode cX19_isNone 7 = .ok (.invokevirtual 63, 3) := by decide +kernel
theorem dX19_isNone_10 : decode cX19_isNone 10 = .ok (.ireturn, 1) := by decide +kernel
theorem dX19_isNoOther_0 : decode cX19_isNoOther 0 = .ok (.aload_n 0, 1) := by decide +kernel
theorem dX19_isNoOther_1 : decode cX19_isNoOther 1 = .ok (.aload_n 0, 1) := by decide +kernel
theorem dX19_isNoOther_2 : decode cX19_isNoOther 2 = .ok (.iload_n 1, 1) := by decide +kernel
theorem dX19_isNoOther_3 : decode cX19_isNoOther 3 = .ok (.invokevirtual 84, 3) := by decide +kernel
theorem dX19_isNoOther_6 : decode cX19_isNoOther 6 = .ok (.ifCond .ne 28, 3) := by decide +kernel
theorem dX19_isNoOther_34 : decode cX19_isNoOther 34 = .ok (.iconst 1, 1) := by decide +kernel
theorem dX19_isNoOther_35 : decode cX19_isNoOther 35 = .ok (.goto 4, 3) := by decide +kernel
theorem dX19_isNoOther_39 : decode cX19_isNoOther 39 = .ok (.iconst 1, 1) := by decide +kernel
theorem dX19_isNoOther_40 : decode cX19_isNoOther 40 = .ok (.invokevirtual 63, 3) := by decide +kernel
theorem dX19_isNoOther_43 : decode cX19_isNoOther 43 = .ok (.ifCond .ne 25, 3) := by decide +kernel
theorem dX19_isNoOther_68 : decode cX19_isNoOther 68 = .ok (.iconst 1, 1) := by decide +kernel
theorem dX19_isNoOther_69 : decode cX19_isNoOther 69 = .ok (.goto 4, 3) := by decide +kernel
theorem dX19_isNoOther_73 : decode cX19_isNoOther 73 = .ok (.ireturn, 1) := by decide +kernel
theorem dX19_roadNumber_0 : decode cX19_roadNumber 0 = .ok (.aload_n 0, 1) := by decide +kernel
theorem dX19_roadNumber_1 : decode cX19_roadNumber 1 = .ok (.invokevirtual 157, 3) := by decide +kernel
theorem dX19_roadNumber_4 : decode cX19_roadNumber 4 = .ok (.aload_n 0, 1) := by decide +kernel
theorem dX19_roadNumber_5 : decode cX19_roadNumber 5 = .ok (.iload_n 1, 1) := by decide +kernel
theorem dX19_roadNumber_6 : decode cX19_roadNumber 6 = .ok (.invokevirtual 87, 3) := by decide +kernel
theorem dX19_roadNumber_9 : decode cX19_roadNumber 9 = .ok (.invokevirtual 165, 3) := by decide +kernel
theorem dX19_roadNumber_12 : decode cX19_roadNumber 12 = .ok (.astore 4, 2) := by decide +kernel
theorem dX19_roadNumber_14 : decode cX19_roadNumber 14 = .ok (.iload_n 2, 1) := by decide +kernel
theorem dX19_roadNumber_15 : decode cX19_roadNumber 15 = .ok (.ifCond .lt 28, 3) := by decide +kernel
theorem dX19_roadNumber_43 : decode cX19_roadNumber 43 = .ok (.bipush (-9), 2) := by decide +kernel
theorem dX19_roadNumber_45 : decode cX19_roadNumber 45 = .ok (.ireturn, 1) := by decide +kernel
theorem dX19_roadNumber_18 : decode cX19_roadNumber 18 = .ok (.iload_n 2, 1) := by decide +kernel
theorem dX19_roadNumber_19 : decode cX19_roadNumber 19 = .ok (.aload 4, 2) := by decide +kernel
theorem dX19_roadNumber_21 : decode cX19_roadNumber 21 = .ok (.invokevirtual 47, 3) := by decide +kernel
theorem dX19_roadNumber_24 : decode cX19_roadNumber 24 = .ok (.if_icmp .ge 19, 3) := by decide +kernel
def wb_c_V_words : List Cond := [.classLink RX17 33 RJx4a65c, .instantiable RJx4a65c 3, .initialized RJx4a65c, .code yJx4a65c_init_da8c8 cJx4a65c_init_da8c8 1 none, .code yJxc12de_init_da8c8 cJxc12de_init_da8c8 1 none, .code yJxa1e45_init_da8c8 cJxa1e45_init_da8c8 1 none, .methodLink RJxa1e45 1 objectInit, .instanceMethod objectInit, .code objectInit ⟨#[0xb1]⟩ 1 none, .initialized RJxa1e45, .methodLink RJxc12de 1 yJxa1e45_init_da8c8, .instanceMethod yJxa1e45_init_da8c8, .fieldLink RJxc12de 7 "java/util/AbstractList" "modCount" "I", .initialized RJxc12de, .methodLink RJx4a65c 1 yJxc12de_init_da8c8, .instanceMethod yJxc12de_init_da8c8, .fieldLink RJx4a65c 39 "java/util/ArrayList" "DEFAULTCAPACITY_EMPTY_ELEMENTDATA" "[Ljava/lang/Object;", .fieldLink RJx4a65c 9 "java/util/ArrayList" "elementData" "[Ljava/lang/Object;", .methodLink RX17 67 yJx4a65c_init_da8c8, .instanceMethod yJx4a65c_init_da8c8, .fieldLink RX17 3 "HornbookModel$View" "this$0" "LHornbookModel;", .code yJx4a65c_size_8abf5 cJx4a65c_size_8abf5 1 (some .int), .fieldLink RJx4a65c 48 "java/util/ArrayList" "size" "I", .methodLink RX17 43 yJx4a65c_size_8abf5, .instanceMethod yJx4a65c_size_8abf5, .selects RJx4a65c yJx4a65c_size_8abf5 yJx4a65c_size_8abf5] ++ u_ws RJx4a65c TJx4a65c 3 ++ u_ws RX17 TX17 5 ++ u_ws RX19 TX19 5
def w_c_V_words : List Cond := .code yX17_words cX17_words 3 (some (.object "java/util/ArrayList")) :: wb_c_V_words
set_option maxRecDepth 100000 in
theorem g_c_V_words_0 : GoodIn w_c_V_words (w_c_AL_init) := goodIn_p (big := w_c_V_words) (.code yJx4a65c_init_da8c8 cJx4a65c_init_da8c8 1 none :: wb_c_AL_init) [4, 5, 6, 9] rfl (by decide +kernel)
set_option maxRecDepth 100000 in
theorem g_c_V_words_1 : GoodIn w_c_V_words (wsV RX17 43 RJx4a65c yJx4a65c_size_8abf5 w_c_AL_size) := goodIn_app (goodIn_of _ (by decide +kernel)) (goodIn_p (big := w_c_V_words) (.code yJx4a65c_size_8abf5 cJx4a65c_size_8abf5 1 (some .int) :: wb_c_AL_size) [22] rfl (by decide +kernel))
set_option maxHeartbeats 4000000 in
set_option maxRecDepth 100000 in
theorem c_V_words (l : Launch) (eD eI : Nat) (ad : Nat → Nat) (dC : Nat → ClassId) (dI : Nat → Nat → Nat) (sz : Nat) (vw : Nat) (mm : Nat) (ms : Nat) (mt : Nat) (mh : Nat) (me : Nat) (th : Int32) : Met l yX17_words w_c_V_words ({ frames := 4, cells := 1, slots := 3, locals := 72 }) (va_Pc [.ref vw] (zPre eD eI ad (dC, dI) [(vw, .inr (19, [.int (-1), .int (-1), .int (-1), .int (-1), .ref mm])), (mm, .inr (21, [.int th, .ref ms, .ref mt, .ref mh, .ref me])), (me, .inr (1, [.int 0, .ref eD, .int 0]))] [] sz)) (va_Qq (fun (r : Option Nat) (rd : Nat) => r = some rd) (fun (rd : Nat) => zEnd (dC, dI) (va_A [(vw, .inr (19, [.int (-1), .int (-1), .int (-1), .int (-1), .ref mm])), (mm, .inr (21, [.int th, .ref ms, .ref mt, .ref mh, .ref me])), (me, .inr (1, [.int 0, .ref eD, .int 0]))] sz) [(vw, .inr (19, [.int (-1), .int (-1), .int (-1), .int (-1), .ref mm])), (mm, .inr (21, [.int th, .ref ms, .ref mt, .ref mh, .ref me])), (me, .inr (1, [.int 0, .ref eD, .int 0])), (rd, .inr (1, [.int 0, .ref eD, .int 0]))] []) (va_A [(vw, .inr (19, [.int (-1), .int (-1), .int (-1), .int (-1), .ref mm])), (mm, .inr (21, [.int th, .ref ms, .ref mt, .ref mh, .ref me])), (me, .inr (1, [.int 0, .ref eD, .int 0]))] sz)) 1 3 (va_A [(vw, .inr (19, [.int (-1), .int (-1), .int (-1), .int (-1), .ref mm])), (mm, .inr (21, [.int th, .ref ms, .ref mt, .ref mh, .ref me])), (me, .inr (1, [.int 0, .ref eD, .int 0]))] sz) := by
  refine Met.ofW (cc := cX17_words) (maxL := 3) (ret := (some (.object "java/util/ArrayList"))) (by decide) rfl ?_
  intro p e s m args below meth c s₁ B hml hv
  obtain ⟨rfl, hsz, hP, hK, hD0, hE⟩ := hv
  have hx := B.exec
  have hb := B.bytes
  have hr := B.returns
  have hts := atoms_spec (ws := w_c_V_words) B.pre
  have hown : s.vm.findClass RX17 = some m.cls := findClass_of_methodNamed B.named
  have hlocks := B.notSynchronized
  subst hsz
  have hD := hD0.self (sz := s.heap.size)
  generalize hAe : va_A [(vw, .inr (19, [.int (-1), .int (-1), .int (-1), .int (-1), .ref mm])), (mm, .inr (21, [.int th, .ref ms, .ref mt, .ref mh, .ref me])), (me, .inr (1, [.int 0, .ref eD, .int 0]))] s.heap.size = A at hD hE ⊢
  have hA : ∀ q : Nat, s.heap.size ≤ q → A q := fun q h => by rw [← hAe]; exact Or.inr h
  have hS : va_S A s.heap s.heap [] := va_S.rf
  have hP : va_P (dC, dI) vwCl [(vw, .inr (19, [.int (-1), .int (-1), .int (-1), .int (-1), .ref mm])), (mm, .inr (21, [.int th, .ref ms, .ref mt, .ref mh, .ref me])), (me, .inr (1, [.int 0, .ref eD, .int 0]))] s.heap := hP
  have hl := lv_entry ([.ref vw]) (n := 3) (Nat.le_of_ble_eq_true rfl)
  rw [lg_entry_eq]
  generalize (lg_sl ([.ref vw]) ++ List.replicate (3 - (lg_sl ([.ref vw])).length) Slot.unset).toArray = ls at hl ⊢
  have hl : lv_has ls 3 [(0, .ref vw)] := hl
  have in_RJx4a65c : ∀ w ∈ u_ws RJx4a65c TJx4a65c 3, w ∈ w_c_V_words := by decide +kernel
  have in_RX17 : ∀ w ∈ u_ws RX17 TX17 5, w ∈ w_c_V_words := by decide +kernel
  have in_RX19 : ∀ w ∈ u_ws RX19 TX19 5, w ∈ w_c_V_words := by decide +kernel
  refine va_new (ci := 1) (fs := [.int 0, .null, .int 0]) (C := RJx4a65c) (T := TJx4a65c) (N := 3) hx hb hts in_RJx4a65c tyJx4a65c tyJx4a65c_ok hown (hts (.classLink RX17 33 RJx4a65c) (by decide +kernel)) (hts (.instantiable RJx4a65c 3) (by decide +kernel)) (hts (.initialized RJx4a65c) (by decide +kernel)) hK hP hD hS hA rfl (fun j hj => by rcases (show j = 0 ∨ j = 1 ∨ j = 2 by omega) with rfl | rfl | rfl <;> rfl) (Nat.le_of_ble_eq_true rfl) (Nat.le_of_ble_eq_true rfl) dX17_words_0 (fun q_1 H hP hD hS => ?_)
  have hP : va_P (dC, dI) vwCl [(vw, .inr (19, [.int (-1), .int (-1), .int (-1), .int (-1), .ref mm])), (mm, .inr (21, [.int th, .ref ms, .ref mt, .ref mh, .ref me])), (me, .inr (1, [.int 0, .ref eD, .int 0])), (q_1, .inr (1, [.int 0, .null, .int 0]))] H := hP
  have hD : va_D A [(vw, .inr (19, [.int (-1), .int (-1), .int (-1), .int (-1), .ref mm])), (mm, .inr (21, [.int th, .ref ms, .ref mt, .ref mh, .ref me])), (me, .inr (1, [.int 0, .ref eD, .int 0])), (q_1, .inr (1, [.int 0, .null, .int 0]))] := hD
  refine lv_dup hx hb dX17_words_3 rfl ?_
  refine z_v (wr := [(vw, .inr (19, [.int (-1), .int (-1), .int (-1), .int (-1), .ref mm])), (mm, .inr (21, [.int th, .ref ms, .ref mt, .ref mh, .ref me])), (me, .inr (1, [.int 0, .ref eD, .int 0]))]) (va_runI (As := []) (rest := [.ref q_1]) ⟨hx, hb, hml, hown, hts⟩ (c_AL_init l eD eI ad dC dI H.size q_1) (cwI 0 hts g_c_V_words_0 rfl rfl rfl (hts (.initialized RJx4a65c) (by decide +kernel)) (hts (.methodLink RX17 67 yJx4a65c_init_da8c8) (by decide +kernel)) (hts (.instanceMethod yJx4a65c_init_da8c8) (by decide +kernel)) rfl (by decide +kernel) ⟨Nat.le_of_ble_eq_true rfl, Nat.le_of_ble_eq_true rfl⟩) (z_preS (wc := [(q_1, .inr (1, [.int 0, .null, .int 0]))]) hP hD hK hS hA hE [3] [] rfl (by decide) rfl) rfl rfl hl.1 rfl (lv_room (Nat.le_of_ble_eq_true rfl)) dX17_words_4 ⟨Nat.le_of_ble_eq_true rfl, Nat.le_of_ble_eq_true rfl⟩) hP hD hK hS hA [3] [0, 1, 2] rfl rfl (by decide) (by decide) (fun u H locs hw_3 hP hD hK hS => ?_)
  obtain ⟨⟩ := u
  have hP : va_P (dC, dI) vwCl [(vw, .inr (19, [.int (-1), .int (-1), .int (-1), .int (-1), .ref mm])), (mm, .inr (21, [.int th, .ref ms, .ref mt, .ref mh, .ref me])), (me, .inr (1, [.int 0, .ref eD, .int 0])), (q_1, .inr (1, [.int 0, .ref eD, .int 0]))] H := hP
  have hD : va_D A [(vw, .inr (19, [.int (-1), .int (-1), .int (-1), .int (-1), .ref mm])), (mm, .inr (21, [.int th, .ref ms, .ref mt, .ref mh, .ref me])), (me, .inr (1, [.int 0, .ref eD, .int 0])), (q_1, .inr (1, [.int 0, .ref eD, .int 0]))] := hD
  have hK : va_K (dC, dI) vwCl [] s := by simpa using hK
  refine lv_astore_n (lv' := [(1, .ref q_1), (0, .ref vw)]) hx hb dX17_words_7 rfl hl (by decide) rfl (fun ls hl => ?_)
  refine lv_iconst (v := 0) hx hb dX17_words_8 (by decide) ?_
  refine lv_istore_n (lv' := [(2, .int 0), (1, .ref q_1), (0, .ref vw)]) hx hb dX17_words_9 rfl hl (by decide) rfl (fun ls hl => ?_)
  refine lv_iload_n hx hb dX17_words_10 rfl (lv_at hl 0 rfl) ?_
  refine lv_aload_n hx hb dX17_words_11 rfl (lv_at hl 2 rfl) ?_
  refine va_get (D := (dC, dI)) (ci := 19) (v := .ref mm) (C := RX17) (T := TX17) (N := 5) hx hb hts in_RX17 hown hK hP 0 rfl rfl 4 (by decide) (hts (.fieldLink RX17 3 "HornbookModel$View" "this$0" "LHornbookModel;") (by decide +kernel)) (fun _ h9 => h9) rfl dX17_words_12 ?_
  refine va_getN (D := (dC, dI)) (ci := 21) (v := .ref me) (C := RX19) (T := TX19) (N := 5) hx hb hts in_RX19 hown hK hP 1 rfl rfl 4 (by decide) (va_Nw.use rfl (hE.2.2.1 (.fieldLinkNest RX17 208 "HornbookModel" "expressions" "Ljava/util/ArrayList;" "HornbookModel") (by decide +kernel))) (fun _ h9 => h9) rfl dX17_words_15 ?_
  refine z_i (wr := [(vw, .inr (19, [.int (-1), .int (-1), .int (-1), .int (-1), .ref mm])), (mm, .inr (21, [.int th, .ref ms, .ref mt, .ref mh, .ref me])), (q_1, .inr (1, [.int 0, .ref eD, .int 0]))]) (va_runV (As := []) (rest := [.int 0]) ⟨hx, hb, hml, hown, hts⟩ (c_AL_size l eD eI ad dC dI H.size me ((.int 0)) ((.ref eD)) 0) (cwV 0 hts g_c_V_words_1 rfl rfl rfl (by decide +kernel) ⟨Nat.le_of_ble_eq_true rfl, Nat.le_of_ble_eq_true rfl⟩) (z_preV (wc := [(me, .inr (1, [.int 0, .ref eD, .int 0]))]) hP hD hK hS hA hE [2] [] rfl (by decide) rfl (ci := 1) (q0 := 0) rfl rfl) rfl rfl hl.1 rfl (lv_room (Nat.le_of_ble_eq_true rfl)) dX17_words_18 ⟨Nat.le_of_ble_eq_true rfl, Nat.le_of_ble_eq_true rfl⟩) hP hD hK hS hA [2] [0, 1, 3] rfl rfl (by decide) (by decide) (fun r_4 u H locs hw_5 hP hD hK hS => ?_)
  obtain ⟨⟩ := u
  have hP : va_P (dC, dI) vwCl [(vw, .inr (19, [.int (-1), .int (-1), .int (-1), .int (-1), .ref mm])), (mm, .inr (21, [.int th, .ref ms, .ref mt, .ref mh, .ref me])), (q_1, .inr (1, [.int 0, .ref eD, .int 0])), (me, .inr (1, [.int 0, .ref eD, .int 0]))] H := hP
  have hD : va_D A [(vw, .inr (19, [.int (-1), .int (-1), .int (-1), .int (-1), .ref mm])), (mm, .inr (21, [.int th, .ref ms, .ref mt, .ref mh, .ref me])), (q_1, .inr (1, [.int 0, .ref eD, .int 0])), (me, .inr (1, [.int 0, .ref eD, .int 0]))] := hD
  have hK : va_K (dC, dI) vwCl [] s := by simpa using hK
  have hw_5 : r_4 = 0 := hw_5
  have hw_5 := hw_5.symm
  subst hw_5
  refine lv_icmp_ge (tgt := 54) hx hb dX17_words_21 (by decide) (fun c_6 => ?_) (fun c_6 => ?_)
  rotate_left
  · exact absurd (by decide) c_6
  refine lv_aload_n hx hb dX17_words_54 rfl (lv_at hl 1 rfl) ?_
  have hP9 := hP.sub (ws' := [(vw, .inr (19, [.int (-1), .int (-1), .int (-1), .int (-1), .ref mm])), (mm, .inr (21, [.int th, .ref ms, .ref mt, .ref mh, .ref me])), (me, .inr (1, [.int 0, .ref eD, .int 0])), (q_1, .inr (1, [.int 0, .ref eD, .int 0]))]) [0, 1, 3, 2] rfl
  have hD9 := hD.sub (ws' := [(vw, .inr (19, [.int (-1), .int (-1), .int (-1), .int (-1), .ref mm])), (mm, .inr (21, [.int th, .ref ms, .ref mt, .ref mh, .ref me])), (me, .inr (1, [.int 0, .ref eD, .int 0])), (q_1, .inr (1, [.int 0, .ref eD, .int 0]))]) [0, 1, 3, 2] (by decide) rfl
  have hK9 := hK.sub (tys' := []) [] rfl
  refine W.widen (k := 1) (n := 3) (Nat.le_of_ble_eq_true rfl) (Nat.le_of_ble_eq_true rfl) ?_
  exact W.aret (v := .ref q_1) hx hb hr (Or.inl ⟨_, rfl⟩) (Or.inr ⟨_, rfl⟩) (fun t ht hW => ⟨⟨some q_1, q_1, rfl, rfl, ⟨by rw [ht]; exact hP9, va_K.moved hW.alike hK9, hD9⟩⟩, hS.F ht⟩) hS.2.2 dX17_words_55

def wb_c_V_faults : List Cond := [.classLink RX17 33 RJx4a65c, .instantiable RJx4a65c 3, .initialized RJx4a65c, .code yJx4a65c_init_da8c8 cJx4a65c_init_da8c8 1 none, .code yJxc12de_init_da8c8 cJxc12de_init_da8c8 1 none, .code yJxa1e45_init_da8c8 cJxa1e45_init_da8c8 1 none, .methodLink RJxa1e45 1 objectInit, .instanceMethod objectInit, .code objectInit ⟨#[0xb1]⟩ 1 none, .initialized RJxa1e45, .methodLink RJxc12de 1 yJxa1e45_init_da8c8, .instanceMethod yJxa1e45_init_da8c8, .fieldLink RJxc12de 7 "java/util/AbstractList" "modCount" "I", .initialized RJxc12de, .methodLink RJx4a65c 1 yJxc12de_init_da8c8, .instanceMethod yJxc12de_init_da8c8, .fieldLink RJx4a65c 39 "java/util/ArrayList" "DEFAULTCAPACITY_EMPTY_ELEMENTDATA" "[Ljava/lang/Object;", .fieldLink RJx4a65c 9 "java/util/ArrayList" "elementData" "[Ljava/lang/Object;", .methodLink RX17 67 yJx4a65c_init_da8c8, .instanceMethod yJx4a65c_init_da8c8, .code yX17_words cX17_words 3 (some (.object "java/util/ArrayList")), .fieldLink RX17 3 "HornbookModel$View" "this$0" "LHornbookModel;", .code yJx4a65c_size_8abf5 cJx4a65c_size_8abf5 1 (some .int), .fieldLink RJx4a65c 48 "java/util/ArrayList" "size" "I", .methodLink RX17 43 yJx4a65c_size_8abf5, .instanceMethod yJx4a65c_size_8abf5, .selects RJx4a65c yJx4a65c_size_8abf5 yJx4a65c_size_8abf5, .methodLink RX17 215 yX17_words, .instanceMethod yX17_words, .selects RX17 yX17_words yX17_words, .initialized RX17] ++ u_ws RJx4a65c TJx4a65c 3 ++ u_ws RX17 TX17 5 ++ u_ws RX19 TX19 5
def w_c_V_faults : List Cond := .code yX17_faults cX17_faults 4 (some (.object "java/util/ArrayList")) :: wb_c_V_faults
set_option maxRecDepth 100000 in
theorem g_c_V_faults_0 : GoodIn w_c_V_faults (w_c_AL_init) := goodIn_p (big := w_c_V_faults) (.code yJx4a65c_init_da8c8 cJx4a65c_init_da8c8 1 none :: wb_c_AL_init) [4, 5, 6, 9] rfl (by decide +kernel)
set_option maxRecDepth 100000 in
theorem g_c_V_faults_1 : GoodIn w_c_V_faults (wsV RX17 215 RX17 yX17_words w_c_V_words) := goodIn_app (goodIn_of _ (by decide +kernel)) (goodIn_p (big := w_c_V_faults) (.code yX17_words cX17_words 3 (some (.object "java/util/ArrayList")) :: wb_c_V_words) [21, 4, 5, 6, 9, 23] rfl (by decide +kernel))
set_option maxRecDepth 100000 in
theorem g_c_V_faults_2 : GoodIn w_c_V_faults (wsV RX17 43 RJx4a65c yJx4a65c_size_8abf5 w_c_AL_size) := goodIn_app (goodIn_of _ (by decide +kernel)) (goodIn_p (big := w_c_V_faults) (.code yJx4a65c_size_8abf5 cJx4a65c_size_8abf5 1 (some .int) :: wb_c_AL_size) [23] rfl (by decide +kernel))
set_option maxHeartbeats 4000000 in
set_option maxRecDepth 100000 in
theorem c_V_faults (l : Launch) (eD eI : Nat) (ad : Nat → Nat) (dC : Nat → ClassId) (dI : Nat → Nat → Nat) (sz : Nat) (vw : Nat) (mm : Nat) (ms : Nat) (mt : Nat) (mh : Nat) (me : Nat) (th : Int32) : Met l yX17_faults w_c_V_faults ({ frames := 5, cells := 2, slots := 6, locals := 94 }) (va_Pc [.ref vw] (zPre eD eI ad (dC, dI) [(vw, .inr (19, [.int (-1), .int (-1), .int (-1), .int (-1), .ref mm])), (mm, .inr (21, [.int th, .ref ms, .ref mt, .ref mh, .ref me])), (me, .inr (1, [.int 0, .ref eD, .int 0]))] [] sz)) (va_Qq (fun (r : Option Nat) (rd : Nat) => r = some rd) (fun (rd : Nat) => zEnd (dC, dI) (va_A [(vw, .inr (19, [.int (-1), .int (-1), .int (-1), .int (-1), .ref mm])), (mm, .inr (21, [.int th, .ref ms, .ref mt, .ref mh, .ref me])), (me, .inr (1, [.int 0, .ref eD, .int 0]))] sz) [(vw, .inr (19, [.int (-1), .int (-1), .int (-1), .int (-1), .ref mm])), (mm, .inr (21, [.int th, .ref ms, .ref mt, .ref mh, .ref me])), (me, .inr (1, [.int 0, .ref eD, .int 0])), (rd, .inr (1, [.int 0, .ref eD, .int 0]))] []) (va_A [(vw, .inr (19, [.int (-1), .int (-1), .int (-1), .int (-1), .ref mm])), (mm, .inr (21, [.int th, .ref ms, .ref mt, .ref mh, .ref me])), (me, .inr (1, [.int 0, .ref eD, .int 0]))] sz)) 2 6 (va_A [(vw, .inr (19, [.int (-1), .int (-1), .int (-1), .int (-1), .ref mm])), (mm, .inr (21, [.int th, .ref ms, .ref mt, .ref mh, .ref me])), (me, .inr (1, [.int 0, .ref eD, .int 0]))] sz) := by
  refine Met.ofW (cc := cX17_faults) (maxL := 4) (ret := (some (.object "java/util/ArrayList"))) (by decide) rfl ?_
  intro p e s m args below meth c s₁ B hml hv
  obtain ⟨rfl, hsz, hP, hK, hD0, hE⟩ := hv
  have hx := B.exec
  have hb := B.bytes
  have hr := B.returns
  have hts := atoms_spec (ws := w_c_V_faults) B.pre
  have hown : s.vm.findClass RX17 = some m.cls := findClass_of_methodNamed B.named
  have hlocks := B.notSynchronized
  subst hsz
  have hD := hD0.self (sz := s.heap.size)
  generalize hAe : va_A [(vw, .inr (19, [.int (-1), .int (-1), .int (-1), .int (-1), .ref mm])), (mm, .inr (21, [.int th, .ref ms, .ref mt, .ref mh, .ref me])), (me, .inr (1, [.int 0, .ref eD, .int 0]))] s.heap.size = A at hD hE ⊢
  have hA : ∀ q : Nat, s.heap.size ≤ q → A q := fun q h => by rw [← hAe]; exact Or.inr h
  have hS : va_S A s.heap s.heap [] := va_S.rf
  have hP : va_P (dC, dI) vwCl [(vw, .inr (19, [.int (-1), .int (-1), .int (-1), .int (-1), .ref mm])), (mm, .inr (21, [.int th, .ref ms, .ref mt, .ref mh, .ref me])), (me, .inr (1, [.int 0, .ref eD, .int 0]))] s.heap := hP
  have hl := lv_entry ([.ref vw]) (n := 4) (Nat.le_of_ble_eq_true rfl)
  rw [lg_entry_eq]
  generalize (lg_sl ([.ref vw]) ++ List.replicate (4 - (lg_sl ([.ref vw])).length) Slot.unset).toArray = ls at hl ⊢
  have hl : lv_has ls 4 [(0, .ref vw)] := hl
  have in_RJx4a65c : ∀ w ∈ u_ws RJx4a65c TJx4a65c 3, w ∈ w_c_V_faults := by decide +kernel
  have in_RX17 : ∀ w ∈ u_ws RX17 TX17 5, w ∈ w_c_V_faults := by decide +kernel
  have in_RX19 : ∀ w ∈ u_ws RX19 TX19 5, w ∈ w_c_V_faults := by decide +kernel
  refine va_new (ci := 1) (fs := [.int 0, .null, .int 0]) (C := RJx4a65c) (T := TJx4a65c) (N := 3) hx hb hts in_RJx4a65c tyJx4a65c tyJx4a65c_ok hown (hts (.classLink RX17 33 RJx4a65c) (by decide +kernel)) (hts (.instantiable RJx4a65c 3) (by decide +kernel)) (hts (.initialized RJx4a65c) (by decide +kernel)) hK hP hD hS hA rfl (fun j hj => by rcases (show j = 0 ∨ j = 1 ∨ j = 2 by omega) with rfl | rfl | rfl <;> rfl) (Nat.le_of_ble_eq_true rfl) (Nat.le_of_ble_eq_true rfl) dX17_faults_0 (fun q_1 H hP hD hS => ?_)
  have hP : va_P (dC, dI) vwCl [(vw, .inr (19, [.int (-1), .int (-1), .int (-1), .int (-1), .ref mm])), (mm, .inr (21, [.int th, .ref ms, .ref mt, .ref mh, .ref me])), (me, .inr (1, [.int 0, .ref eD, .int 0])), (q_1, .inr (1, [.int 0, .null, .int 0]))] H := hP
  have hD : va_D A [(vw, .inr (19, [.int (-1), .int (-1), .int (-1), .int (-1), .ref mm])), (mm, .inr (21, [.int th, .ref ms, .ref mt, .ref mh, .ref me])), (me, .inr (1, [.int 0, .ref eD, .int 0])), (q_1, .inr (1, [.int 0, .null, .int 0]))] := hD
  refine lv_dup hx hb dX17_faults_3 rfl ?_
  refine z_v (wr := [(vw, .inr (19, [.int (-1), .int (-1), .int (-1), .int (-1), .ref mm])), (mm, .inr (21, [.int th, .ref ms, .ref mt, .ref mh, .ref me])), (me, .inr (1, [.int 0, .ref eD, .int 0]))]) (va_runI (As := []) (rest := [.ref q_1]) ⟨hx, hb, hml, hown, hts⟩ (c_AL_init l eD eI ad dC dI H.size q_1) (cwI 0 hts g_c_V_faults_0 rfl rfl rfl (hts (.initialized RJx4a65c) (by decide +kernel)) (hts (.methodLink RX17 67 yJx4a65c_init_da8c8) (by decide +kernel)) (hts (.instanceMethod yJx4a65c_init_da8c8) (by decide +kernel)) rfl (by decide +kernel) ⟨Nat.le_of_ble_eq_true rfl, Nat.le_of_ble_eq_true rfl⟩) (z_preS (wc := [(q_1, .inr (1, [.int 0, .null, .int 0]))]) hP hD hK hS hA hE [3] [] rfl (by decide) rfl) rfl rfl hl.1 rfl (lv_room (Nat.le_of_ble_eq_true rfl)) dX17_faults_4 ⟨Nat.le_of_ble_eq_true rfl, Nat.le_of_ble_eq_true rfl⟩) hP hD hK hS hA [3] [0, 1, 2] rfl rfl (by decide) (by decide) (fun u H locs hw_3 hP hD hK hS => ?_)
  obtain ⟨⟩ := u
  have hP : va_P (dC, dI) vwCl [(vw, .inr (19, [.int (-1), .int (-1), .int (-1), .int (-1), .ref mm])), (mm, .inr (21, [.int th, .ref ms, .ref mt, .ref mh, .ref me])), (me, .inr (1, [.int 0, .ref eD, .int 0])), (q_1, .inr (1, [.int 0, .ref eD, .int 0]))] H := hP
  have hD : va_D A [(vw, .inr (19, [.int (-1), .int (-1), .int (-1), .int (-1), .ref mm])), (mm, .inr (21, [.int th, .ref ms, .ref mt, .ref mh, .ref me])), (me, .inr (1, [.int 0, .ref eD, .int 0])), (q_1, .inr (1, [.int 0, .ref eD, .int 0]))] := hD
  have hK : va_K (dC, dI) vwCl [] s := by simpa using hK
  refine lv_astore_n (lv' := [(1, .ref q_1), (0, .ref vw)]) hx hb dX17_faults_7 rfl hl (by decide) rfl (fun ls hl => ?_)
  refine lv_aload_n hx hb dX17_faults_8 rfl (lv_at hl 1 rfl) ?_
  refine z_q (wr := [(q_1, .inr (1, [.int 0, .ref eD, .int 0]))]) (va_runV (As := []) (rest := []) ⟨hx, hb, hml, hown, hts⟩ (c_V_words l eD eI ad dC dI H.size vw mm ms mt mh me th) (cwV 0 hts g_c_V_faults_1 rfl rfl rfl (by decide +kernel) ⟨Nat.le_of_ble_eq_true rfl, Nat.le_of_ble_eq_true rfl⟩) (z_preV (wc := [(vw, .inr (19, [.int (-1), .int (-1), .int (-1), .int (-1), .ref mm])), (mm, .inr (21, [.int th, .ref ms, .ref mt, .ref mh, .ref me])), (me, .inr (1, [.int 0, .ref eD, .int 0]))]) hP hD hK hS hA hE [0, 1, 2] [] rfl (by decide) rfl (ci := 19) (q0 := 0) rfl rfl) rfl rfl hl.1 rfl (lv_room (Nat.le_of_ble_eq_true rfl)) dX17_faults_9 ⟨Nat.le_of_ble_eq_true rfl, Nat.le_of_ble_eq_true rfl⟩) hP hD hK hS hA [0, 1, 2] [3] rfl rfl (by decide) (by decide) (fun r_5 u H locs hw_6 hP hD hK hS => ?_)
  obtain ⟨u_4, rfl⟩ : ∃ z, z = u := ⟨_, rfl⟩
  have hP : va_P (dC, dI) vwCl [(q_1, .inr (1, [.int 0, .ref eD, .int 0])), (vw, .inr (19, [.int (-1), .int (-1), .int (-1), .int (-1), .ref mm])), (mm, .inr (21, [.int th, .ref ms, .ref mt, .ref mh, .ref me])), (me, .inr (1, [.int 0, .ref eD, .int 0])), (u_4, .inr (1, [.int 0, .ref eD, .int 0]))] H := hP
  have hD : va_D A [(q_1, .inr (1, [.int 0, .ref eD, .int 0])), (vw, .inr (19, [.int (-1), .int (-1), .int (-1), .int (-1), .ref mm])), (mm, .inr (21, [.int th, .ref ms, .ref mt, .ref mh, .ref me])), (me, .inr (1, [.int 0, .ref eD, .int 0])), (u_4, .inr (1, [.int 0, .ref eD, .int 0]))] := hD
  have hK : va_K (dC, dI) vwCl [] s := by simpa using hK
  have hw_6 : r_5 = some u_4 := hw_6
  have hw_6 := hw_6.symm
  subst hw_6
  refine W.eq (g2 := F0 m 12 ls (.ref u_4 :: [])) rfl ?_
  refine lv_astore_n (lv' := [(2, .ref u_4), (1, .ref q_1), (0, .ref vw)]) hx hb dX17_faults_12 rfl hl (by decide) rfl (fun ls hl => ?_)
  refine lv_iconst (v := 0) hx hb dX17_faults_13 (by decide) ?_
  refine lv_istore_n (lv' := [(3, .int 0), (2, .ref u_4), (1, .ref q_1), (0, .ref vw)]) hx hb dX17_faults_14 rfl hl (by decide) rfl (fun ls hl => ?_)
  refine lv_iload_n hx hb dX17_faults_15 rfl (lv_at hl 0 rfl) ?_
  refine lv_aload_n hx hb dX17_faults_16 rfl (lv_at hl 1 rfl) ?_
  refine z_i (wr := [(q_1, .inr (1, [.int 0, .ref eD, .int 0])), (vw, .inr (19, [.int (-1), .int (-1), .int (-1), .int (-1), .ref mm])), (mm, .inr (21, [.int th, .ref ms, .ref mt, .ref mh, .ref me])), (me, .inr (1, [.int 0, .ref eD, .int 0]))]) (va_runV (As := []) (rest := [.int 0]) ⟨hx, hb, hml, hown, hts⟩ (c_AL_size l eD eI ad dC dI H.size u_4 ((.int 0)) ((.ref eD)) 0) (cwV 0 hts g_c_V_faults_2 rfl rfl rfl (by decide +kernel) ⟨Nat.le_of_ble_eq_true rfl, Nat.le_of_ble_eq_true rfl⟩) (z_preV (wc := [(u_4, .inr (1, [.int 0, .ref eD, .int 0]))]) hP hD hK hS hA hE [4] [] rfl (by decide) rfl (ci := 1) (q0 := 0) rfl rfl) rfl rfl hl.1 rfl (lv_room (Nat.le_of_ble_eq_true rfl)) dX17_faults_17 ⟨Nat.le_of_ble_eq_true rfl, Nat.le_of_ble_eq_true rfl⟩) hP hD hK hS hA [4] [0, 1, 2, 3] rfl rfl (by decide) (by decide) (fun r_7 u H locs hw_8 hP hD hK hS => ?_)
  obtain ⟨⟩ := u
  have hP : va_P (dC, dI) vwCl [(q_1, .inr (1, [.int 0, .ref eD, .int 0])), (vw, .inr (19, [.int (-1), .int (-1), .int (-1), .int (-1), .ref mm])), (mm, .inr (21, [.int th, .ref ms, .ref mt, .ref mh, .ref me])), (me, .inr (1, [.int 0, .ref eD, .int 0])), (u_4, .inr (1, [.int 0, .ref eD, .int 0]))] H := hP
  have hD : va_D A [(q_1, .inr (1, [.int 0, .ref eD, .int 0])), (vw, .inr (19, [.int (-1), .int (-1), .int (-1), .int (-1), .ref mm])), (mm, .inr (21, [.int th, .ref ms, .ref mt, .ref mh, .ref me])), (me, .inr (1, [.int 0, .ref eD, .int 0])), (u_4, .inr (1, [.int 0, .ref eD, .int 0]))] := hD
  have hK : va_K (dC, dI) vwCl [] s := by simpa using hK
  have hw_8 : r_7 = 0 := hw_8
  have hw_8 := hw_8.symm
  subst hw_8
  refine lv_icmp_ge (tgt := 69) hx hb dX17_faults_20 (by decide) (fun c_9 => ?_) (fun c_9 => ?_)
  rotate_left
  · exact absurd (by decide) c_9
  refine lv_aload_n hx hb dX17_faults_69 rfl (lv_at hl 2 rfl) ?_
  have hP9 := hP.sub (ws' := [(vw, .inr (19, [.int (-1), .int (-1), .int (-1), .int (-1), .ref mm])), (mm, .inr (21, [.int th, .ref ms, .ref mt, .ref mh, .ref me])), (me, .inr (1, [.int 0, .ref eD, .int 0])), (q_1, .inr (1, [.int 0, .ref eD, .int 0]))]) [1, 2, 3, 0] rfl
  have hD9 := hD.sub (ws' := [(vw, .inr (19, [.int (-1), .int (-1), .int (-1), .int (-1), .ref mm])), (mm, .inr (21, [.int th, .ref ms, .ref mt, .ref mh, .ref me])), (me, .inr (1, [.int 0, .ref eD, .int 0])), (q_1, .inr (1, [.int 0, .ref eD, .int 0]))]) [1, 2, 3, 0] (by decide) rfl
  have hK9 := hK.sub (tys' := []) [] rfl
  refine W.widen (k := 2) (n := 6) (Nat.le_of_ble_eq_true rfl) (Nat.le_of_ble_eq_true rfl) ?_
  exact W.aret (v := .ref q_1) hx hb hr (Or.inl ⟨_, rfl⟩) (Or.inr ⟨_, rfl⟩) (fun t ht hW => ⟨⟨some q_1, q_1, rfl, rfl, ⟨by rw [ht]; exact hP9, va_K.moved hW.alike hK9, hD9⟩⟩, hS.F ht⟩) hS.2.2 dX17_faults_70

def wb_c_V_flaws : List Cond := [.classLink RX17 33 RJx4a65c, .instantiable RJx4a65c 3, .initialized RJx4a65c, .code yJx4a65c_init_da8c8 cJx4a65c_init_da8c8 1 none, .code yJxc12de_init_da8c8 cJxc12de_init_da8c8 1 none, .code yJxa1e45_init_da8c8 cJxa1e45_init_da8c8 1 none, .methodLink RJxa1e45 1 objectInit, .instanceMethod objectInit, .code objectInit ⟨#[0xb1]⟩ 1 none, .initialized RJxa1e45, .methodLink RJxc12de 1 yJxa1e45_init_da8c8, .instanceMethod yJxa1e45_init_da8c8, .fieldLink RJxc12de 7 "java/util/AbstractList" "modCount" "I", .initialized RJxc12de, .methodLink RJx4a65c 1 yJxc12de_init_da8c8, .instanceMethod yJxc12de_init_da8c8, .fieldLink RJx4a65c 39 "java/util/ArrayList" "DEFAULTCAPACITY_EMPTY_ELEMENTDATA" "[Ljava/lang/Object;", .fieldLink RJx4a65c 9 "java/util/ArrayList" "elementData" "[Ljava/lang/Object;", .methodLink RX17 67 yJx4a65c_init_da8c8, .instanceMethod yJx4a65c_init_da8c8, .fieldLink RX17 3 "HornbookModel$View" "this$0" "LHornbookModel;", .code yJx4a65c_size_8abf5 cJx4a65c_size_8abf5 1 (some .int), .fieldLink RJx4a65c 48 "java/util/ArrayList" "size" "I", .methodLink RX17 43 yJx4a65c_size_8abf5, .instanceMethod yJx4a65c_size_8abf5, .selects RJx4a65c yJx4a65c_size_8abf5 yJx4a65c_size_8abf5] ++ u_ws RJx4a65c TJx4a65c 3 ++ u_ws RX17 TX17 5 ++ u_ws RX19 TX19 5
def w_c_V_flaws : List Cond := .code yX17_flaws cX17_flaws 11 (some (.object "java/util/ArrayList")) :: wb_c_V_flaws
set_option maxRecDepth 100000 in
theorem g_c_V_flaws_0 : GoodIn w_c_V_flaws (w_c_AL_init) := goodIn_p (big := w_c_V_flaws) (.code yJx4a65c_init_da8c8 cJx4a65c_init_da8c8 1 none :: wb_c_AL_init) [4, 5, 6, 9] rfl (by decide +kernel)
set_option maxRecDepth 100000 in
theorem g_c_V_flaws_1 : GoodIn w_c_V_flaws (wsV RX17 43 RJx4a65c yJx4a65c_size_8abf5 w_c_AL_size) := goodIn_app (goodIn_of _ (by decide +kernel)) (goodIn_p (big := w_c_V_flaws) (.code yJx4a65c_size_8abf5 cJx4a65c_size_8abf5 1 (some .int) :: wb_c_AL_size) [22] rfl (by decide +kernel))
set_option maxHeartbeats 4000000 in
set_option maxRecDepth 100000 in
theorem c_V_flaws (l : Launch) (eD eI : Nat) (ad : Nat → Nat) (dC : Nat → ClassId) (dI : Nat → Nat → Nat) (sz : Nat) (vw : Nat) (mm : Nat) (ms : Nat) (mt : Nat) (mh : Nat) (me : Nat) (th : Int32) : Met l yX17_flaws w_c_V_flaws ({ frames := 4, cells := 1, slots := 3, locals := 72 }) (va_Pc [.ref vw] (zPre eD eI ad (dC, dI) [(vw, .inr (19, [.int (-1), .int (-1), .int (-1), .int (-1), .ref mm])), (mm, .inr (21, [.int th, .ref ms, .ref mt, .ref mh, .ref me])), (ms, .inr (1, [.int 0, .ref eD, .int 0]))] [] sz)) (va_Qq (fun (r : Option Nat) (rd : Nat) => r = some rd) (fun (rd : Nat) => zEnd (dC, dI) (va_A [(vw, .inr (19, [.int (-1), .int (-1), .int (-1), .int (-1), .ref mm])), (mm, .inr (21, [.int th, .ref ms, .ref mt, .ref mh, .ref me])), (ms, .inr (1, [.int 0, .ref eD, .int 0]))] sz) [(vw, .inr (19, [.int (-1), .int (-1), .int (-1), .int (-1), .ref mm])), (mm, .inr (21, [.int th, .ref ms, .ref mt, .ref mh, .ref me])), (ms, .inr (1, [.int 0, .ref eD, .int 0])), (rd, .inr (1, [.int 0, .ref eD, .int 0]))] []) (va_A [(vw, .inr (19, [.int (-1), .int (-1), .int (-1), .int (-1), .ref mm])), (mm, .inr (21, [.int th, .ref ms, .ref mt, .ref mh, .ref me])), (ms, .inr (1, [.int 0, .ref eD, .int 0]))] sz)) 1 3 (va_A [(vw, .inr (19, [.int (-1), .int (-1), .int (-1), .int (-1), .ref mm])), (mm, .inr (21, [.int th, .ref ms, .ref mt, .ref mh, .ref me])), (ms, .inr (1, [.int 0, .ref eD, .int 0]))] sz) := by
  refine Met.ofW (cc := cX17_flaws) (maxL := 11) (ret := (some (.object "java/util/ArrayList"))) (by decide) rfl ?_
  intro p e s m args below meth c s₁ B hml hv
  obtain ⟨rfl, hsz, hP, hK, hD0, hE⟩ := hv
  have hx := B.exec
  have hb := B.bytes
  have hr := B.returns
  have hts := atoms_spec (ws := w_c_V_flaws) B.pre
  have hown : s.vm.findClass RX17 = some m.cls := findClass_of_methodNamed B.named
  have hlocks := B.notSynchronized
  subst hsz
  have hD := hD0.self (sz := s.heap.size)
  generalize hAe : va_A [(vw, .inr (19, [.int (-1), .int (-1), .int (-1), .int (-1), .ref mm])), (mm, .inr (21, [.int th, .ref ms, .ref mt, .ref mh, .ref me])), (ms, .inr (1, [.int 0, .ref eD, .int 0]))] s.heap.size = A at hD hE ⊢
  have hA : ∀ q : Nat, s.heap.size ≤ q → A q := fun q h => by rw [← hAe]; exact Or.inr h
  have hS : va_S A s.heap s.heap [] := va_S.rf
  have hP : va_P (dC, dI) vwCl [(vw, .inr (19, [.int (-1), .int (-1), .int (-1), .int (-1), .ref mm])), (mm, .inr (21, [.int th, .ref ms, .ref mt, .ref mh, .ref me])), (ms, .inr (1, [.int 0, .ref eD, .int 0]))] s.heap := hP
  have hl := lv_entry ([.ref vw]) (n := 11) (Nat.le_of_ble_eq_true rfl)
  rw [lg_entry_eq]
  generalize (lg_sl ([.ref vw]) ++ List.replicate (11 - (lg_sl ([.ref vw])).length) Slot.unset).toArray = ls at hl ⊢
  have hl : lv_has ls 11 [(0, .ref vw)] := hl
  have in_RJx4a65c : ∀ w ∈ u_ws RJx4a65c TJx4a65c 3, w ∈ w_c_V_flaws := by decide +kernel
  have in_RX17 : ∀ w ∈ u_ws RX17 TX17 5, w ∈ w_c_V_flaws := by decide +kernel
  have in_RX19 : ∀ w ∈ u_ws RX19 TX19 5, w ∈ w_c_V_flaws := by decide +kernel
  refine va_new (ci := 1) (fs := [.int 0, .null, .int 0]) (C := RJx4a65c) (T := TJx4a65c) (N := 3) hx hb hts in_RJx4a65c tyJx4a65c tyJx4a65c_ok hown (hts (.classLink RX17 33 RJx4a65c) (by decide +kernel)) (hts (.instantiable RJx4a65c 3) (by decide +kernel)) (hts (.initialized RJx4a65c) (by decide +kernel)) hK hP hD hS hA rfl (fun j hj => by rcases (show j = 0 ∨ j = 1 ∨ j = 2 by omega) with rfl | rfl | rfl <;> rfl) (Nat.le_of_ble_eq_true rfl) (Nat.le_of_ble_eq_true rfl) dX17_flaws_0 (fun q_1 H hP hD hS => ?_)
  have hP : va_P (dC, dI) vwCl [(vw, .inr (19, [.int (-1), .int (-1), .int (-1), .int (-1), .ref mm])), (mm, .inr (21, [.int th, .ref ms, .ref mt, .ref mh, .ref me])), (ms, .inr (1, [.int 0, .ref eD, .int 0])), (q_1, .inr (1, [.int 0, .null, .int 0]))] H := hP
  have hD : va_D A [(vw, .inr (19, [.int (-1), .int (-1), .int (-1), .int (-1), .ref mm])), (mm, .inr (21, [.int th, .ref ms, .ref mt, .ref mh, .ref me])), (ms, .inr (1, [.int 0, .ref eD, .int 0])), (q_1, .inr (1, [.int 0, .null, .int 0]))] := hD
  refine lv_dup hx hb dX17_flaws_3 rfl ?_
  refine z_v (wr := [(vw, .inr (19, [.int (-1), .int (-1), .int (-1), .int (-1), .ref mm])), (mm, .inr (21, [.int th, .ref ms, .ref mt, .ref mh, .ref me])), (ms, .inr (1, [.int 0, .ref eD, .int 0]))]) (va_runI (As := []) (rest := [.ref q_1]) ⟨hx, hb, hml, hown, hts⟩ (c_AL_init l eD eI ad dC dI H.size q_1) (cwI 0 hts g_c_V_flaws_0 rfl rfl rfl (hts (.initialized RJx4a65c) (by decide +kernel)) (hts (.methodLink RX17 67 yJx4a65c_init_da8c8) (by decide +kernel)) (hts (.instanceMethod yJx4a65c_init_da8c8) (by decide +kernel)) rfl (by decide +kernel) ⟨Nat.le_of_ble_eq_true rfl, Nat.le_of_ble_eq_true rfl⟩) (z_preS (wc := [(q_1, .inr (1, [.int 0, .null, .int 0]))]) hP hD hK hS hA hE [3] [] rfl (by decide) rfl) rfl rfl hl.1 rfl (lv_room (Nat.le_of_ble_eq_true rfl)) dX17_flaws_4 ⟨Nat.le_of_ble_eq_true rfl, Nat.le_of_ble_eq_true rfl⟩) hP hD hK hS hA [3] [0, 1, 2] rfl rfl (by decide) (by decide) (fun u H locs hw_3 hP hD hK hS => ?_)
  obtain ⟨⟩ := u
  have hP : va_P (dC, dI) vwCl [(vw, .inr (19, [.int (-1), .int (-1), .int (-1), .int (-1), .ref mm])), (mm, .inr (21, [.int th, .ref ms, .ref mt, .ref mh, .ref me])), (ms, .inr (1, [.int 0, .ref eD, .int 0])), (q_1, .inr (1, [.int 0, .ref eD, .int 0]))] H := hP
  have hD : va_D A [(vw, .inr (19, [.int (-1), .int (-1), .int (-1), .int (-1), .ref mm])), (mm, .inr (21, [.int th, .ref ms, .ref mt, .ref mh, .ref me])), (ms, .inr (1, [.int 0, .ref eD, .int 0])), (q_1, .inr (1, [.int 0, .ref eD, .int 0]))] := hD
  have hK : va_K (dC, dI) vwCl [] s := by simpa using hK
  refine lv_astore_n (lv' := [(1, .ref q_1), (0, .ref vw)]) hx hb dX17_flaws_7 rfl hl (by decide) rfl (fun ls hl => ?_)
  refine lv_iconst (v := 0) hx hb dX17_flaws_8 (by decide) ?_
  refine lv_istore_n (lv' := [(2, .int 0), (1, .ref q_1), (0, .ref vw)]) hx hb dX17_flaws_9 rfl hl (by decide) rfl (fun ls hl => ?_)
  refine lv_iload_n hx hb dX17_flaws_10 rfl (lv_at hl 0 rfl) ?_
  refine lv_aload_n hx hb dX17_flaws_11 rfl (lv_at hl 2 rfl) ?_
  refine va_get (D := (dC, dI)) (ci := 19) (v := .ref mm) (C := RX17) (T := TX17) (N := 5) hx hb hts in_RX17 hown hK hP 0 rfl rfl 4 (by decide) (hts (.fieldLink RX17 3 "HornbookModel$View" "this$0" "LHornbookModel;") (by decide +kernel)) (fun _ h9 => h9) rfl dX17_flaws_12 ?_
  refine va_getN (D := (dC, dI)) (ci := 21) (v := .ref ms) (C := RX19) (T := TX19) (N := 5) hx hb hts in_RX19 hown hK hP 1 rfl rfl 1 (by decide) (va_Nw.use rfl (hE.2.2.1 (.fieldLinkNest RX17 28 "HornbookModel" "sorts" "Ljava/util/ArrayList;" "HornbookModel") (by decide +kernel))) (fun _ h9 => h9) rfl dX17_flaws_15 ?_
  refine z_i (wr := [(vw, .inr (19, [.int (-1), .int (-1), .int (-1), .int (-1), .ref mm])), (mm, .inr (21, [.int th, .ref ms, .ref mt, .ref mh, .ref me])), (q_1, .inr (1, [.int 0, .ref eD, .int 0]))]) (va_runV (As := []) (rest := [.int 0]) ⟨hx, hb, hml, hown, hts⟩ (c_AL_size l eD eI ad dC dI H.size ms ((.int 0)) ((.ref eD)) 0) (cwV 0 hts g_c_V_flaws_1 rfl rfl rfl (by decide +kernel) ⟨Nat.le_of_ble_eq_true rfl, Nat.le_of_ble_eq_true rfl⟩) (z_preV (wc := [(ms, .inr (1, [.int 0, .ref eD, .int 0]))]) hP hD hK hS hA hE [2] [] rfl (by decide) rfl (ci := 1) (q0 := 0) rfl rfl) rfl rfl hl.1 rfl (lv_room (Nat.le_of_ble_eq_true rfl)) dX17_flaws_18 ⟨Nat.le_of_ble_eq_true rfl, Nat.le_of_ble_eq_true rfl⟩) hP hD hK hS hA [2] [0, 1, 3] rfl rfl (by decide) (by decide) (fun r_4 u H locs hw_5 hP hD hK hS => ?_)
  obtain ⟨⟩ := u
  have hP : va_P (dC, dI) vwCl [(vw, .inr (19, [.int (-1), .int (-1), .int (-1), .int (-1), .ref mm])), (mm, .inr (21, [.int th, .ref ms, .ref mt, .ref mh, .ref me])), (q_1, .inr (1, [.int 0, .ref eD, .int 0])), (ms, .inr (1, [.int 0, .ref eD, .int 0]))] H := hP
  have hD : va_D A [(vw, .inr (19, [.int (-1), .int (-1), .int (-1), .int (-1), .ref mm])), (mm, .inr (21, [.int th, .ref ms, .ref mt, .ref mh, .ref me])), (q_1, .inr (1, [.int 0, .ref eD, .int 0])), (ms, .inr (1, [.int 0, .ref eD, .int 0]))] := hD
  have hK : va_K (dC, dI) vwCl [] s := by simpa using hK
  have hw_5 : r_4 = 0 := hw_5
  have hw_5 := hw_5.symm
  subst hw_5
  refine lv_icmp_ge (tgt := 278) hx hb dX17_flaws_21 (by decide) (fun c_6 => ?_) (fun c_6 => ?_)
  rotate_left
  · exact absurd (by decide) c_6
  refine lv_aload_n hx hb dX17_flaws_278 rfl (lv_at hl 1 rfl) ?_
  have hP9 := hP.sub (ws' := [(vw, .inr (19, [.int (-1), .int (-1), .int (-1), .int (-1), .ref mm])), (mm, .inr (21, [.int th, .ref ms, .ref mt, .ref mh, .ref me])), (ms, .inr (1, [.int 0, .ref eD, .int 0])), (q_1, .inr (1, [.int 0, .ref eD, .int 0]))]) [0, 1, 3, 2] rfl
  have hD9 := hD.sub (ws' := [(vw, .inr (19, [.int (-1), .int (-1), .int (-1), .int (-1), .ref mm])), (mm, .inr (21, [.int th, .ref ms, .ref mt, .ref mh, .ref me])), (ms, .inr (1, [.int 0, .ref eD, .int 0])), (q_1, .inr (1, [.int 0, .ref eD, .int 0]))]) [0, 1, 3, 2] (by decide) rfl
  have hK9 := hK.sub (tys' := []) [] rfl
  refine W.widen (k := 1) (n := 3) (Nat.le_of_ble_eq_true rfl) (Nat.le_of_ble_eq_true rfl) ?_
  exact W.aret (v := .ref q_1) hx hb hr (Or.inl ⟨_, rfl⟩) (Or.inr ⟨_, rfl⟩) (fun t ht hW => ⟨⟨some q_1, q_1, rfl, rfl, ⟨by rw [ht]; exact hP9, va_K.moved hW.alike hK9, hD9⟩⟩, hS.F ht⟩) hS.2.2 dX17_flaws_279

def wb_c_M_number_null : List Cond := []
def w_c_M_number_null : List Cond := .code yX19_number cX19_number 3 (some .int) :: wb_c_M_number_null
set_option maxHeartbeats 4000000 in
set_option maxRecDepth 100000 in
theorem c_M_number_null (l : Launch) (eD eI : Nat) (ad : Nat → Nat) (dC : Nat → ClassId) (dI : Nat → Nat → Nat) (sz : Nat) (k : Int32) : Met l yX19_number w_c_M_number_null ({ frames := 0, cells := 0, slots := 0, locals := 0 }) (va_Pc [.null, .int k] (zPre eD eI ad (dC, dI) [] [] sz)) (va_Qi (fun (r : Int32) (_ : Unit) => r = (-9)) (fun (_ : Unit) => zEnd (dC, dI) (va_A [] sz) [] []) (va_A [] sz)) 0 0 (va_A [] sz) := by
  refine Met.ofW (cc := cX19_number) (maxL := 3) (ret := (some .int)) (by decide) rfl ?_
  intro p e s m args below meth c s₁ B hml hv
  obtain ⟨rfl, hsz, hP, hK, hD0, hE⟩ := hv
  have hx := B.exec
  have hb := B.bytes
  have hr := B.returns
  have hts := atoms_spec (ws := w_c_M_number_null) B.pre
  have hown : s.vm.findClass RX19 = some m.cls := findClass_of_methodNamed B.named
  have hlocks := B.notSynchronized
  subst hsz
  have hD := hD0.self (sz := s.heap.size)
  generalize hAe : va_A [] s.heap.size = A at hD hE ⊢
  have hA : ∀ q : Nat, s.heap.size ≤ q → A q := fun q h => by rw [← hAe]; exact Or.inr h
  have hS : va_S A s.heap s.heap [] := va_S.rf
  have hP : va_P (dC, dI) vwCl [] s.heap := hP
  have hl := lv_entry ([.null, .int k]) (n := 3) (Nat.le_of_ble_eq_true rfl)
  rw [lg_entry_eq]
  generalize (lg_sl ([.null, .int k]) ++ List.replicate (3 - (lg_sl ([.null, .int k])).length) Slot.unset).toArray = ls at hl ⊢
  have hl : lv_has ls 3 [(0, .null), (1, .int k)] := hl
  refine lv_aload_nN hx hb dX19_number_0 rfl (lv_at hl 0 rfl) ?_
  refine lv_ifnonnullN hx hb dX19_number_1 ?_
  refine lv_bipush (v := (-9)) hx hb dX19_number_4 (by decide) ?_
  have hP9 := hP.sub (ws' := []) [] rfl
  have hD9 := hD.sub (ws' := []) [] (by decide) rfl
  have hK9 := hK.sub (tys' := []) [] rfl
  refine W.widen (k := 0) (n := 0) (Nat.le_of_ble_eq_true rfl) (Nat.le_of_ble_eq_true rfl) ?_
  exact W.iret (v := (-9)) hx hb hr (fun t ht hW => ⟨⟨(-9), (), rfl, rfl, ⟨by rw [ht]; exact hP9, va_K.moved hW.alike hK9, hD9⟩⟩, hS.F ht⟩) hS.2.2 dX19_number_6

def wb_c_M_count_0 : List Cond := [.fieldLink RX19 10 "HornbookModel" "sorts" "Ljava/util/ArrayList;", .code yJx4a65c_size_8abf5 cJx4a65c_size_8abf5 1 (some .int), .fieldLink RJx4a65c 48 "java/util/ArrayList" "size" "I", .methodLink RX19 47 yJx4a65c_size_8abf5, .instanceMethod yJx4a65c_size_8abf5, .selects RJx4a65c yJx4a65c_size_8abf5 yJx4a65c_size_8abf5, .initialized RJx4a65c] ++ u_ws RJx4a65c TJx4a65c 3 ++ u_ws RX19 TX19 5
def w_c_M_count_0 : List Cond := .code yX19_count cX19_count 2 (some .int) :: wb_c_M_count_0
set_option maxRecDepth 100000 in
theorem g_c_M_count_0_0 : GoodIn w_c_M_count_0 (wsV RX19 47 RJx4a65c yJx4a65c_size_8abf5 w_c_AL_size) := goodIn_app (goodIn_of _ (by decide +kernel)) (goodIn_p (big := w_c_M_count_0) (.code yJx4a65c_size_8abf5 cJx4a65c_size_8abf5 1 (some .int) :: wb_c_AL_size) [2] rfl (by decide +kernel))
set_option maxHeartbeats 4000000 in
set_option maxRecDepth 100000 in
theorem c_M_count_0 (l : Launch) (eD eI : Nat) (ad : Nat → Nat) (dC : Nat → ClassId) (dI : Nat → Nat → Nat) (sz : Nat) (mm : Nat) (ms : Nat) (mt : Nat) (mh : Nat) (me : Nat) (th : Int32) : Met l yX19_count w_c_M_count_0 ({ frames := 1, cells := 0, slots := 0, locals := 20 }) (va_Pc [.ref mm, .int 0] (zPre eD eI ad (dC, dI) [(mm, .inr (21, [.int th, .ref ms, .ref mt, .ref mh, .ref me])), (ms, .inr (1, [.int 0, .ref eD, .int 0]))] [] sz)) (va_Qi (fun (r : Int32) (_ : Unit) => r = 0) (fun (_ : Unit) => zEnd (dC, dI) (va_A [(mm, .inr (21, [.int th, .ref ms, .ref mt, .ref mh, .ref me])), (ms, .inr (1, [.int 0, .ref eD, .int 0]))] sz) [(mm, .inr (21, [.int th, .ref ms, .ref mt, .ref mh, .ref me])), (ms, .inr (1, [.int 0, .ref eD, .int 0]))] []) (va_A [(mm, .inr (21, [.int th, .ref ms, .ref mt, .ref mh, .ref me])), (ms, .inr (1, [.int 0, .ref eD, .int 0]))] sz)) 0 0 (va_A [(mm, .inr (21, [.int th, .ref ms, .ref mt, .ref mh, .ref me])), (ms, .inr (1, [.int 0, .ref eD, .int 0]))] sz) := by
  refine Met.ofW (cc := cX19_count) (maxL := 2) (ret := (some .int)) (by decide) rfl ?_
  intro p e s m args below meth c s₁ B hml hv
  obtain ⟨rfl, hsz, hP, hK, hD0, hE⟩ := hv
  have hx := B.exec
  have hb := B.bytes
  have hr := B.returns
  have hts := atoms_spec (ws := w_c_M_count_0) B.pre
  have hown : s.vm.findClass RX19 = some m.cls := findClass_of_methodNamed B.named
  have hlocks := B.notSynchronized
  subst hsz
  have hD := hD0.self (sz := s.heap.size)
  generalize hAe : va_A [(mm, .inr (21, [.int th, .ref ms, .ref mt, .ref mh, .ref me])), (ms, .inr (1, [.int 0, .ref eD, .int 0]))] s.heap.size = A at hD hE ⊢
  have hA : ∀ q : Nat, s.heap.size ≤ q → A q := fun q h => by rw [← hAe]; exact Or.inr h
  have hS : va_S A s.heap s.heap [] := va_S.rf
  have hP : va_P (dC, dI) vwCl [(mm, .inr (21, [.int th, .ref ms, .ref mt, .ref mh, .ref me])), (ms, .inr (1, [.int 0, .ref eD, .int 0]))] s.heap := hP
  have hl := lv_entry ([.ref mm, .int 0]) (n := 2) (Nat.le_of_ble_eq_true rfl)
  rw [lg_entry_eq]
  generalize (lg_sl ([.ref mm, .int 0]) ++ List.replicate (2 - (lg_sl ([.ref mm, .int 0])).length) Slot.unset).toArray = ls at hl ⊢
  have hl : lv_has ls 2 [(0, .ref mm), (1, .int 0)] := hl
  have in_RJx4a65c : ∀ w ∈ u_ws RJx4a65c TJx4a65c 3, w ∈ w_c_M_count_0 := by decide +kernel
  have in_RX19 : ∀ w ∈ u_ws RX19 TX19 5, w ∈ w_c_M_count_0 := by decide +kernel
  refine lv_iload_n hx hb dX19_count_0 rfl (lv_at hl 1 rfl) ?_
  refine lv_if_ne (tgt := 14) hx hb dX19_count_1 (by decide) (fun c_1 => ?_) (fun c_1 => ?_)
  · exact absurd (by decide) c_1
  refine lv_aload_n hx hb dX19_count_4 rfl (lv_at hl 0 rfl) ?_
  refine va_get (D := (dC, dI)) (ci := 21) (v := .ref ms) (C := RX19) (T := TX19) (N := 5) hx hb hts in_RX19 hown hK hP 0 rfl rfl 1 (by decide) (hts (.fieldLink RX19 10 "HornbookModel" "sorts" "Ljava/util/ArrayList;") (by decide +kernel)) (fun _ h9 => h9) rfl dX19_count_5 ?_
  refine z_i (wr := [(mm, .inr (21, [.int th, .ref ms, .ref mt, .ref mh, .ref me]))]) (va_runV (As := []) (rest := []) ⟨hx, hb, hml, hown, hts⟩ (c_AL_size l eD eI ad dC dI s.heap.size ms ((.int 0)) ((.ref eD)) 0) (cwV 0 hts g_c_M_count_0_0 rfl rfl rfl (by decide +kernel) ⟨Nat.le_of_ble_eq_true rfl, Nat.le_of_ble_eq_true rfl⟩) (z_preV (wc := [(ms, .inr (1, [.int 0, .ref eD, .int 0]))]) hP hD hK hS hA hE [1] [] rfl (by decide) rfl (ci := 1) (q0 := 0) rfl rfl) rfl rfl hl.1 rfl (lv_room (Nat.le_of_ble_eq_true rfl)) dX19_count_8 ⟨Nat.le_of_ble_eq_true rfl, Nat.le_of_ble_eq_true rfl⟩) hP hD hK hS hA [1] [0] rfl rfl (by decide) (by decide) (fun r_2 u H locs hw_3 hP hD hK hS => ?_)
  obtain ⟨⟩ := u
  have hP : va_P (dC, dI) vwCl [(mm, .inr (21, [.int th, .ref ms, .ref mt, .ref mh, .ref me])), (ms, .inr (1, [.int 0, .ref eD, .int 0]))] H := hP
  have hD : va_D A [(mm, .inr (21, [.int th, .ref ms, .ref mt, .ref mh, .ref me])), (ms, .inr (1, [.int 0, .ref eD, .int 0]))] := hD
  have hK : va_K (dC, dI) vwCl [] s := by simpa using hK
  have hw_3 : r_2 = 0 := hw_3
  have hw_3 := hw_3.symm
  subst hw_3
  refine lv_goto (tgt := 51) hx hb dX19_count_11 (by decide) ?_
  have hP9 := hP.sub (ws' := [(mm, .inr (21, [.int th, .ref ms, .ref mt, .ref mh, .ref me])), (ms, .inr (1, [.int 0, .ref eD, .int 0]))]) [0, 1] rfl
  have hD9 := hD.sub (ws' := [(mm, .inr (21, [.int th, .ref ms, .ref mt, .ref mh, .ref me])), (ms, .inr (1, [.int 0, .ref eD, .int 0]))]) [0, 1] (by decide) rfl
  have hK9 := hK.sub (tys' := []) [] rfl
  refine W.widen (k := 0) (n := 0) (Nat.le_of_ble_eq_true rfl) (Nat.le_of_ble_eq_true rfl) ?_
  exact W.iret (v := 0) hx hb hr (fun t ht hW => ⟨⟨0, (), rfl, rfl, ⟨by rw [ht]; exact hP9, va_K.moved hW.alike hK9, hD9⟩⟩, hS.F ht⟩) hS.2.2 dX19_count_51

def wb_c_M_count_1 : List Cond := [.fieldLink RX19 16 "HornbookModel" "types" "Ljava/util/ArrayList;", .code yJx4a65c_size_8abf5 cJx4a65c_size_8abf5 1 (some .int), .fieldLink RJx4a65c 48 "java/util/ArrayList" "size" "I", .methodLink RX19 47 yJx4a65c_size_8abf5, .instanceMethod yJx4a65c_size_8abf5, .selects RJx4a65c yJx4a65c_size_8abf5 yJx4a65c_size_8abf5, .initialized RJx4a65c] ++ u_ws RJx4a65c TJx4a65c 3 ++ u_ws RX19 TX19 5
def w_c_M_count_1 : List Cond := .code yX19_count cX19_count 2 (some .int) :: wb_c_M_count_1
set_option maxRecDepth 100000 in
theorem g_c_M_count_1_0 : GoodIn w_c_M_count_1 (wsV RX19 47 RJx4a65c yJx4a65c_size_8abf5 w_c_AL_size) := goodIn_app (goodIn_of _ (by decide +kernel)) (goodIn_p (big := w_c_M_count_1) (.code yJx4a65c_size_8abf5 cJx4a65c_size_8abf5 1 (some .int) :: wb_c_AL_size) [2] rfl (by decide +kernel))
set_option maxHeartbeats 4000000 in
set_option maxRecDepth 100000 in
theorem c_M_count_1 (l : Launch) (eD eI : Nat) (ad : Nat → Nat) (dC : Nat → ClassId) (dI : Nat → Nat → Nat) (sz : Nat) (mm : Nat) (ms : Nat) (mt : Nat) (mh : Nat) (me : Nat) (th : Int32) (f0 : Value) (f1 : Value) : Met l yX19_count w_c_M_count_1 ({ frames := 1, cells := 0, slots := 0, locals := 20 }) (va_Pc [.ref mm, .int 1] (zPre eD eI ad (dC, dI) [(mm, .inr (21, [.int th, .ref ms, .ref mt, .ref mh, .ref me])), (mt, .inr (1, [f0, f1, .int 3]))] [] sz)) (va_Qi (fun (r : Int32) (_ : Unit) => r = 3) (fun (_ : Unit) => zEnd (dC, dI) (va_A [(mm, .inr (21, [.int th, .ref ms, .ref mt, .ref mh, .ref me])), (mt, .inr (1, [f0, f1, .int 3]))] sz) [(mm, .inr (21, [.int th, .ref ms, .ref mt, .ref mh, .ref me])), (mt, .inr (1, [f0, f1, .int 3]))] []) (va_A [(mm, .inr (21, [.int th, .ref ms, .ref mt, .ref mh, .ref me])), (mt, .inr (1, [f0, f1, .int 3]))] sz)) 0 0 (va_A [(mm, .inr (21, [.int th, .ref ms, .ref mt, .ref mh, .ref me])), (mt, .inr (1, [f0, f1, .int 3]))] sz) := by
  refine Met.ofW (cc := cX19_count) (maxL := 2) (ret := (some .int)) (by decide) rfl ?_
  intro p e s m args below meth c s₁ B hml hv
  obtain ⟨rfl, hsz, hP, hK, hD0, hE⟩ := hv
  have hx := B.exec
  have hb := B.bytes
  have hr := B.returns
  have hts := atoms_spec (ws := w_c_M_count_1) B.pre
  have hown : s.vm.findClass RX19 = some m.cls := findClass_of_methodNamed B.named
  have hlocks := B.notSynchronized
  subst hsz
  have hD := hD0.self (sz := s.heap.size)
  generalize hAe : va_A [(mm, .inr (21, [.int th, .ref ms, .ref mt, .ref mh, .ref me])), (mt, .inr (1, [f0, f1, .int 3]))] s.heap.size = A at hD hE ⊢
  have hA : ∀ q : Nat, s.heap.size ≤ q → A q := fun q h => by rw [← hAe]; exact Or.inr h
  have hS : va_S A s.heap s.heap [] := va_S.rf
  have hP : va_P (dC, dI) vwCl [(mm, .inr (21, [.int th, .ref ms, .ref mt, .ref mh, .ref me])), (mt, .inr (1, [f0, f1, .int 3]))] s.heap := hP
  have hl := lv_entry ([.ref mm, .int 1]) (n := 2) (Nat.le_of_ble_eq_true rfl)
  rw [lg_entry_eq]
  generalize (lg_sl ([.ref mm, .int 1]) ++ List.replicate (2 - (lg_sl ([.ref mm, .int 1])).length) Slot.unset).toArray = ls at hl ⊢
  have hl : lv_has ls 2 [(0, .ref mm), (1, .int 1)] := hl
  have in_RJx4a65c : ∀ w ∈ u_ws RJx4a65c TJx4a65c 3, w ∈ w_c_M_count_1 := by decide +kernel
  have in_RX19 : ∀ w ∈ u_ws RX19 TX19 5, w ∈ w_c_M_count_1 := by decide +kernel
  refine lv_iload_n hx hb dX19_count_0 rfl (lv_at hl 1 rfl) ?_
  refine lv_if_ne (tgt := 14) hx hb dX19_count_1 (by decide) (fun c_1 => ?_) (fun c_1 => ?_)
  rotate_left
  · exact absurd c_1 (by decide)
  refine lv_iload_n hx hb dX19_count_14 rfl (lv_at hl 1 rfl) ?_
  refine lv_iconst (v := 1) hx hb dX19_count_15 (by decide) ?_
  refine lv_icmp_ne (tgt := 29) hx hb dX19_count_16 (by decide) (fun c_2 => ?_) (fun c_2 => ?_)
  · exact absurd (by decide) c_2
  refine lv_aload_n hx hb dX19_count_19 rfl (lv_at hl 0 rfl) ?_
  refine va_get (D := (dC, dI)) (ci := 21) (v := .ref mt) (C := RX19) (T := TX19) (N := 5) hx hb hts in_RX19 hown hK hP 0 rfl rfl 2 (by decide) (hts (.fieldLink RX19 16 "HornbookModel" "types" "Ljava/util/ArrayList;") (by decide +kernel)) (fun _ h9 => h9) rfl dX19_count_20 ?_
  refine z_i (wr := [(mm, .inr (21, [.int th, .ref ms, .ref mt, .ref mh, .ref me]))]) (va_runV (As := []) (rest := []) ⟨hx, hb, hml, hown, hts⟩ (c_AL_size l eD eI ad dC dI s.heap.size mt f0 f1 3) (cwV 0 hts g_c_M_count_1_0 rfl rfl rfl (by decide +kernel) ⟨Nat.le_of_ble_eq_true rfl, Nat.le_of_ble_eq_true rfl⟩) (z_preV (wc := [(mt, .inr (1, [f0, f1, .int 3]))]) hP hD hK hS hA hE [1] [] rfl (by decide) rfl (ci := 1) (q0 := 0) rfl rfl) rfl rfl hl.1 rfl (lv_room (Nat.le_of_ble_eq_true rfl)) dX19_count_23 ⟨Nat.le_of_ble_eq_true rfl, Nat.le_of_ble_eq_true rfl⟩) hP hD hK hS hA [1] [0] rfl rfl (by decide) (by decide) (fun r_3 u H locs hw_4 hP hD hK hS => ?_)
  obtain ⟨⟩ := u
  have hP : va_P (dC, dI) vwCl [(mm, .inr (21, [.int th, .ref ms, .ref mt, .ref mh, .ref me])), (mt, .inr (1, [f0, f1, .int 3]))] H := hP
  have hD : va_D A [(mm, .inr (21, [.int th, .ref ms, .ref mt, .ref mh, .ref me])), (mt, .inr (1, [f0, f1, .int 3]))] := hD
  have hK : va_K (dC, dI) vwCl [] s := by simpa using hK
  have hw_4 : r_3 = 3 := hw_4
  have hw_4 := hw_4.symm
  subst hw_4
  refine lv_goto (tgt := 51) hx hb dX19_count_26 (by decide) ?_
  have hP9 := hP.sub (ws' := [(mm, .inr (21, [.int th, .ref ms, .ref mt, .ref mh, .ref me])), (mt, .inr (1, [f0, f1, .int 3]))]) [0, 1] rfl
  have hD9 := hD.sub (ws' := [(mm, .inr (21, [.int th, .ref ms, .ref mt, .ref mh, .ref me])), (mt, .inr (1, [f0, f1, .int 3]))]) [0, 1] (by decide) rfl
  have hK9 := hK.sub (tys' := []) [] rfl
  refine W.widen (k := 0) (n := 0) (Nat.le_of_ble_eq_true rfl) (Nat.le_of_ble_eq_true rfl) ?_
  exact W.iret (v := 3) hx hb hr (fun t ht hW => ⟨⟨3, (), rfl, rfl, ⟨by rw [ht]; exact hP9, va_K.moved hW.alike hK9, hD9⟩⟩, hS.F ht⟩) hS.2.2 dX19_count_51

def wb_c_M_count_2 : List Cond := [.fieldLink RX19 19 "HornbookModel" "methods" "Ljava/util/ArrayList;", .code yJx4a65c_size_8abf5 cJx4a65c_size_8abf5 1 (some .int), .fieldLink RJx4a65c 48 "java/util/ArrayList" "size" "I", .methodLink RX19 47 yJx4a65c_size_8abf5, .instanceMethod yJx4a65c_size_8abf5, .selects RJx4a65c yJx4a65c_size_8abf5 yJx4a65c_size_8abf5, .initialized RJx4a65c] ++ u_ws RJx4a65c TJx4a65c 3 ++ u_ws RX19 TX19 5
def w_c_M_count_2 : List Cond := .code yX19_count cX19_count 2 (some .int) :: wb_c_M_count_2
set_option maxRecDepth 100000 in
theorem g_c_M_count_2_0 : GoodIn w_c_M_count_2 (wsV RX19 47 RJx4a65c yJx4a65c_size_8abf5 w_c_AL_size) := goodIn_app (goodIn_of _ (by decide +kernel)) (goodIn_p (big := w_c_M_count_2) (.code yJx4a65c_size_8abf5 cJx4a65c_size_8abf5 1 (some .int) :: wb_c_AL_size) [2] rfl (by decide +kernel))
set_option maxHeartbeats 4000000 in
set_option maxRecDepth 100000 in
theorem c_M_count_2 (l : Launch) (eD eI : Nat) (ad : Nat → Nat) (dC : Nat → ClassId) (dI : Nat → Nat → Nat) (sz : Nat) (mm : Nat) (ms : Nat) (mt : Nat) (mh : Nat) (me : Nat) (th : Int32) : Met l yX19_count w_c_M_count_2 ({ frames := 1, cells := 0, slots := 0, locals := 20 }) (va_Pc [.ref mm, .int 2] (zPre eD eI ad (dC, dI) [(mm, .inr (21, [.int th, .ref ms, .ref mt, .ref mh, .ref me])), (mh, .inr (1, [.int 0, .ref eD, .int 0]))] [] sz)) (va_Qi (fun (r : Int32) (_ : Unit) => r = 0) (fun (_ : Unit) => zEnd (dC, dI) (va_A [(mm, .inr (21, [.int th, .ref ms, .ref mt, .ref mh, .ref me])), (mh, .inr (1, [.int 0, .ref eD, .int 0]))] sz) [(mm, .inr (21, [.int th, .ref ms, .ref mt, .ref mh, .ref me])), (mh, .inr (1, [.int 0, .ref eD, .int 0]))] []) (va_A [(mm, .inr (21, [.int th, .ref ms, .ref mt, .ref mh, .ref me])), (mh, .inr (1, [.int 0, .ref eD, .int 0]))] sz)) 0 0 (va_A [(mm, .inr (21, [.int th, .ref ms, .ref mt, .ref mh, .ref me])), (mh, .inr (1, [.int 0, .ref eD, .int 0]))] sz) := by
  refine Met.ofW (cc := cX19_count) (maxL := 2) (ret := (some .int)) (by decide) rfl ?_
  intro p e s m args below meth c s₁ B hml hv
  obtain ⟨rfl, hsz, hP, hK, hD0, hE⟩ := hv
  have hx := B.exec
  have hb := B.bytes
  have hr := B.returns
  have hts := atoms_spec (ws := w_c_M_count_2) B.pre
  have hown : s.vm.findClass RX19 = some m.cls := findClass_of_methodNamed B.named
  have hlocks := B.notSynchronized
  subst hsz
  have hD := hD0.self (sz := s.heap.size)
  generalize hAe : va_A [(mm, .inr (21, [.int th, .ref ms, .ref mt, .ref mh, .ref me])), (mh, .inr (1, [.int 0, .ref eD, .int 0]))] s.heap.size = A at hD hE ⊢
  have hA : ∀ q : Nat, s.heap.size ≤ q → A q := fun q h => by rw [← hAe]; exact Or.inr h
  have hS : va_S A s.heap s.heap [] := va_S.rf
  have hP : va_P (dC, dI) vwCl [(mm, .inr (21, [.int th, .ref ms, .ref mt, .ref mh, .ref me])), (mh, .inr (1, [.int 0, .ref eD, .int 0]))] s.heap := hP
  have hl := lv_entry ([.ref mm, .int 2]) (n := 2) (Nat.le_of_ble_eq_true rfl)
  rw [lg_entry_eq]
  generalize (lg_sl ([.ref mm, .int 2]) ++ List.replicate (2 - (lg_sl ([.ref mm, .int 2])).length) Slot.unset).toArray = ls at hl ⊢
  have hl : lv_has ls 2 [(0, .ref mm), (1, .int 2)] := hl
  have in_RJx4a65c : ∀ w ∈ u_ws RJx4a65c TJx4a65c 3, w ∈ w_c_M_count_2 := by decide +kernel
  have in_RX19 : ∀ w ∈ u_ws RX19 TX19 5, w ∈ w_c_M_count_2 := by decide +kernel
  refine lv_iload_n hx hb dX19_count_0 rfl (lv_at hl 1 rfl) ?_
  refine lv_if_ne (tgt := 14) hx hb dX19_count_1 (by decide) (fun c_1 => ?_) (fun c_1 => ?_)
  rotate_left
  · exact absurd c_1 (by decide)
  refine lv_iload_n hx hb dX19_count_14 rfl (lv_at hl 1 rfl) ?_
  refine lv_iconst (v := 1) hx hb dX19_count_15 (by decide) ?_
  refine lv_icmp_ne (tgt := 29) hx hb dX19_count_16 (by decide) (fun c_2 => ?_) (fun c_2 => ?_)
  rotate_left
  · exact absurd c_2 (by decide)
  refine lv_iload_n hx hb dX19_count_29 rfl (lv_at hl 1 rfl) ?_
  refine lv_iconst (v := 2) hx hb dX19_count_30 (by decide) ?_
  refine lv_icmp_ne (tgt := 44) hx hb dX19_count_31 (by decide) (fun c_3 => ?_) (fun c_3 => ?_)
  · exact absurd (by decide) c_3
  refine lv_aload_n hx hb dX19_count_34 rfl (lv_at hl 0 rfl) ?_
  refine va_get (D := (dC, dI)) (ci := 21) (v := .ref mh) (C := RX19) (T := TX19) (N := 5) hx hb hts in_RX19 hown hK hP 0 rfl rfl 3 (by decide) (hts (.fieldLink RX19 19 "HornbookModel" "methods" "Ljava/util/ArrayList;") (by decide +kernel)) (fun _ h9 => h9) rfl dX19_count_35 ?_
  refine z_i (wr := [(mm, .inr (21, [.int th, .ref ms, .ref mt, .ref mh, .ref me]))]) (va_runV (As := []) (rest := []) ⟨hx, hb, hml, hown, hts⟩ (c_AL_size l eD eI ad dC dI s.heap.size mh ((.int 0)) ((.ref eD)) 0) (cwV 0 hts g_c_M_count_2_0 rfl rfl rfl (by decide +kernel) ⟨Nat.le_of_ble_eq_true rfl, Nat.le_of_ble_eq_true rfl⟩) (z_preV (wc := [(mh, .inr (1, [.int 0, .ref eD, .int 0]))]) hP hD hK hS hA hE [1] [] rfl (by decide) rfl (ci := 1) (q0 := 0) rfl rfl) rfl rfl hl.1 rfl (lv_room (Nat.le_of_ble_eq_true rfl)) dX19_count_38 ⟨Nat.le_of_ble_eq_true rfl, Nat.le_of_ble_eq_true rfl⟩) hP hD hK hS hA [1] [0] rfl rfl (by decide) (by decide) (fun r_4 u H locs hw_5 hP hD hK hS => ?_)
  obtain ⟨⟩ := u
  have hP : va_P (dC, dI) vwCl [(mm, .inr (21, [.int th, .ref ms, .ref mt, .ref mh, .ref me])), (mh, .inr (1, [.int 0, .ref eD, .int 0]))] H := hP
  have hD : va_D A [(mm, .inr (21, [.int th, .ref ms, .ref mt, .ref mh, .ref me])), (mh, .inr (1, [.int 0, .ref eD, .int 0]))] := hD
  have hK : va_K (dC, dI) vwCl [] s := by simpa using hK
  have hw_5 : r_4 = 0 := hw_5
  have hw_5 := hw_5.symm
  subst hw_5
  refine lv_goto (tgt := 51) hx hb dX19_count_41 (by decide) ?_
  have hP9 := hP.sub (ws' := [(mm, .inr (21, [.int th, .ref ms, .ref mt, .ref mh, .ref me])), (mh, .inr (1, [.int 0, .ref eD, .int 0]))]) [0, 1] rfl
  have hD9 := hD.sub (ws' := [(mm, .inr (21, [.int th, .ref ms, .ref mt, .ref mh, .ref me])), (mh, .inr (1, [.int 0, .ref eD, .int 0]))]) [0, 1] (by decide) rfl
  have hK9 := hK.sub (tys' := []) [] rfl
  refine W.widen (k := 0) (n := 0) (Nat.le_of_ble_eq_true rfl) (Nat.le_of_ble_eq_true rfl) ?_
  exact W.iret (v := 0) hx hb hr (fun t ht hW => ⟨⟨0, (), rfl, rfl, ⟨by rw [ht]; exact hP9, va_K.moved hW.alike hK9, hD9⟩⟩, hS.F ht⟩) hS.2.2 dX19_count_51

def wb_c_M_count_3 : List Cond := [.fieldLink RX19 22 "HornbookModel" "expressions" "Ljava/util/ArrayList;", .code yJx4a65c_size_8abf5 cJx4a65c_size_8abf5 1 (some .int), .fieldLink RJx4a65c 48 "java/util/ArrayList" "size" "I", .methodLink RX19 47 yJx4a65c_size_8abf5, .instanceMethod yJx4a65c_size_8abf5, .selects RJx4a65c yJx4a65c_size_8abf5 yJx4a65c_size_8abf5, .initialized RJx4a65c] ++ u_ws RJx4a65c TJx4a65c 3 ++ u_ws RX19 TX19 5
def w_c_M_count_3 : List Cond := .code yX19_count cX19_count 2 (some .int) :: wb_c_M_count_3
set_option maxRecDepth 100000 in
theorem g_c_M_count_3_0 : GoodIn w_c_M_count_3 (wsV RX19 47 RJx4a65c yJx4a65c_size_8abf5 w_c_AL_size) := goodIn_app (goodIn_of _ (by decide +kernel)) (goodIn_p (big := w_c_M_count_3) (.code yJx4a65c_size_8abf5 cJx4a65c_size_8abf5 1 (some .int) :: wb_c_AL_size) [2] rfl (by decide +kernel))
set_option maxHeartbeats 4000000 in
set_option maxRecDepth 100000 in
theorem c_M_count_3 (l : Launch) (eD eI : Nat) (ad : Nat → Nat) (dC : Nat → ClassId) (dI : Nat → Nat → Nat) (sz : Nat) (mm : Nat) (ms : Nat) (mt : Nat) (mh : Nat) (me : Nat) (th : Int32) : Met l yX19_count w_c_M_count_3 ({ frames := 1, cells := 0, slots := 0, locals := 20 }) (va_Pc [.ref mm, .int 3] (zPre eD eI ad (dC, dI) [(mm, .inr (21, [.int th, .ref ms, .ref mt, .ref mh, .ref me])), (me, .inr (1, [.int 0, .ref eD, .int 0]))] [] sz)) (va_Qi (fun (r : Int32) (_ : Unit) => r = 0) (fun (_ : Unit) => zEnd (dC, dI) (va_A [(mm, .inr (21, [.int th, .ref ms, .ref mt, .ref mh, .ref me])), (me, .inr (1, [.int 0, .ref eD, .int 0]))] sz) [(mm, .inr (21, [.int th, .ref ms, .ref mt, .ref mh, .ref me])), (me, .inr (1, [.int 0, .ref eD, .int 0]))] []) (va_A [(mm, .inr (21, [.int th, .ref ms, .ref mt, .ref mh, .ref me])), (me, .inr (1, [.int 0, .ref eD, .int 0]))] sz)) 0 0 (va_A [(mm, .inr (21, [.int th, .ref ms, .ref mt, .ref mh, .ref me])), (me, .inr (1, [.int 0, .ref eD, .int 0]))] sz) := by
  refine Met.ofW (cc := cX19_count) (maxL := 2) (ret := (some .int)) (by decide) rfl ?_
  intro p e s m args below meth c s₁ B hml hv
  obtain ⟨rfl, hsz, hP, hK, hD0, hE⟩ := hv
  have hx := B.exec
  have hb := B.bytes
  have hr := B.returns
  have hts := atoms_spec (ws := w_c_M_count_3) B.pre
  have hown : s.vm.findClass RX19 = some m.cls := findClass_of_methodNamed B.named
  have hlocks := B.notSynchronized
  subst hsz
  have hD := hD0.self (sz := s.heap.size)
  generalize hAe : va_A [(mm, .inr (21, [.int th, .ref ms, .ref mt, .ref mh, .ref me])), (me, .inr (1, [.int 0, .ref eD, .int 0]))] s.heap.size = A at hD hE ⊢
  have hA : ∀ q : Nat, s.heap.size ≤ q → A q := fun q h => by rw [← hAe]; exact Or.inr h
  have hS : va_S A s.heap s.heap [] := va_S.rf
  have hP : va_P (dC, dI) vwCl [(mm, .inr (21, [.int th, .ref ms, .ref mt, .ref mh, .ref me])), (me, .inr (1, [.int 0, .ref eD, .int 0]))] s.heap := hP
  have hl := lv_entry ([.ref mm, .int 3]) (n := 2) (Nat.le_of_ble_eq_true rfl)
  rw [lg_entry_eq]
  generalize (lg_sl ([.ref mm, .int 3]) ++ List.replicate (2 - (lg_sl ([.ref mm, .int 3])).length) Slot.unset).toArray = ls at hl ⊢
  have hl : lv_has ls 2 [(0, .ref mm), (1, .int 3)] := hl
  have in_RJx4a65c : ∀ w ∈ u_ws RJx4a65c TJx4a65c 3, w ∈ w_c_M_count_3 := by decide +kernel
  have in_RX19 : ∀ w ∈ u_ws RX19 TX19 5, w ∈ w_c_M_count_3 := by decide +kernel
  refine lv_iload_n hx hb dX19_count_0 rfl (lv_at hl 1 rfl) ?_
  refine lv_if_ne (tgt := 14) hx hb dX19_count_1 (by decide) (fun c_1 => ?_) (fun c_1 => ?_)
  rotate_left
  · exact absurd c_1 (by decide)
  refine lv_iload_n hx hb dX19_count_14 rfl (lv_at hl 1 rfl) ?_
  refine lv_iconst (v := 1) hx hb dX19_count_15 (by decide) ?_
  refine lv_icmp_ne (tgt := 29) hx hb dX19_count_16 (by decide) (fun c_2 => ?_) (fun c_2 => ?_)
  rotate_left
  · exact absurd c_2 (by decide)
  refine lv_iload_n hx hb dX19_count_29 rfl (lv_at hl 1 rfl) ?_
  refine lv_iconst (v := 2) hx hb dX19_count_30 (by decide) ?_
  refine lv_icmp_ne (tgt := 44) hx hb dX19_count_31 (by decide) (fun c_3 => ?_) (fun c_3 => ?_)
  rotate_left
  · exact absurd c_3 (by decide)
  refine lv_aload_n hx hb dX19_count_44 rfl (lv_at hl 0 rfl) ?_
  refine va_get (D := (dC, dI)) (ci := 21) (v := .ref me) (C := RX19) (T := TX19) (N := 5) hx hb hts in_RX19 hown hK hP 0 rfl rfl 4 (by decide) (hts (.fieldLink RX19 22 "HornbookModel" "expressions" "Ljava/util/ArrayList;") (by decide +kernel)) (fun _ h9 => h9) rfl dX19_count_45 ?_
  refine z_i (wr := [(mm, .inr (21, [.int th, .ref ms, .ref mt, .ref mh, .ref me]))]) (va_runV (As := []) (rest := []) ⟨hx, hb, hml, hown, hts⟩ (c_AL_size l eD eI ad dC dI s.heap.size me ((.int 0)) ((.ref eD)) 0) (cwV 0 hts g_c_M_count_3_0 rfl rfl rfl (by decide +kernel) ⟨Nat.le_of_ble_eq_true rfl, Nat.le_of_ble_eq_true rfl⟩) (z_preV (wc := [(me, .inr (1, [.int 0, .ref eD, .int 0]))]) hP hD hK hS hA hE [1] [] rfl (by decide) rfl (ci := 1) (q0 := 0) rfl rfl) rfl rfl hl.1 rfl (lv_room (Nat.le_of_ble_eq_true rfl)) dX19_count_48 ⟨Nat.le_of_ble_eq_true rfl, Nat.le_of_ble_eq_true rfl⟩) hP hD hK hS hA [1] [0] rfl rfl (by decide) (by decide) (fun r_4 u H locs hw_5 hP hD hK hS => ?_)
  obtain ⟨⟩ := u
  have hP : va_P (dC, dI) vwCl [(mm, .inr (21, [.int th, .ref ms, .ref mt, .ref mh, .ref me])), (me, .inr (1, [.int 0, .ref eD, .int 0]))] H := hP
  have hD : va_D A [(mm, .inr (21, [.int th, .ref ms, .ref mt, .ref mh, .ref me])), (me, .inr (1, [.int 0, .ref eD, .int 0]))] := hD
  have hK : va_K (dC, dI) vwCl [] s := by simpa using hK
  have hw_5 : r_4 = 0 := hw_5
  have hw_5 := hw_5.symm
  subst hw_5
  have hP9 := hP.sub (ws' := [(mm, .inr (21, [.int th, .ref ms, .ref mt, .ref mh, .ref me])), (me, .inr (1, [.int 0, .ref eD, .int 0]))]) [0, 1] rfl
  have hD9 := hD.sub (ws' := [(mm, .inr (21, [.int th, .ref ms, .ref mt, .ref mh, .ref me])), (me, .inr (1, [.int 0, .ref eD, .int 0]))]) [0, 1] (by decide) rfl
  have hK9 := hK.sub (tys' := []) [] rfl
  refine W.widen (k := 0) (n := 0) (Nat.le_of_ble_eq_true rfl) (Nat.le_of_ble_eq_true rfl) ?_
  exact W.iret (v := 0) hx hb hr (fun t ht hW => ⟨⟨0, (), rfl, rfl, ⟨by rw [ht]; exact hP9, va_K.moved hW.alike hK9, hD9⟩⟩, hS.F ht⟩) hS.2.2 dX19_count_51

def wb_c_M_isNone_lo : List Cond := [.code yX19_isNoExpression cX19_isNoExpression 2 (some .boolean), .fieldLink RX19 22 "HornbookModel" "expressions" "Ljava/util/ArrayList;", .code yJx4a65c_size_8abf5 cJx4a65c_size_8abf5 1 (some .int), .fieldLink RJx4a65c 48 "java/util/ArrayList" "size" "I", .methodLink RX19 47 yJx4a65c_size_8abf5, .instanceMethod yJx4a65c_size_8abf5, .selects RJx4a65c yJx4a65c_size_8abf5 yJx4a65c_size_8abf5, .initialized RJx4a65c, .code yX19_isIn cX19_isIn 3 (some .boolean), .methodLink RX19 51 yX19_isIn, .static yX19_isIn, .initialized RX19, .methodLink RX19 137 yX19_isNoExpression, .instanceMethod yX19_isNoExpression, .selects RX19 yX19_isNoExpression yX19_isNoExpression, .code yX19_start cX19_start 3 (some .boolean), .fieldLink RX19 34 "HornbookModel" "thrown" "I", .code yX19_refuse cX19_refuse 3 (some .boolean), .methodLink RX19 38 yX19_refuse, .instanceMethod yX19_refuse, .selects RX19 yX19_refuse yX19_refuse, .methodLink RX19 63 yX19_start, .instanceMethod yX19_start, .selects RX19 yX19_start yX19_start] ++ u_ws RJx4a65c TJx4a65c 3 ++ u_ws RX19 TX19 5
def w_c_M_isNone_lo : List Cond := .code yX19_isNone cX19_isNone 2 (some .boolean) :: wb_c_M_isNone_lo
set_option maxRecDepth 100000 in
theorem g_c_M_isNone_lo_0 : GoodIn w_c_M_isNone_lo (wsV RX19 137 RX19 yX19_isNoExpression w_c_M_isNoExpression_lo) := goodIn_app (goodIn_of _ (by decide +kernel)) (goodIn_p (big := w_c_M_isNone_lo) (.code yX19_isNoExpression cX19_isNoExpression 2 (some .boolean) :: wb_c_M_isNoExpression_lo) [1, 3, 9] rfl (by decide +kernel))
set_option maxRecDepth 100000 in
theorem g_c_M_isNone_lo_1 : GoodIn w_c_M_isNone_lo (wsV RX19 63 RX19 yX19_start w_c_M_start_yes) := goodIn_app (goodIn_of _ (by decide +kernel)) (goodIn_p (big := w_c_M_isNone_lo) (.code yX19_start cX19_start 3 (some .boolean) :: wb_c_M_start_yes) [16, 18] rfl (by decide +kernel))
set_option maxHeartbeats 4000000 in
set_option maxRecDepth 100000 in
theorem c_M_isNone_lo (l : Launch) (eD eI : Nat) (ad : Nat → Nat) (dC : Nat → ClassId) (dI : Nat → Nat → Nat) (sz : Nat) (mm : Nat) (ms : Nat) (mt : Nat) (mh : Nat) (me : Nat) (th : Int32) (x1 : Int32) (h1 : x1 < 0) : Met l yX19_isNone w_c_M_isNone_lo ({ frames := 2, cells := 0, slots := 0, locals := 44 }) (va_Pc [.ref mm, .int x1] (zPre eD eI ad (dC, dI) [(mm, .inr (21, [.int th, .ref ms, .ref mt, .ref mh, .ref me])), (me, .inr (1, [.int 0, .ref eD, .int 0]))] [] sz)) (va_Qi (fun (r : Int32) (_ : Unit) => r = 1) (fun (_ : Unit) => zEnd (dC, dI) (va_A [(mm, .inr (21, [.int th, .ref ms, .ref mt, .ref mh, .ref me])), (me, .inr (1, [.int 0, .ref eD, .int 0]))] sz) [(mm, .inr (21, [.int 1, .ref ms, .ref mt, .ref mh, .ref me])), (me, .inr (1, [.int 0, .ref eD, .int 0]))] []) (va_A [(mm, .inr (21, [.int th, .ref ms, .ref mt, .ref mh, .ref me])), (me, .inr (1, [.int 0, .ref eD, .int 0]))] sz)) 0 0 (va_A [(mm, .inr (21, [.int th, .ref ms, .ref mt, .ref mh, .ref me])), (me, .inr (1, [.int 0, .ref eD, .int 0]))] sz) := by
  refine Met.ofW (cc := cX19_isNone) (maxL := 2) (ret := (some .boolean)) (by decide) rfl ?_
  intro p e s m args below meth c s₁ B hml hv
  obtain ⟨rfl, hsz, hP, hK, hD0, hE⟩ := hv
  have hx := B.exec
  have hb := B.bytes
  have hr := B.returns
  have hts := atoms_spec (ws := w_c_M_isNone_lo) B.pre
  have hown : s.vm.findClass RX19 = some m.cls := findClass_of_methodNamed B.named
  have hlocks := B.notSynchronized
  subst hsz
  have hD := hD0.self (sz := s.heap.size)
  generalize hAe : va_A [(mm, .inr (21, [.int th, .ref ms, .ref mt, .ref mh, .ref me])), (me, .inr (1, [.int 0, .ref eD, .int 0]))] s.heap.size = A at hD hE ⊢
  have hA : ∀ q : Nat, s.heap.size ≤ q → A q := fun q h => by rw [← hAe]; exact Or.inr h
  have hS : va_S A s.heap s.heap [] := va_S.rf
  have hP : va_P (dC, dI) vwCl [(mm, .inr (21, [.int th, .ref ms, .ref mt, .ref mh, .ref me])), (me, .inr (1, [.int 0, .ref eD, .int 0]))] s.heap := hP
  have hl := lv_entry ([.ref mm, .int x1]) (n := 2) (Nat.le_of_ble_eq_true rfl)
  rw [lg_entry_eq]
  generalize (lg_sl ([.ref mm, .int x1]) ++ List.replicate (2 - (lg_sl ([.ref mm, .int x1])).length) Slot.unset).toArray = ls at hl ⊢
  have hl : lv_has ls 2 [(0, .ref mm), (1, .int x1)] := hl
  have in_RJx4a65c : ∀ w ∈ u_ws RJx4a65c TJx4a65c 3, w ∈ w_c_M_isNone_lo := by decide +kernel
  have in_RX19 : ∀ w ∈ u_ws RX19 TX19 5, w ∈ w_c_M_isNone_lo := by decide +kernel
  refine lv_aload_n hx hb dX19_isNone_0 rfl (lv_at hl 0 rfl) ?_
  refine lv_aload_n hx hb dX19_isNone_1 rfl (lv_at hl 0 rfl) ?_
  refine lv_iload_n hx hb dX19_isNone_2 rfl (lv_at hl 1 rfl) ?_
  refine z_i (wr := []) (va_runV (As := [.int x1]) (rest := [.ref mm]) ⟨hx, hb, hml, hown, hts⟩ (c_M_isNoExpression_lo l eD eI ad dC dI s.heap.size mm ms mt mh me th ((.int 0)) ((.ref eD)) x1 (h1)) (cwV 1 hts g_c_M_isNone_lo_0 rfl rfl rfl (by decide +kernel) ⟨Nat.le_of_ble_eq_true rfl, Nat.le_of_ble_eq_true rfl⟩) (z_preV (wc := [(mm, .inr (21, [.int th, .ref ms, .ref mt, .ref mh, .ref me])), (me, .inr (1, [.int 0, .ref eD, .int 0]))]) hP hD hK hS hA hE [0, 1] [] rfl (by decide) rfl (ci := 21) (q0 := 0) rfl rfl) rfl rfl hl.1 rfl (lv_room (Nat.le_of_ble_eq_true rfl)) dX19_isNone_3 ⟨Nat.le_of_ble_eq_true rfl, Nat.le_of_ble_eq_true rfl⟩) hP hD hK hS hA [0, 1] [] rfl rfl (by decide) (by decide) (fun r_1 u H locs hw_2 hP hD hK hS => ?_)
  obtain ⟨⟩ := u
  have hP : va_P (dC, dI) vwCl [(mm, .inr (21, [.int th, .ref ms, .ref mt, .ref mh, .ref me])), (me, .inr (1, [.int 0, .ref eD, .int 0]))] H := hP
  have hD : va_D A [(mm, .inr (21, [.int th, .ref ms, .ref mt, .ref mh, .ref me])), (me, .inr (1, [.int 0, .ref eD, .int 0]))] := hD
  have hK : va_K (dC, dI) vwCl [] s := by simpa using hK
  have hw_2 : r_1 = 1 := hw_2
  have hw_2 := hw_2.symm
  subst hw_2
  refine lv_iconst (v := 1) hx hb dX19_isNone_6 (by decide) ?_
  refine z_i (wr := [(me, .inr (1, [.int 0, .ref eD, .int 0]))]) (va_runV (As := [.int 1, .int 1]) (rest := []) ⟨hx, hb, hml, hown, hts⟩ (c_M_start_yes l eD eI ad dC dI H.size mm ((.ref ms)) ((.ref mt)) ((.ref mh)) ((.ref me)) 1 th (by decide)) (cwV 2 hts g_c_M_isNone_lo_1 rfl rfl rfl (by decide +kernel) ⟨Nat.le_of_ble_eq_true rfl, Nat.le_of_ble_eq_true rfl⟩) (z_preV (wc := [(mm, .inr (21, [.int th, .ref ms, .ref mt, .ref mh, .ref me]))]) hP hD hK hS hA hE [0] [] rfl (by decide) rfl (ci := 21) (q0 := 0) rfl rfl) rfl rfl hl.1 rfl (lv_room (Nat.le_of_ble_eq_true rfl)) dX19_isNone_7 ⟨Nat.le_of_ble_eq_true rfl, Nat.le_of_ble_eq_true rfl⟩) hP hD hK hS hA [0] [1] rfl rfl (by decide) (by decide) (fun r_3 u H locs hw_4 hP hD hK hS => ?_)
  obtain ⟨⟩ := u
  have hP : va_P (dC, dI) vwCl [(me, .inr (1, [.int 0, .ref eD, .int 0])), (mm, .inr (21, [.int 1, .ref ms, .ref mt, .ref mh, .ref me]))] H := hP
  have hD : va_D A [(me, .inr (1, [.int 0, .ref eD, .int 0])), (mm, .inr (21, [.int 1, .ref ms, .ref mt, .ref mh, .ref me]))] := hD
  have hK : va_K (dC, dI) vwCl [] s := by simpa using hK
  have hw_4 : r_3 = 1 := hw_4
  have hw_4 := hw_4.symm
  subst hw_4
  have hP9 := hP.sub (ws' := [(mm, .inr (21, [.int 1, .ref ms, .ref mt, .ref mh, .ref me])), (me, .inr (1, [.int 0, .ref eD, .int 0]))]) [1, 0] rfl
  have hD9 := hD.sub (ws' := [(mm, .inr (21, [.int 1, .ref ms, .ref mt, .ref mh, .ref me])), (me, .inr (1, [.int 0, .ref eD, .int 0]))]) [1, 0] (by decide) rfl
  have hK9 := hK.sub (tys' := []) [] rfl
  refine W.widen (k := 0) (n := 0) (Nat.le_of_ble_eq_true rfl) (Nat.le_of_ble_eq_true rfl) ?_
  exact W.zret (v := 1) hx hb hr (by first | rfl | decide) (fun t ht hW => ⟨⟨1, (), rfl, rfl, ⟨by rw [ht]; exact hP9, va_K.moved hW.alike hK9, hD9⟩⟩, hS.F ht⟩) hS.2.2 dX19_isNone_10

def wb_c_M_isNoOther_lo : List Cond := [.code yX19_isNoSort cX19_isNoSort 2 (some .boolean), .fieldLink RX19 10 "HornbookModel" "sorts" "Ljava/util/ArrayList;", .code yJx4a65c_size_8abf5 cJx4a65c_size_8abf5 1 (some .int), .fieldLink RJx4a65c 48 "java/util/ArrayList" "size" "I", .methodLink RX19 47 yJx4a65c_size_8abf5, .instanceMethod yJx4a65c_size_8abf5, .selects RJx4a65c yJx4a65c_size_8abf5 yJx4a65c_size_8abf5, .initialized RJx4a65c, .code yX19_isIn cX19_isIn 3 (some .boolean), .methodLink RX19 51 yX19_isIn, .static yX19_isIn, .initialized RX19, .methodLink RX19 84 yX19_isNoSort, .instanceMethod yX19_isNoSort, .selects RX19 yX19_isNoSort yX19_isNoSort, .code yX19_start cX19_start 3 (some .boolean), .fieldLink RX19 34 "HornbookModel" "thrown" "I", .code yX19_refuse cX19_refuse 3 (some .boolean), .methodLink RX19 38 yX19_refuse, .instanceMethod yX19_refuse, .selects RX19 yX19_refuse yX19_refuse, .methodLink RX19 63 yX19_start, .instanceMethod yX19_start, .selects RX19 yX19_start yX19_start] ++ u_ws RJx4a65c TJx4a65c 3 ++ u_ws RX19 TX19 5
def w_c_M_isNoOther_lo : List Cond := .code yX19_isNoOther cX19_isNoOther 4 (some .boolean) :: wb_c_M_isNoOther_lo
set_option maxRecDepth 100000 in
theorem g_c_M_isNoOther_lo_0 : GoodIn w_c_M_isNoOther_lo (wsV RX19 84 RX19 yX19_isNoSort w_c_M_isNoSort_lo) := goodIn_app (goodIn_of _ (by decide +kernel)) (goodIn_p (big := w_c_M_isNoOther_lo) (.code yX19_isNoSort cX19_isNoSort 2 (some .boolean) :: wb_c_M_isNoSort_lo) [1, 3, 9] rfl (by decide +kernel))
set_option maxRecDepth 100000 in
theorem g_c_M_isNoOther_lo_1 : GoodIn w_c_M_isNoOther_lo (wsV RX19 63 RX19 yX19_start w_c_M_start_yes) := goodIn_app (goodIn_of _ (by decide +kernel)) (goodIn_p (big := w_c_M_isNoOther_lo) (.code yX19_start cX19_start 3 (some .boolean) :: wb_c_M_start_yes) [16, 18] rfl (by decide +kernel))
set_option maxHeartbeats 4000000 in
set_option maxRecDepth 100000 in
theorem c_M_isNoOther_lo (l : Launch) (eD eI : Nat) (ad : Nat → Nat) (dC : Nat → ClassId) (dI : Nat → Nat → Nat) (sz : Nat) (mm : Nat) (ms : Nat) (mt : Nat) (mh : Nat) (me : Nat) (th : Int32) (x1 : Int32) (x2 : Int32) (x3 : Int32) (h1 : x1 < 0) : Met l yX19_isNoOther w_c_M_isNoOther_lo ({ frames := 2, cells := 0, slots := 0, locals := 44 }) (va_Pc [.ref mm, .int x1, .int x2, .int x3] (zPre eD eI ad (dC, dI) [(mm, .inr (21, [.int th, .ref ms, .ref mt, .ref mh, .ref me])), (ms, .inr (1, [.int 0, .ref eD, .int 0]))] [] sz)) (va_Qi (fun (r : Int32) (_ : Unit) => r = 1) (fun (_ : Unit) => zEnd (dC, dI) (va_A [(mm, .inr (21, [.int th, .ref ms, .ref mt, .ref mh, .ref me])), (ms, .inr (1, [.int 0, .ref eD, .int 0]))] sz) [(mm, .inr (21, [.int 1, .ref ms, .ref mt, .ref mh, .ref me])), (ms, .inr (1, [.int 0, .ref eD, .int 0]))] []) (va_A [(mm, .inr (21, [.int th, .ref ms, .ref mt, .ref mh, .ref me])), (ms, .inr (1, [.int 0, .ref eD, .int 0]))] sz)) 0 0 (va_A [(mm, .inr (21, [.int th, .ref ms, .ref mt, .ref mh, .ref me])), (ms, .inr (1, [.int 0, .ref eD, .int 0]))] sz) := by
  refine Met.ofW (cc := cX19_isNoOther) (maxL := 4) (ret := (some .boolean)) (by decide) rfl ?_
  intro p e s m args below meth c s₁ B hml hv
  obtain ⟨rfl, hsz, hP, hK, hD0, hE⟩ := hv
  have hx := B.exec
  have hb := B.bytes
  have hr := B.returns
  have hts := atoms_spec (ws := w_c_M_isNoOther_lo) B.pre
  have hown : s.vm.findClass RX19 = some m.cls := findClass_of_methodNamed B.named
  have hlocks := B.notSynchronized
  subst hsz
  have hD := hD0.self (sz := s.heap.size)
  generalize hAe : va_A [(mm, .inr (21, [.int th, .ref ms, .ref mt, .ref mh, .ref me])), (ms, .inr (1, [.int 0, .ref eD, .int 0]))] s.heap.size = A at hD hE ⊢
  have hA : ∀ q : Nat, s.heap.size ≤ q → A q := fun q h => by rw [← hAe]; exact Or.inr h
  have hS : va_S A s.heap s.heap [] := va_S.rf
  have hP : va_P (dC, dI) vwCl [(mm, .inr (21, [.int th, .ref ms, .ref mt, .ref mh, .ref me])), (ms, .inr (1, [.int 0, .ref eD, .int 0]))] s.heap := hP
  have hl := lv_entry ([.ref mm, .int x1, .int x2, .int x3]) (n := 4) (Nat.le_of_ble_eq_true rfl)
  rw [lg_entry_eq]
  generalize (lg_sl ([.ref mm, .int x1, .int x2, .int x3]) ++ List.replicate (4 - (lg_sl ([.ref mm, .int x1, .int x2, .int x3])).length) Slot.unset).toArray = ls at hl ⊢
  have hl : lv_has ls 4 [(0, .ref mm), (1, .int x1), (2, .int x2), (3, .int x3)] := hl
  have in_RJx4a65c : ∀ w ∈ u_ws RJx4a65c TJx4a65c 3, w ∈ w_c_M_isNoOther_lo := by decide +kernel
  have in_RX19 : ∀ w ∈ u_ws RX19 TX19 5, w ∈ w_c_M_isNoOther_lo := by decide +kernel
  refine lv_aload_n hx hb dX19_isNoOther_0 rfl (lv_at hl 0 rfl) ?_
  refine lv_aload_n hx hb dX19_isNoOther_1 rfl (lv_at hl 0 rfl) ?_
  refine lv_iload_n hx hb dX19_isNoOther_2 rfl (lv_at hl 1 rfl) ?_
  refine z_i (wr := []) (va_runV (As := [.int x1]) (rest := [.ref mm]) ⟨hx, hb, hml, hown, hts⟩ (c_M_isNoSort_lo l eD eI ad dC dI s.heap.size mm ms mt mh me th ((.int 0)) ((.ref eD)) x1 (h1)) (cwV 1 hts g_c_M_isNoOther_lo_0 rfl rfl rfl (by decide +kernel) ⟨Nat.le_of_ble_eq_true rfl, Nat.le_of_ble_eq_true rfl⟩) (z_preV (wc := [(mm, .inr (21, [.int th, .ref ms, .ref mt, .ref mh, .ref me])), (ms, .inr (1, [.int 0, .ref eD, .int 0]))]) hP hD hK hS hA hE [0, 1] [] rfl (by decide) rfl (ci := 21) (q0 := 0) rfl rfl) rfl rfl hl.1 rfl (lv_room (Nat.le_of_ble_eq_true rfl)) dX19_isNoOther_3 ⟨Nat.le_of_ble_eq_true rfl, Nat.le_of_ble_eq_true rfl⟩) hP hD hK hS hA [0, 1] [] rfl rfl (by decide) (by decide) (fun r_1 u H locs hw_2 hP hD hK hS => ?_)
  obtain ⟨⟩ := u
  have hP : va_P (dC, dI) vwCl [(mm, .inr (21, [.int th, .ref ms, .ref mt, .ref mh, .ref me])), (ms, .inr (1, [.int 0, .ref eD, .int 0]))] H := hP
  have hD : va_D A [(mm, .inr (21, [.int th, .ref ms, .ref mt, .ref mh, .ref me])), (ms, .inr (1, [.int 0, .ref eD, .int 0]))] := hD
  have hK : va_K (dC, dI) vwCl [] s := by simpa using hK
  have hw_2 : r_1 = 1 := hw_2
  have hw_2 := hw_2.symm
  subst hw_2
  refine lv_if_ne (tgt := 34) hx hb dX19_isNoOther_6 (by decide) (fun c_3 => ?_) (fun c_3 => ?_)
  rotate_left
  · exact absurd c_3 (by decide)
  refine lv_iconst (v := 1) hx hb dX19_isNoOther_34 (by decide) ?_
  refine lv_goto (tgt := 39) hx hb dX19_isNoOther_35 (by decide) ?_
  refine lv_iconst (v := 1) hx hb dX19_isNoOther_39 (by decide) ?_
  refine z_i (wr := [(ms, .inr (1, [.int 0, .ref eD, .int 0]))]) (va_runV (As := [.int 1, .int 1]) (rest := []) ⟨hx, hb, hml, hown, hts⟩ (c_M_start_yes l eD eI ad dC dI H.size mm ((.ref ms)) ((.ref mt)) ((.ref mh)) ((.ref me)) 1 th (by decide)) (cwV 2 hts g_c_M_isNoOther_lo_1 rfl rfl rfl (by decide +kernel) ⟨Nat.le_of_ble_eq_true rfl, Nat.le_of_ble_eq_true rfl⟩) (z_preV (wc := [(mm, .inr (21, [.int th, .ref ms, .ref mt, .ref mh, .ref me]))]) hP hD hK hS hA hE [0] [] rfl (by decide) rfl (ci := 21) (q0 := 0) rfl rfl) rfl rfl hl.1 rfl (lv_room (Nat.le_of_ble_eq_true rfl)) dX19_isNoOther_40 ⟨Nat.le_of_ble_eq_true rfl, Nat.le_of_ble_eq_true rfl⟩) hP hD hK hS hA [0] [1] rfl rfl (by decide) (by decide) (fun r_4 u H locs hw_5 hP hD hK hS => ?_)
  obtain ⟨⟩ := u
  have hP : va_P (dC, dI) vwCl [(ms, .inr (1, [.int 0, .ref eD, .int 0])), (mm, .inr (21, [.int 1, .ref ms, .ref mt, .ref mh, .ref me]))] H := hP
  have hD : va_D A [(ms, .inr (1, [.int 0, .ref eD, .int 0])), (mm, .inr (21, [.int 1, .ref ms, .ref mt, .ref mh, .ref me]))] := hD
  have hK : va_K (dC, dI) vwCl [] s := by simpa using hK
  have hw_5 : r_4 = 1 := hw_5
  have hw_5 := hw_5.symm
  subst hw_5
  refine lv_if_ne (tgt := 68) hx hb dX19_isNoOther_43 (by decide) (fun c_6 => ?_) (fun c_6 => ?_)
  rotate_left
  · exact absurd c_6 (by decide)
  refine lv_iconst (v := 1) hx hb dX19_isNoOther_68 (by decide) ?_
  refine lv_goto (tgt := 73) hx hb dX19_isNoOther_69 (by decide) ?_
  have hP9 := hP.sub (ws' := [(mm, .inr (21, [.int 1, .ref ms, .ref mt, .ref mh, .ref me])), (ms, .inr (1, [.int 0, .ref eD, .int 0]))]) [1, 0] rfl
  have hD9 := hD.sub (ws' := [(mm, .inr (21, [.int 1, .ref ms, .ref mt, .ref mh, .ref me])), (ms, .inr (1, [.int 0, .ref eD, .int 0]))]) [1, 0] (by decide) rfl
  have hK9 := hK.sub (tys' := []) [] rfl
  refine W.widen (k := 0) (n := 0) (Nat.le_of_ble_eq_true rfl) (Nat.le_of_ble_eq_true rfl) ?_
  exact W.zret (v := 1) hx hb hr (by first | rfl | decide) (fun t ht hW => ⟨⟨1, (), rfl, rfl, ⟨by rw [ht]; exact hP9, va_K.moved hW.alike hK9, hD9⟩⟩, hS.F ht⟩) hS.2.2 dX19_isNoOther_73

def wb_c_M_isNone_hi : List Cond := [.code yX19_isNoExpression cX19_isNoExpression 2 (some .boolean), .fieldLink RX19 22 "HornbookModel" "expressions" "Ljava/util/ArrayList;", .code yJx4a65c_size_8abf5 cJx4a65c_size_8abf5 1 (some .int), .fieldLink RJx4a65c 48 "java/util/ArrayList" "size" "I", .methodLink RX19 47 yJx4a65c_size_8abf5, .instanceMethod yJx4a65c_size_8abf5, .selects RJx4a65c yJx4a65c_size_8abf5 yJx4a65c_size_8abf5, .initialized RJx4a65c, .code yX19_isIn cX19_isIn 3 (some .boolean), .methodLink RX19 51 yX19_isIn, .static yX19_isIn, .initialized RX19, .methodLink RX19 137 yX19_isNoExpression, .instanceMethod yX19_isNoExpression, .selects RX19 yX19_isNoExpression yX19_isNoExpression, .code yX19_start cX19_start 3 (some .boolean), .fieldLink RX19 34 "HornbookModel" "thrown" "I", .code yX19_refuse cX19_refuse 3 (some .boolean), .methodLink RX19 38 yX19_refuse, .instanceMethod yX19_refuse, .selects RX19 yX19_refuse yX19_refuse, .methodLink RX19 63 yX19_start, .instanceMethod yX19_start, .selects RX19 yX19_start yX19_start] ++ u_ws RJx4a65c TJx4a65c 3 ++ u_ws RX19 TX19 5
def w_c_M_isNone_hi : List Cond := .code yX19_isNone cX19_isNone 2 (some .boolean) :: wb_c_M_isNone_hi
set_option maxRecDepth 100000 in
theorem g_c_M_isNone_hi_0 : GoodIn w_c_M_isNone_hi (wsV RX19 137 RX19 yX19_isNoExpression w_c_M_isNoExpression_hi) := goodIn_app (goodIn_of _ (by decide +kernel)) (goodIn_p (big := w_c_M_isNone_hi) (.code yX19_isNoExpression cX19_isNoExpression 2 (some .boolean) :: wb_c_M_isNoExpression_hi) [1, 3, 9] rfl (by decide +kernel))
set_option maxRecDepth 100000 in
theorem g_c_M_isNone_hi_1 : GoodIn w_c_M_isNone_hi (wsV RX19 63 RX19 yX19_start w_c_M_start_yes) := goodIn_app (goodIn_of _ (by decide +kernel)) (goodIn_p (big := w_c_M_isNone_hi) (.code yX19_start cX19_start 3 (some .boolean) :: wb_c_M_start_yes) [16, 18] rfl (by decide +kernel))
set_option maxHeartbeats 4000000 in
set_option maxRecDepth 100000 in
theorem c_M_isNone_hi (l : Launch) (eD eI : Nat) (ad : Nat → Nat) (dC : Nat → ClassId) (dI : Nat → Nat → Nat) (sz : Nat) (mm : Nat) (ms : Nat) (mt : Nat) (mh : Nat) (me : Nat) (th : Int32) (x1 : Int32) (h0 : ¬ x1 < 0) : Met l yX19_isNone w_c_M_isNone_hi ({ frames := 2, cells := 0, slots := 0, locals := 44 }) (va_Pc [.ref mm, .int x1] (zPre eD eI ad (dC, dI) [(mm, .inr (21, [.int th, .ref ms, .ref mt, .ref mh, .ref me])), (me, .inr (1, [.int 0, .ref eD, .int 0]))] [] sz)) (va_Qi (fun (r : Int32) (_ : Unit) => r = 1) (fun (_ : Unit) => zEnd (dC, dI) (va_A [(mm, .inr (21, [.int th, .ref ms, .ref mt, .ref mh, .ref me])), (me, .inr (1, [.int 0, .ref eD, .int 0]))] sz) [(mm, .inr (21, [.int 1, .ref ms, .ref mt, .ref mh, .ref me])), (me, .inr (1, [.int 0, .ref eD, .int 0]))] []) (va_A [(mm, .inr (21, [.int th, .ref ms, .ref mt, .ref mh, .ref me])), (me, .inr (1, [.int 0, .ref eD, .int 0]))] sz)) 0 0 (va_A [(mm, .inr (21, [.int th, .ref ms, .ref mt, .ref mh, .ref me])), (me, .inr (1, [.int 0, .ref eD, .int 0]))] sz) := by
  refine Met.ofW (cc := cX19_isNone) (maxL := 2) (ret := (some .boolean)) (by decide) rfl ?_
  intro p e s m args below meth c s₁ B hml hv
  obtain ⟨rfl, hsz, hP, hK, hD0, hE⟩ := hv
  have hx := B.exec
  have hb := B.bytes
  have hr := B.returns
  have hts := atoms_spec (ws := w_c_M_isNone_hi) B.pre
  have hown : s.vm.findClass RX19 = some m.cls := findClass_of_methodNamed B.named
  have hlocks := B.notSynchronized
  subst hsz
  have hD := hD0.self (sz := s.heap.size)
  generalize hAe : va_A [(mm, .inr (21, [.int th, .ref ms, .ref mt, .ref mh, .ref me])), (me, .inr (1, [.int 0, .ref eD, .int 0]))] s.heap.size = A at hD hE ⊢
  have hA : ∀ q : Nat, s.heap.size ≤ q → A q := fun q h => by rw [← hAe]; exact Or.inr h
  have hS : va_S A s.heap s.heap [] := va_S.rf
  have hP : va_P (dC, dI) vwCl [(mm, .inr (21, [.int th, .ref ms, .ref mt, .ref mh, .ref me])), (me, .inr (1, [.int 0, .ref eD, .int 0]))] s.heap := hP
  have hl := lv_entry ([.ref mm, .int x1]) (n := 2) (Nat.le_of_ble_eq_true rfl)
  rw [lg_entry_eq]
  generalize (lg_sl ([.ref mm, .int x1]) ++ List.replicate (2 - (lg_sl ([.ref mm, .int x1])).length) Slot.unset).toArray = ls at hl ⊢
  have hl : lv_has ls 2 [(0, .ref mm), (1, .int x1)] := hl
  have in_RJx4a65c : ∀ w ∈ u_ws RJx4a65c TJx4a65c 3, w ∈ w_c_M_isNone_hi := by decide +kernel
  have in_RX19 : ∀ w ∈ u_ws RX19 TX19 5, w ∈ w_c_M_isNone_hi := by decide +kernel
  refine lv_aload_n hx hb dX19_isNone_0 rfl (lv_at hl 0 rfl) ?_
  refine lv_aload_n hx hb dX19_isNone_1 rfl (lv_at hl 0 rfl) ?_
  refine lv_iload_n hx hb dX19_isNone_2 rfl (lv_at hl 1 rfl) ?_
  refine z_i (wr := []) (va_runV (As := [.int x1]) (rest := [.ref mm]) ⟨hx, hb, hml, hown, hts⟩ (c_M_isNoExpression_hi l eD eI ad dC dI s.heap.size mm ms mt mh me th ((.int 0)) ((.ref eD)) x1 (h0)) (cwV 1 hts g_c_M_isNone_hi_0 rfl rfl rfl (by decide +kernel) ⟨Nat.le_of_ble_eq_true rfl, Nat.le_of_ble_eq_true rfl⟩) (z_preV (wc := [(mm, .inr (21, [.int th, .ref ms, .ref mt, .ref mh, .ref me])), (me, .inr (1, [.int 0, .ref eD, .int 0]))]) hP hD hK hS hA hE [0, 1] [] rfl (by decide) rfl (ci := 21) (q0 := 0) rfl rfl) rfl rfl hl.1 rfl (lv_room (Nat.le_of_ble_eq_true rfl)) dX19_isNone_3 ⟨Nat.le_of_ble_eq_true rfl, Nat.le_of_ble_eq_true rfl⟩) hP hD hK hS hA [0, 1] [] rfl rfl (by decide) (by decide) (fun r_1 u H locs hw_2 hP hD hK hS => ?_)
  obtain ⟨⟩ := u
  have hP : va_P (dC, dI) vwCl [(mm, .inr (21, [.int th, .ref ms, .ref mt, .ref mh, .ref me])), (me, .inr (1, [.int 0, .ref eD, .int 0]))] H := hP
  have hD : va_D A [(mm, .inr (21, [.int th, .ref ms, .ref mt, .ref mh, .ref me])), (me, .inr (1, [.int 0, .ref eD, .int 0]))] := hD
  have hK : va_K (dC, dI) vwCl [] s := by simpa using hK
  have hw_2 : r_1 = 1 := hw_2
  have hw_2 := hw_2.symm
  subst hw_2
  refine lv_iconst (v := 1) hx hb dX19_isNone_6 (by decide) ?_
  refine z_i (wr := [(me, .inr (1, [.int 0, .ref eD, .int 0]))]) (va_runV (As := [.int 1, .int 1]) (rest := []) ⟨hx, hb, hml, hown, hts⟩ (c_M_start_yes l eD eI ad dC dI H.size mm ((.ref ms)) ((.ref mt)) ((.ref mh)) ((.ref me)) 1 th (by decide)) (cwV 2 hts g_c_M_isNone_hi_1 rfl rfl rfl (by decide +kernel) ⟨Nat.le_of_ble_eq_true rfl, Nat.le_of_ble_eq_true rfl⟩) (z_preV (wc := [(mm, .inr (21, [.int th, .ref ms, .ref mt, .ref mh, .ref me]))]) hP hD hK hS hA hE [0] [] rfl (by decide) rfl (ci := 21) (q0 := 0) rfl rfl) rfl rfl hl.1 rfl (lv_room (Nat.le_of_ble_eq_true rfl)) dX19_isNone_7 ⟨Nat.le_of_ble_eq_true rfl, Nat.le_of_ble_eq_true rfl⟩) hP hD hK hS hA [0] [1] rfl rfl (by decide) (by decide) (fun r_3 u H locs hw_4 hP hD hK hS => ?_)
  obtain ⟨⟩ := u
  have hP : va_P (dC, dI) vwCl [(me, .inr (1, [.int 0, .ref eD, .int 0])), (mm, .inr (21, [.int 1, .ref ms, .ref mt, .ref mh, .ref me]))] H := hP
  have hD : va_D A [(me, .inr (1, [.int 0, .ref eD, .int 0])), (mm, .inr (21, [.int 1, .ref ms, .ref mt, .ref mh, .ref me]))] := hD
  have hK : va_K (dC, dI) vwCl [] s := by simpa using hK
  have hw_4 : r_3 = 1 := hw_4
  have hw_4 := hw_4.symm
  subst hw_4
  have hP9 := hP.sub (ws' := [(mm, .inr (21, [.int 1, .ref ms, .ref mt, .ref mh, .ref me])), (me, .inr (1, [.int 0, .ref eD, .int 0]))]) [1, 0] rfl
  have hD9 := hD.sub (ws' := [(mm, .inr (21, [.int 1, .ref ms, .ref mt, .ref mh, .ref me])), (me, .inr (1, [.int 0, .ref eD, .int 0]))]) [1, 0] (by decide) rfl
  have hK9 := hK.sub (tys' := []) [] rfl
  refine W.widen (k := 0) (n := 0) (Nat.le_of_ble_eq_true rfl) (Nat.le_of_ble_eq_true rfl) ?_
  exact W.zret (v := 1) hx hb hr (by first | rfl | decide) (fun t ht hW => ⟨⟨1, (), rfl, rfl, ⟨by rw [ht]; exact hP9, va_K.moved hW.alike hK9, hD9⟩⟩, hS.F ht⟩) hS.2.2 dX19_isNone_10

def wb_c_M_isNoOther_hi : List Cond := [.code yX19_isNoSort cX19_isNoSort 2 (some .boolean), .fieldLink RX19 10 "HornbookModel" "sorts" "Ljava/util/ArrayList;", .code yJx4a65c_size_8abf5 cJx4a65c_size_8abf5 1 (some .int), .fieldLink RJx4a65c 48 "java/util/ArrayList" "size" "I", .methodLink RX19 47 yJx4a65c_size_8abf5, .instanceMethod yJx4a65c_size_8abf5, .selects RJx4a65c yJx4a65c_size_8abf5 yJx4a65c_size_8abf5, .initialized RJx4a65c, .code yX19_isIn cX19_isIn 3 (some .boolean), .methodLink RX19 51 yX19_isIn, .static yX19_isIn, .initialized RX19, .methodLink RX19 84 yX19_isNoSort, .instanceMethod yX19_isNoSort, .selects RX19 yX19_isNoSort yX19_isNoSort, .code yX19_start cX19_start 3 (some .boolean), .fieldLink RX19 34 "HornbookModel" "thrown" "I", .code yX19_refuse cX19_refuse 3 (some .boolean), .methodLink RX19 38 yX19_refuse, .instanceMethod yX19_refuse, .selects RX19 yX19_refuse yX19_refuse, .methodLink RX19 63 yX19_start, .instanceMethod yX19_start, .selects RX19 yX19_start yX19_start] ++ u_ws RJx4a65c TJx4a65c 3 ++ u_ws RX19 TX19 5
def w_c_M_isNoOther_hi : List Cond := .code yX19_isNoOther cX19_isNoOther 4 (some .boolean) :: wb_c_M_isNoOther_hi
set_option maxRecDepth 100000 in
theorem g_c_M_isNoOther_hi_0 : GoodIn w_c_M_isNoOther_hi (wsV RX19 84 RX19 yX19_isNoSort w_c_M_isNoSort_hi) := goodIn_app (goodIn_of _ (by decide +kernel)) (goodIn_p (big := w_c_M_isNoOther_hi) (.code yX19_isNoSort cX19_isNoSort 2 (some .boolean) :: wb_c_M_isNoSort_hi) [1, 3, 9] rfl (by decide +kernel))
set_option maxRecDepth 100000 in
theorem g_c_M_isNoOther_hi_1 : GoodIn w_c_M_isNoOther_hi (wsV RX19 63 RX19 yX19_start w_c_M_start_yes) := goodIn_app (goodIn_of _ (by decide +kernel)) (goodIn_p (big := w_c_M_isNoOther_hi) (.code yX19_start cX19_start 3 (some .boolean) :: wb_c_M_start_yes) [16, 18] rfl (by decide +kernel))
set_option maxHeartbeats 4000000 in
set_option maxRecDepth 100000 in
theorem c_M_isNoOther_hi (l : Launch) (eD eI : Nat) (ad : Nat → Nat) (dC : Nat → ClassId) (dI : Nat → Nat → Nat) (sz : Nat) (mm : Nat) (ms : Nat) (mt : Nat) (mh : Nat) (me : Nat) (th : Int32) (x1 : Int32) (x2 : Int32) (x3 : Int32) (h0 : ¬ x1 < 0) : Met l yX19_isNoOther w_c_M_isNoOther_hi ({ frames := 2, cells := 0, slots := 0, locals := 44 }) (va_Pc [.ref mm, .int x1, .int x2, .int x3] (zPre eD eI ad (dC, dI) [(mm, .inr (21, [.int th, .ref ms, .ref mt, .ref mh, .ref me])), (ms, .inr (1, [.int 0, .ref eD, .int 0]))] [] sz)) (va_Qi (fun (r : Int32) (_ : Unit) => r = 1) (fun (_ : Unit) => zEnd (dC, dI) (va_A [(mm, .inr (21, [.int th, .ref ms, .ref mt, .ref mh, .ref me])), (ms, .inr (1, [.int 0, .ref eD, .int 0]))] sz) [(mm, .inr (21, [.int 1, .ref ms, .ref mt, .ref mh, .ref me])), (ms, .inr (1, [.int 0, .ref eD, .int 0]))] []) (va_A [(mm, .inr (21, [.int th, .ref ms, .ref mt, .ref mh, .ref me])), (ms, .inr (1, [.int 0, .ref eD, .int 0]))] sz)) 0 0 (va_A [(mm, .inr (21, [.int th, .ref ms, .ref mt, .ref mh, .ref me])), (ms, .inr (1, [.int 0, .ref eD, .int 0]))] sz) := by
  refine Met.ofW (cc := cX19_isNoOther) (maxL := 4) (ret := (some .boolean)) (by decide) rfl ?_
  intro p e s m args below meth c s₁ B hml hv
  obtain ⟨rfl, hsz, hP, hK, hD0, hE⟩ := hv
  have hx := B.exec
  have hb := B.bytes
  have hr := B.returns
  have hts := atoms_spec (ws := w_c_M_isNoOther_hi) B.pre
  have hown : s.vm.findClass RX19 = some m.cls := findClass_of_methodNamed B.named
  have hlocks := B.notSynchronized
  subst hsz
  have hD := hD0.self (sz := s.heap.size)
  generalize hAe : va_A [(mm, .inr (21, [.int th, .ref ms, .ref mt, .ref mh, .ref me])), (ms, .inr (1, [.int 0, .ref eD, .int 0]))] s.heap.size = A at hD hE ⊢
  have hA : ∀ q : Nat, s.heap.size ≤ q → A q := fun q h => by rw [← hAe]; exact Or.inr h
  have hS : va_S A s.heap s.heap [] := va_S.rf
  have hP : va_P (dC, dI) vwCl [(mm, .inr (21, [.int th, .ref ms, .ref mt, .ref mh, .ref me])), (ms, .inr (1, [.int 0, .ref eD, .int 0]))] s.heap := hP
  have hl := lv_entry ([.ref mm, .int x1, .int x2, .int x3]) (n := 4) (Nat.le_of_ble_eq_true rfl)
  rw [lg_entry_eq]
  generalize (lg_sl ([.ref mm, .int x1, .int x2, .int x3]) ++ List.replicate (4 - (lg_sl ([.ref mm, .int x1, .int x2, .int x3])).length) Slot.unset).toArray = ls at hl ⊢
  have hl : lv_has ls 4 [(0, .ref mm), (1, .int x1), (2, .int x2), (3, .int x3)] := hl
  have in_RJx4a65c : ∀ w ∈ u_ws RJx4a65c TJx4a65c 3, w ∈ w_c_M_isNoOther_hi := by decide +kernel
  have in_RX19 : ∀ w ∈ u_ws RX19 TX19 5, w ∈ w_c_M_isNoOther_hi := by decide +kernel
  refine lv_aload_n hx hb dX19_isNoOther_0 rfl (lv_at hl 0 rfl) ?_
  refine lv_aload_n hx hb dX19_isNoOther_1 rfl (lv_at hl 0 rfl) ?_
  refine lv_iload_n hx hb dX19_isNoOther_2 rfl (lv_at hl 1 rfl) ?_
  refine z_i (wr := []) (va_runV (As := [.int x1]) (rest := [.ref mm]) ⟨hx, hb, hml, hown, hts⟩ (c_M_isNoSort_hi l eD eI ad dC dI s.heap.size mm ms mt mh me th ((.int 0)) ((.ref eD)) x1 (h0)) (cwV 1 hts g_c_M_isNoOther_hi_0 rfl rfl rfl (by decide +kernel) ⟨Nat.le_of_ble_eq_true rfl, Nat.le_of_ble_eq_true rfl⟩) (z_preV (wc := [(mm, .inr (21, [.int th, .ref ms, .ref mt, .ref mh, .ref me])), (ms, .inr (1, [.int 0, .ref eD, .int 0]))]) hP hD hK hS hA hE [0, 1] [] rfl (by decide) rfl (ci := 21) (q0 := 0) rfl rfl) rfl rfl hl.1 rfl (lv_room (Nat.le_of_ble_eq_true rfl)) dX19_isNoOther_3 ⟨Nat.le_of_ble_eq_true rfl, Nat.le_of_ble_eq_true rfl⟩) hP hD hK hS hA [0, 1] [] rfl rfl (by decide) (by decide) (fun r_1 u H locs hw_2 hP hD hK hS => ?_)
  obtain ⟨⟩ := u
  have hP : va_P (dC, dI) vwCl [(mm, .inr (21, [.int th, .ref ms, .ref mt, .ref mh, .ref me])), (ms, .inr (1, [.int 0, .ref eD, .int 0]))] H := hP
  have hD : va_D A [(mm, .inr (21, [.int th, .ref ms, .ref mt, .ref mh, .ref me])), (ms, .inr (1, [.int 0, .ref eD, .int 0]))] := hD
  have hK : va_K (dC, dI) vwCl [] s := by simpa using hK
  have hw_2 : r_1 = 1 := hw_2
  have hw_2 := hw_2.symm
  subst hw_2
  refine lv_if_ne (tgt := 34) hx hb dX19_isNoOther_6 (by decide) (fun c_3 => ?_) (fun c_3 => ?_)
  rotate_left
  · exact absurd c_3 (by decide)
  refine lv_iconst (v := 1) hx hb dX19_isNoOther_34 (by decide) ?_
  refine lv_goto (tgt := 39) hx hb dX19_isNoOther_35 (by decide) ?_
  refine lv_iconst (v := 1) hx hb dX19_isNoOther_39 (by decide) ?_
  refine z_i (wr := [(ms, .inr (1, [.int 0, .ref eD, .int 0]))]) (va_runV (As := [.int 1, .int 1]) (rest := []) ⟨hx, hb, hml, hown, hts⟩ (c_M_start_yes l eD eI ad dC dI H.size mm ((.ref ms)) ((.ref mt)) ((.ref mh)) ((.ref me)) 1 th (by decide)) (cwV 2 hts g_c_M_isNoOther_hi_1 rfl rfl rfl (by decide +kernel) ⟨Nat.le_of_ble_eq_true rfl, Nat.le_of_ble_eq_true rfl⟩) (z_preV (wc := [(mm, .inr (21, [.int th, .ref ms, .ref mt, .ref mh, .ref me]))]) hP hD hK hS hA hE [0] [] rfl (by decide) rfl (ci := 21) (q0 := 0) rfl rfl) rfl rfl hl.1 rfl (lv_room (Nat.le_of_ble_eq_true rfl)) dX19_isNoOther_40 ⟨Nat.le_of_ble_eq_true rfl, Nat.le_of_ble_eq_true rfl⟩) hP hD hK hS hA [0] [1] rfl rfl (by decide) (by decide) (fun r_4 u H locs hw_5 hP hD hK hS => ?_)
  obtain ⟨⟩ := u
  have hP : va_P (dC, dI) vwCl [(ms, .inr (1, [.int 0, .ref eD, .int 0])), (mm, .inr (21, [.int 1, .ref ms, .ref mt, .ref mh, .ref me]))] H := hP
  have hD : va_D A [(ms, .inr (1, [.int 0, .ref eD, .int 0])), (mm, .inr (21, [.int 1, .ref ms, .ref mt, .ref mh, .ref me]))] := hD
  have hK : va_K (dC, dI) vwCl [] s := by simpa using hK
  have hw_5 : r_4 = 1 := hw_5
  have hw_5 := hw_5.symm
  subst hw_5
  refine lv_if_ne (tgt := 68) hx hb dX19_isNoOther_43 (by decide) (fun c_6 => ?_) (fun c_6 => ?_)
  rotate_left
  · exact absurd c_6 (by decide)
  refine lv_iconst (v := 1) hx hb dX19_isNoOther_68 (by decide) ?_
  refine lv_goto (tgt := 73) hx hb dX19_isNoOther_69 (by decide) ?_
  have hP9 := hP.sub (ws' := [(mm, .inr (21, [.int 1, .ref ms, .ref mt, .ref mh, .ref me])), (ms, .inr (1, [.int 0, .ref eD, .int 0]))]) [1, 0] rfl
  have hD9 := hD.sub (ws' := [(mm, .inr (21, [.int 1, .ref ms, .ref mt, .ref mh, .ref me])), (ms, .inr (1, [.int 0, .ref eD, .int 0]))]) [1, 0] (by decide) rfl
  have hK9 := hK.sub (tys' := []) [] rfl
  refine W.widen (k := 0) (n := 0) (Nat.le_of_ble_eq_true rfl) (Nat.le_of_ble_eq_true rfl) ?_
  exact W.zret (v := 1) hx hb hr (by first | rfl | decide) (fun t ht hW => ⟨⟨1, (), rfl, rfl, ⟨by rw [ht]; exact hP9, va_K.moved hW.alike hK9, hD9⟩⟩, hS.F ht⟩) hS.2.2 dX19_isNoOther_73

def wb_c_M_roadNumber_0 : List Cond := [.code yX19_view cX19_view 1 (some (.object "HornbookModel$View")), .classLink RX19 42 RX17, .instantiable RX17 5, .initialized RX17, .code yX17_init cX17_init 6 none, .fieldLink RX17 3 "HornbookModel$View" "this$0" "LHornbookModel;", .methodLink RX17 9 objectInit, .instanceMethod objectInit, .code objectInit ⟨#[0xb1]⟩ 1 none, .fieldLink RX17 15 "HornbookModel$View" "without" "I", .fieldLink RX17 19 "HornbookModel$View" "sort" "I", .fieldLink RX17 22 "HornbookModel$View" "parameter" "I", .fieldLink RX17 25 "HornbookModel$View" "how" "I", .methodLink RX19 44 yX17_init, .instanceMethod yX17_init, .methodLink RX19 157 yX19_view, .instanceMethod yX19_view, .selects RX19 yX19_view yX19_view, .initialized RX19, .code yX19_type cX19_type 2 (some (.object "HornbookModel$Tree")), .fieldLink RX19 16 "HornbookModel" "types" "Ljava/util/ArrayList;", .code yJx4a65c_get_915e3 cJx4a65c_get_915e3 2 (some (.object "java/lang/Object")), .fieldLink RJx4a65c 48 "java/util/ArrayList" "size" "I", .code yJ15_checkIndex_7cf53 cJ15_checkIndex_7cf53 2 (some .int), .code yJ3_checkIndex_8e157 cJ3_checkIndex_8e157 3 (some .int), .methodLink RJ15 105 yJ3_checkIndex_8e157, .static yJ3_checkIndex_8e157, .initialized RJ3, .methodLink RJx4a65c 118 yJ15_checkIndex_7cf53, .static yJ15_checkIndex_7cf53, .initialized RJ15, .code yJx4a65c_elementData_915e3 cJx4a65c_elementData_915e3 2 (some (.object "java/lang/Object")), .fieldLink RJx4a65c 9 "java/util/ArrayList" "elementData" "[Ljava/lang/Object;", .methodLink RJx4a65c 123 yJx4a65c_elementData_915e3, .instanceMethod yJx4a65c_elementData_915e3, .selects RJx4a65c yJx4a65c_elementData_915e3 yJx4a65c_elementData_915e3, .initialized RJx4a65c, .methodLink RX19 59 yJx4a65c_get_915e3, .instanceMethod yJx4a65c_get_915e3, .selects RJx4a65c yJx4a65c_get_915e3 yJx4a65c_get_915e3, .classLink RX19 25 "HornbookModel$Tree", .methodLink RX19 87 yX19_type, .instanceMethod yX19_type, .selects RX19 yX19_type yX19_type, .code yX17_road cX17_road 3 (some (.object "java/util/ArrayList")), .classLink RX17 33 RJx4a65c, .instantiable RJx4a65c 3, .code yJx4a65c_init_da8c8 cJx4a65c_init_da8c8 1 none, .code yJxc12de_init_da8c8 cJxc12de_init_da8c8 1 none, .code yJxa1e45_init_da8c8 cJxa1e45_init_da8c8 1 none, .methodLink RJxa1e45 1 objectInit, .initialized RJxa1e45, .methodLink RJxc12de 1 yJxa1e45_init_da8c8, .instanceMethod yJxa1e45_init_da8c8, .fieldLink RJxc12de 7 "java/util/AbstractList" "modCount" "I", .initialized RJxc12de, .methodLink RJx4a65c 1 yJxc12de_init_da8c8, .instanceMethod yJxc12de_init_da8c8, .fieldLink RJx4a65c 39 "java/util/ArrayList" "DEFAULTCAPACITY_EMPTY_ELEMENTDATA" "[Ljava/lang/Object;", .methodLink RX17 67 yJx4a65c_init_da8c8, .instanceMethod yJx4a65c_init_da8c8, .code yX16_isSort cX16_isSort 1 (some .boolean), .fieldLink RX16 14 "HornbookModel$Tree" "head" "I", .methodLink RX17 68 yX16_isSort, .instanceMethod yX16_isSort, .selects RX16 yX16_isSort yX16_isSort, .initialized RX16, .methodLink RX19 165 yX17_road, .instanceMethod yX17_road, .selects RX17 yX17_road yX17_road, .code yJx4a65c_size_8abf5 cJx4a65c_size_8abf5 1 (some .int), .methodLink RX19 47 yJx4a65c_size_8abf5, .instanceMethod yJx4a65c_size_8abf5, .selects RJx4a65c yJx4a65c_size_8abf5 yJx4a65c_size_8abf5] ++ u_ws RJx4a65c TJx4a65c 3 ++ u_ws RX16 TX16 2 ++ u_ws RX17 TX17 5 ++ u_ws RX19 TX19 5
def w_c_M_roadNumber_0 : List Cond := .code yX19_roadNumber cX19_roadNumber 5 (some .int) :: wb_c_M_roadNumber_0
set_option maxRecDepth 100000 in
theorem g_c_M_roadNumber_0_0 : GoodIn w_c_M_roadNumber_0 (wsV RX19 157 RX19 yX19_view w_c_M_view) := goodIn_app (goodIn_of _ (by decide +kernel)) (goodIn_p (big := w_c_M_roadNumber_0) (.code yX19_view cX19_view 1 (some (.object "HornbookModel$View")) :: wb_c_M_view) [1, 5, 9] rfl (by decide +kernel))
set_option maxRecDepth 100000 in
theorem g_c_M_roadNumber_0_1 : GoodIn w_c_M_roadNumber_0 (wsV RX19 87 RX19 yX19_type w_c_M_type_0) := goodIn_app (goodIn_of _ (by decide +kernel)) (goodIn_p (big := w_c_M_roadNumber_0) (.code yX19_type cX19_type 2 (some (.object "HornbookModel$Tree")) :: wb_c_M_type_0) [20, 22, 24, 25, 32] rfl (by decide +kernel))
set_option maxRecDepth 100000 in
theorem g_c_M_roadNumber_0_2 : GoodIn w_c_M_roadNumber_0 (wsV RX19 165 RX17 yX17_road w_c_V_road) := goodIn_app (goodIn_of _ (by decide +kernel)) (goodIn_p (big := w_c_M_roadNumber_0) (.code yX17_road cX17_road 3 (some (.object "java/util/ArrayList")) :: wb_c_V_road) [45, 48, 49, 50, 9, 62] rfl (by decide +kernel))
set_option maxRecDepth 100000 in
theorem g_c_M_roadNumber_0_3 : GoodIn w_c_M_roadNumber_0 (wsV RX19 47 RJx4a65c yJx4a65c_size_8abf5 w_c_AL_size) := goodIn_app (goodIn_of _ (by decide +kernel)) (goodIn_p (big := w_c_M_roadNumber_0) (.code yJx4a65c_size_8abf5 cJx4a65c_size_8abf5 1 (some .int) :: wb_c_AL_size) [71] rfl (by decide +kernel))
set_option maxHeartbeats 4000000 in
set_option maxRecDepth 100000 in
theorem c_M_roadNumber_0 (l : Launch) (eD eI : Nat) (ad : Nat → Nat) (dC : Nat → ClassId) (dI : Nat → Nat → Nat) (sz : Nat) (mm : Nat) (ms : Nat) (mt : Nat) (mh : Nat) (me : Nat) (th : Int32) (mo : Int32) (ma : Nat) (kO : ClassId) (t0 : Nat) (t1 : Nat) (t2 : Nat) (f1 : Value) (x2 : Int32) (x3 : Int32) : Met l yX19_roadNumber w_c_M_roadNumber_0 ({ frames := 5, cells := 2, slots := 8, locals := 94 }) (va_Pc [.ref mm, .int 0, .int x2, .int x3] (zPre eD eI ad (dC, dI) [(mm, .inr (21, [.int th, .ref ms, .ref mt, .ref mh, .ref me])), (mt, .inr (1, [.int mo, .ref ma, .int 3])), (ma, .inl (kO, 10, .inr (.inr (.inr (.inr (zfT t0 t1 t2)))))), (t0, .inr (18, [.int (-1), f1]))] [(kO, .object "java/lang/Object")] sz)) (va_Qi (fun (r : Int32) (_ : Unit) => r = (-9)) (fun (_ : Unit) => zEnd (dC, dI) (va_A [(mm, .inr (21, [.int th, .ref ms, .ref mt, .ref mh, .ref me])), (mt, .inr (1, [.int mo, .ref ma, .int 3])), (ma, .inl (kO, 10, .inr (.inr (.inr (.inr (zfT t0 t1 t2)))))), (t0, .inr (18, [.int (-1), f1]))] sz) [(mm, .inr (21, [.int th, .ref ms, .ref mt, .ref mh, .ref me])), (mt, .inr (1, [.int mo, .ref ma, .int 3])), (ma, .inl (kO, 10, .inr (.inr (.inr (.inr (zfT t0 t1 t2)))))), (t0, .inr (18, [.int (-1), f1]))] []) (va_A [(mm, .inr (21, [.int th, .ref ms, .ref mt, .ref mh, .ref me])), (mt, .inr (1, [.int mo, .ref ma, .int 3])), (ma, .inl (kO, 10, .inr (.inr (.inr (.inr (zfT t0 t1 t2)))))), (t0, .inr (18, [.int (-1), f1]))] sz)) 2 8 (va_A [(mm, .inr (21, [.int th, .ref ms, .ref mt, .ref mh, .ref me])), (mt, .inr (1, [.int mo, .ref ma, .int 3])), (ma, .inl (kO, 10, .inr (.inr (.inr (.inr (zfT t0 t1 t2)))))), (t0, .inr (18, [.int (-1), f1]))] sz) := by
  refine Met.ofW (cc := cX19_roadNumber) (maxL := 5) (ret := (some .int)) (by decide) rfl ?_
  intro p e s m args below meth c s₁ B hml hv
  obtain ⟨rfl, hsz, hP, hK, hD0, hE⟩ := hv
  have hx := B.exec
  have hb := B.bytes
  have hr := B.returns
  have hts := atoms_spec (ws := w_c_M_roadNumber_0) B.pre
  have hown : s.vm.findClass RX19 = some m.cls := findClass_of_methodNamed B.named
  have hlocks := B.notSynchronized
  subst hsz
  have hD := hD0.self (sz := s.heap.size)
  generalize hAe : va_A [(mm, .inr (21, [.int th, .ref ms, .ref mt, .ref mh, .ref me])), (mt, .inr (1, [.int mo, .ref ma, .int 3])), (ma, .inl (kO, 10, .inr (.inr (.inr (.inr (zfT t0 t1 t2)))))), (t0, .inr (18, [.int (-1), f1]))] s.heap.size = A at hD hE ⊢
  have hA : ∀ q : Nat, s.heap.size ≤ q → A q := fun q h => by rw [← hAe]; exact Or.inr h
  have hS : va_S A s.heap s.heap [] := va_S.rf
  have hP : va_P (dC, dI) vwCl [(mm, .inr (21, [.int th, .ref ms, .ref mt, .ref mh, .ref me])), (mt, .inr (1, [.int mo, .ref ma, .int 3])), (ma, .inl (kO, 10, .inr (.inr (.inr (.inr (zfT t0 t1 t2)))))), (t0, .inr (18, [.int (-1), f1]))] s.heap := hP
  have hl := lv_entry ([.ref mm, .int 0, .int x2, .int x3]) (n := 5) (Nat.le_of_ble_eq_true rfl)
  rw [lg_entry_eq]
  generalize (lg_sl ([.ref mm, .int 0, .int x2, .int x3]) ++ List.replicate (5 - (lg_sl ([.ref mm, .int 0, .int x2, .int x3])).length) Slot.unset).toArray = ls at hl ⊢
  have hl : lv_has ls 5 [(0, .ref mm), (1, .int 0), (2, .int x2), (3, .int x3)] := hl
  have in_RJx4a65c : ∀ w ∈ u_ws RJx4a65c TJx4a65c 3, w ∈ w_c_M_roadNumber_0 := by decide +kernel
  have in_RX16 : ∀ w ∈ u_ws RX16 TX16 2, w ∈ w_c_M_roadNumber_0 := by decide +kernel
  have in_RX17 : ∀ w ∈ u_ws RX17 TX17 5, w ∈ w_c_M_roadNumber_0 := by decide +kernel
  have in_RX19 : ∀ w ∈ u_ws RX19 TX19 5, w ∈ w_c_M_roadNumber_0 := by decide +kernel
  refine lv_aload_n hx hb dX19_roadNumber_0 rfl (lv_at hl 0 rfl) ?_
  refine z_q (wr := [(mt, .inr (1, [.int mo, .ref ma, .int 3])), (ma, .inl (kO, 10, .inr (.inr (.inr (.inr (zfT t0 t1 t2)))))), (t0, .inr (18, [.int (-1), f1]))]) (va_runV (As := []) (rest := []) ⟨hx, hb, hml, hown, hts⟩ (c_M_view l eD eI ad dC dI s.heap.size mm ms mt mh me th) (cwV 0 hts g_c_M_roadNumber_0_0 rfl rfl rfl (by decide +kernel) ⟨Nat.le_of_ble_eq_true rfl, Nat.le_of_ble_eq_true rfl⟩) (z_preV (wc := [(mm, .inr (21, [.int th, .ref ms, .ref mt, .ref mh, .ref me]))]) hP hD hK hS hA hE [0] [] rfl (by decide) rfl (ci := 21) (q0 := 0) rfl rfl) rfl rfl hl.1 rfl (lv_room (Nat.le_of_ble_eq_true rfl)) dX19_roadNumber_1 ⟨Nat.le_of_ble_eq_true rfl, Nat.le_of_ble_eq_true rfl⟩) hP hD hK hS hA [0] [1, 2, 3] rfl rfl (by decide) (by decide) (fun r_2 u H locs hw_3 hP hD hK hS => ?_)
  obtain ⟨u_1, rfl⟩ : ∃ z, z = u := ⟨_, rfl⟩
  have hP : va_P (dC, dI) vwCl [(mt, .inr (1, [.int mo, .ref ma, .int 3])), (ma, .inl (kO, 10, .inr (.inr (.inr (.inr (zfT t0 t1 t2)))))), (t0, .inr (18, [.int (-1), f1])), (mm, .inr (21, [.int th, .ref ms, .ref mt, .ref mh, .ref me])), (u_1, .inr (19, [.int (-1), .int (-1), .int (-1), .int (-1), .ref mm]))] H := hP
  have hD : va_D A [(mt, .inr (1, [.int mo, .ref ma, .int 3])), (ma, .inl (kO, 10, .inr (.inr (.inr (.inr (zfT t0 t1 t2)))))), (t0, .inr (18, [.int (-1), f1])), (mm, .inr (21, [.int th, .ref ms, .ref mt, .ref mh, .ref me])), (u_1, .inr (19, [.int (-1), .int (-1), .int (-1), .int (-1), .ref mm]))] := hD
  have hK : va_K (dC, dI) vwCl [(kO, .object "java/lang/Object")] s := by simpa using hK
  have hw_3 : r_2 = some u_1 := hw_3
  have hw_3 := hw_3.symm
  subst hw_3
  refine W.eq (g2 := F0 m 4 ls (.ref u_1 :: [])) rfl ?_
  refine lv_aload_n hx hb dX19_roadNumber_4 rfl (lv_at hl 0 rfl) ?_
  refine lv_iload_n hx hb dX19_roadNumber_5 rfl (lv_at hl 1 rfl) ?_
  refine z_q (wr := [(u_1, .inr (19, [.int (-1), .int (-1), .int (-1), .int (-1), .ref mm]))]) (va_runV (As := [.int 0]) (rest := [.ref u_1]) ⟨hx, hb, hml, hown, hts⟩ (c_M_type_0 l eD eI ad dC dI H.size mm ms mt mh me th mo ma kO t0 t1 t2 f1) (cwV 1 hts g_c_M_roadNumber_0_1 rfl rfl rfl (by decide +kernel) ⟨Nat.le_of_ble_eq_true rfl, Nat.le_of_ble_eq_true rfl⟩) (z_preV (wc := [(mm, .inr (21, [.int th, .ref ms, .ref mt, .ref mh, .ref me])), (mt, .inr (1, [.int mo, .ref ma, .int 3])), (ma, .inl (kO, 10, .inr (.inr (.inr (.inr (zfT t0 t1 t2)))))), (t0, .inr (18, [.int (-1), f1]))]) hP hD hK hS hA hE [3, 0, 1, 2] [0] rfl (by decide) rfl (ci := 21) (q0 := 0) rfl rfl) rfl rfl hl.1 rfl (lv_room (Nat.le_of_ble_eq_true rfl)) dX19_roadNumber_6 ⟨Nat.le_of_ble_eq_true rfl, Nat.le_of_ble_eq_true rfl⟩) hP hD hK hS hA [3, 0, 1, 2] [4] rfl rfl (by decide) (by decide) (fun r_4 u H locs hw_5 hP hD hK hS => ?_)
  obtain ⟨⟩ := u
  have hP : va_P (dC, dI) vwCl [(u_1, .inr (19, [.int (-1), .int (-1), .int (-1), .int (-1), .ref mm])), (mm, .inr (21, [.int th, .ref ms, .ref mt, .ref mh, .ref me])), (mt, .inr (1, [.int mo, .ref ma, .int 3])), (ma, .inl (kO, 10, .inr (.inr (.inr (.inr (zfT t0 t1 t2)))))), (t0, .inr (18, [.int (-1), f1]))] H := hP
  have hD : va_D A [(u_1, .inr (19, [.int (-1), .int (-1), .int (-1), .int (-1), .ref mm])), (mm, .inr (21, [.int th, .ref ms, .ref mt, .ref mh, .ref me])), (mt, .inr (1, [.int mo, .ref ma, .int 3])), (ma, .inl (kO, 10, .inr (.inr (.inr (.inr (zfT t0 t1 t2)))))), (t0, .inr (18, [.int (-1), f1]))] := hD
  have hK : va_K (dC, dI) vwCl [(kO, .object "java/lang/Object")] s := by simpa using hK
  have hw_5 : r_4 = some t0 := hw_5
  have hw_5 := hw_5.symm
  subst hw_5
  refine W.eq (g2 := F0 m 9 ls (.ref t0 :: .ref u_1 :: [])) rfl ?_
  refine z_q (wr := [(mm, .inr (21, [.int th, .ref ms, .ref mt, .ref mh, .ref me])), (mt, .inr (1, [.int mo, .ref ma, .int 3])), (ma, .inl (kO, 10, .inr (.inr (.inr (.inr (zfT t0 t1 t2))))))]) (va_runV (As := [.ref t0]) (rest := []) ⟨hx, hb, hml, hown, hts⟩ (c_V_road l eD eI ad dC dI H.size u_1 mm t0 (-1) f1 (by decide)) (cwV 1 hts g_c_M_roadNumber_0_2 rfl rfl rfl (by decide +kernel) ⟨Nat.le_of_ble_eq_true rfl, Nat.le_of_ble_eq_true rfl⟩) (z_preV (wc := [(u_1, .inr (19, [.int (-1), .int (-1), .int (-1), .int (-1), .ref mm])), (t0, .inr (18, [.int (-1), f1]))]) hP hD hK hS hA hE [0, 4] [] rfl (by decide) rfl (ci := 19) (q0 := 0) rfl rfl) rfl rfl hl.1 rfl (lv_room (Nat.le_of_ble_eq_true rfl)) dX19_roadNumber_9 ⟨Nat.le_of_ble_eq_true rfl, Nat.le_of_ble_eq_true rfl⟩) hP hD hK hS hA [0, 4] [1, 2, 3] rfl rfl (by decide) (by decide) (fun r_7 u H locs hw_8 hP hD hK hS => ?_)
  obtain ⟨u_6, rfl⟩ : ∃ z, z = u := ⟨_, rfl⟩
  have hP : va_P (dC, dI) vwCl [(mm, .inr (21, [.int th, .ref ms, .ref mt, .ref mh, .ref me])), (mt, .inr (1, [.int mo, .ref ma, .int 3])), (ma, .inl (kO, 10, .inr (.inr (.inr (.inr (zfT t0 t1 t2)))))), (u_1, .inr (19, [.int (-1), .int (-1), .int (-1), .int (-1), .ref mm])), (t0, .inr (18, [.int (-1), f1])), (u_6, .inr (1, [.int 0, .ref eD, .int 0]))] H := hP
  have hD : va_D A [(mm, .inr (21, [.int th, .ref ms, .ref mt, .ref mh, .ref me])), (mt, .inr (1, [.int mo, .ref ma, .int 3])), (ma, .inl (kO, 10, .inr (.inr (.inr (.inr (zfT t0 t1 t2)))))), (u_1, .inr (19, [.int (-1), .int (-1), .int (-1), .int (-1), .ref mm])), (t0, .inr (18, [.int (-1), f1])), (u_6, .inr (1, [.int 0, .ref eD, .int 0]))] := hD
  have hK : va_K (dC, dI) vwCl [(kO, .object "java/lang/Object")] s := by simpa using hK
  have hw_8 : r_7 = some u_6 := hw_8
  have hw_8 := hw_8.symm
  subst hw_8
  refine W.eq (g2 := F0 m 12 ls (.ref u_6 :: [])) rfl ?_
  refine lv_astore (lv' := [(4, .ref u_6), (0, .ref mm), (1, .int 0), (2, .int x2), (3, .int x3)]) hx hb dX19_roadNumber_12 hl (by decide) rfl (fun ls hl => ?_)
  refine lv_iload_n hx hb dX19_roadNumber_14 rfl (lv_at hl 3 rfl) ?_
  refine lv_if_lt (tgt := 43) hx hb dX19_roadNumber_15 (by decide) (fun c_9 => ?_) (fun c_9 => ?_)
  · refine lv_bipush (v := (-9)) hx hb dX19_roadNumber_43 (by decide) ?_
    have hP9 := hP.sub (ws' := [(mm, .inr (21, [.int th, .ref ms, .ref mt, .ref mh, .ref me])), (mt, .inr (1, [.int mo, .ref ma, .int 3])), (ma, .inl (kO, 10, .inr (.inr (.inr (.inr (zfT t0 t1 t2)))))), (t0, .inr (18, [.int (-1), f1]))]) [0, 1, 2, 4] rfl
    have hD9 := hD.sub (ws' := [(mm, .inr (21, [.int th, .ref ms, .ref mt, .ref mh, .ref me])), (mt, .inr (1, [.int mo, .ref ma, .int 3])), (ma, .inl (kO, 10, .inr (.inr (.inr (.inr (zfT t0 t1 t2)))))), (t0, .inr (18, [.int (-1), f1]))]) [0, 1, 2, 4] (by decide) rfl
    have hK9 := hK.sub (tys' := []) [] rfl
    refine W.widen (k := 2) (n := 8) (Nat.le_of_ble_eq_true rfl) (Nat.le_of_ble_eq_true rfl) ?_
    exact W.iret (v := (-9)) hx hb hr (fun t ht hW => ⟨⟨(-9), (), rfl, rfl, ⟨by rw [ht]; exact hP9, va_K.moved hW.alike hK9, hD9⟩⟩, hS.F ht⟩) hS.2.2 dX19_roadNumber_45
  · refine lv_iload_n hx hb dX19_roadNumber_18 rfl (lv_at hl 3 rfl) ?_
    refine lv_aload hx hb dX19_roadNumber_19 (lv_at hl 0 rfl) ?_
    refine z_i (wr := [(mm, .inr (21, [.int th, .ref ms, .ref mt, .ref mh, .ref me])), (mt, .inr (1, [.int mo, .ref ma, .int 3])), (ma, .inl (kO, 10, .inr (.inr (.inr (.inr (zfT t0 t1 t2)))))), (u_1, .inr (19, [.int (-1), .int (-1), .int (-1), .int (-1), .ref mm])), (t0, .inr (18, [.int (-1), f1]))]) (va_runV (As := []) (rest := [.int x2]) ⟨hx, hb, hml, hown, hts⟩ (c_AL_size l eD eI ad dC dI H.size u_6 ((.int 0)) ((.ref eD)) 0) (cwV 0 hts g_c_M_roadNumber_0_3 rfl rfl rfl (by decide +kernel) ⟨Nat.le_of_ble_eq_true rfl, Nat.le_of_ble_eq_true rfl⟩) (z_preV (wc := [(u_6, .inr (1, [.int 0, .ref eD, .int 0]))]) hP hD hK hS hA hE [5] [] rfl (by decide) rfl (ci := 1) (q0 := 0) rfl rfl) rfl rfl hl.1 rfl (lv_room (Nat.le_of_ble_eq_true rfl)) dX19_roadNumber_21 ⟨Nat.le_of_ble_eq_true rfl, Nat.le_of_ble_eq_true rfl⟩) hP hD hK hS hA [5] [0, 1, 2, 3, 4] rfl rfl (by decide) (by decide) (fun r_10 u H locs hw_11 hP hD hK hS => ?_)
    obtain ⟨⟩ := u
    have hP : va_P (dC, dI) vwCl [(mm, .inr (21, [.int th, .ref ms, .ref mt, .ref mh, .ref me])), (mt, .inr (1, [.int mo, .ref ma, .int 3])), (ma, .inl (kO, 10, .inr (.inr (.inr (.inr (zfT t0 t1 t2)))))), (u_1, .inr (19, [.int (-1), .int (-1), .int (-1), .int (-1), .ref mm])), (t0, .inr (18, [.int (-1), f1])), (u_6, .inr (1, [.int 0, .ref eD, .int 0]))] H := hP
    have hD : va_D A [(mm, .inr (21, [.int th, .ref ms, .ref mt, .ref mh, .ref me])), (mt, .inr (1, [.int mo, .ref ma, .int 3])), (ma, .inl (kO, 10, .inr (.inr (.inr (.inr (zfT t0 t1 t2)))))), (u_1, .inr (19, [.int (-1), .int (-1), .int (-1), .int (-1), .ref mm])), (t0, .inr (18, [.int (-1), f1])), (u_6, .inr (1, [.int 0, .ref eD, .int 0]))] := hD
    have hK : va_K (dC, dI) vwCl [(kO, .object "java/lang/Object")] s := by simpa using hK
    have hw_11 : r_10 = 0 := hw_11
    have hw_11 := hw_11.symm
    subst hw_11
    refine lv_icmp_ge (tgt := 43) hx hb dX19_roadNumber_24 (by decide) (fun c_12 => ?_) (fun c_12 => ?_)
    rotate_left
    · exact absurd ((Int32.not_lt.mp c_9)) c_12
    refine lv_bipush (v := (-9)) hx hb dX19_roadNumber_43 (by decide) ?_
    have hP9 := hP.sub (ws' := [(mm, .inr (21, [.int th, .ref ms, .ref mt, .ref mh, .ref me])), (mt, .inr (1, [.int mo, .ref ma, .int 3])), (ma, .inl (kO, 10, .inr (.inr (.inr (.inr (zfT t0 t1 t2)))))), (t0, .inr (18, [.int (-1), f1]))]) [0, 1, 2, 4] rfl
    have hD9 := hD.sub (ws' := [(mm, .inr (21, [.int th, .ref ms, .ref mt, .ref mh, .ref me])), (mt, .inr (1, [.int mo, .ref ma, .int 3])), (ma, .inl (kO, 10, .inr (.inr (.inr (.inr (zfT t0 t1 t2)))))), (t0, .inr (18, [.int (-1), f1]))]) [0, 1, 2, 4] (by decide) rfl
    have hK9 := hK.sub (tys' := []) [] rfl
    refine W.widen (k := 2) (n := 8) (Nat.le_of_ble_eq_true rfl) (Nat.le_of_ble_eq_true rfl) ?_
    exact W.iret (v := (-9)) hx hb hr (fun t ht hW => ⟨⟨(-9), (), rfl, rfl, ⟨by rw [ht]; exact hP9, va_K.moved hW.alike hK9, hD9⟩⟩, hS.F ht⟩) hS.2.2 dX19_roadNumber_45

def wb_c_M_roadNumber_1 : List Cond := [.code yX19_view cX19_view 1 (some (.object "HornbookModel$View")), .classLink RX19 42 RX17, .instantiable RX17 5, .initialized RX17, .code yX17_init cX17_init 6 none, .fieldLink RX17 3 "HornbookModel$View" "this$0" "LHornbookModel;", .methodLink RX17 9 objectInit, .instanceMethod objectInit, .code objectInit ⟨#[0xb1]⟩ 1 none, .fieldLink RX17 15 "HornbookModel$View" "without" "I", .fieldLink RX17 19 "HornbookModel$View" "sort" "I", .fieldLink RX17 22 "HornbookModel$View" "parameter" "I", .fieldLink RX17 25 "HornbookModel$View" "how" "I", .methodLink RX19 44 yX17_init, .instanceMethod yX17_init, .methodLink RX19 157 yX19_view, .instanceMethod yX19_view, .selects RX19 yX19_view yX19_view, .initialized RX19, .code yX19_type cX19_type 2 (some (.object "HornbookModel$Tree")), .fieldLink RX19 16 "HornbookModel" "types" "Ljava/util/ArrayList;", .code yJx4a65c_get_915e3 cJx4a65c_get_915e3 2 (some (.object "java/lang/Object")), .fieldLink RJx4a65c 48 "java/util/ArrayList" "size" "I", .code yJ15_checkIndex_7cf53 cJ15_checkIndex_7cf53 2 (some .int), .code yJ3_checkIndex_8e157 cJ3_checkIndex_8e157 3 (some .int), .methodLink RJ15 105 yJ3_checkIndex_8e157, .static yJ3_checkIndex_8e157, .initialized RJ3, .methodLink RJx4a65c 118 yJ15_checkIndex_7cf53, .static yJ15_checkIndex_7cf53, .initialized RJ15, .code yJx4a65c_elementData_915e3 cJx4a65c_elementData_915e3 2 (some (.object "java/lang/Object")), .fieldLink RJx4a65c 9 "java/util/ArrayList" "elementData" "[Ljava/lang/Object;", .methodLink RJx4a65c 123 yJx4a65c_elementData_915e3, .instanceMethod yJx4a65c_elementData_915e3, .selects RJx4a65c yJx4a65c_elementData_915e3 yJx4a65c_elementData_915e3, .initialized RJx4a65c, .methodLink RX19 59 yJx4a65c_get_915e3, .instanceMethod yJx4a65c_get_915e3, .selects RJx4a65c yJx4a65c_get_915e3 yJx4a65c_get_915e3, .classLink RX19 25 "HornbookModel$Tree", .methodLink RX19 87 yX19_type, .instanceMethod yX19_type, .selects RX19 yX19_type yX19_type, .code yX17_road cX17_road 3 (some (.object "java/util/ArrayList")), .classLink RX17 33 RJx4a65c, .instantiable RJx4a65c 3, .code yJx4a65c_init_da8c8 cJx4a65c_init_da8c8 1 none, .code yJxc12de_init_da8c8 cJxc12de_init_da8c8 1 none, .code yJxa1e45_init_da8c8 cJxa1e45_init_da8c8 1 none, .methodLink RJxa1e45 1 objectInit, .initialized RJxa1e45, .methodLink RJxc12de 1 yJxa1e45_init_da8c8, .instanceMethod yJxa1e45_init_da8c8, .fieldLink RJxc12de 7 "java/util/AbstractList" "modCount" "I", .initialized RJxc12de, .methodLink RJx4a65c 1 yJxc12de_init_da8c8, .instanceMethod yJxc12de_init_da8c8, .fieldLink RJx4a65c 39 "java/util/ArrayList" "DEFAULTCAPACITY_EMPTY_ELEMENTDATA" "[Ljava/lang/Object;", .methodLink RX17 67 yJx4a65c_init_da8c8, .instanceMethod yJx4a65c_init_da8c8, .code yX16_isSort cX16_isSort 1 (some .boolean), .fieldLink RX16 14 "HornbookModel$Tree" "head" "I", .methodLink RX17 68 yX16_isSort, .instanceMethod yX16_isSort, .selects RX16 yX16_isSort yX16_isSort, .initialized RX16, .methodLink RX19 165 yX17_road, .instanceMethod yX17_road, .selects RX17 yX17_road yX17_road, .code yJx4a65c_size_8abf5 cJx4a65c_size_8abf5 1 (some .int), .methodLink RX19 47 yJx4a65c_size_8abf5, .instanceMethod yJx4a65c_size_8abf5, .selects RJx4a65c yJx4a65c_size_8abf5 yJx4a65c_size_8abf5] ++ u_ws RJx4a65c TJx4a65c 3 ++ u_ws RX16 TX16 2 ++ u_ws RX17 TX17 5 ++ u_ws RX19 TX19 5
def w_c_M_roadNumber_1 : List Cond := .code yX19_roadNumber cX19_roadNumber 5 (some .int) :: wb_c_M_roadNumber_1
set_option maxRecDepth 100000 in
theorem g_c_M_roadNumber_1_0 : GoodIn w_c_M_roadNumber_1 (wsV RX19 157 RX19 yX19_view w_c_M_view) := goodIn_app (goodIn_of _ (by decide +kernel)) (goodIn_p (big := w_c_M_roadNumber_1) (.code yX19_view cX19_view 1 (some (.object "HornbookModel$View")) :: wb_c_M_view) [1, 5, 9] rfl (by decide +kernel))
set_option maxRecDepth 100000 in
theorem g_c_M_roadNumber_1_1 : GoodIn w_c_M_roadNumber_1 (wsV RX19 87 RX19 yX19_type w_c_M_type_1) := goodIn_app (goodIn_of _ (by decide +kernel)) (goodIn_p (big := w_c_M_roadNumber_1) (.code yX19_type cX19_type 2 (some (.object "HornbookModel$Tree")) :: wb_c_M_type_1) [20, 22, 24, 25, 32] rfl (by decide +kernel))
set_option maxRecDepth 100000 in
theorem g_c_M_roadNumber_1_2 : GoodIn w_c_M_roadNumber_1 (wsV RX19 165 RX17 yX17_road w_c_V_road) := goodIn_app (goodIn_of _ (by decide +kernel)) (goodIn_p (big := w_c_M_roadNumber_1) (.code yX17_road cX17_road 3 (some (.object "java/util/ArrayList")) :: wb_c_V_road) [45, 48, 49, 50, 9, 62] rfl (by decide +kernel))
set_option maxRecDepth 100000 in
theorem g_c_M_roadNumber_1_3 : GoodIn w_c_M_roadNumber_1 (wsV RX19 47 RJx4a65c yJx4a65c_size_8abf5 w_c_AL_size) := goodIn_app (goodIn_of _ (by decide +kernel)) (goodIn_p (big := w_c_M_roadNumber_1) (.code yJx4a65c_size_8abf5 cJx4a65c_size_8abf5 1 (some .int) :: wb_c_AL_size) [71] rfl (by decide +kernel))
set_option maxHeartbeats 4000000 in
set_option maxRecDepth 100000 in
theorem c_M_roadNumber_1 (l : Launch) (eD eI : Nat) (ad : Nat → Nat) (dC : Nat → ClassId) (dI : Nat → Nat → Nat) (sz : Nat) (mm : Nat) (ms : Nat) (mt : Nat) (mh : Nat) (me : Nat) (th : Int32) (mo : Int32) (ma : Nat) (kO : ClassId) (t0 : Nat) (t1 : Nat) (t2 : Nat) (f1 : Value) (x2 : Int32) (x3 : Int32) : Met l yX19_roadNumber w_c_M_roadNumber_1 ({ frames := 5, cells := 2, slots := 8, locals := 94 }) (va_Pc [.ref mm, .int 1, .int x2, .int x3] (zPre eD eI ad (dC, dI) [(mm, .inr (21, [.int th, .ref ms, .ref mt, .ref mh, .ref me])), (mt, .inr (1, [.int mo, .ref ma, .int 3])), (ma, .inl (kO, 10, .inr (.inr (.inr (.inr (zfT t0 t1 t2)))))), (t1, .inr (18, [.int (-2), f1]))] [(kO, .object "java/lang/Object")] sz)) (va_Qi (fun (r : Int32) (_ : Unit) => r = (-9)) (fun (_ : Unit) => zEnd (dC, dI) (va_A [(mm, .inr (21, [.int th, .ref ms, .ref mt, .ref mh, .ref me])), (mt, .inr (1, [.int mo, .ref ma, .int 3])), (ma, .inl (kO, 10, .inr (.inr (.inr (.inr (zfT t0 t1 t2)))))), (t1, .inr (18, [.int (-2), f1]))] sz) [(mm, .inr (21, [.int th, .ref ms, .ref mt, .ref mh, .ref me])), (mt, .inr (1, [.int mo, .ref ma, .int 3])), (ma, .inl (kO, 10, .inr (.inr (.inr (.inr (zfT t0 t1 t2)))))), (t1, .inr (18, [.int (-2), f1]))] []) (va_A [(mm, .inr (21, [.int th, .ref ms, .ref mt, .ref mh, .ref me])), (mt, .inr (1, [.int mo, .ref ma, .int 3])), (ma, .inl (kO, 10, .inr (.inr (.inr (.inr (zfT t0 t1 t2)))))), (t1, .inr (18, [.int (-2), f1]))] sz)) 2 8 (va_A [(mm, .inr (21, [.int th, .ref ms, .ref mt, .ref mh, .ref me])), (mt, .inr (1, [.int mo, .ref ma, .int 3])), (ma, .inl (kO, 10, .inr (.inr (.inr (.inr (zfT t0 t1 t2)))))), (t1, .inr (18, [.int (-2), f1]))] sz) := by
  refine Met.ofW (cc := cX19_roadNumber) (maxL := 5) (ret := (some .int)) (by decide) rfl ?_
  intro p e s m args below meth c s₁ B hml hv
  obtain ⟨rfl, hsz, hP, hK, hD0, hE⟩ := hv
  have hx := B.exec
  have hb := B.bytes
  have hr := B.returns
  have hts := atoms_spec (ws := w_c_M_roadNumber_1) B.pre
  have hown : s.vm.findClass RX19 = some m.cls := findClass_of_methodNamed B.named
  have hlocks := B.notSynchronized
  subst hsz
  have hD := hD0.self (sz := s.heap.size)
  generalize hAe : va_A [(mm, .inr (21, [.int th, .ref ms, .ref mt, .ref mh, .ref me])), (mt, .inr (1, [.int mo, .ref ma, .int 3])), (ma, .inl (kO, 10, .inr (.inr (.inr (.inr (zfT t0 t1 t2)))))), (t1, .inr (18, [.int (-2), f1]))] s.heap.size = A at hD hE ⊢
  have hA : ∀ q : Nat, s.heap.size ≤ q → A q := fun q h => by rw [← hAe]; exact Or.inr h
  have hS : va_S A s.heap s.heap [] := va_S.rf
  have hP : va_P (dC, dI) vwCl [(mm, .inr (21, [.int th, .ref ms, .ref mt, .ref mh, .ref me])), (mt, .inr (1, [.int mo, .ref ma, .int 3])), (ma, .inl (kO, 10, .inr (.inr (.inr (.inr (zfT t0 t1 t2)))))), (t1, .inr (18, [.int (-2), f1]))] s.heap := hP
  have hl := lv_entry ([.ref mm, .int 1, .int x2, .int x3]) (n := 5) (Nat.le_of_ble_eq_true rfl)
  rw [lg_entry_eq]
  generalize (lg_sl ([.ref mm, .int 1, .int x2, .int x3]) ++ List.replicate (5 - (lg_sl ([.ref mm, .int 1, .int x2, .int x3])).length) Slot.unset).toArray = ls at hl ⊢
  have hl : lv_has ls 5 [(0, .ref mm), (1, .int 1), (2, .int x2), (3, .int x3)] := hl
  have in_RJx4a65c : ∀ w ∈ u_ws RJx4a65c TJx4a65c 3, w ∈ w_c_M_roadNumber_1 := by decide +kernel
  have in_RX16 : ∀ w ∈ u_ws RX16 TX16 2, w ∈ w_c_M_roadNumber_1 := by decide +kernel
  have in_RX17 : ∀ w ∈ u_ws RX17 TX17 5, w ∈ w_c_M_roadNumber_1 := by decide +kernel
  have in_RX19 : ∀ w ∈ u_ws RX19 TX19 5, w ∈ w_c_M_roadNumber_1 := by decide +kernel
  refine lv_aload_n hx hb dX19_roadNumber_0 rfl (lv_at hl 0 rfl) ?_
  refine z_q (wr := [(mt, .inr (1, [.int mo, .ref ma, .int 3])), (ma, .inl (kO, 10, .inr (.inr (.inr (.inr (zfT t0 t1 t2)))))), (t1, .inr (18, [.int (-2), f1]))]) (va_runV (As := []) (rest := []) ⟨hx, hb, hml, hown, hts⟩ (c_M_view l eD eI ad dC dI s.heap.size mm ms mt mh me th) (cwV 0 hts g_c_M_roadNumber_1_0 rfl rfl rfl (by decide +kernel) ⟨Nat.le_of_ble_eq_true rfl, Nat.le_of_ble_eq_true rfl⟩) (z_preV (wc := [(mm, .inr (21, [.int th, .ref ms, .ref mt, .ref mh, .ref me]))]) hP hD hK hS hA hE [0] [] rfl (by decide) rfl (ci := 21) (q0 := 0) rfl rfl) rfl rfl hl.1 rfl (lv_room (Nat.le_of_ble_eq_true rfl)) dX19_roadNumber_1 ⟨Nat.le_of_ble_eq_true rfl, Nat.le_of_ble_eq_true rfl⟩) hP hD hK hS hA [0] [1, 2, 3] rfl rfl (by decide) (by decide) (fun r_2 u H locs hw_3 hP hD hK hS => ?_)
  obtain ⟨u_1, rfl⟩ : ∃ z, z = u := ⟨_, rfl⟩
  have hP : va_P (dC, dI) vwCl [(mt, .inr (1, [.int mo, .ref ma, .int 3])), (ma, .inl (kO, 10, .inr (.inr (.inr (.inr (zfT t0 t1 t2)))))), (t1, .inr (18, [.int (-2), f1])), (mm, .inr (21, [.int th, .ref ms, .ref mt, .ref mh, .ref me])), (u_1, .inr (19, [.int (-1), .int (-1), .int (-1), .int (-1), .ref mm]))] H := hP
  have hD : va_D A [(mt, .inr (1, [.int mo, .ref ma, .int 3])), (ma, .inl (kO, 10, .inr (.inr (.inr (.inr (zfT t0 t1 t2)))))), (t1, .inr (18, [.int (-2), f1])), (mm, .inr (21, [.int th, .ref ms, .ref mt, .ref mh, .ref me])), (u_1, .inr (19, [.int (-1), .int (-1), .int (-1), .int (-1), .ref mm]))] := hD
  have hK : va_K (dC, dI) vwCl [(kO, .object "java/lang/Object")] s := by simpa using hK
  have hw_3 : r_2 = some u_1 := hw_3
  have hw_3 := hw_3.symm
  subst hw_3
  refine W.eq (g2 := F0 m 4 ls (.ref u_1 :: [])) rfl ?_
  refine lv_aload_n hx hb dX19_roadNumber_4 rfl (lv_at hl 0 rfl) ?_
  refine lv_iload_n hx hb dX19_roadNumber_5 rfl (lv_at hl 1 rfl) ?_
  refine z_q (wr := [(u_1, .inr (19, [.int (-1), .int (-1), .int (-1), .int (-1), .ref mm]))]) (va_runV (As := [.int 1]) (rest := [.ref u_1]) ⟨hx, hb, hml, hown, hts⟩ (c_M_type_1 l eD eI ad dC dI H.size mm ms mt mh me th mo ma kO t0 t1 t2 f1) (cwV 1 hts g_c_M_roadNumber_1_1 rfl rfl rfl (by decide +kernel) ⟨Nat.le_of_ble_eq_true rfl, Nat.le_of_ble_eq_true rfl⟩) (z_preV (wc := [(mm, .inr (21, [.int th, .ref ms, .ref mt, .ref mh, .ref me])), (mt, .inr (1, [.int mo, .ref ma, .int 3])), (ma, .inl (kO, 10, .inr (.inr (.inr (.inr (zfT t0 t1 t2)))))), (t1, .inr (18, [.int (-2), f1]))]) hP hD hK hS hA hE [3, 0, 1, 2] [0] rfl (by decide) rfl (ci := 21) (q0 := 0) rfl rfl) rfl rfl hl.1 rfl (lv_room (Nat.le_of_ble_eq_true rfl)) dX19_roadNumber_6 ⟨Nat.le_of_ble_eq_true rfl, Nat.le_of_ble_eq_true rfl⟩) hP hD hK hS hA [3, 0, 1, 2] [4] rfl rfl (by decide) (by decide) (fun r_4 u H locs hw_5 hP hD hK hS => ?_)
  obtain ⟨⟩ := u
  have hP : va_P (dC, dI) vwCl [(u_1, .inr (19, [.int (-1), .int (-1), .int (-1), .int (-1), .ref mm])), (mm, .inr (21, [.int th, .ref ms, .ref mt, .ref mh, .ref me])), (mt, .inr (1, [.int mo, .ref ma, .int 3])), (ma, .inl (kO, 10, .inr (.inr (.inr (.inr (zfT t0 t1 t2)))))), (t1, .inr (18, [.int (-2), f1]))] H := hP
  have hD : va_D A [(u_1, .inr (19, [.int (-1), .int (-1), .int (-1), .int (-1), .ref mm])), (mm, .inr (21, [.int th, .ref ms, .ref mt, .ref mh, .ref me])), (mt, .inr (1, [.int mo, .ref ma, .int 3])), (ma, .inl (kO, 10, .inr (.inr (.inr (.inr (zfT t0 t1 t2)))))), (t1, .inr (18, [.int (-2), f1]))] := hD
  have hK : va_K (dC, dI) vwCl [(kO, .object "java/lang/Object")] s := by simpa using hK
  have hw_5 : r_4 = some t1 := hw_5
  have hw_5 := hw_5.symm
  subst hw_5
  refine W.eq (g2 := F0 m 9 ls (.ref t1 :: .ref u_1 :: [])) rfl ?_
  refine z_q (wr := [(mm, .inr (21, [.int th, .ref ms, .ref mt, .ref mh, .ref me])), (mt, .inr (1, [.int mo, .ref ma, .int 3])), (ma, .inl (kO, 10, .inr (.inr (.inr (.inr (zfT t0 t1 t2))))))]) (va_runV (As := [.ref t1]) (rest := []) ⟨hx, hb, hml, hown, hts⟩ (c_V_road l eD eI ad dC dI H.size u_1 mm t1 (-2) f1 (by decide)) (cwV 1 hts g_c_M_roadNumber_1_2 rfl rfl rfl (by decide +kernel) ⟨Nat.le_of_ble_eq_true rfl, Nat.le_of_ble_eq_true rfl⟩) (z_preV (wc := [(u_1, .inr (19, [.int (-1), .int (-1), .int (-1), .int (-1), .ref mm])), (t1, .inr (18, [.int (-2), f1]))]) hP hD hK hS hA hE [0, 4] [] rfl (by decide) rfl (ci := 19) (q0 := 0) rfl rfl) rfl rfl hl.1 rfl (lv_room (Nat.le_of_ble_eq_true rfl)) dX19_roadNumber_9 ⟨Nat.le_of_ble_eq_true rfl, Nat.le_of_ble_eq_true rfl⟩) hP hD hK hS hA [0, 4] [1, 2, 3] rfl rfl (by decide) (by decide) (fun r_7 u H locs hw_8 hP hD hK hS => ?_)
  obtain ⟨u_6, rfl⟩ : ∃ z, z = u := ⟨_, rfl⟩
  have hP : va_P (dC, dI) vwCl [(mm, .inr (21, [.int th, .ref ms, .ref mt, .ref mh, .ref me])), (mt, .inr (1, [.int mo, .ref ma, .int 3])), (ma, .inl (kO, 10, .inr (.inr (.inr (.inr (zfT t0 t1 t2)))))), (u_1, .inr (19, [.int (-1), .int (-1), .int (-1), .int (-1), .ref mm])), (t1, .inr (18, [.int (-2), f1])), (u_6, .inr (1, [.int 0, .ref eD, .int 0]))] H := hP
  have hD : va_D A [(mm, .inr (21, [.int th, .ref ms, .ref mt, .ref mh, .ref me])), (mt, .inr (1, [.int mo, .ref ma, .int 3])), (ma, .inl (kO, 10, .inr (.inr (.inr (.inr (zfT t0 t1 t2)))))), (u_1, .inr (19, [.int (-1), .int (-1), .int (-1), .int (-1), .ref mm])), (t1, .inr (18, [.int (-2), f1])), (u_6, .inr (1, [.int 0, .ref eD, .int 0]))] := hD
  have hK : va_K (dC, dI) vwCl [(kO, .object "java/lang/Object")] s := by simpa using hK
  have hw_8 : r_7 = some u_6 := hw_8
  have hw_8 := hw_8.symm
  subst hw_8
  refine W.eq (g2 := F0 m 12 ls (.ref u_6 :: [])) rfl ?_
  refine lv_astore (lv' := [(4, .ref u_6), (0, .ref mm), (1, .int 1), (2, .int x2), (3, .int x3)]) hx hb dX19_roadNumber_12 hl (by decide) rfl (fun ls hl => ?_)
  refine lv_iload_n hx hb dX19_roadNumber_14 rfl (lv_at hl 3 rfl) ?_
  refine lv_if_lt (tgt := 43) hx hb dX19_roadNumber_15 (by decide) (fun c_9 => ?_) (fun c_9 => ?_)
  · refine lv_bipush (v := (-9)) hx hb dX19_roadNumber_43 (by decide) ?_
    have hP9 := hP.sub (ws' := [(mm, .inr (21, [.int th, .ref ms, .ref mt, .ref mh, .ref me])), (mt, .inr (1, [.int mo, .ref ma, .int 3])), (ma, .inl (kO, 10, .inr (.inr (.inr (.inr (zfT t0 t1 t2)))))), (t1, .inr (18, [.int (-2), f1]))]) [0, 1, 2, 4] rfl
    have hD9 := hD.sub (ws' := [(mm, .inr (21, [.int th, .ref ms, .ref mt, .ref mh, .ref me])), (mt, .inr (1, [.int mo, .ref ma, .int 3])), (ma, .inl (kO, 10, .inr (.inr (.inr (.inr (zfT t0 t1 t2)))))), (t1, .inr (18, [.int (-2), f1]))]) [0, 1, 2, 4] (by decide) rfl
    have hK9 := hK.sub (tys' := []) [] rfl
    refine W.widen (k := 2) (n := 8) (Nat.le_of_ble_eq_true rfl) (Nat.le_of_ble_eq_true rfl) ?_
    exact W.iret (v := (-9)) hx hb hr (fun t ht hW => ⟨⟨(-9), (), rfl, rfl, ⟨by rw [ht]; exact hP9, va_K.moved hW.alike hK9, hD9⟩⟩, hS.F ht⟩) hS.2.2 dX19_roadNumber_45
  · refine lv_iload_n hx hb dX19_roadNumber_18 rfl (lv_at hl 3 rfl) ?_
    refine lv_aload hx hb dX19_roadNumber_19 (lv_at hl 0 rfl) ?_
    refine z_i (wr := [(mm, .inr (21, [.int th, .ref ms, .ref mt, .ref mh, .ref me])), (mt, .inr (1, [.int mo, .ref ma, .int 3])), (ma, .inl (kO, 10, .inr (.inr (.inr (.inr (zfT t0 t1 t2)))))), (u_1, .inr (19, [.int (-1), .int (-1), .int (-1), .int (-1), .ref mm])), (t1, .inr (18, [.int (-2), f1]))]) (va_runV (As := []) (rest := [.int x2]) ⟨hx, hb, hml, hown, hts⟩ (c_AL_size l eD eI ad dC dI H.size u_6 ((.int 0)) ((.ref eD)) 0) (cwV 0 hts g_c_M_roadNumber_1_3 rfl rfl rfl (by decide +kernel) ⟨Nat.le_of_ble_eq_true rfl, Nat.le_of_ble_eq_true rfl⟩) (z_preV (wc := [(u_6, .inr (1, [.int 0, .ref eD, .int 0]))]) hP hD hK hS hA hE [5] [] rfl (by decide) rfl (ci := 1) (q0 := 0) rfl rfl) rfl rfl hl.1 rfl (lv_room (Nat.le_of_ble_eq_true rfl)) dX19_roadNumber_21 ⟨Nat.le_of_ble_eq_true rfl, Nat.le_of_ble_eq_true rfl⟩) hP hD hK hS hA [5] [0, 1, 2, 3, 4] rfl rfl (by decide) (by decide) (fun r_10 u H locs hw_11 hP hD hK hS => ?_)
    obtain ⟨⟩ := u
    have hP : va_P (dC, dI) vwCl [(mm, .inr (21, [.int th, .ref ms, .ref mt, .ref mh, .ref me])), (mt, .inr (1, [.int mo, .ref ma, .int 3])), (ma, .inl (kO, 10, .inr (.inr (.inr (.inr (zfT t0 t1 t2)))))), (u_1, .inr (19, [.int (-1), .int (-1), .int (-1), .int (-1), .ref mm])), (t1, .inr (18, [.int (-2), f1])), (u_6, .inr (1, [.int 0, .ref eD, .int 0]))] H := hP
    have hD : va_D A [(mm, .inr (21, [.int th, .ref ms, .ref mt, .ref mh, .ref me])), (mt, .inr (1, [.int mo, .ref ma, .int 3])), (ma, .inl (kO, 10, .inr (.inr (.inr (.inr (zfT t0 t1 t2)))))), (u_1, .inr (19, [.int (-1), .int (-1), .int (-1), .int (-1), .ref mm])), (t1, .inr (18, [.int (-2), f1])), (u_6, .inr (1, [.int 0, .ref eD, .int 0]))] := hD
    have hK : va_K (dC, dI) vwCl [(kO, .object "java/lang/Object")] s := by simpa using hK
    have hw_11 : r_10 = 0 := hw_11
    have hw_11 := hw_11.symm
    subst hw_11
    refine lv_icmp_ge (tgt := 43) hx hb dX19_roadNumber_24 (by decide) (fun c_12 => ?_) (fun c_12 => ?_)
    rotate_left
    · exact absurd ((Int32.not_lt.mp c_9)) c_12
    refine lv_bipush (v := (-9)) hx hb dX19_roadNumber_43 (by decide) ?_
    have hP9 := hP.sub (ws' := [(mm, .inr (21, [.int th, .ref ms, .ref mt, .ref mh, .ref me])), (mt, .inr (1, [.int mo, .ref ma, .int 3])), (ma, .inl (kO, 10, .inr (.inr (.inr (.inr (zfT t0 t1 t2)))))), (t1, .inr (18, [.int (-2), f1]))]) [0, 1, 2, 4] rfl
    have hD9 := hD.sub (ws' := [(mm, .inr (21, [.int th, .ref ms, .ref mt, .ref mh, .ref me])), (mt, .inr (1, [.int mo, .ref ma, .int 3])), (ma, .inl (kO, 10, .inr (.inr (.inr (.inr (zfT t0 t1 t2)))))), (t1, .inr (18, [.int (-2), f1]))]) [0, 1, 2, 4] (by decide) rfl
    have hK9 := hK.sub (tys' := []) [] rfl
    refine W.widen (k := 2) (n := 8) (Nat.le_of_ble_eq_true rfl) (Nat.le_of_ble_eq_true rfl) ?_
    exact W.iret (v := (-9)) hx hb hr (fun t ht hW => ⟨⟨(-9), (), rfl, rfl, ⟨by rw [ht]; exact hP9, va_K.moved hW.alike hK9, hD9⟩⟩, hS.F ht⟩) hS.2.2 dX19_roadNumber_45

def wb_c_M_roadNumber_2 : List Cond := [.code yX19_view cX19_view 1 (some (.object "HornbookModel$View")), .classLink RX19 42 RX17, .instantiable RX17 5, .initialized RX17, .code yX17_init cX17_init 6 none, .fieldLink RX17 3 "HornbookModel$View" "this$0" "LHornbookModel;", .methodLink RX17 9 objectInit, .instanceMethod objectInit, .code objectInit ⟨#[0xb1]⟩ 1 none, .fieldLink RX17 15 "HornbookModel$View" "without" "I", .fieldLink RX17 19 "HornbookModel$View" "sort" "I", .fieldLink RX17 22 "HornbookModel$View" "parameter" "I", .fieldLink RX17 25 "HornbookModel$View" "how" "I", .methodLink RX19 44 yX17_init, .instanceMethod yX17_init, .methodLink RX19 157 yX19_view, .instanceMethod yX19_view, .selects RX19 yX19_view yX19_view, .initialized RX19, .code yX19_type cX19_type 2 (some (.object "HornbookModel$Tree")), .fieldLink RX19 16 "HornbookModel" "types" "Ljava/util/ArrayList;", .code yJx4a65c_get_915e3 cJx4a65c_get_915e3 2 (some (.object "java/lang/Object")), .fieldLink RJx4a65c 48 "java/util/ArrayList" "size" "I", .code yJ15_checkIndex_7cf53 cJ15_checkIndex_7cf53 2 (some .int), .code yJ3_checkIndex_8e157 cJ3_checkIndex_8e157 3 (some .int), .methodLink RJ15 105 yJ3_checkIndex_8e157, .static yJ3_checkIndex_8e157, .initialized RJ3, .methodLink RJx4a65c 118 yJ15_checkIndex_7cf53, .static yJ15_checkIndex_7cf53, .initialized RJ15, .code yJx4a65c_elementData_915e3 cJx4a65c_elementData_915e3 2 (some (.object "java/lang/Object")), .fieldLink RJx4a65c 9 "java/util/ArrayList" "elementData" "[Ljava/lang/Object;", .methodLink RJx4a65c 123 yJx4a65c_elementData_915e3, .instanceMethod yJx4a65c_elementData_915e3, .selects RJx4a65c yJx4a65c_elementData_915e3 yJx4a65c_elementData_915e3, .initialized RJx4a65c, .methodLink RX19 59 yJx4a65c_get_915e3, .instanceMethod yJx4a65c_get_915e3, .selects RJx4a65c yJx4a65c_get_915e3 yJx4a65c_get_915e3, .classLink RX19 25 "HornbookModel$Tree", .methodLink RX19 87 yX19_type, .instanceMethod yX19_type, .selects RX19 yX19_type yX19_type, .code yX17_road cX17_road 3 (some (.object "java/util/ArrayList")), .classLink RX17 33 RJx4a65c, .instantiable RJx4a65c 3, .code yJx4a65c_init_da8c8 cJx4a65c_init_da8c8 1 none, .code yJxc12de_init_da8c8 cJxc12de_init_da8c8 1 none, .code yJxa1e45_init_da8c8 cJxa1e45_init_da8c8 1 none, .methodLink RJxa1e45 1 objectInit, .initialized RJxa1e45, .methodLink RJxc12de 1 yJxa1e45_init_da8c8, .instanceMethod yJxa1e45_init_da8c8, .fieldLink RJxc12de 7 "java/util/AbstractList" "modCount" "I", .initialized RJxc12de, .methodLink RJx4a65c 1 yJxc12de_init_da8c8, .instanceMethod yJxc12de_init_da8c8, .fieldLink RJx4a65c 39 "java/util/ArrayList" "DEFAULTCAPACITY_EMPTY_ELEMENTDATA" "[Ljava/lang/Object;", .methodLink RX17 67 yJx4a65c_init_da8c8, .instanceMethod yJx4a65c_init_da8c8, .code yX16_isSort cX16_isSort 1 (some .boolean), .fieldLink RX16 14 "HornbookModel$Tree" "head" "I", .methodLink RX17 68 yX16_isSort, .instanceMethod yX16_isSort, .selects RX16 yX16_isSort yX16_isSort, .initialized RX16, .methodLink RX19 165 yX17_road, .instanceMethod yX17_road, .selects RX17 yX17_road yX17_road, .code yJx4a65c_size_8abf5 cJx4a65c_size_8abf5 1 (some .int), .methodLink RX19 47 yJx4a65c_size_8abf5, .instanceMethod yJx4a65c_size_8abf5, .selects RJx4a65c yJx4a65c_size_8abf5 yJx4a65c_size_8abf5] ++ u_ws RJx4a65c TJx4a65c 3 ++ u_ws RX16 TX16 2 ++ u_ws RX17 TX17 5 ++ u_ws RX19 TX19 5
def w_c_M_roadNumber_2 : List Cond := .code yX19_roadNumber cX19_roadNumber 5 (some .int) :: wb_c_M_roadNumber_2
set_option maxRecDepth 100000 in
theorem g_c_M_roadNumber_2_0 : GoodIn w_c_M_roadNumber_2 (wsV RX19 157 RX19 yX19_view w_c_M_view) := goodIn_app (goodIn_of _ (by decide +kernel)) (goodIn_p (big := w_c_M_roadNumber_2) (.code yX19_view cX19_view 1 (some (.object "HornbookModel$View")) :: wb_c_M_view) [1, 5, 9] rfl (by decide +kernel))
set_option maxRecDepth 100000 in
theorem g_c_M_roadNumber_2_1 : GoodIn w_c_M_roadNumber_2 (wsV RX19 87 RX19 yX19_type w_c_M_type_2) := goodIn_app (goodIn_of _ (by decide +kernel)) (goodIn_p (big := w_c_M_roadNumber_2) (.code yX19_type cX19_type 2 (some (.object "HornbookModel$Tree")) :: wb_c_M_type_2) [20, 22, 24, 25, 32] rfl (by decide +kernel))
set_option maxRecDepth 100000 in
theorem g_c_M_roadNumber_2_2 : GoodIn w_c_M_roadNumber_2 (wsV RX19 165 RX17 yX17_road w_c_V_road) := goodIn_app (goodIn_of _ (by decide +kernel)) (goodIn_p (big := w_c_M_roadNumber_2) (.code yX17_road cX17_road 3 (some (.object "java/util/ArrayList")) :: wb_c_V_road) [45, 48, 49, 50, 9, 62] rfl (by decide +kernel))
set_option maxRecDepth 100000 in
theorem g_c_M_roadNumber_2_3 : GoodIn w_c_M_roadNumber_2 (wsV RX19 47 RJx4a65c yJx4a65c_size_8abf5 w_c_AL_size) := goodIn_app (goodIn_of _ (by decide +kernel)) (goodIn_p (big := w_c_M_roadNumber_2) (.code yJx4a65c_size_8abf5 cJx4a65c_size_8abf5 1 (some .int) :: wb_c_AL_size) [71] rfl (by decide +kernel))
set_option maxHeartbeats 4000000 in
set_option maxRecDepth 100000 in
theorem c_M_roadNumber_2 (l : Launch) (eD eI : Nat) (ad : Nat → Nat) (dC : Nat → ClassId) (dI : Nat → Nat → Nat) (sz : Nat) (mm : Nat) (ms : Nat) (mt : Nat) (mh : Nat) (me : Nat) (th : Int32) (mo : Int32) (ma : Nat) (kO : ClassId) (t0 : Nat) (t1 : Nat) (t2 : Nat) (f1 : Value) (x2 : Int32) (x3 : Int32) : Met l yX19_roadNumber w_c_M_roadNumber_2 ({ frames := 5, cells := 2, slots := 8, locals := 94 }) (va_Pc [.ref mm, .int 2, .int x2, .int x3] (zPre eD eI ad (dC, dI) [(mm, .inr (21, [.int th, .ref ms, .ref mt, .ref mh, .ref me])), (mt, .inr (1, [.int mo, .ref ma, .int 3])), (ma, .inl (kO, 10, .inr (.inr (.inr (.inr (zfT t0 t1 t2)))))), (t2, .inr (18, [.int (-3), f1]))] [(kO, .object "java/lang/Object")] sz)) (va_Qi (fun (r : Int32) (_ : Unit) => r = (-9)) (fun (_ : Unit) => zEnd (dC, dI) (va_A [(mm, .inr (21, [.int th, .ref ms, .ref mt, .ref mh, .ref me])), (mt, .inr (1, [.int mo, .ref ma, .int 3])), (ma, .inl (kO, 10, .inr (.inr (.inr (.inr (zfT t0 t1 t2)))))), (t2, .inr (18, [.int (-3), f1]))] sz) [(mm, .inr (21, [.int th, .ref ms, .ref mt, .ref mh, .ref me])), (mt, .inr (1, [.int mo, .ref ma, .int 3])), (ma, .inl (kO, 10, .inr (.inr (.inr (.inr (zfT t0 t1 t2)))))), (t2, .inr (18, [.int (-3), f1]))] []) (va_A [(mm, .inr (21, [.int th, .ref ms, .ref mt, .ref mh, .ref me])), (mt, .inr (1, [.int mo, .ref ma, .int 3])), (ma, .inl (kO, 10, .inr (.inr (.inr (.inr (zfT t0 t1 t2)))))), (t2, .inr (18, [.int (-3), f1]))] sz)) 2 8 (va_A [(mm, .inr (21, [.int th, .ref ms, .ref mt, .ref mh, .ref me])), (mt, .inr (1, [.int mo, .ref ma, .int 3])), (ma, .inl (kO, 10, .inr (.inr (.inr (.inr (zfT t0 t1 t2)))))), (t2, .inr (18, [.int (-3), f1]))] sz) := by
  refine Met.ofW (cc := cX19_roadNumber) (maxL := 5) (ret := (some .int)) (by decide) rfl ?_
  intro p e s m args below meth c s₁ B hml hv
  obtain ⟨rfl, hsz, hP, hK, hD0, hE⟩ := hv
  have hx := B.exec
  have hb := B.bytes
  have hr := B.returns
  have hts := atoms_spec (ws := w_c_M_roadNumber_2) B.pre
  have hown : s.vm.findClass RX19 = some m.cls := findClass_of_methodNamed B.named
  have hlocks := B.notSynchronized
  subst hsz
  have hD := hD0.self (sz := s.heap.size)
  generalize hAe : va_A [(mm, .inr (21, [.int th, .ref ms, .ref mt, .ref mh, .ref me])), (mt, .inr (1, [.int mo, .ref ma, .int 3])), (ma, .inl (kO, 10, .inr (.inr (.inr (.inr (zfT t0 t1 t2)))))), (t2, .inr (18, [.int (-3), f1]))] s.heap.size = A at hD hE ⊢
  have hA : ∀ q : Nat, s.heap.size ≤ q → A q := fun q h => by rw [← hAe]; exact Or.inr h
  have hS : va_S A s.heap s.heap [] := va_S.rf
  have hP : va_P (dC, dI) vwCl [(mm, .inr (21, [.int th, .ref ms, .ref mt, .ref mh, .ref me])), (mt, .inr (1, [.int mo, .ref ma, .int 3])), (ma, .inl (kO, 10, .inr (.inr (.inr (.inr (zfT t0 t1 t2)))))), (t2, .inr (18, [.int (-3), f1]))] s.heap := hP
  have hl := lv_entry ([.ref mm, .int 2, .int x2, .int x3]) (n := 5) (Nat.le_of_ble_eq_true rfl)
  rw [lg_entry_eq]
  generalize (lg_sl ([.ref mm, .int 2, .int x2, .int x3]) ++ List.replicate (5 - (lg_sl ([.ref mm, .int 2, .int x2, .int x3])).length) Slot.unset).toArray = ls at hl ⊢
  have hl : lv_has ls 5 [(0, .ref mm), (1, .int 2), (2, .int x2), (3, .int x3)] := hl
  have in_RJx4a65c : ∀ w ∈ u_ws RJx4a65c TJx4a65c 3, w ∈ w_c_M_roadNumber_2 := by decide +kernel
  have in_RX16 : ∀ w ∈ u_ws RX16 TX16 2, w ∈ w_c_M_roadNumber_2 := by decide +kernel
  have in_RX17 : ∀ w ∈ u_ws RX17 TX17 5, w ∈ w_c_M_roadNumber_2 := by decide +kernel
  have in_RX19 : ∀ w ∈ u_ws RX19 TX19 5, w ∈ w_c_M_roadNumber_2 := by decide +kernel
  refine lv_aload_n hx hb dX19_roadNumber_0 rfl (lv_at hl 0 rfl) ?_
  refine z_q (wr := [(mt, .inr (1, [.int mo, .ref ma, .int 3])), (ma, .inl (kO, 10, .inr (.inr (.inr (.inr (zfT t0 t1 t2)))))), (t2, .inr (18, [.int (-3), f1]))]) (va_runV (As := []) (rest := []) ⟨hx, hb, hml, hown, hts⟩ (c_M_view l eD eI ad dC dI s.heap.size mm ms mt mh me th) (cwV 0 hts g_c_M_roadNumber_2_0 rfl rfl rfl (by decide +kernel) ⟨Nat.le_of_ble_eq_true rfl, Nat.le_of_ble_eq_true rfl⟩) (z_preV (wc := [(mm, .inr (21, [.int th, .ref ms, .ref mt, .ref mh, .ref me]))]) hP hD hK hS hA hE [0] [] rfl (by decide) rfl (ci := 21) (q0 := 0) rfl rfl) rfl rfl hl.1 rfl (lv_room (Nat.le_of_ble_eq_true rfl)) dX19_roadNumber_1 ⟨Nat.le_of_ble_eq_true rfl, Nat.le_of_ble_eq_true rfl⟩) hP hD hK hS hA [0] [1, 2, 3] rfl rfl (by decide) (by decide) (fun r_2 u H locs hw_3 hP hD hK hS => ?_)
  obtain ⟨u_1, rfl⟩ : ∃ z, z = u := ⟨_, rfl⟩
  have hP : va_P (dC, dI) vwCl [(mt, .inr (1, [.int mo, .ref ma, .int 3])), (ma, .inl (kO, 10, .inr (.inr (.inr (.inr (zfT t0 t1 t2)))))), (t2, .inr (18, [.int (-3), f1])), (mm, .inr (21, [.int th, .ref ms, .ref mt, .ref mh, .ref me])), (u_1, .inr (19, [.int (-1), .int (-1), .int (-1), .int (-1), .ref mm]))] H := hP
  have hD : va_D A [(mt, .inr (1, [.int mo, .ref ma, .int 3])), (ma, .inl (kO, 10, .inr (.inr (.inr (.inr (zfT t0 t1 t2)))))), (t2, .inr (18, [.int (-3), f1])), (mm, .inr (21, [.int th, .ref ms, .ref mt, .ref mh, .ref me])), (u_1, .inr (19, [.int (-1), .int (-1), .int (-1), .int (-1), .ref mm]))] := hD
  have hK : va_K (dC, dI) vwCl [(kO, .object "java/lang/Object")] s := by simpa using hK
  have hw_3 : r_2 = some u_1 := hw_3
  have hw_3 := hw_3.symm
  subst hw_3
  refine W.eq (g2 := F0 m 4 ls (.ref u_1 :: [])) rfl ?_
  refine lv_aload_n hx hb dX19_roadNumber_4 rfl (lv_at hl 0 rfl) ?_
  refine lv_iload_n hx hb dX19_roadNumber_5 rfl (lv_at hl 1 rfl) ?_
  refine z_q (wr := [(u_1, .inr (19, [.int (-1), .int (-1), .int (-1), .int (-1), .ref mm]))]) (va_runV (As := [.int 2]) (rest := [.ref u_1]) ⟨hx, hb, hml, hown, hts⟩ (c_M_type_2 l eD eI ad dC dI H.size mm ms mt mh me th mo ma kO t0 t1 t2 f1) (cwV 1 hts g_c_M_roadNumber_2_1 rfl rfl rfl (by decide +kernel) ⟨Nat.le_of_ble_eq_true rfl, Nat.le_of_ble_eq_true rfl⟩) (z_preV (wc := [(mm, .inr (21, [.int th, .ref ms, .ref mt, .ref mh, .ref me])), (mt, .inr (1, [.int mo, .ref ma, .int 3])), (ma, .inl (kO, 10, .inr (.inr (.inr (.inr (zfT t0 t1 t2)))))), (t2, .inr (18, [.int (-3), f1]))]) hP hD hK hS hA hE [3, 0, 1, 2] [0] rfl (by decide) rfl (ci := 21) (q0 := 0) rfl rfl) rfl rfl hl.1 rfl (lv_room (Nat.le_of_ble_eq_true rfl)) dX19_roadNumber_6 ⟨Nat.le_of_ble_eq_true rfl, Nat.le_of_ble_eq_true rfl⟩) hP hD hK hS hA [3, 0, 1, 2] [4] rfl rfl (by decide) (by decide) (fun r_4 u H locs hw_5 hP hD hK hS => ?_)
  obtain ⟨⟩ := u
  have hP : va_P (dC, dI) vwCl [(u_1, .inr (19, [.int (-1), .int (-1), .int (-1), .int (-1), .ref mm])), (mm, .inr (21, [.int th, .ref ms, .ref mt, .ref mh, .ref me])), (mt, .inr (1, [.int mo, .ref ma, .int 3])), (ma, .inl (kO, 10, .inr (.inr (.inr (.inr (zfT t0 t1 t2)))))), (t2, .inr (18, [.int (-3), f1]))] H := hP
  have hD : va_D A [(u_1, .inr (19, [.int (-1), .int (-1), .int (-1), .int (-1), .ref mm])), (mm, .inr (21, [.int th, .ref ms, .ref mt, .ref mh, .ref me])), (mt, .inr (1, [.int mo, .ref ma, .int 3])), (ma, .inl (kO, 10, .inr (.inr (.inr (.inr (zfT t0 t1 t2)))))), (t2, .inr (18, [.int (-3), f1]))] := hD
  have hK : va_K (dC, dI) vwCl [(kO, .object "java/lang/Object")] s := by simpa using hK
  have hw_5 : r_4 = some t2 := hw_5
  have hw_5 := hw_5.symm
  subst hw_5
  refine W.eq (g2 := F0 m 9 ls (.ref t2 :: .ref u_1 :: [])) rfl ?_
  refine z_q (wr := [(mm, .inr (21, [.int th, .ref ms, .ref mt, .ref mh, .ref me])), (mt, .inr (1, [.int mo, .ref ma, .int 3])), (ma, .inl (kO, 10, .inr (.inr (.inr (.inr (zfT t0 t1 t2))))))]) (va_runV (As := [.ref t2]) (rest := []) ⟨hx, hb, hml, hown, hts⟩ (c_V_road l eD eI ad dC dI H.size u_1 mm t2 (-3) f1 (by decide)) (cwV 1 hts g_c_M_roadNumber_2_2 rfl rfl rfl (by decide +kernel) ⟨Nat.le_of_ble_eq_true rfl, Nat.le_of_ble_eq_true rfl⟩) (z_preV (wc := [(u_1, .inr (19, [.int (-1), .int (-1), .int (-1), .int (-1), .ref mm])), (t2, .inr (18, [.int (-3), f1]))]) hP hD hK hS hA hE [0, 4] [] rfl (by decide) rfl (ci := 19) (q0 := 0) rfl rfl) rfl rfl hl.1 rfl (lv_room (Nat.le_of_ble_eq_true rfl)) dX19_roadNumber_9 ⟨Nat.le_of_ble_eq_true rfl, Nat.le_of_ble_eq_true rfl⟩) hP hD hK hS hA [0, 4] [1, 2, 3] rfl rfl (by decide) (by decide) (fun r_7 u H locs hw_8 hP hD hK hS => ?_)
  obtain ⟨u_6, rfl⟩ : ∃ z, z = u := ⟨_, rfl⟩
  have hP : va_P (dC, dI) vwCl [(mm, .inr (21, [.int th, .ref ms, .ref mt, .ref mh, .ref me])), (mt, .inr (1, [.int mo, .ref ma, .int 3])), (ma, .inl (kO, 10, .inr (.inr (.inr (.inr (zfT t0 t1 t2)))))), (u_1, .inr (19, [.int (-1), .int (-1), .int (-1), .int (-1), .ref mm])), (t2, .inr (18, [.int (-3), f1])), (u_6, .inr (1, [.int 0, .ref eD, .int 0]))] H := hP
  have hD : va_D A [(mm, .inr (21, [.int th, .ref ms, .ref mt, .ref mh, .ref me])), (mt, .inr (1, [.int mo, .ref ma, .int 3])), (ma, .inl (kO, 10, .inr (.inr (.inr (.inr (zfT t0 t1 t2)))))), (u_1, .inr (19, [.int (-1), .int (-1), .int (-1), .int (-1), .ref mm])), (t2, .inr (18, [.int (-3), f1])), (u_6, .inr (1, [.int 0, .ref eD, .int 0]))] := hD
  have hK : va_K (dC, dI) vwCl [(kO, .object "java/lang/Object")] s := by simpa using hK
  have hw_8 : r_7 = some u_6 := hw_8
  have hw_8 := hw_8.symm
  subst hw_8
  refine W.eq (g2 := F0 m 12 ls (.ref u_6 :: [])) rfl ?_
  refine lv_astore (lv' := [(4, .ref u_6), (0, .ref mm), (1, .int 2), (2, .int x2), (3, .int x3)]) hx hb dX19_roadNumber_12 hl (by decide) rfl (fun ls hl => ?_)
  refine lv_iload_n hx hb dX19_roadNumber_14 rfl (lv_at hl 3 rfl) ?_
  refine lv_if_lt (tgt := 43) hx hb dX19_roadNumber_15 (by decide) (fun c_9 => ?_) (fun c_9 => ?_)
  · refine lv_bipush (v := (-9)) hx hb dX19_roadNumber_43 (by decide) ?_
    have hP9 := hP.sub (ws' := [(mm, .inr (21, [.int th, .ref ms, .ref mt, .ref mh, .ref me])), (mt, .inr (1, [.int mo, .ref ma, .int 3])), (ma, .inl (kO, 10, .inr (.inr (.inr (.inr (zfT t0 t1 t2)))))), (t2, .inr (18, [.int (-3), f1]))]) [0, 1, 2, 4] rfl
    have hD9 := hD.sub (ws' := [(mm, .inr (21, [.int th, .ref ms, .ref mt, .ref mh, .ref me])), (mt, .inr (1, [.int mo, .ref ma, .int 3])), (ma, .inl (kO, 10, .inr (.inr (.inr (.inr (zfT t0 t1 t2)))))), (t2, .inr (18, [.int (-3), f1]))]) [0, 1, 2, 4] (by decide) rfl
    have hK9 := hK.sub (tys' := []) [] rfl
    refine W.widen (k := 2) (n := 8) (Nat.le_of_ble_eq_true rfl) (Nat.le_of_ble_eq_true rfl) ?_
    exact W.iret (v := (-9)) hx hb hr (fun t ht hW => ⟨⟨(-9), (), rfl, rfl, ⟨by rw [ht]; exact hP9, va_K.moved hW.alike hK9, hD9⟩⟩, hS.F ht⟩) hS.2.2 dX19_roadNumber_45
  · refine lv_iload_n hx hb dX19_roadNumber_18 rfl (lv_at hl 3 rfl) ?_
    refine lv_aload hx hb dX19_roadNumber_19 (lv_at hl 0 rfl) ?_
    refine z_i (wr := [(mm, .inr (21, [.int th, .ref ms, .ref mt, .ref mh, .ref me])), (mt, .inr (1, [.int mo, .ref ma, .int 3])), (ma, .inl (kO, 10, .inr (.inr (.inr (.inr (zfT t0 t1 t2)))))), (u_1, .inr (19, [.int (-1), .int (-1), .int (-1), .int (-1), .ref mm])), (t2, .inr (18, [.int (-3), f1]))]) (va_runV (As := []) (rest := [.int x2]) ⟨hx, hb, hml, hown, hts⟩ (c_AL_size l eD eI ad dC dI H.size u_6 ((.int 0)) ((.ref eD)) 0) (cwV 0 hts g_c_M_roadNumber_2_3 rfl rfl rfl (by decide +kernel) ⟨Nat.le_of_ble_eq_true rfl, Nat.le_of_ble_eq_true rfl⟩) (z_preV (wc := [(u_6, .inr (1, [.int 0, .ref eD, .int 0]))]) hP hD hK hS hA hE [5] [] rfl (by decide) rfl (ci := 1) (q0 := 0) rfl rfl) rfl rfl hl.1 rfl (lv_room (Nat.le_of_ble_eq_true rfl)) dX19_roadNumber_21 ⟨Nat.le_of_ble_eq_true rfl, Nat.le_of_ble_eq_true rfl⟩) hP hD hK hS hA [5] [0, 1, 2, 3, 4] rfl rfl (by decide) (by decide) (fun r_10 u H locs hw_11 hP hD hK hS => ?_)
    obtain ⟨⟩ := u
    have hP : va_P (dC, dI) vwCl [(mm, .inr (21, [.int th, .ref ms, .ref mt, .ref mh, .ref me])), (mt, .inr (1, [.int mo, .ref ma, .int 3])), (ma, .inl (kO, 10, .inr (.inr (.inr (.inr (zfT t0 t1 t2)))))), (u_1, .inr (19, [.int (-1), .int (-1), .int (-1), .int (-1), .ref mm])), (t2, .inr (18, [.int (-3), f1])), (u_6, .inr (1, [.int 0, .ref eD, .int 0]))] H := hP
    have hD : va_D A [(mm, .inr (21, [.int th, .ref ms, .ref mt, .ref mh, .ref me])), (mt, .inr (1, [.int mo, .ref ma, .int 3])), (ma, .inl (kO, 10, .inr (.inr (.inr (.inr (zfT t0 t1 t2)))))), (u_1, .inr (19, [.int (-1), .int (-1), .int (-1), .int (-1), .ref mm])), (t2, .inr (18, [.int (-3), f1])), (u_6, .inr (1, [.int 0, .ref eD, .int 0]))] := hD
    have hK : va_K (dC, dI) vwCl [(kO, .object "java/lang/Object")] s := by simpa using hK
    have hw_11 : r_10 = 0 := hw_11
    have hw_11 := hw_11.symm
    subst hw_11
    refine lv_icmp_ge (tgt := 43) hx hb dX19_roadNumber_24 (by decide) (fun c_12 => ?_) (fun c_12 => ?_)
    rotate_left
    · exact absurd ((Int32.not_lt.mp c_9)) c_12
    refine lv_bipush (v := (-9)) hx hb dX19_roadNumber_43 (by decide) ?_
    have hP9 := hP.sub (ws' := [(mm, .inr (21, [.int th, .ref ms, .ref mt, .ref mh, .ref me])), (mt, .inr (1, [.int mo, .ref ma, .int 3])), (ma, .inl (kO, 10, .inr (.inr (.inr (.inr (zfT t0 t1 t2)))))), (t2, .inr (18, [.int (-3), f1]))]) [0, 1, 2, 4] rfl
    have hD9 := hD.sub (ws' := [(mm, .inr (21, [.int th, .ref ms, .ref mt, .ref mh, .ref me])), (mt, .inr (1, [.int mo, .ref ma, .int 3])), (ma, .inl (kO, 10, .inr (.inr (.inr (.inr (zfT t0 t1 t2)))))), (t2, .inr (18, [.int (-3), f1]))]) [0, 1, 2, 4] (by decide) rfl
    have hK9 := hK.sub (tys' := []) [] rfl
    refine W.widen (k := 2) (n := 8) (Nat.le_of_ble_eq_true rfl) (Nat.le_of_ble_eq_true rfl) ?_
    exact W.iret (v := (-9)) hx hb hr (fun t ht hW => ⟨⟨(-9), (), rfl, rfl, ⟨by rw [ht]; exact hP9, va_K.moved hW.alike hK9, hD9⟩⟩, hS.F ht⟩) hS.2.2 dX19_roadNumber_45
