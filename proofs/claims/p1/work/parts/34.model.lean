theorem dX16_init__0 : decode cX16_init_ 0 = .ok (.aload_n 0, 1) := by decide +kernel
theorem dX16_init__1 : decode cX16_init_ 1 = .ok (.invokespecial 9, 3) := by decide +kernel
theorem dX16_init__4 : decode cX16_init_ 4 = .ok (.aload_n 0, 1) := by decide +kernel
theorem dX16_init__5 : decode cX16_init_ 5 = .ok (.iload_n 1, 1) := by decide +kernel
theorem dX16_init__6 : decode cX16_init_ 6 = .ok (.putfield 14, 3) := by decide +kernel
theorem dX16_init__9 : decode cX16_init_ 9 = .ok (.aload_n 0, 1) := by decide +kernel
theorem dX16_init__10 : decode cX16_init_ 10 = .ok (.aload_n 2, 1) := by decide +kernel
theorem dX16_init__11 : decode cX16_init_ 11 = .ok (.putfield 18, 3) := by decide +kernel
theorem dX16_init__14 : decode cX16_init_ 14 = .ok (.return_, 1) := by decide +kernel
theorem dX16_init_0 : decode cX16_init 0 = .ok (.aload_n 0, 1) := by decide +kernel
theorem dX16_init_1 : decode cX16_init 1 = .ok (.iload_n 1, 1) := by decide +kernel
theorem dX16_init_2 : decode cX16_init 2 = .ok (.iconst 0, 1) := by decide +kernel
theorem dX16_init_3 : decode cX16_init 3 = .ok (.anewarray 3, 3) := by decide +kernel
theorem dX16_init_6 : decode cX16_init 6 = .ok (.invokespecial 5, 3) := by decide +kernel
theorem dX16_init_9 : decode cX16_init 9 = .ok (.return_, 1) := by decide +kernel
theorem dX19_init_0 : decode cX19_init 0 = .ok (.aload_n 0, 1) := by decide +kernel
theorem dX19_init_1 : decode cX19_init 1 = .ok (.invokespecial 1, 3) := by decide +kernel
theorem dX19_init_4 : decode cX19_init 4 = .ok (.aload_n 0, 1) := by decide +kernel
theorem dX19_init_5 : decode cX19_init 5 = .ok (.new 7, 3) := by decide +kernel
theorem dX19_init_8 : decode cX19_init 8 = .ok (.dup, 1) := by decide +kernel
theorem dX19_init_9 : decode cX19_init 9 = .ok (.invokespecial 9, 3) := by decide +kernel
theorem dX19_init_12 : decode cX19_init 12 = .ok (.putfield 10, 3) := by decide +kernel
theorem dX19_init_15 : decode cX19_init 15 = .ok (.aload_n 0, 1) := by decide +kernel
theorem dX19_init_16 : decode cX19_init 16 = .ok (.new 7, 3) := by decide +kernel
theorem dX19_init_19 : decode cX19_init 19 = .ok (.dup, 1) := by decide +kernel
theorem dX19_init_20 : decode cX19_init 20 = .ok (.invokespecial 9, 3) := by decide +kernel
theorem dX19_init_23 : decode cX19_init 23 = .ok (.putfield 16, 3) := by decide +kernel
theorem dX19_init_26 : decode cX19_init 26 = .ok (.aload_n 0, 1) := by decide +kernel
theorem dX19_init_27 : decode cX19_init 27 = .ok (.new 7, 3) := by decide +kernel
theorem dX19_init_30 : decode cX19_init 30 = .ok (.dup, 1) := by decide +kernel
theorem dX19_init_31 : decode cX19_init 31 = .ok (.invokespecial 9, 3) := by decide +kernel
theorem dX19_init_34 : decode cX19_init 34 = .ok (.putfield 19, 3) := by decide +kernel
theorem dX19_init_37 : decode cX19_init 37 = .ok (.aload_n 0, 1) := by decide +kernel
theorem dX19_init_38 : decode cX19_init 38 = .ok (.new 7, 3) := by decide +kernel
theorem dX19_init_41 : decode cX19_init 41 = .ok (.dup, 1) := by decide +kernel
theorem dX19_init_42 : decode cX19_init 42 = .ok (.invokespecial 9, 3) := by decide +kernel
theorem dX19_init_45 : decode cX19_init 45 = .ok (.putfield 22, 3) := by decide +kernel
theorem dX19_init_48 : decode cX19_init 48 = .ok (.iconst 3, 1) := by decide +kernel
theorem dX19_init_49 : decode cX19_init 49 = .ok (.newarray .int, 2) := by decide +kernel
theorem dX19_init_51 : decode cX19_init 51 = .ok (.dup, 1) := by decide +kernel
theorem dX19_init_52 : decode cX19_init 52 = .ok (.iconst 0, 1) := by decide +kernel
theorem dX19_init_53 : decode cX19_init 53 = .ok (.iconst (-1), 1) := by decide +kernel
theorem dX19_init_54 : decode cX19_init 54 = .ok (.iastore, 1) := by decide +kernel
theorem dX19_init_55 : decode cX19_init 55 = .ok (.dup, 1) := by decide +kernel
theorem dX19_init_56 : decode cX19_init 56 = .ok (.iconst 1, 1) := by decide +kernel
theorem dX19_init_57 : decode cX19_init 57 = .ok (.bipush (-2), 2) := by decide +kernel
theorem dX19_init_59 : decode cX19_init 59 = .ok (.iastore, 1) := by decide +kernel
theorem dX19_init_60 : decode cX19_init 60 = .ok (.dup, 1) := by decide +kernel
theorem dX19_init_61 : decode cX19_init 61 = .ok (.iconst 2, 1) := by decide +kernel
theorem dX19_init_62 : decode cX19_init 62 = .ok (.bipush (-3), 2) := by decide +kernel
theorem dX19_init_64 : decode cX19_init 64 = .ok (.iastore, 1) := by decide +kernel
theorem dX19_init_65 : decode cX19_init 65 = .ok (.astore_n 1, 1) := by decide +kernel
theorem dX19_init_66 : decode cX19_init 66 = .ok (.aload_n 1, 1) := by decide +kernel
theorem dX19_init_67 : decode cX19_init 67 = .ok (.arraylength, 1) := by decide +kernel
theorem dX19_init_68 : decode cX19_init 68 = .ok (.istore_n 2, 1) := by decide +kernel
theorem dX19_init_69 : decode cX19_init 69 = .ok (.iconst 0, 1) := by decide +kernel
theorem dX19_init_70 : decode cX19_init 70 = .ok (.istore_n 3, 1) := by decide +kernel
theorem dX19_init_71 : decode cX19_init 71 = .ok (.iload_n 3, 1) := by decide +kernel
theorem dX19_init_72 : decode cX19_init 72 = .ok (.iload_n 2, 1) := by decide +kernel
theorem dX19_init_73 : decode cX19_init 73 = .ok (.if_icmp .ge 31, 3) := by decide +kernel
theorem dX19_init_76 : decode cX19_init 76 = .ok (.aload_n 1, 1) := by decide +kernel
theorem dX19_init_77 : decode cX19_init 77 = .ok (.iload_n 3, 1) := by decide +kernel
theorem dX19_init_78 : decode cX19_init 78 = .ok (.iaload, 1) := by decide +kernel
theorem dX19_init_79 : decode cX19_init 79 = .ok (.istore 4, 2) := by decide +kernel
theorem dX19_init_81 : decode cX19_init 81 = .ok (.aload_n 0, 1) := by decide +kernel
theorem dX19_init_82 : decode cX19_init 82 = .ok (.getfield 16, 3) := by decide +kernel
theorem dX19_init_85 : decode cX19_init 85 = .ok (.new 25, 3) := by decide +kernel
theorem dX19_init_88 : decode cX19_init 88 = .ok (.dup, 1) := by decide +kernel
theorem dX19_init_89 : decode cX19_init 89 = .ok (.iload 4, 2) := by decide +kernel
theorem dX19_init_91 : decode cX19_init 91 = .ok (.invokespecial 27, 3) := by decide +kernel
theorem dX19_init_94 : decode cX19_init 94 = .ok (.invokevirtual 30, 3) := by decide +kernel
theorem dX19_init_97 : decode cX19_init 97 = .ok (.pop, 1) := by decide +kernel
theorem dX19_init_98 : decode cX19_init 98 = .ok (.iinc 3 1, 3) := by decide +kernel
theorem dX19_init_101 : decode cX19_init 101 = .ok (.goto (-30), 3) := by decide +kernel
theorem dX19_init_104 : decode cX19_init 104 = .ok (.return_, 1) := by decide +kernel
def wb_c_T_init2 : List Cond := [.methodLink RX16 9 objectInit, .instanceMethod objectInit, .code objectInit ⟨#[0xb1]⟩ 1 none, .fieldLink RX16 14 "HornbookModel$Tree" "head" "I", .fieldLink RX16 18 "HornbookModel$Tree" "inner" "[LHornbookModel$Tree;"] ++ u_ws RX16 TX16 2
def w_c_T_init2 : List Cond := .code yX16_init_ cX16_init_ 3 none :: wb_c_T_init2
set_option maxHeartbeats 4000000 in
set_option maxRecDepth 100000 in
theorem c_T_init2 (l : Launch) (eD eI : Nat) (ad : Nat → Nat) (dC : Nat → ClassId) (dI : Nat → Nat → Nat) (sz : Nat) (h : Nat) (ix : Nat) (hd : Int32) : Met l yX16_init_ w_c_T_init2 ({ frames := 1, cells := 0, slots := 0, locals := 12 }) (va_Pc [.ref h, .int hd, .ref ix] (zPre eD eI ad (dC, dI) [(h, .inr (18, [.int 0, .null]))] [] sz)) (va_Qv (fun (_ : Unit) => True) (fun (_ : Unit) => zEnd (dC, dI) (va_A [(h, .inr (18, [.int 0, .null]))] sz) [(h, .inr (18, [.int hd, .ref ix]))] []) (va_A [(h, .inr (18, [.int 0, .null]))] sz)) 0 0 (va_A [(h, .inr (18, [.int 0, .null]))] sz) := by
  refine Met.ofW (cc := cX16_init_) (maxL := 3) (ret := none) (by decide) rfl ?_
  intro p e s m args below meth c s₁ B hml hv
  obtain ⟨rfl, hsz, hP, hK, hD0, hE⟩ := hv
  have hx := B.exec
  have hb := B.bytes
  have hr := B.returns
  have hts := atoms_spec (ws := w_c_T_init2) B.pre
  have hown : s.vm.findClass RX16 = some m.cls := findClass_of_methodNamed B.named
  have hlocks := B.notSynchronized
  have hin : meth.name = "<init>" := (name_of_methodNamed B.named B.method).1
  subst hsz
  have hD := hD0.self (sz := s.heap.size)
  generalize hAe : va_A [(h, .inr (18, [.int 0, .null]))] s.heap.size = A at hD hE ⊢
  have hA : ∀ q : Nat, s.heap.size ≤ q → A q := fun q h => by rw [← hAe]; exact Or.inr h
  have hS : va_S A s.heap s.heap [] := va_S.rf
  have hP : va_P (dC, dI) vwCl [(h, .inr (18, [.int 0, .null]))] s.heap := hP
  have hl := lv_entry ([.ref h, .int hd, .ref ix]) (n := 3) (Nat.le_of_ble_eq_true rfl)
  rw [lg_entry_eq]
  generalize (lg_sl ([.ref h, .int hd, .ref ix]) ++ List.replicate (3 - (lg_sl ([.ref h, .int hd, .ref ix])).length) Slot.unset).toArray = ls at hl ⊢
  have hl : lv_has ls 3 [(0, .ref h), (1, .int hd), (2, .ref ix)] := hl
  have in_RX16 : ∀ w ∈ u_ws RX16 TX16 2, w ∈ w_c_T_init2 := by decide +kernel
  refine lv_aload_n hx hb dX16_init__0 rfl (lv_at hl 0 rfl) ?_
  refine W.objInit hx hb hown (hts (.methodLink RX16 9 objectInit) (by decide +kernel)) (hts (.instanceMethod objectInit) (by decide +kernel)) (hts (.code objectInit ⟨#[0xb1]⟩ 1 none) (by decide +kernel)) rfl (by rw [hml]; exact hl.1) rfl dX16_init__1 (Nat.le_of_ble_eq_true rfl) (Nat.le_of_ble_eq_true rfl) ?_
  refine W.eq (g2 := F0 m 4 ls ([])) rfl ?_
  refine lv_aload_n hx hb dX16_init__4 rfl (lv_at hl 0 rfl) ?_
  refine lv_iload_n hx hb dX16_init__5 rfl (lv_at hl 1 rfl) ?_
  refine va_putF (D := (dC, dI)) (ci := 18) (v := .int hd) (ty := .int) (C := RX16) (T := TX16) (N := 2) hx hb hts in_RX16 tyX16 tyX16_ok nmX16 hown hK hP hD hS 0 rfl rfl 0 (by decide) (hts (.fieldLink RX16 14 "HornbookModel$Tree" "head" "I") (by decide +kernel)) (fun _ h9 => h9) rfl hin rfl (by decide +kernel) rfl rfl (Nat.le_of_ble_eq_true rfl) dX16_init__6 (fun H locs hP hD hS => ?_)
  have hP : va_P (dC, dI) vwCl [(h, .inr (18, [.int hd, .null]))] H := hP
  have hD : va_D A [(h, .inr (18, [.int hd, .null]))] := hD
  refine lv_aload_n hx hb dX16_init__9 rfl (lv_at hl 0 rfl) ?_
  refine lv_aload_n hx hb dX16_init__10 rfl (lv_at hl 2 rfl) ?_
  refine va_putF (D := (dC, dI)) (ci := 18) (v := .ref ix) (ty := .array (.object "HornbookModel$Tree")) (C := RX16) (T := TX16) (N := 2) hx hb hts in_RX16 tyX16 tyX16_ok nmX16 hown hK hP hD hS 0 rfl rfl 1 (by decide) (hts (.fieldLink RX16 18 "HornbookModel$Tree" "inner" "[LHornbookModel$Tree;") (by decide +kernel)) (fun _ h9 => h9) rfl hin rfl (by decide +kernel) rfl rfl (Nat.le_of_ble_eq_true rfl) dX16_init__11 (fun H locs hP hD hS => ?_)
  have hP : va_P (dC, dI) vwCl [(h, .inr (18, [.int hd, .ref ix]))] H := hP
  have hD : va_D A [(h, .inr (18, [.int hd, .ref ix]))] := hD
  have hP9 := hP.sub (ws' := [(h, .inr (18, [.int hd, .ref ix]))]) [0] rfl
  have hD9 := hD.sub (ws' := [(h, .inr (18, [.int hd, .ref ix]))]) [0] (by decide) rfl
  have hK9 := hK.sub (tys' := []) [] rfl
  refine W.widen (k := 0) (n := 0) (Nat.le_of_ble_eq_true rfl) (Nat.le_of_ble_eq_true rfl) ?_
  exact W.vret hx hb hr (fun t ht hW => ⟨⟨(), rfl, trivial, ⟨by rw [ht]; exact hP9, va_K.moved hW.alike hK9, hD9⟩⟩, hS.F ht⟩) hS.2.2 dX16_init__14

def wb_c_T_init1 : List Cond := [.classLink RX16 3 "HornbookModel$Tree", .code yX16_init_ cX16_init_ 3 none, .methodLink RX16 9 objectInit, .instanceMethod objectInit, .code objectInit ⟨#[0xb1]⟩ 1 none, .fieldLink RX16 14 "HornbookModel$Tree" "head" "I", .fieldLink RX16 18 "HornbookModel$Tree" "inner" "[LHornbookModel$Tree;", .initialized RX16, .methodLink RX16 5 yX16_init_, .instanceMethod yX16_init_] ++ u_ws RX16 TX16 2
def w_c_T_init1 : List Cond := .code yX16_init cX16_init 2 none :: wb_c_T_init1
set_option maxRecDepth 100000 in
theorem g_c_T_init1_0 : GoodIn w_c_T_init1 (w_c_T_init2) := goodIn_p (big := w_c_T_init1) (.code yX16_init_ cX16_init_ 3 none :: wb_c_T_init2) [2, 5] rfl (by decide +kernel)
set_option maxHeartbeats 4000000 in
set_option maxRecDepth 100000 in
theorem c_T_init1 (l : Launch) (eD eI : Nat) (ad : Nat → Nat) (dC : Nat → ClassId) (dI : Nat → Nat → Nat) (sz : Nat) (h : Nat) (hd : Int32) : Met l yX16_init w_c_T_init1 ({ frames := 2, cells := 1, slots := 0, locals := 34 }) (va_Pc [.ref h, .int hd] (zPre eD eI ad (dC, dI) [(h, .inr (18, [.int 0, .null]))] [] sz)) (va_Qv (fun (u : Nat × ClassId) => match u with | (ix, kT) => True) (fun (u : Nat × ClassId) => match u with | (ix, kT) => zEnd (dC, dI) (va_A [(h, .inr (18, [.int 0, .null]))] sz) [(h, .inr (18, [.int hd, .ref ix])), (ix, .inl (kT, 0, .inr (.inr (.inr (.inr (fun _ => none))))))] [(kT, .object "HornbookModel$Tree")]) (va_A [(h, .inr (18, [.int 0, .null]))] sz)) 1 0 (va_A [(h, .inr (18, [.int 0, .null]))] sz) := by
  refine Met.ofW (cc := cX16_init) (maxL := 2) (ret := none) (by decide) rfl ?_
  intro p e s m args below meth c s₁ B hml hv
  obtain ⟨rfl, hsz, hP, hK, hD0, hE⟩ := hv
  have hx := B.exec
  have hb := B.bytes
  have hr := B.returns
  have hts := atoms_spec (ws := w_c_T_init1) B.pre
  have hown : s.vm.findClass RX16 = some m.cls := findClass_of_methodNamed B.named
  have hlocks := B.notSynchronized
  have hin : meth.name = "<init>" := (name_of_methodNamed B.named B.method).1
  subst hsz
  have hD := hD0.self (sz := s.heap.size)
  generalize hAe : va_A [(h, .inr (18, [.int 0, .null]))] s.heap.size = A at hD hE ⊢
  have hA : ∀ q : Nat, s.heap.size ≤ q → A q := fun q h => by rw [← hAe]; exact Or.inr h
  have hS : va_S A s.heap s.heap [] := va_S.rf
  have hP : va_P (dC, dI) vwCl [(h, .inr (18, [.int 0, .null]))] s.heap := hP
  have hl := lv_entry ([.ref h, .int hd]) (n := 2) (Nat.le_of_ble_eq_true rfl)
  rw [lg_entry_eq]
  generalize (lg_sl ([.ref h, .int hd]) ++ List.replicate (2 - (lg_sl ([.ref h, .int hd])).length) Slot.unset).toArray = ls at hl ⊢
  have hl : lv_has ls 2 [(0, .ref h), (1, .int hd)] := hl
  have in_RX16 : ∀ w ∈ u_ws RX16 TX16 2, w ∈ w_c_T_init1 := by decide +kernel
  refine lv_aload_n hx hb dX16_init_0 rfl (lv_at hl 0 rfl) ?_
  refine lv_iload_n hx hb dX16_init_1 rfl (lv_at hl 1 rfl) ?_
  refine lv_iconst (v := 0) hx hb dX16_init_2 (by decide) ?_
  refine va_newq (C := "HornbookModel$Tree") hx hb hown (hts (.classLink RX16 3 "HornbookModel$Tree") (by decide +kernel)) (hE.2.2.2.2.2.2.1 "HornbookModel$Tree" (by decide +kernel)) hK hP hD hS hA (N' := 0) (by decide) (by decide) (Nat.le_of_ble_eq_true rfl) (Nat.le_of_ble_eq_true rfl) (Nat.le_of_ble_eq_true rfl) dX16_init_3 (fun q_1 k_2 H hK hP hD hS => ?_)
  have hP : va_P (dC, dI) vwCl [(h, .inr (18, [.int 0, .null])), (q_1, .inl (k_2, 0, .inr (.inr (.inr (.inr (fun _ => none))))))] H := hP
  have hD : va_D A [(h, .inr (18, [.int 0, .null])), (q_1, .inl (k_2, 0, .inr (.inr (.inr (.inr (fun _ => none))))))] := hD
  have hK : va_K (dC, dI) vwCl [(k_2, .object "HornbookModel$Tree")] s := hK
  refine z_v (wr := [(q_1, .inl (k_2, 0, .inr (.inr (.inr (.inr (fun _ => none))))))]) (va_runI (As := [.int hd, .ref q_1]) (rest := []) ⟨hx, hb, hml, hown, hts⟩ (c_T_init2 l eD eI ad dC dI H.size h q_1 hd) (cwI 2 hts g_c_T_init1_0 rfl rfl rfl (hts (.initialized RX16) (by decide +kernel)) (hts (.methodLink RX16 5 yX16_init_) (by decide +kernel)) (hts (.instanceMethod yX16_init_) (by decide +kernel)) rfl (by decide +kernel) ⟨Nat.le_of_ble_eq_true rfl, Nat.le_of_ble_eq_true rfl⟩) (z_preS (wc := [(h, .inr (18, [.int 0, .null]))]) hP hD hK hS hA hE [0] [] rfl (by decide) rfl) rfl rfl hl.1 rfl (lv_room (Nat.le_of_ble_eq_true rfl)) dX16_init_6 ⟨Nat.le_of_ble_eq_true rfl, Nat.le_of_ble_eq_true rfl⟩) hP hD hK hS hA [0] [1] rfl rfl (by decide) (by decide) (fun u H locs hw_4 hP hD hK hS => ?_)
  obtain ⟨⟩ := u
  have hP : va_P (dC, dI) vwCl [(q_1, .inl (k_2, 0, .inr (.inr (.inr (.inr (fun _ => none)))))), (h, .inr (18, [.int hd, .ref q_1]))] H := hP
  have hD : va_D A [(q_1, .inl (k_2, 0, .inr (.inr (.inr (.inr (fun _ => none)))))), (h, .inr (18, [.int hd, .ref q_1]))] := hD
  have hK : va_K (dC, dI) vwCl [(k_2, .object "HornbookModel$Tree")] s := by simpa using hK
  have hP9 := hP.sub (ws' := [(h, .inr (18, [.int hd, .ref q_1])), (q_1, .inl (k_2, 0, .inr (.inr (.inr (.inr (fun _ => none))))))]) [1, 0] rfl
  have hD9 := hD.sub (ws' := [(h, .inr (18, [.int hd, .ref q_1])), (q_1, .inl (k_2, 0, .inr (.inr (.inr (.inr (fun _ => none))))))]) [1, 0] (by decide) rfl
  have hK9 := hK.sub (tys' := [(k_2, .object "HornbookModel$Tree")]) [0] rfl
  refine W.widen (k := 1) (n := 0) (Nat.le_of_ble_eq_true rfl) (Nat.le_of_ble_eq_true rfl) ?_
  exact W.vret hx hb hr (fun t ht hW => ⟨⟨(q_1, k_2), rfl, trivial, ⟨by rw [ht]; exact hP9, va_K.moved hW.alike hK9, hD9⟩⟩, hS.F ht⟩) hS.2.2 dX16_init_9

def wb_c_M_init : List Cond := [.methodLink RX19 1 objectInit, .instanceMethod objectInit, .code objectInit ⟨#[0xb1]⟩ 1 none, .classLink RX19 7 RJx4a65c, .instantiable RJx4a65c 3, .initialized RJx4a65c, .code yJx4a65c_init_da8c8 cJx4a65c_init_da8c8 1 none, .code yJxc12de_init_da8c8 cJxc12de_init_da8c8 1 none, .code yJxa1e45_init_da8c8 cJxa1e45_init_da8c8 1 none, .methodLink RJxa1e45 1 objectInit, .initialized RJxa1e45, .methodLink RJxc12de 1 yJxa1e45_init_da8c8, .instanceMethod yJxa1e45_init_da8c8, .fieldLink RJxc12de 7 "java/util/AbstractList" "modCount" "I", .initialized RJxc12de, .methodLink RJx4a65c 1 yJxc12de_init_da8c8, .instanceMethod yJxc12de_init_da8c8, .fieldLink RJx4a65c 39 "java/util/ArrayList" "DEFAULTCAPACITY_EMPTY_ELEMENTDATA" "[Ljava/lang/Object;", .fieldLink RJx4a65c 9 "java/util/ArrayList" "elementData" "[Ljava/lang/Object;", .methodLink RX19 9 yJx4a65c_init_da8c8, .instanceMethod yJx4a65c_init_da8c8, .fieldLink RX19 10 "HornbookModel" "sorts" "Ljava/util/ArrayList;", .fieldLink RX19 16 "HornbookModel" "types" "Ljava/util/ArrayList;", .fieldLink RX19 19 "HornbookModel" "methods" "Ljava/util/ArrayList;", .fieldLink RX19 22 "HornbookModel" "expressions" "Ljava/util/ArrayList;", .arrayClass .int, .classLink RX19 25 RX16, .instantiable RX16 2, .initialized RX16, .code yX16_init cX16_init 2 none, .classLink RX16 3 "HornbookModel$Tree", .code yX16_init_ cX16_init_ 3 none, .methodLink RX16 9 objectInit, .fieldLink RX16 14 "HornbookModel$Tree" "head" "I", .fieldLink RX16 18 "HornbookModel$Tree" "inner" "[LHornbookModel$Tree;", .methodLink RX16 5 yX16_init_, .instanceMethod yX16_init_, .methodLink RX19 27 yX16_init, .instanceMethod yX16_init, .code yJx4a65c_add_9ea2d cJx4a65c_add_9ea2d 2 (some .boolean), .sameField "java/util/ArrayList" "java/util/AbstractList" "modCount" "I", .fieldLink RJx4a65c 63 "java/util/ArrayList" "modCount" "I", .fieldLink RJx4a65c 48 "java/util/ArrayList" "size" "I", .code yJx4a65c_add_72be8 cJx4a65c_add_72be8 4 none, .code yJx4a65c_grow_d5877 cJx4a65c_grow_d5877 1 (some (.array (.object "java/lang/Object"))), .code yJx4a65c_grow_92f84 cJx4a65c_grow_92f84 4 (some (.array (.object "java/lang/Object"))), .methodLink RJx4a65c 79 Lib.Math.max.name, .static Lib.Math.max.name, .initialized "java/lang/Math", .code Lib.Math.max.name Lib.Math.max.code 2 (some .int), .classLink RJx4a65c 7 "java/lang/Object", .methodLink RJx4a65c 69 yJx4a65c_grow_92f84, .instanceMethod yJx4a65c_grow_92f84, .selects RJx4a65c yJx4a65c_grow_92f84 yJx4a65c_grow_92f84, .methodLink RJx4a65c 129 yJx4a65c_grow_d5877, .instanceMethod yJx4a65c_grow_d5877, .selects RJx4a65c yJx4a65c_grow_d5877 yJx4a65c_grow_d5877, .methodLink RJx4a65c 131 yJx4a65c_add_72be8, .instanceMethod yJx4a65c_add_72be8, .selects RJx4a65c yJx4a65c_add_72be8 yJx4a65c_add_72be8, .methodLink RX19 30 yJx4a65c_add_9ea2d, .instanceMethod yJx4a65c_add_9ea2d, .selects RJx4a65c yJx4a65c_add_9ea2d yJx4a65c_add_9ea2d] ++ u_ws RJx4a65c TJx4a65c 3 ++ u_ws RX16 TX16 2 ++ u_ws RX19 TX19 5
def w_c_M_init : List Cond := .code yX19_init cX19_init 5 none :: wb_c_M_init
set_option maxRecDepth 100000 in
theorem g_c_M_init_0 : GoodIn w_c_M_init (w_c_AL_init) := goodIn_p (big := w_c_M_init) (.code yJx4a65c_init_da8c8 cJx4a65c_init_da8c8 1 none :: wb_c_AL_init) [7, 8, 9, 3] rfl (by decide +kernel)
set_option maxRecDepth 100000 in
theorem g_c_M_init_1 : GoodIn w_c_M_init (w_c_T_init1) := goodIn_p (big := w_c_M_init) (.code yX16_init cX16_init 2 none :: wb_c_T_init1) [30, 32, 3] rfl (by decide +kernel)
set_option maxRecDepth 100000 in
theorem g_c_M_init_2 : GoodIn w_c_M_init (wsV RX19 30 RJx4a65c yJx4a65c_add_9ea2d w_c_AL_add0) := goodIn_app (goodIn_of _ (by decide +kernel)) (goodIn_p (big := w_c_M_init) (.code yJx4a65c_add_9ea2d cJx4a65c_add_9ea2d 2 (some .boolean) :: wb_c_AL_add0) [40, 44, 45, 46, 50] rfl (by decide +kernel))
set_option maxRecDepth 100000 in
theorem g_c_M_init_3 : GoodIn w_c_M_init (wsV RX19 30 RJx4a65c yJx4a65c_add_9ea2d w_c_AL_addn) := goodIn_app (goodIn_of _ (by decide +kernel)) (goodIn_p (big := w_c_M_init) (.code yJx4a65c_add_9ea2d cJx4a65c_add_9ea2d 2 (some .boolean) :: wb_c_AL_addn) [40, 44] rfl (by decide +kernel))
set_option maxHeartbeats 4000000 in
set_option maxRecDepth 100000 in
theorem c_M_init (l : Launch) (eD eI : Nat) (ad : Nat → Nat) (dC : Nat → ClassId) (dI : Nat → Nat → Nat) (sz : Nat) (mm : Nat) : Met l yX19_init w_c_M_init ({ frames := 5, cells := 12, slots := 31, locals := 101 }) (va_Pc [.ref mm] (zPre eD eI ad (dC, dI) [(mm, .inr (21, [.int 0, .null, .null, .null, .null]))] [] sz)) (va_Qv (fun (u : Nat × Nat × Nat × Nat × Nat × ClassId × Nat × Nat × Nat × Nat × Nat × Nat × Int32 × ClassId × ClassId × ClassId) => match u with | (ms, mt, mh, me, ma, kO, t0, t1, t2, i0, i1, i2, mo, k0, k1, k2) => True) (fun (u : Nat × Nat × Nat × Nat × Nat × ClassId × Nat × Nat × Nat × Nat × Nat × Nat × Int32 × ClassId × ClassId × ClassId) => match u with | (ms, mt, mh, me, ma, kO, t0, t1, t2, i0, i1, i2, mo, k0, k1, k2) => zEnd (dC, dI) (va_A [(mm, .inr (21, [.int 0, .null, .null, .null, .null]))] sz) [(mm, .inr (21, [.int 0, .ref ms, .ref mt, .ref mh, .ref me])), (ms, .inr (1, [.int 0, .ref eD, .int 0])), (mt, .inr (1, [.int mo, .ref ma, .int 3])), (mh, .inr (1, [.int 0, .ref eD, .int 0])), (me, .inr (1, [.int 0, .ref eD, .int 0])), (ma, .inl (kO, 10, .inr (.inr (.inr (.inr (zfT t0 t1 t2)))))), (t0, .inr (18, [.int (-1), .ref i0])), (t1, .inr (18, [.int (-2), .ref i1])), (t2, .inr (18, [.int (-3), .ref i2])), (i0, .inl (k0, 0, .inr (.inr (.inr (.inr (fun _ => none)))))), (i1, .inl (k1, 0, .inr (.inr (.inr (.inr (fun _ => none)))))), (i2, .inl (k2, 0, .inr (.inr (.inr (.inr (fun _ => none))))))] [(kO, .object "java/lang/Object"), (k0, .object "HornbookModel$Tree"), (k1, .object "HornbookModel$Tree"), (k2, .object "HornbookModel$Tree")]) (va_A [(mm, .inr (21, [.int 0, .null, .null, .null, .null]))] sz)) 12 31 (va_A [(mm, .inr (21, [.int 0, .null, .null, .null, .null]))] sz) := by
  refine Met.ofW (cc := cX19_init) (maxL := 5) (ret := none) (by decide) rfl ?_
  intro p e s m args below meth c s₁ B hml hv
  obtain ⟨rfl, hsz, hP, hK, hD0, hE⟩ := hv
  have hx := B.exec
  have hb := B.bytes
  have hr := B.returns
  have hts := atoms_spec (ws := w_c_M_init) B.pre
  have hown : s.vm.findClass RX19 = some m.cls := findClass_of_methodNamed B.named
  have hlocks := B.notSynchronized
  have hin : meth.name = "<init>" := (name_of_methodNamed B.named B.method).1
  subst hsz
  have hD := hD0.self (sz := s.heap.size)
  generalize hAe : va_A [(mm, .inr (21, [.int 0, .null, .null, .null, .null]))] s.heap.size = A at hD hE ⊢
  have hA : ∀ q : Nat, s.heap.size ≤ q → A q := fun q h => by rw [← hAe]; exact Or.inr h
  have hS : va_S A s.heap s.heap [] := va_S.rf
  have hP : va_P (dC, dI) vwCl [(mm, .inr (21, [.int 0, .null, .null, .null, .null]))] s.heap := hP
  have hl := lv_entry ([.ref mm]) (n := 5) (Nat.le_of_ble_eq_true rfl)
  rw [lg_entry_eq]
  generalize (lg_sl ([.ref mm]) ++ List.replicate (5 - (lg_sl ([.ref mm])).length) Slot.unset).toArray = ls at hl ⊢
  have hl : lv_has ls 5 [(0, .ref mm)] := hl
  have in_RJx4a65c : ∀ w ∈ u_ws RJx4a65c TJx4a65c 3, w ∈ w_c_M_init := by decide +kernel
  have in_RX16 : ∀ w ∈ u_ws RX16 TX16 2, w ∈ w_c_M_init := by decide +kernel
  have in_RX19 : ∀ w ∈ u_ws RX19 TX19 5, w ∈ w_c_M_init := by decide +kernel
  refine lv_aload_n hx hb dX19_init_0 rfl (lv_at hl 0 rfl) ?_
  refine W.objInit hx hb hown (hts (.methodLink RX19 1 objectInit) (by decide +kernel)) (hts (.instanceMethod objectInit) (by decide +kernel)) (hts (.code objectInit ⟨#[0xb1]⟩ 1 none) (by decide +kernel)) rfl (by rw [hml]; exact hl.1) rfl dX19_init_1 (Nat.le_of_ble_eq_true rfl) (Nat.le_of_ble_eq_true rfl) ?_
  refine W.eq (g2 := F0 m 4 ls ([])) rfl ?_
  refine lv_aload_n hx hb dX19_init_4 rfl (lv_at hl 0 rfl) ?_
  refine va_new (ci := 1) (fs := [.int 0, .null, .int 0]) (C := RJx4a65c) (T := TJx4a65c) (N := 3) hx hb hts in_RJx4a65c tyJx4a65c tyJx4a65c_ok hown (hts (.classLink RX19 7 RJx4a65c) (by decide +kernel)) (hts (.instantiable RJx4a65c 3) (by decide +kernel)) (hts (.initialized RJx4a65c) (by decide +kernel)) hK hP hD hS hA rfl (fun j hj => by rcases (show j = 0 ∨ j = 1 ∨ j = 2 by omega) with rfl | rfl | rfl <;> rfl) (Nat.le_of_ble_eq_true rfl) (Nat.le_of_ble_eq_true rfl) dX19_init_5 (fun q_1 H hP hD hS => ?_)
  have hP : va_P (dC, dI) vwCl [(mm, .inr (21, [.int 0, .null, .null, .null, .null])), (q_1, .inr (1, [.int 0, .null, .int 0]))] H := hP
  have hD : va_D A [(mm, .inr (21, [.int 0, .null, .null, .null, .null])), (q_1, .inr (1, [.int 0, .null, .int 0]))] := hD
  refine lv_dup hx hb dX19_init_8 rfl ?_
  refine z_v (wr := [(mm, .inr (21, [.int 0, .null, .null, .null, .null]))]) (va_runI (As := []) (rest := [.ref q_1, .ref mm]) ⟨hx, hb, hml, hown, hts⟩ (c_AL_init l eD eI ad dC dI H.size q_1) (cwI 0 hts g_c_M_init_0 rfl rfl rfl (hts (.initialized RJx4a65c) (by decide +kernel)) (hts (.methodLink RX19 9 yJx4a65c_init_da8c8) (by decide +kernel)) (hts (.instanceMethod yJx4a65c_init_da8c8) (by decide +kernel)) rfl (by decide +kernel) ⟨Nat.le_of_ble_eq_true rfl, Nat.le_of_ble_eq_true rfl⟩) (z_preS (wc := [(q_1, .inr (1, [.int 0, .null, .int 0]))]) hP hD hK hS hA hE [1] [] rfl (by decide) rfl) rfl rfl hl.1 rfl (lv_room (Nat.le_of_ble_eq_true rfl)) dX19_init_9 ⟨Nat.le_of_ble_eq_true rfl, Nat.le_of_ble_eq_true rfl⟩) hP hD hK hS hA [1] [0] rfl rfl (by decide) (by decide) (fun u H locs hw_3 hP hD hK hS => ?_)
  obtain ⟨⟩ := u
  have hP : va_P (dC, dI) vwCl [(mm, .inr (21, [.int 0, .null, .null, .null, .null])), (q_1, .inr (1, [.int 0, .ref eD, .int 0]))] H := hP
  have hD : va_D A [(mm, .inr (21, [.int 0, .null, .null, .null, .null])), (q_1, .inr (1, [.int 0, .ref eD, .int 0]))] := hD
  have hK : va_K (dC, dI) vwCl [] s := by simpa using hK
  refine va_putF (D := (dC, dI)) (ci := 21) (v := .ref q_1) (ty := .object "java/util/ArrayList") (C := RX19) (T := TX19) (N := 5) hx hb hts in_RX19 tyX19 tyX19_ok nmX19 hown hK hP hD hS 0 rfl rfl 1 (by decide) (hts (.fieldLink RX19 10 "HornbookModel" "sorts" "Ljava/util/ArrayList;") (by decide +kernel)) (fun _ h9 => h9) rfl hin rfl (by decide +kernel) rfl rfl (Nat.le_of_ble_eq_true rfl) dX19_init_12 (fun H locs hP hD hS => ?_)
  have hP : va_P (dC, dI) vwCl [(mm, .inr (21, [.int 0, .ref q_1, .null, .null, .null])), (q_1, .inr (1, [.int 0, .ref eD, .int 0]))] H := hP
  have hD : va_D A [(mm, .inr (21, [.int 0, .ref q_1, .null, .null, .null])), (q_1, .inr (1, [.int 0, .ref eD, .int 0]))] := hD
  refine lv_aload_n hx hb dX19_init_15 rfl (lv_at hl 0 rfl) ?_
  refine va_new (ci := 1) (fs := [.int 0, .null, .int 0]) (C := RJx4a65c) (T := TJx4a65c) (N := 3) hx hb hts in_RJx4a65c tyJx4a65c tyJx4a65c_ok hown (hts (.classLink RX19 7 RJx4a65c) (by decide +kernel)) (hts (.instantiable RJx4a65c 3) (by decide +kernel)) (hts (.initialized RJx4a65c) (by decide +kernel)) hK hP hD hS hA rfl (fun j hj => by rcases (show j = 0 ∨ j = 1 ∨ j = 2 by omega) with rfl | rfl | rfl <;> rfl) (Nat.le_of_ble_eq_true rfl) (Nat.le_of_ble_eq_true rfl) dX19_init_16 (fun q_4 H hP hD hS => ?_)
  have hP : va_P (dC, dI) vwCl [(mm, .inr (21, [.int 0, .ref q_1, .null, .null, .null])), (q_1, .inr (1, [.int 0, .ref eD, .int 0])), (q_4, .inr (1, [.int 0, .null, .int 0]))] H := hP
  have hD : va_D A [(mm, .inr (21, [.int 0, .ref q_1, .null, .null, .null])), (q_1, .inr (1, [.int 0, .ref eD, .int 0])), (q_4, .inr (1, [.int 0, .null, .int 0]))] := hD
  refine lv_dup hx hb dX19_init_19 rfl ?_
  refine z_v (wr := [(mm, .inr (21, [.int 0, .ref q_1, .null, .null, .null])), (q_1, .inr (1, [.int 0, .ref eD, .int 0]))]) (va_runI (As := []) (rest := [.ref q_4, .ref mm]) ⟨hx, hb, hml, hown, hts⟩ (c_AL_init l eD eI ad dC dI H.size q_4) (cwI 0 hts g_c_M_init_0 rfl rfl rfl (hts (.initialized RJx4a65c) (by decide +kernel)) (hts (.methodLink RX19 9 yJx4a65c_init_da8c8) (by decide +kernel)) (hts (.instanceMethod yJx4a65c_init_da8c8) (by decide +kernel)) rfl (by decide +kernel) ⟨Nat.le_of_ble_eq_true rfl, Nat.le_of_ble_eq_true rfl⟩) (z_preS (wc := [(q_4, .inr (1, [.int 0, .null, .int 0]))]) hP hD hK hS hA hE [2] [] rfl (by decide) rfl) rfl rfl hl.1 rfl (lv_room (Nat.le_of_ble_eq_true rfl)) dX19_init_20 ⟨Nat.le_of_ble_eq_true rfl, Nat.le_of_ble_eq_true rfl⟩) hP hD hK hS hA [2] [0, 1] rfl rfl (by decide) (by decide) (fun u H locs hw_6 hP hD hK hS => ?_)
  obtain ⟨⟩ := u
  have hP : va_P (dC, dI) vwCl [(mm, .inr (21, [.int 0, .ref q_1, .null, .null, .null])), (q_1, .inr (1, [.int 0, .ref eD, .int 0])), (q_4, .inr (1, [.int 0, .ref eD, .int 0]))] H := hP
  have hD : va_D A [(mm, .inr (21, [.int 0, .ref q_1, .null, .null, .null])), (q_1, .inr (1, [.int 0, .ref eD, .int 0])), (q_4, .inr (1, [.int 0, .ref eD, .int 0]))] := hD
  have hK : va_K (dC, dI) vwCl [] s := by simpa using hK
  refine va_putF (D := (dC, dI)) (ci := 21) (v := .ref q_4) (ty := .object "java/util/ArrayList") (C := RX19) (T := TX19) (N := 5) hx hb hts in_RX19 tyX19 tyX19_ok nmX19 hown hK hP hD hS 0 rfl rfl 2 (by decide) (hts (.fieldLink RX19 16 "HornbookModel" "types" "Ljava/util/ArrayList;") (by decide +kernel)) (fun _ h9 => h9) rfl hin rfl (by decide +kernel) rfl rfl (Nat.le_of_ble_eq_true rfl) dX19_init_23 (fun H locs hP hD hS => ?_)
  have hP : va_P (dC, dI) vwCl [(mm, .inr (21, [.int 0, .ref q_1, .ref q_4, .null, .null])), (q_1, .inr (1, [.int 0, .ref eD, .int 0])), (q_4, .inr (1, [.int 0, .ref eD, .int 0]))] H := hP
  have hD : va_D A [(mm, .inr (21, [.int 0, .ref q_1, .ref q_4, .null, .null])), (q_1, .inr (1, [.int 0, .ref eD, .int 0])), (q_4, .inr (1, [.int 0, .ref eD, .int 0]))] := hD
  refine lv_aload_n hx hb dX19_init_26 rfl (lv_at hl 0 rfl) ?_
  refine va_new (ci := 1) (fs := [.int 0, .null, .int 0]) (C := RJx4a65c) (T := TJx4a65c) (N := 3) hx hb hts in_RJx4a65c tyJx4a65c tyJx4a65c_ok hown (hts (.classLink RX19 7 RJx4a65c) (by decide +kernel)) (hts (.instantiable RJx4a65c 3) (by decide +kernel)) (hts (.initialized RJx4a65c) (by decide +kernel)) hK hP hD hS hA rfl (fun j hj => by rcases (show j = 0 ∨ j = 1 ∨ j = 2 by omega) with rfl | rfl | rfl <;> rfl) (Nat.le_of_ble_eq_true rfl) (Nat.le_of_ble_eq_true rfl) dX19_init_27 (fun q_7 H hP hD hS => ?_)
  have hP : va_P (dC, dI) vwCl [(mm, .inr (21, [.int 0, .ref q_1, .ref q_4, .null, .null])), (q_1, .inr (1, [.int 0, .ref eD, .int 0])), (q_4, .inr (1, [.int 0, .ref eD, .int 0])), (q_7, .inr (1, [.int 0, .null, .int 0]))] H := hP
  have hD : va_D A [(mm, .inr (21, [.int 0, .ref q_1, .ref q_4, .null, .null])), (q_1, .inr (1, [.int 0, .ref eD, .int 0])), (q_4, .inr (1, [.int 0, .ref eD, .int 0])), (q_7, .inr (1, [.int 0, .null, .int 0]))] := hD
  refine lv_dup hx hb dX19_init_30 rfl ?_
  refine z_v (wr := [(mm, .inr (21, [.int 0, .ref q_1, .ref q_4, .null, .null])), (q_1, .inr (1, [.int 0, .ref eD, .int 0])), (q_4, .inr (1, [.int 0, .ref eD, .int 0]))]) (va_runI (As := []) (rest := [.ref q_7, .ref mm]) ⟨hx, hb, hml, hown, hts⟩ (c_AL_init l eD eI ad dC dI H.size q_7) (cwI 0 hts g_c_M_init_0 rfl rfl rfl (hts (.initialized RJx4a65c) (by decide +kernel)) (hts (.methodLink RX19 9 yJx4a65c_init_da8c8) (by decide +kernel)) (hts (.instanceMethod yJx4a65c_init_da8c8) (by decide +kernel)) rfl (by decide +kernel) ⟨Nat.le_of_ble_eq_true rfl, Nat.le_of_ble_eq_true rfl⟩) (z_preS (wc := [(q_7, .inr (1, [.int 0, .null, .int 0]))]) hP hD hK hS hA hE [3] [] rfl (by decide) rfl) rfl rfl hl.1 rfl (lv_room (Nat.le_of_ble_eq_true rfl)) dX19_init_31 ⟨Nat.le_of_ble_eq_true rfl, Nat.le_of_ble_eq_true rfl⟩) hP hD hK hS hA [3] [0, 1, 2] rfl rfl (by decide) (by decide) (fun u H locs hw_9 hP hD hK hS => ?_)
  obtain ⟨⟩ := u
  have hP : va_P (dC, dI) vwCl [(mm, .inr (21, [.int 0, .ref q_1, .ref q_4, .null, .null])), (q_1, .inr (1, [.int 0, .ref eD, .int 0])), (q_4, .inr (1, [.int 0, .ref eD, .int 0])), (q_7, .inr (1, [.int 0, .ref eD, .int 0]))] H := hP
  have hD : va_D A [(mm, .inr (21, [.int 0, .ref q_1, .ref q_4, .null, .null])), (q_1, .inr (1, [.int 0, .ref eD, .int 0])), (q_4, .inr (1, [.int 0, .ref eD, .int 0])), (q_7, .inr (1, [.int 0, .ref eD, .int 0]))] := hD
  have hK : va_K (dC, dI) vwCl [] s := by simpa using hK
  refine va_putF (D := (dC, dI)) (ci := 21) (v := .ref q_7) (ty := .object "java/util/ArrayList") (C := RX19) (T := TX19) (N := 5) hx hb hts in_RX19 tyX19 tyX19_ok nmX19 hown hK hP hD hS 0 rfl rfl 3 (by decide) (hts (.fieldLink RX19 19 "HornbookModel" "methods" "Ljava/util/ArrayList;") (by decide +kernel)) (fun _ h9 => h9) rfl hin rfl (by decide +kernel) rfl rfl (Nat.le_of_ble_eq_true rfl) dX19_init_34 (fun H locs hP hD hS => ?_)
  have hP : va_P (dC, dI) vwCl [(mm, .inr (21, [.int 0, .ref q_1, .ref q_4, .ref q_7, .null])), (q_1, .inr (1, [.int 0, .ref eD, .int 0])), (q_4, .inr (1, [.int 0, .ref eD, .int 0])), (q_7, .inr (1, [.int 0, .ref eD, .int 0]))] H := hP
  have hD : va_D A [(mm, .inr (21, [.int 0, .ref q_1, .ref q_4, .ref q_7, .null])), (q_1, .inr (1, [.int 0, .ref eD, .int 0])), (q_4, .inr (1, [.int 0, .ref eD, .int 0])), (q_7, .inr (1, [.int 0, .ref eD, .int 0]))] := hD
  refine lv_aload_n hx hb dX19_init_37 rfl (lv_at hl 0 rfl) ?_
  refine va_new (ci := 1) (fs := [.int 0, .null, .int 0]) (C := RJx4a65c) (T := TJx4a65c) (N := 3) hx hb hts in_RJx4a65c tyJx4a65c tyJx4a65c_ok hown (hts (.classLink RX19 7 RJx4a65c) (by decide +kernel)) (hts (.instantiable RJx4a65c 3) (by decide +kernel)) (hts (.initialized RJx4a65c) (by decide +kernel)) hK hP hD hS hA rfl (fun j hj => by rcases (show j = 0 ∨ j = 1 ∨ j = 2 by omega) with rfl | rfl | rfl <;> rfl) (Nat.le_of_ble_eq_true rfl) (Nat.le_of_ble_eq_true rfl) dX19_init_38 (fun q_10 H hP hD hS => ?_)
  have hP : va_P (dC, dI) vwCl [(mm, .inr (21, [.int 0, .ref q_1, .ref q_4, .ref q_7, .null])), (q_1, .inr (1, [.int 0, .ref eD, .int 0])), (q_4, .inr (1, [.int 0, .ref eD, .int 0])), (q_7, .inr (1, [.int 0, .ref eD, .int 0])), (q_10, .inr (1, [.int 0, .null, .int 0]))] H := hP
  have hD : va_D A [(mm, .inr (21, [.int 0, .ref q_1, .ref q_4, .ref q_7, .null])), (q_1, .inr (1, [.int 0, .ref eD, .int 0])), (q_4, .inr (1, [.int 0, .ref eD, .int 0])), (q_7, .inr (1, [.int 0, .ref eD, .int 0])), (q_10, .inr (1, [.int 0, .null, .int 0]))] := hD
  refine lv_dup hx hb dX19_init_41 rfl ?_
  refine z_v (wr := [(mm, .inr (21, [.int 0, .ref q_1, .ref q_4, .ref q_7, .null])), (q_1, .inr (1, [.int 0, .ref eD, .int 0])), (q_4, .inr (1, [.int 0, .ref eD, .int 0])), (q_7, .inr (1, [.int 0, .ref eD, .int 0]))]) (va_runI (As := []) (rest := [.ref q_10, .ref mm]) ⟨hx, hb, hml, hown, hts⟩ (c_AL_init l eD eI ad dC dI H.size q_10) (cwI 0 hts g_c_M_init_0 rfl rfl rfl (hts (.initialized RJx4a65c) (by decide +kernel)) (hts (.methodLink RX19 9 yJx4a65c_init_da8c8) (by decide +kernel)) (hts (.instanceMethod yJx4a65c_init_da8c8) (by decide +kernel)) rfl (by decide +kernel) ⟨Nat.le_of_ble_eq_true rfl, Nat.le_of_ble_eq_true rfl⟩) (z_preS (wc := [(q_10, .inr (1, [.int 0, .null, .int 0]))]) hP hD hK hS hA hE [4] [] rfl (by decide) rfl) rfl rfl hl.1 rfl (lv_room (Nat.le_of_ble_eq_true rfl)) dX19_init_42 ⟨Nat.le_of_ble_eq_true rfl, Nat.le_of_ble_eq_true rfl⟩) hP hD hK hS hA [4] [0, 1, 2, 3] rfl rfl (by decide) (by decide) (fun u H locs hw_12 hP hD hK hS => ?_)
  obtain ⟨⟩ := u
  have hP : va_P (dC, dI) vwCl [(mm, .inr (21, [.int 0, .ref q_1, .ref q_4, .ref q_7, .null])), (q_1, .inr (1, [.int 0, .ref eD, .int 0])), (q_4, .inr (1, [.int 0, .ref eD, .int 0])), (q_7, .inr (1, [.int 0, .ref eD, .int 0])), (q_10, .inr (1, [.int 0, .ref eD, .int 0]))] H := hP
  have hD : va_D A [(mm, .inr (21, [.int 0, .ref q_1, .ref q_4, .ref q_7, .null])), (q_1, .inr (1, [.int 0, .ref eD, .int 0])), (q_4, .inr (1, [.int 0, .ref eD, .int 0])), (q_7, .inr (1, [.int 0, .ref eD, .int 0])), (q_10, .inr (1, [.int 0, .ref eD, .int 0]))] := hD
  have hK : va_K (dC, dI) vwCl [] s := by simpa using hK
  refine va_putF (D := (dC, dI)) (ci := 21) (v := .ref q_10) (ty := .object "java/util/ArrayList") (C := RX19) (T := TX19) (N := 5) hx hb hts in_RX19 tyX19 tyX19_ok nmX19 hown hK hP hD hS 0 rfl rfl 4 (by decide) (hts (.fieldLink RX19 22 "HornbookModel" "expressions" "Ljava/util/ArrayList;") (by decide +kernel)) (fun _ h9 => h9) rfl hin rfl (by decide +kernel) rfl rfl (Nat.le_of_ble_eq_true rfl) dX19_init_45 (fun H locs hP hD hS => ?_)
  have hP : va_P (dC, dI) vwCl [(mm, .inr (21, [.int 0, .ref q_1, .ref q_4, .ref q_7, .ref q_10])), (q_1, .inr (1, [.int 0, .ref eD, .int 0])), (q_4, .inr (1, [.int 0, .ref eD, .int 0])), (q_7, .inr (1, [.int 0, .ref eD, .int 0])), (q_10, .inr (1, [.int 0, .ref eD, .int 0]))] H := hP
  have hD : va_D A [(mm, .inr (21, [.int 0, .ref q_1, .ref q_4, .ref q_7, .ref q_10])), (q_1, .inr (1, [.int 0, .ref eD, .int 0])), (q_4, .inr (1, [.int 0, .ref eD, .int 0])), (q_7, .inr (1, [.int 0, .ref eD, .int 0])), (q_10, .inr (1, [.int 0, .ref eD, .int 0]))] := hD
  refine lv_iconst (v := 3) hx hb dX19_init_48 (by decide) ?_
  refine va_newa (atype := .int) (ty := .int) (a0 := (3, .inl (fun _ => 0))) hx hb (hts (.arrayClass .int) (by decide +kernel)) rfl hK hP hD hS hA (fun _ => rfl) (by decide) (by decide) (Nat.le_of_ble_eq_true rfl) (Nat.le_of_ble_eq_true rfl) (Nat.le_of_ble_eq_true rfl) dX19_init_49 (fun q_13 k_14 H hK hP hD hS => ?_)
  have hP : va_P (dC, dI) vwCl [(mm, .inr (21, [.int 0, .ref q_1, .ref q_4, .ref q_7, .ref q_10])), (q_1, .inr (1, [.int 0, .ref eD, .int 0])), (q_4, .inr (1, [.int 0, .ref eD, .int 0])), (q_7, .inr (1, [.int 0, .ref eD, .int 0])), (q_10, .inr (1, [.int 0, .ref eD, .int 0])), (q_13, .inl (k_14, 3, .inl (fun _ => 0)))] H := hP
  have hD : va_D A [(mm, .inr (21, [.int 0, .ref q_1, .ref q_4, .ref q_7, .ref q_10])), (q_1, .inr (1, [.int 0, .ref eD, .int 0])), (q_4, .inr (1, [.int 0, .ref eD, .int 0])), (q_7, .inr (1, [.int 0, .ref eD, .int 0])), (q_10, .inr (1, [.int 0, .ref eD, .int 0])), (q_13, .inl (k_14, 3, .inl (fun _ => 0)))] := hD
  have hK : va_K (dC, dI) vwCl [(k_14, .int)] s := hK
  refine lv_dup hx hb dX19_init_51 rfl ?_
  refine lv_iconst (v := 0) hx hb dX19_init_52 (by decide) ?_
  refine lv_iconst (v := (-1)) hx hb dX19_init_53 (by decide) ?_
  refine va_iast (D := (dC, dI)) hx hb hK hP hD hS 5 0 rfl rfl (by unfold vp_in; decide) dX19_init_54 (fun H locs hP hD hS => ?_)
  have hP : va_P (dC, dI) vwCl [(mm, .inr (21, [.int 0, .ref q_1, .ref q_4, .ref q_7, .ref q_10])), (q_1, .inr (1, [.int 0, .ref eD, .int 0])), (q_4, .inr (1, [.int 0, .ref eD, .int 0])), (q_7, .inr (1, [.int 0, .ref eD, .int 0])), (q_10, .inr (1, [.int 0, .ref eD, .int 0])), (q_13, .inl (k_14, 3, .inl (upd (fun _ => 0) (0 : Int32).toNatClampNeg (-1))))] H := hP
  have hD : va_D A [(mm, .inr (21, [.int 0, .ref q_1, .ref q_4, .ref q_7, .ref q_10])), (q_1, .inr (1, [.int 0, .ref eD, .int 0])), (q_4, .inr (1, [.int 0, .ref eD, .int 0])), (q_7, .inr (1, [.int 0, .ref eD, .int 0])), (q_10, .inr (1, [.int 0, .ref eD, .int 0])), (q_13, .inl (k_14, 3, .inl (upd (fun _ => 0) (0 : Int32).toNatClampNeg (-1))))] := hD
  refine lv_dup hx hb dX19_init_55 rfl ?_
  refine lv_iconst (v := 1) hx hb dX19_init_56 (by decide) ?_
  refine lv_bipush (v := (-2)) hx hb dX19_init_57 (by decide) ?_
  refine va_iast (D := (dC, dI)) hx hb hK hP hD hS 5 0 rfl rfl (by unfold vp_in; decide) dX19_init_59 (fun H locs hP hD hS => ?_)
  have hP : va_P (dC, dI) vwCl [(mm, .inr (21, [.int 0, .ref q_1, .ref q_4, .ref q_7, .ref q_10])), (q_1, .inr (1, [.int 0, .ref eD, .int 0])), (q_4, .inr (1, [.int 0, .ref eD, .int 0])), (q_7, .inr (1, [.int 0, .ref eD, .int 0])), (q_10, .inr (1, [.int 0, .ref eD, .int 0])), (q_13, .inl (k_14, 3, .inl (upd (upd (fun _ => 0) (0 : Int32).toNatClampNeg (-1)) (1 : Int32).toNatClampNeg (-2))))] H := hP
  have hD : va_D A [(mm, .inr (21, [.int 0, .ref q_1, .ref q_4, .ref q_7, .ref q_10])), (q_1, .inr (1, [.int 0, .ref eD, .int 0])), (q_4, .inr (1, [.int 0, .ref eD, .int 0])), (q_7, .inr (1, [.int 0, .ref eD, .int 0])), (q_10, .inr (1, [.int 0, .ref eD, .int 0])), (q_13, .inl (k_14, 3, .inl (upd (upd (fun _ => 0) (0 : Int32).toNatClampNeg (-1)) (1 : Int32).toNatClampNeg (-2))))] := hD
  refine lv_dup hx hb dX19_init_60 rfl ?_
  refine lv_iconst (v := 2) hx hb dX19_init_61 (by decide) ?_
  refine lv_bipush (v := (-3)) hx hb dX19_init_62 (by decide) ?_
  refine va_iast (D := (dC, dI)) hx hb hK hP hD hS 5 0 rfl rfl (by unfold vp_in; decide) dX19_init_64 (fun H locs hP hD hS => ?_)
  have hP : va_P (dC, dI) vwCl [(mm, .inr (21, [.int 0, .ref q_1, .ref q_4, .ref q_7, .ref q_10])), (q_1, .inr (1, [.int 0, .ref eD, .int 0])), (q_4, .inr (1, [.int 0, .ref eD, .int 0])), (q_7, .inr (1, [.int 0, .ref eD, .int 0])), (q_10, .inr (1, [.int 0, .ref eD, .int 0])), (q_13, .inl (k_14, 3, .inl (upd (upd (upd (fun _ => 0) (0 : Int32).toNatClampNeg (-1)) (1 : Int32).toNatClampNeg (-2)) (2 : Int32).toNatClampNeg (-3))))] H := hP
  have hD : va_D A [(mm, .inr (21, [.int 0, .ref q_1, .ref q_4, .ref q_7, .ref q_10])), (q_1, .inr (1, [.int 0, .ref eD, .int 0])), (q_4, .inr (1, [.int 0, .ref eD, .int 0])), (q_7, .inr (1, [.int 0, .ref eD, .int 0])), (q_10, .inr (1, [.int 0, .ref eD, .int 0])), (q_13, .inl (k_14, 3, .inl (upd (upd (upd (fun _ => 0) (0 : Int32).toNatClampNeg (-1)) (1 : Int32).toNatClampNeg (-2)) (2 : Int32).toNatClampNeg (-3))))] := hD
  refine lv_astore_n (lv' := [(1, .ref q_13), (0, .ref mm)]) hx hb dX19_init_65 rfl hl (by decide) rfl (fun ls hl => ?_)
  refine lv_aload_n hx hb dX19_init_66 rfl (lv_at hl 0 rfl) ?_
  refine va_alen (D := (dC, dI)) (v := 3) hx hb hK hP 5 0 rfl rfl rfl dX19_init_67 ?_
  refine lv_istore_n (lv' := [(2, .int 3), (1, .ref q_13), (0, .ref mm)]) hx hb dX19_init_68 rfl hl (by decide) rfl (fun ls hl => ?_)
  refine lv_iconst (v := 0) hx hb dX19_init_69 (by decide) ?_
  refine lv_istore_n (lv' := [(3, .int 0), (2, .int 3), (1, .ref q_13), (0, .ref mm)]) hx hb dX19_init_70 rfl hl (by decide) rfl (fun ls hl => ?_)
  refine lv_iload_n hx hb dX19_init_71 rfl (lv_at hl 0 rfl) ?_
  refine lv_iload_n hx hb dX19_init_72 rfl (lv_at hl 1 rfl) ?_
  refine lv_icmp_ge (tgt := 104) hx hb dX19_init_73 (by decide) (fun c_15 => ?_) (fun c_15 => ?_)
  · exact absurd c_15 (by decide)
  refine lv_aload_n hx hb dX19_init_76 rfl (lv_at hl 2 rfl) ?_
  refine lv_iload_n hx hb dX19_init_77 rfl (lv_at hl 0 rfl) ?_
  refine va_iald (D := (dC, dI)) hx hb hK hP 5 0 rfl rfl (by unfold vp_in; decide) dX19_init_78 ?_
  refine z_top (v' := .int (-1)) (congrArg Value.int (by first | rfl | decide)) ?_
  refine lv_istore (lv' := [(4, .int (-1)), (3, .int 0), (2, .int 3), (1, .ref q_13), (0, .ref mm)]) hx hb dX19_init_79 hl (by decide) rfl (fun ls hl => ?_)
  refine lv_aload_n hx hb dX19_init_81 rfl (lv_at hl 4 rfl) ?_
  refine va_get (D := (dC, dI)) (ci := 21) (v := .ref q_4) (C := RX19) (T := TX19) (N := 5) hx hb hts in_RX19 hown hK hP 0 rfl rfl 2 (by decide) (hts (.fieldLink RX19 16 "HornbookModel" "types" "Ljava/util/ArrayList;") (by decide +kernel)) (fun _ h9 => h9) rfl dX19_init_82 ?_
  refine va_new (ci := 18) (fs := [.int 0, .null]) (C := RX16) (T := TX16) (N := 2) hx hb hts in_RX16 tyX16 tyX16_ok hown (hts (.classLink RX19 25 RX16) (by decide +kernel)) (hts (.instantiable RX16 2) (by decide +kernel)) (hts (.initialized RX16) (by decide +kernel)) hK hP hD hS hA rfl (fun j hj => by rcases (show j = 0 ∨ j = 1 by omega) with rfl | rfl <;> rfl) (Nat.le_of_ble_eq_true rfl) (Nat.le_of_ble_eq_true rfl) dX19_init_85 (fun q_16 H hP hD hS => ?_)
  have hP : va_P (dC, dI) vwCl [(mm, .inr (21, [.int 0, .ref q_1, .ref q_4, .ref q_7, .ref q_10])), (q_1, .inr (1, [.int 0, .ref eD, .int 0])), (q_4, .inr (1, [.int 0, .ref eD, .int 0])), (q_7, .inr (1, [.int 0, .ref eD, .int 0])), (q_10, .inr (1, [.int 0, .ref eD, .int 0])), (q_13, .inl (k_14, 3, .inl (upd (upd (upd (fun _ => 0) (0 : Int32).toNatClampNeg (-1)) (1 : Int32).toNatClampNeg (-2)) (2 : Int32).toNatClampNeg (-3)))), (q_16, .inr (18, [.int 0, .null]))] H := hP
  have hD : va_D A [(mm, .inr (21, [.int 0, .ref q_1, .ref q_4, .ref q_7, .ref q_10])), (q_1, .inr (1, [.int 0, .ref eD, .int 0])), (q_4, .inr (1, [.int 0, .ref eD, .int 0])), (q_7, .inr (1, [.int 0, .ref eD, .int 0])), (q_10, .inr (1, [.int 0, .ref eD, .int 0])), (q_13, .inl (k_14, 3, .inl (upd (upd (upd (fun _ => 0) (0 : Int32).toNatClampNeg (-1)) (1 : Int32).toNatClampNeg (-2)) (2 : Int32).toNatClampNeg (-3)))), (q_16, .inr (18, [.int 0, .null]))] := hD
  refine lv_dup hx hb dX19_init_88 rfl ?_
  refine lv_iload hx hb dX19_init_89 (lv_at hl 0 rfl) ?_
  refine z_v (wr := [(mm, .inr (21, [.int 0, .ref q_1, .ref q_4, .ref q_7, .ref q_10])), (q_1, .inr (1, [.int 0, .ref eD, .int 0])), (q_4, .inr (1, [.int 0, .ref eD, .int 0])), (q_7, .inr (1, [.int 0, .ref eD, .int 0])), (q_10, .inr (1, [.int 0, .ref eD, .int 0])), (q_13, .inl (k_14, 3, .inl (upd (upd (upd (fun _ => 0) (0 : Int32).toNatClampNeg (-1)) (1 : Int32).toNatClampNeg (-2)) (2 : Int32).toNatClampNeg (-3))))]) (va_runI (As := [.int (-1)]) (rest := [.ref q_16, .ref q_4]) ⟨hx, hb, hml, hown, hts⟩ (c_T_init1 l eD eI ad dC dI H.size q_16 (-1)) (cwI 1 hts g_c_M_init_1 rfl rfl rfl (hts (.initialized RX16) (by decide +kernel)) (hts (.methodLink RX19 27 yX16_init) (by decide +kernel)) (hts (.instanceMethod yX16_init) (by decide +kernel)) rfl (by decide +kernel) ⟨Nat.le_of_ble_eq_true rfl, Nat.le_of_ble_eq_true rfl⟩) (z_preS (wc := [(q_16, .inr (18, [.int 0, .null]))]) hP hD hK hS hA hE [6] [] rfl (by decide) rfl) rfl rfl hl.1 rfl (lv_room (Nat.le_of_ble_eq_true rfl)) dX19_init_91 ⟨Nat.le_of_ble_eq_true rfl, Nat.le_of_ble_eq_true rfl⟩) hP hD hK hS hA [6] [0, 1, 2, 3, 4, 5] rfl rfl (by decide) (by decide) (fun u H locs hw_20 hP hD hK hS => ?_)
  obtain ⟨u_17, u_18⟩ := u
  have hP : va_P (dC, dI) vwCl [(mm, .inr (21, [.int 0, .ref q_1, .ref q_4, .ref q_7, .ref q_10])), (q_1, .inr (1, [.int 0, .ref eD, .int 0])), (q_4, .inr (1, [.int 0, .ref eD, .int 0])), (q_7, .inr (1, [.int 0, .ref eD, .int 0])), (q_10, .inr (1, [.int 0, .ref eD, .int 0])), (q_13, .inl (k_14, 3, .inl (upd (upd (upd (fun _ => 0) (0 : Int32).toNatClampNeg (-1)) (1 : Int32).toNatClampNeg (-2)) (2 : Int32).toNatClampNeg (-3)))), (q_16, .inr (18, [.int (-1), .ref u_17])), (u_17, .inl (u_18, 0, .inr (.inr (.inr (.inr (fun _ => none))))))] H := hP
  have hD : va_D A [(mm, .inr (21, [.int 0, .ref q_1, .ref q_4, .ref q_7, .ref q_10])), (q_1, .inr (1, [.int 0, .ref eD, .int 0])), (q_4, .inr (1, [.int 0, .ref eD, .int 0])), (q_7, .inr (1, [.int 0, .ref eD, .int 0])), (q_10, .inr (1, [.int 0, .ref eD, .int 0])), (q_13, .inl (k_14, 3, .inl (upd (upd (upd (fun _ => 0) (0 : Int32).toNatClampNeg (-1)) (1 : Int32).toNatClampNeg (-2)) (2 : Int32).toNatClampNeg (-3)))), (q_16, .inr (18, [.int (-1), .ref u_17])), (u_17, .inl (u_18, 0, .inr (.inr (.inr (.inr (fun _ => none))))))] := hD
  have hK : va_K (dC, dI) vwCl [(k_14, .int), (u_18, .object "HornbookModel$Tree")] s := hK
  refine z_i (wr := [(mm, .inr (21, [.int 0, .ref q_1, .ref q_4, .ref q_7, .ref q_10])), (q_1, .inr (1, [.int 0, .ref eD, .int 0])), (q_7, .inr (1, [.int 0, .ref eD, .int 0])), (q_10, .inr (1, [.int 0, .ref eD, .int 0])), (q_13, .inl (k_14, 3, .inl (upd (upd (upd (fun _ => 0) (0 : Int32).toNatClampNeg (-1)) (1 : Int32).toNatClampNeg (-2)) (2 : Int32).toNatClampNeg (-3)))), (u_17, .inl (u_18, 0, .inr (.inr (.inr (.inr (fun _ => none))))))]) (va_runV (As := [.ref q_16]) (rest := []) ⟨hx, hb, hml, hown, hts⟩ (c_AL_add0 l eD eI ad dC dI H.size q_4 0 q_16 18 ((RX16, TX16, 2)) ([.int (-1), .ref u_17]) (rfl) (by decide +kernel)) (cwV 1 hts g_c_M_init_2 rfl rfl rfl (by decide +kernel) ⟨Nat.le_of_ble_eq_true rfl, Nat.le_of_ble_eq_true rfl⟩) (z_preV (wc := [(q_4, .inr (1, [.int 0, .ref eD, .int 0])), (q_16, .inr (18, [.int (-1), .ref u_17]))]) hP hD hK hS hA hE [2, 6] [] rfl (by decide) rfl (ci := 1) (q0 := 0) rfl rfl) rfl rfl hl.1 rfl (lv_room (Nat.le_of_ble_eq_true rfl)) dX19_init_94 ⟨Nat.le_of_ble_eq_true rfl, Nat.le_of_ble_eq_true rfl⟩) hP hD hK hS hA [2, 6] [0, 1, 3, 4, 5, 7] rfl rfl (by decide) (by decide) (fun r_24 u H locs hw_25 hP hD hK hS => ?_)
  obtain ⟨u_21, u_22, u_23⟩ := u
  have hP : va_P (dC, dI) vwCl [(mm, .inr (21, [.int 0, .ref q_1, .ref q_4, .ref q_7, .ref q_10])), (q_1, .inr (1, [.int 0, .ref eD, .int 0])), (q_7, .inr (1, [.int 0, .ref eD, .int 0])), (q_10, .inr (1, [.int 0, .ref eD, .int 0])), (q_13, .inl (k_14, 3, .inl (upd (upd (upd (fun _ => 0) (0 : Int32).toNatClampNeg (-1)) (1 : Int32).toNatClampNeg (-2)) (2 : Int32).toNatClampNeg (-3)))), (u_17, .inl (u_18, 0, .inr (.inr (.inr (.inr (fun _ => none)))))), (q_4, .inr (1, [.int u_23, .ref u_21, .int 1])), (q_16, .inr (18, [.int (-1), .ref u_17])), (u_21, .inl (u_22, 10, .inr (.inr (.inr (.inr (va_up (fun _ => none) (0 : Int32).toNatClampNeg (some q_16)))))))] H := hP
  have hD : va_D A [(mm, .inr (21, [.int 0, .ref q_1, .ref q_4, .ref q_7, .ref q_10])), (q_1, .inr (1, [.int 0, .ref eD, .int 0])), (q_7, .inr (1, [.int 0, .ref eD, .int 0])), (q_10, .inr (1, [.int 0, .ref eD, .int 0])), (q_13, .inl (k_14, 3, .inl (upd (upd (upd (fun _ => 0) (0 : Int32).toNatClampNeg (-1)) (1 : Int32).toNatClampNeg (-2)) (2 : Int32).toNatClampNeg (-3)))), (u_17, .inl (u_18, 0, .inr (.inr (.inr (.inr (fun _ => none)))))), (q_4, .inr (1, [.int u_23, .ref u_21, .int 1])), (q_16, .inr (18, [.int (-1), .ref u_17])), (u_21, .inl (u_22, 10, .inr (.inr (.inr (.inr (va_up (fun _ => none) (0 : Int32).toNatClampNeg (some q_16)))))))] := hD
  have hK : va_K (dC, dI) vwCl [(k_14, .int), (u_18, .object "HornbookModel$Tree"), (u_22, .object "java/lang/Object")] s := hK
  have hw_25 : r_24 = 1 := hw_25
  have hw_25 := hw_25.symm
  subst hw_25
  refine lv_pop hx hb dX19_init_97 rfl ?_
  refine lv_iinc (v := 1) (lv' := [(3, .int 1), (4, .int (-1)), (2, .int 3), (1, .ref q_13), (0, .ref mm)]) hx hb dX19_init_98 hl (k := 1) rfl (by decide) (by decide) rfl (fun ls hl => ?_)
  refine lv_goto (tgt := 71) hx hb dX19_init_101 (by decide) ?_
  refine lv_iload_n hx hb dX19_init_71 rfl (lv_at hl 0 rfl) ?_
  refine lv_iload_n hx hb dX19_init_72 rfl (lv_at hl 2 rfl) ?_
  refine lv_icmp_ge (tgt := 104) hx hb dX19_init_73 (by decide) (fun c_26 => ?_) (fun c_26 => ?_)
  · exact absurd c_26 (by decide)
  refine lv_aload_n hx hb dX19_init_76 rfl (lv_at hl 3 rfl) ?_
  refine lv_iload_n hx hb dX19_init_77 rfl (lv_at hl 0 rfl) ?_
  refine va_iald (D := (dC, dI)) hx hb hK hP 4 0 rfl rfl (by unfold vp_in; decide) dX19_init_78 ?_
  refine z_top (v' := .int (-2)) (congrArg Value.int (by first | rfl | decide)) ?_
  refine lv_istore (lv' := [(4, .int (-2)), (3, .int 1), (2, .int 3), (1, .ref q_13), (0, .ref mm)]) hx hb dX19_init_79 hl (by decide) rfl (fun ls hl => ?_)
  refine lv_aload_n hx hb dX19_init_81 rfl (lv_at hl 4 rfl) ?_
  refine va_get (D := (dC, dI)) (ci := 21) (v := .ref q_4) (C := RX19) (T := TX19) (N := 5) hx hb hts in_RX19 hown hK hP 0 rfl rfl 2 (by decide) (hts (.fieldLink RX19 16 "HornbookModel" "types" "Ljava/util/ArrayList;") (by decide +kernel)) (fun _ h9 => h9) rfl dX19_init_82 ?_
  refine va_new (ci := 18) (fs := [.int 0, .null]) (C := RX16) (T := TX16) (N := 2) hx hb hts in_RX16 tyX16 tyX16_ok hown (hts (.classLink RX19 25 RX16) (by decide +kernel)) (hts (.instantiable RX16 2) (by decide +kernel)) (hts (.initialized RX16) (by decide +kernel)) hK hP hD hS hA rfl (fun j hj => by rcases (show j = 0 ∨ j = 1 by omega) with rfl | rfl <;> rfl) (Nat.le_of_ble_eq_true rfl) (Nat.le_of_ble_eq_true rfl) dX19_init_85 (fun q_27 H hP hD hS => ?_)
  have hP : va_P (dC, dI) vwCl [(mm, .inr (21, [.int 0, .ref q_1, .ref q_4, .ref q_7, .ref q_10])), (q_1, .inr (1, [.int 0, .ref eD, .int 0])), (q_7, .inr (1, [.int 0, .ref eD, .int 0])), (q_10, .inr (1, [.int 0, .ref eD, .int 0])), (q_13, .inl (k_14, 3, .inl (upd (upd (upd (fun _ => 0) (0 : Int32).toNatClampNeg (-1)) (1 : Int32).toNatClampNeg (-2)) (2 : Int32).toNatClampNeg (-3)))), (u_17, .inl (u_18, 0, .inr (.inr (.inr (.inr (fun _ => none)))))), (q_4, .inr (1, [.int u_23, .ref u_21, .int 1])), (q_16, .inr (18, [.int (-1), .ref u_17])), (u_21, .inl (u_22, 10, .inr (.inr (.inr (.inr (va_up (fun _ => none) (0 : Int32).toNatClampNeg (some q_16))))))), (q_27, .inr (18, [.int 0, .null]))] H := hP
  have hD : va_D A [(mm, .inr (21, [.int 0, .ref q_1, .ref q_4, .ref q_7, .ref q_10])), (q_1, .inr (1, [.int 0, .ref eD, .int 0])), (q_7, .inr (1, [.int 0, .ref eD, .int 0])), (q_10, .inr (1, [.int 0, .ref eD, .int 0])), (q_13, .inl (k_14, 3, .inl (upd (upd (upd (fun _ => 0) (0 : Int32).toNatClampNeg (-1)) (1 : Int32).toNatClampNeg (-2)) (2 : Int32).toNatClampNeg (-3)))), (u_17, .inl (u_18, 0, .inr (.inr (.inr (.inr (fun _ => none)))))), (q_4, .inr (1, [.int u_23, .ref u_21, .int 1])), (q_16, .inr (18, [.int (-1), .ref u_17])), (u_21, .inl (u_22, 10, .inr (.inr (.inr (.inr (va_up (fun _ => none) (0 : Int32).toNatClampNeg (some q_16))))))), (q_27, .inr (18, [.int 0, .null]))] := hD
  refine lv_dup hx hb dX19_init_88 rfl ?_
  refine lv_iload hx hb dX19_init_89 (lv_at hl 0 rfl) ?_
  refine z_v (wr := [(mm, .inr (21, [.int 0, .ref q_1, .ref q_4, .ref q_7, .ref q_10])), (q_1, .inr (1, [.int 0, .ref eD, .int 0])), (q_7, .inr (1, [.int 0, .ref eD, .int 0])), (q_10, .inr (1, [.int 0, .ref eD, .int 0])), (q_13, .inl (k_14, 3, .inl (upd (upd (upd (fun _ => 0) (0 : Int32).toNatClampNeg (-1)) (1 : Int32).toNatClampNeg (-2)) (2 : Int32).toNatClampNeg (-3)))), (u_17, .inl (u_18, 0, .inr (.inr (.inr (.inr (fun _ => none)))))), (q_4, .inr (1, [.int u_23, .ref u_21, .int 1])), (q_16, .inr (18, [.int (-1), .ref u_17])), (u_21, .inl (u_22, 10, .inr (.inr (.inr (.inr (va_up (fun _ => none) (0 : Int32).toNatClampNeg (some q_16)))))))]) (va_runI (As := [.int (-2)]) (rest := [.ref q_27, .ref q_4]) ⟨hx, hb, hml, hown, hts⟩ (c_T_init1 l eD eI ad dC dI H.size q_27 (-2)) (cwI 1 hts g_c_M_init_1 rfl rfl rfl (hts (.initialized RX16) (by decide +kernel)) (hts (.methodLink RX19 27 yX16_init) (by decide +kernel)) (hts (.instanceMethod yX16_init) (by decide +kernel)) rfl (by decide +kernel) ⟨Nat.le_of_ble_eq_true rfl, Nat.le_of_ble_eq_true rfl⟩) (z_preS (wc := [(q_27, .inr (18, [.int 0, .null]))]) hP hD hK hS hA hE [9] [] rfl (by decide) rfl) rfl rfl hl.1 rfl (lv_room (Nat.le_of_ble_eq_true rfl)) dX19_init_91 ⟨Nat.le_of_ble_eq_true rfl, Nat.le_of_ble_eq_true rfl⟩) hP hD hK hS hA [9] [0, 1, 2, 3, 4, 5, 6, 7, 8] rfl rfl (by decide) (by decide) (fun u H locs hw_31 hP hD hK hS => ?_)
  obtain ⟨u_28, u_29⟩ := u
  have hP : va_P (dC, dI) vwCl [(mm, .inr (21, [.int 0, .ref q_1, .ref q_4, .ref q_7, .ref q_10])), (q_1, .inr (1, [.int 0, .ref eD, .int 0])), (q_7, .inr (1, [.int 0, .ref eD, .int 0])), (q_10, .inr (1, [.int 0, .ref eD, .int 0])), (q_13, .inl (k_14, 3, .inl (upd (upd (upd (fun _ => 0) (0 : Int32).toNatClampNeg (-1)) (1 : Int32).toNatClampNeg (-2)) (2 : Int32).toNatClampNeg (-3)))), (u_17, .inl (u_18, 0, .inr (.inr (.inr (.inr (fun _ => none)))))), (q_4, .inr (1, [.int u_23, .ref u_21, .int 1])), (q_16, .inr (18, [.int (-1), .ref u_17])), (u_21, .inl (u_22, 10, .inr (.inr (.inr (.inr (va_up (fun _ => none) (0 : Int32).toNatClampNeg (some q_16))))))), (q_27, .inr (18, [.int (-2), .ref u_28])), (u_28, .inl (u_29, 0, .inr (.inr (.inr (.inr (fun _ => none))))))] H := hP
  have hD : va_D A [(mm, .inr (21, [.int 0, .ref q_1, .ref q_4, .ref q_7, .ref q_10])), (q_1, .inr (1, [.int 0, .ref eD, .int 0])), (q_7, .inr (1, [.int 0, .ref eD, .int 0])), (q_10, .inr (1, [.int 0, .ref eD, .int 0])), (q_13, .inl (k_14, 3, .inl (upd (upd (upd (fun _ => 0) (0 : Int32).toNatClampNeg (-1)) (1 : Int32).toNatClampNeg (-2)) (2 : Int32).toNatClampNeg (-3)))), (u_17, .inl (u_18, 0, .inr (.inr (.inr (.inr (fun _ => none)))))), (q_4, .inr (1, [.int u_23, .ref u_21, .int 1])), (q_16, .inr (18, [.int (-1), .ref u_17])), (u_21, .inl (u_22, 10, .inr (.inr (.inr (.inr (va_up (fun _ => none) (0 : Int32).toNatClampNeg (some q_16))))))), (q_27, .inr (18, [.int (-2), .ref u_28])), (u_28, .inl (u_29, 0, .inr (.inr (.inr (.inr (fun _ => none))))))] := hD
  have hK : va_K (dC, dI) vwCl [(k_14, .int), (u_18, .object "HornbookModel$Tree"), (u_22, .object "java/lang/Object"), (u_29, .object "HornbookModel$Tree")] s := hK
  refine z_i (wr := [(mm, .inr (21, [.int 0, .ref q_1, .ref q_4, .ref q_7, .ref q_10])), (q_1, .inr (1, [.int 0, .ref eD, .int 0])), (q_7, .inr (1, [.int 0, .ref eD, .int 0])), (q_10, .inr (1, [.int 0, .ref eD, .int 0])), (q_13, .inl (k_14, 3, .inl (upd (upd (upd (fun _ => 0) (0 : Int32).toNatClampNeg (-1)) (1 : Int32).toNatClampNeg (-2)) (2 : Int32).toNatClampNeg (-3)))), (u_17, .inl (u_18, 0, .inr (.inr (.inr (.inr (fun _ => none)))))), (q_16, .inr (18, [.int (-1), .ref u_17])), (u_28, .inl (u_29, 0, .inr (.inr (.inr (.inr (fun _ => none))))))]) (va_runV (As := [.ref q_27]) (rest := []) ⟨hx, hb, hml, hown, hts⟩ (c_AL_addn l eD eI ad dC dI H.size u_23 q_4 u_21 u_22 1 2 ((va_up (fun _ => none) (0 : Int32).toNatClampNeg (some q_16))) q_27 18 ((RX16, TX16, 2)) ([.int (-2), .ref u_28]) (by decide) ((by unfold vp_in; decide)) (by decide) (rfl) (by decide +kernel)) (cwV 1 hts g_c_M_init_3 rfl rfl rfl (by decide +kernel) ⟨Nat.le_of_ble_eq_true rfl, Nat.le_of_ble_eq_true rfl⟩) (z_preV (wc := [(q_4, .inr (1, [.int u_23, .ref u_21, .int 1])), (q_27, .inr (18, [.int (-2), .ref u_28])), (u_21, .inl (u_22, 10, .inr (.inr (.inr (.inr (va_up (fun _ => none) (0 : Int32).toNatClampNeg (some q_16)))))))]) hP hD hK hS hA hE [6, 9, 8] [2] rfl (by decide) rfl (ci := 1) (q0 := 0) rfl rfl) rfl rfl hl.1 rfl (lv_room (Nat.le_of_ble_eq_true rfl)) dX19_init_94 ⟨Nat.le_of_ble_eq_true rfl, Nat.le_of_ble_eq_true rfl⟩) hP hD hK hS hA [6, 9, 8] [0, 1, 2, 3, 4, 5, 7, 10] rfl rfl (by decide) (by decide) (fun r_33 u H locs hw_34 hP hD hK hS => ?_)
  obtain ⟨u_32, rfl⟩ : ∃ z, z = u := ⟨_, rfl⟩
  have hP : va_P (dC, dI) vwCl [(mm, .inr (21, [.int 0, .ref q_1, .ref q_4, .ref q_7, .ref q_10])), (q_1, .inr (1, [.int 0, .ref eD, .int 0])), (q_7, .inr (1, [.int 0, .ref eD, .int 0])), (q_10, .inr (1, [.int 0, .ref eD, .int 0])), (q_13, .inl (k_14, 3, .inl (upd (upd (upd (fun _ => 0) (0 : Int32).toNatClampNeg (-1)) (1 : Int32).toNatClampNeg (-2)) (2 : Int32).toNatClampNeg (-3)))), (u_17, .inl (u_18, 0, .inr (.inr (.inr (.inr (fun _ => none)))))), (q_16, .inr (18, [.int (-1), .ref u_17])), (u_28, .inl (u_29, 0, .inr (.inr (.inr (.inr (fun _ => none)))))), (q_4, .inr (1, [.int u_32, .ref u_21, .int 2])), (q_27, .inr (18, [.int (-2), .ref u_28])), (u_21, .inl (u_22, 10, .inr (.inr (.inr (.inr (va_up ((va_up (fun _ => none) (0 : Int32).toNatClampNeg (some q_16))) (1 : Int32).toNatClampNeg (some q_27)))))))] H := hP
  have hD : va_D A [(mm, .inr (21, [.int 0, .ref q_1, .ref q_4, .ref q_7, .ref q_10])), (q_1, .inr (1, [.int 0, .ref eD, .int 0])), (q_7, .inr (1, [.int 0, .ref eD, .int 0])), (q_10, .inr (1, [.int 0, .ref eD, .int 0])), (q_13, .inl (k_14, 3, .inl (upd (upd (upd (fun _ => 0) (0 : Int32).toNatClampNeg (-1)) (1 : Int32).toNatClampNeg (-2)) (2 : Int32).toNatClampNeg (-3)))), (u_17, .inl (u_18, 0, .inr (.inr (.inr (.inr (fun _ => none)))))), (q_16, .inr (18, [.int (-1), .ref u_17])), (u_28, .inl (u_29, 0, .inr (.inr (.inr (.inr (fun _ => none)))))), (q_4, .inr (1, [.int u_32, .ref u_21, .int 2])), (q_27, .inr (18, [.int (-2), .ref u_28])), (u_21, .inl (u_22, 10, .inr (.inr (.inr (.inr (va_up ((va_up (fun _ => none) (0 : Int32).toNatClampNeg (some q_16))) (1 : Int32).toNatClampNeg (some q_27)))))))] := hD
  have hK : va_K (dC, dI) vwCl [(k_14, .int), (u_18, .object "HornbookModel$Tree"), (u_22, .object "java/lang/Object"), (u_29, .object "HornbookModel$Tree")] s := by simpa using hK
  have hw_34 : r_33 = 1 := hw_34
  have hw_34 := hw_34.symm
  subst hw_34
  refine lv_pop hx hb dX19_init_97 rfl ?_
  refine lv_iinc (v := 2) (lv' := [(3, .int 2), (4, .int (-2)), (2, .int 3), (1, .ref q_13), (0, .ref mm)]) hx hb dX19_init_98 hl (k := 1) rfl (by decide) (by decide) rfl (fun ls hl => ?_)
  refine lv_goto (tgt := 71) hx hb dX19_init_101 (by decide) ?_
  refine lv_iload_n hx hb dX19_init_71 rfl (lv_at hl 0 rfl) ?_
  refine lv_iload_n hx hb dX19_init_72 rfl (lv_at hl 2 rfl) ?_
  refine lv_icmp_ge (tgt := 104) hx hb dX19_init_73 (by decide) (fun c_35 => ?_) (fun c_35 => ?_)
  · exact absurd c_35 (by decide)
  refine lv_aload_n hx hb dX19_init_76 rfl (lv_at hl 3 rfl) ?_
  refine lv_iload_n hx hb dX19_init_77 rfl (lv_at hl 0 rfl) ?_
  refine va_iald (D := (dC, dI)) hx hb hK hP 4 0 rfl rfl (by unfold vp_in; decide) dX19_init_78 ?_
  refine z_top (v' := .int (-3)) (congrArg Value.int (by first | rfl | decide)) ?_
  refine lv_istore (lv' := [(4, .int (-3)), (3, .int 2), (2, .int 3), (1, .ref q_13), (0, .ref mm)]) hx hb dX19_init_79 hl (by decide) rfl (fun ls hl => ?_)
  refine lv_aload_n hx hb dX19_init_81 rfl (lv_at hl 4 rfl) ?_
  refine va_get (D := (dC, dI)) (ci := 21) (v := .ref q_4) (C := RX19) (T := TX19) (N := 5) hx hb hts in_RX19 hown hK hP 0 rfl rfl 2 (by decide) (hts (.fieldLink RX19 16 "HornbookModel" "types" "Ljava/util/ArrayList;") (by decide +kernel)) (fun _ h9 => h9) rfl dX19_init_82 ?_
  refine va_new (ci := 18) (fs := [.int 0, .null]) (C := RX16) (T := TX16) (N := 2) hx hb hts in_RX16 tyX16 tyX16_ok hown (hts (.classLink RX19 25 RX16) (by decide +kernel)) (hts (.instantiable RX16 2) (by decide +kernel)) (hts (.initialized RX16) (by decide +kernel)) hK hP hD hS hA rfl (fun j hj => by rcases (show j = 0 ∨ j = 1 by omega) with rfl | rfl <;> rfl) (Nat.le_of_ble_eq_true rfl) (Nat.le_of_ble_eq_true rfl) dX19_init_85 (fun q_36 H hP hD hS => ?_)
  have hP : va_P (dC, dI) vwCl [(mm, .inr (21, [.int 0, .ref q_1, .ref q_4, .ref q_7, .ref q_10])), (q_1, .inr (1, [.int 0, .ref eD, .int 0])), (q_7, .inr (1, [.int 0, .ref eD, .int 0])), (q_10, .inr (1, [.int 0, .ref eD, .int 0])), (q_13, .inl (k_14, 3, .inl (upd (upd (upd (fun _ => 0) (0 : Int32).toNatClampNeg (-1)) (1 : Int32).toNatClampNeg (-2)) (2 : Int32).toNatClampNeg (-3)))), (u_17, .inl (u_18, 0, .inr (.inr (.inr (.inr (fun _ => none)))))), (q_16, .inr (18, [.int (-1), .ref u_17])), (u_28, .inl (u_29, 0, .inr (.inr (.inr (.inr (fun _ => none)))))), (q_4, .inr (1, [.int u_32, .ref u_21, .int 2])), (q_27, .inr (18, [.int (-2), .ref u_28])), (u_21, .inl (u_22, 10, .inr (.inr (.inr (.inr (va_up ((va_up (fun _ => none) (0 : Int32).toNatClampNeg (some q_16))) (1 : Int32).toNatClampNeg (some q_27))))))), (q_36, .inr (18, [.int 0, .null]))] H := hP
  have hD : va_D A [(mm, .inr (21, [.int 0, .ref q_1, .ref q_4, .ref q_7, .ref q_10])), (q_1, .inr (1, [.int 0, .ref eD, .int 0])), (q_7, .inr (1, [.int 0, .ref eD, .int 0])), (q_10, .inr (1, [.int 0, .ref eD, .int 0])), (q_13, .inl (k_14, 3, .inl (upd (upd (upd (fun _ => 0) (0 : Int32).toNatClampNeg (-1)) (1 : Int32).toNatClampNeg (-2)) (2 : Int32).toNatClampNeg (-3)))), (u_17, .inl (u_18, 0, .inr (.inr (.inr (.inr (fun _ => none)))))), (q_16, .inr (18, [.int (-1), .ref u_17])), (u_28, .inl (u_29, 0, .inr (.inr (.inr (.inr (fun _ => none)))))), (q_4, .inr (1, [.int u_32, .ref u_21, .int 2])), (q_27, .inr (18, [.int (-2), .ref u_28])), (u_21, .inl (u_22, 10, .inr (.inr (.inr (.inr (va_up ((va_up (fun _ => none) (0 : Int32).toNatClampNeg (some q_16))) (1 : Int32).toNatClampNeg (some q_27))))))), (q_36, .inr (18, [.int 0, .null]))] := hD
  refine lv_dup hx hb dX19_init_88 rfl ?_
  refine lv_iload hx hb dX19_init_89 (lv_at hl 0 rfl) ?_
  refine z_v (wr := [(mm, .inr (21, [.int 0, .ref q_1, .ref q_4, .ref q_7, .ref q_10])), (q_1, .inr (1, [.int 0, .ref eD, .int 0])), (q_7, .inr (1, [.int 0, .ref eD, .int 0])), (q_10, .inr (1, [.int 0, .ref eD, .int 0])), (q_13, .inl (k_14, 3, .inl (upd (upd (upd (fun _ => 0) (0 : Int32).toNatClampNeg (-1)) (1 : Int32).toNatClampNeg (-2)) (2 : Int32).toNatClampNeg (-3)))), (u_17, .inl (u_18, 0, .inr (.inr (.inr (.inr (fun _ => none)))))), (q_16, .inr (18, [.int (-1), .ref u_17])), (u_28, .inl (u_29, 0, .inr (.inr (.inr (.inr (fun _ => none)))))), (q_4, .inr (1, [.int u_32, .ref u_21, .int 2])), (q_27, .inr (18, [.int (-2), .ref u_28])), (u_21, .inl (u_22, 10, .inr (.inr (.inr (.inr (va_up ((va_up (fun _ => none) (0 : Int32).toNatClampNeg (some q_16))) (1 : Int32).toNatClampNeg (some q_27)))))))]) (va_runI (As := [.int (-3)]) (rest := [.ref q_36, .ref q_4]) ⟨hx, hb, hml, hown, hts⟩ (c_T_init1 l eD eI ad dC dI H.size q_36 (-3)) (cwI 1 hts g_c_M_init_1 rfl rfl rfl (hts (.initialized RX16) (by decide +kernel)) (hts (.methodLink RX19 27 yX16_init) (by decide +kernel)) (hts (.instanceMethod yX16_init) (by decide +kernel)) rfl (by decide +kernel) ⟨Nat.le_of_ble_eq_true rfl, Nat.le_of_ble_eq_true rfl⟩) (z_preS (wc := [(q_36, .inr (18, [.int 0, .null]))]) hP hD hK hS hA hE [11] [] rfl (by decide) rfl) rfl rfl hl.1 rfl (lv_room (Nat.le_of_ble_eq_true rfl)) dX19_init_91 ⟨Nat.le_of_ble_eq_true rfl, Nat.le_of_ble_eq_true rfl⟩) hP hD hK hS hA [11] [0, 1, 2, 3, 4, 5, 6, 7, 8, 9, 10] rfl rfl (by decide) (by decide) (fun u H locs hw_40 hP hD hK hS => ?_)
  obtain ⟨u_37, u_38⟩ := u
  have hP : va_P (dC, dI) vwCl [(mm, .inr (21, [.int 0, .ref q_1, .ref q_4, .ref q_7, .ref q_10])), (q_1, .inr (1, [.int 0, .ref eD, .int 0])), (q_7, .inr (1, [.int 0, .ref eD, .int 0])), (q_10, .inr (1, [.int 0, .ref eD, .int 0])), (q_13, .inl (k_14, 3, .inl (upd (upd (upd (fun _ => 0) (0 : Int32).toNatClampNeg (-1)) (1 : Int32).toNatClampNeg (-2)) (2 : Int32).toNatClampNeg (-3)))), (u_17, .inl (u_18, 0, .inr (.inr (.inr (.inr (fun _ => none)))))), (q_16, .inr (18, [.int (-1), .ref u_17])), (u_28, .inl (u_29, 0, .inr (.inr (.inr (.inr (fun _ => none)))))), (q_4, .inr (1, [.int u_32, .ref u_21, .int 2])), (q_27, .inr (18, [.int (-2), .ref u_28])), (u_21, .inl (u_22, 10, .inr (.inr (.inr (.inr (va_up ((va_up (fun _ => none) (0 : Int32).toNatClampNeg (some q_16))) (1 : Int32).toNatClampNeg (some q_27))))))), (q_36, .inr (18, [.int (-3), .ref u_37])), (u_37, .inl (u_38, 0, .inr (.inr (.inr (.inr (fun _ => none))))))] H := hP
  have hD : va_D A [(mm, .inr (21, [.int 0, .ref q_1, .ref q_4, .ref q_7, .ref q_10])), (q_1, .inr (1, [.int 0, .ref eD, .int 0])), (q_7, .inr (1, [.int 0, .ref eD, .int 0])), (q_10, .inr (1, [.int 0, .ref eD, .int 0])), (q_13, .inl (k_14, 3, .inl (upd (upd (upd (fun _ => 0) (0 : Int32).toNatClampNeg (-1)) (1 : Int32).toNatClampNeg (-2)) (2 : Int32).toNatClampNeg (-3)))), (u_17, .inl (u_18, 0, .inr (.inr (.inr (.inr (fun _ => none)))))), (q_16, .inr (18, [.int (-1), .ref u_17])), (u_28, .inl (u_29, 0, .inr (.inr (.inr (.inr (fun _ => none)))))), (q_4, .inr (1, [.int u_32, .ref u_21, .int 2])), (q_27, .inr (18, [.int (-2), .ref u_28])), (u_21, .inl (u_22, 10, .inr (.inr (.inr (.inr (va_up ((va_up (fun _ => none) (0 : Int32).toNatClampNeg (some q_16))) (1 : Int32).toNatClampNeg (some q_27))))))), (q_36, .inr (18, [.int (-3), .ref u_37])), (u_37, .inl (u_38, 0, .inr (.inr (.inr (.inr (fun _ => none))))))] := hD
  have hK : va_K (dC, dI) vwCl [(k_14, .int), (u_18, .object "HornbookModel$Tree"), (u_22, .object "java/lang/Object"), (u_29, .object "HornbookModel$Tree"), (u_38, .object "HornbookModel$Tree")] s := hK
  refine z_i (wr := [(mm, .inr (21, [.int 0, .ref q_1, .ref q_4, .ref q_7, .ref q_10])), (q_1, .inr (1, [.int 0, .ref eD, .int 0])), (q_7, .inr (1, [.int 0, .ref eD, .int 0])), (q_10, .inr (1, [.int 0, .ref eD, .int 0])), (q_13, .inl (k_14, 3, .inl (upd (upd (upd (fun _ => 0) (0 : Int32).toNatClampNeg (-1)) (1 : Int32).toNatClampNeg (-2)) (2 : Int32).toNatClampNeg (-3)))), (u_17, .inl (u_18, 0, .inr (.inr (.inr (.inr (fun _ => none)))))), (q_16, .inr (18, [.int (-1), .ref u_17])), (u_28, .inl (u_29, 0, .inr (.inr (.inr (.inr (fun _ => none)))))), (q_27, .inr (18, [.int (-2), .ref u_28])), (u_37, .inl (u_38, 0, .inr (.inr (.inr (.inr (fun _ => none))))))]) (va_runV (As := [.ref q_36]) (rest := []) ⟨hx, hb, hml, hown, hts⟩ (c_AL_addn l eD eI ad dC dI H.size u_32 q_4 u_21 u_22 2 3 ((va_up ((va_up (fun _ => none) (0 : Int32).toNatClampNeg (some q_16))) (1 : Int32).toNatClampNeg (some q_27))) q_36 18 ((RX16, TX16, 2)) ([.int (-3), .ref u_37]) (by decide) ((by unfold vp_in; decide)) (by decide) (rfl) (by decide +kernel)) (cwV 1 hts g_c_M_init_3 rfl rfl rfl (by decide +kernel) ⟨Nat.le_of_ble_eq_true rfl, Nat.le_of_ble_eq_true rfl⟩) (z_preV (wc := [(q_4, .inr (1, [.int u_32, .ref u_21, .int 2])), (q_36, .inr (18, [.int (-3), .ref u_37])), (u_21, .inl (u_22, 10, .inr (.inr (.inr (.inr (va_up ((va_up (fun _ => none) (0 : Int32).toNatClampNeg (some q_16))) (1 : Int32).toNatClampNeg (some q_27)))))))]) hP hD hK hS hA hE [8, 11, 10] [2] rfl (by decide) rfl (ci := 1) (q0 := 0) rfl rfl) rfl rfl hl.1 rfl (lv_room (Nat.le_of_ble_eq_true rfl)) dX19_init_94 ⟨Nat.le_of_ble_eq_true rfl, Nat.le_of_ble_eq_true rfl⟩) hP hD hK hS hA [8, 11, 10] [0, 1, 2, 3, 4, 5, 6, 7, 9, 12] rfl rfl (by decide) (by decide) (fun r_42 u H locs hw_43 hP hD hK hS => ?_)
  obtain ⟨u_41, rfl⟩ : ∃ z, z = u := ⟨_, rfl⟩
  have hP : va_P (dC, dI) vwCl [(mm, .inr (21, [.int 0, .ref q_1, .ref q_4, .ref q_7, .ref q_10])), (q_1, .inr (1, [.int 0, .ref eD, .int 0])), (q_7, .inr (1, [.int 0, .ref eD, .int 0])), (q_10, .inr (1, [.int 0, .ref eD, .int 0])), (q_13, .inl (k_14, 3, .inl (upd (upd (upd (fun _ => 0) (0 : Int32).toNatClampNeg (-1)) (1 : Int32).toNatClampNeg (-2)) (2 : Int32).toNatClampNeg (-3)))), (u_17, .inl (u_18, 0, .inr (.inr (.inr (.inr (fun _ => none)))))), (q_16, .inr (18, [.int (-1), .ref u_17])), (u_28, .inl (u_29, 0, .inr (.inr (.inr (.inr (fun _ => none)))))), (q_27, .inr (18, [.int (-2), .ref u_28])), (u_37, .inl (u_38, 0, .inr (.inr (.inr (.inr (fun _ => none)))))), (q_4, .inr (1, [.int u_41, .ref u_21, .int 3])), (q_36, .inr (18, [.int (-3), .ref u_37])), (u_21, .inl (u_22, 10, .inr (.inr (.inr (.inr (va_up ((va_up ((va_up (fun _ => none) (0 : Int32).toNatClampNeg (some q_16))) (1 : Int32).toNatClampNeg (some q_27))) (2 : Int32).toNatClampNeg (some q_36)))))))] H := hP
  have hD : va_D A [(mm, .inr (21, [.int 0, .ref q_1, .ref q_4, .ref q_7, .ref q_10])), (q_1, .inr (1, [.int 0, .ref eD, .int 0])), (q_7, .inr (1, [.int 0, .ref eD, .int 0])), (q_10, .inr (1, [.int 0, .ref eD, .int 0])), (q_13, .inl (k_14, 3, .inl (upd (upd (upd (fun _ => 0) (0 : Int32).toNatClampNeg (-1)) (1 : Int32).toNatClampNeg (-2)) (2 : Int32).toNatClampNeg (-3)))), (u_17, .inl (u_18, 0, .inr (.inr (.inr (.inr (fun _ => none)))))), (q_16, .inr (18, [.int (-1), .ref u_17])), (u_28, .inl (u_29, 0, .inr (.inr (.inr (.inr (fun _ => none)))))), (q_27, .inr (18, [.int (-2), .ref u_28])), (u_37, .inl (u_38, 0, .inr (.inr (.inr (.inr (fun _ => none)))))), (q_4, .inr (1, [.int u_41, .ref u_21, .int 3])), (q_36, .inr (18, [.int (-3), .ref u_37])), (u_21, .inl (u_22, 10, .inr (.inr (.inr (.inr (va_up ((va_up ((va_up (fun _ => none) (0 : Int32).toNatClampNeg (some q_16))) (1 : Int32).toNatClampNeg (some q_27))) (2 : Int32).toNatClampNeg (some q_36)))))))] := hD
  have hK : va_K (dC, dI) vwCl [(k_14, .int), (u_18, .object "HornbookModel$Tree"), (u_22, .object "java/lang/Object"), (u_29, .object "HornbookModel$Tree"), (u_38, .object "HornbookModel$Tree")] s := by simpa using hK
  have hw_43 : r_42 = 1 := hw_43
  have hw_43 := hw_43.symm
  subst hw_43
  refine lv_pop hx hb dX19_init_97 rfl ?_
  refine lv_iinc (v := 3) (lv' := [(3, .int 3), (4, .int (-3)), (2, .int 3), (1, .ref q_13), (0, .ref mm)]) hx hb dX19_init_98 hl (k := 1) rfl (by decide) (by decide) rfl (fun ls hl => ?_)
  refine lv_goto (tgt := 71) hx hb dX19_init_101 (by decide) ?_
  refine lv_iload_n hx hb dX19_init_71 rfl (lv_at hl 0 rfl) ?_
  refine lv_iload_n hx hb dX19_init_72 rfl (lv_at hl 2 rfl) ?_
  refine lv_icmp_ge (tgt := 104) hx hb dX19_init_73 (by decide) (fun c_44 => ?_) (fun c_44 => ?_)
  rotate_left
  · exact absurd (by decide) c_44
  have hP9 := hP.sub (ws' := [(mm, .inr (21, [.int 0, .ref q_1, .ref q_4, .ref q_7, .ref q_10])), (q_1, .inr (1, [.int 0, .ref eD, .int 0])), (q_4, .inr (1, [.int u_41, .ref u_21, .int 3])), (q_7, .inr (1, [.int 0, .ref eD, .int 0])), (q_10, .inr (1, [.int 0, .ref eD, .int 0])), (u_21, .inl (u_22, 10, .inr (.inr (.inr (.inr (va_up ((va_up ((va_up (fun _ => none) (0 : Int32).toNatClampNeg (some q_16))) (1 : Int32).toNatClampNeg (some q_27))) (2 : Int32).toNatClampNeg (some q_36))))))), (q_16, .inr (18, [.int (-1), .ref u_17])), (q_27, .inr (18, [.int (-2), .ref u_28])), (q_36, .inr (18, [.int (-3), .ref u_37])), (u_17, .inl (u_18, 0, .inr (.inr (.inr (.inr (fun _ => none)))))), (u_28, .inl (u_29, 0, .inr (.inr (.inr (.inr (fun _ => none)))))), (u_37, .inl (u_38, 0, .inr (.inr (.inr (.inr (fun _ => none))))))]) [0, 1, 10, 2, 3, 12, 6, 8, 11, 5, 7, 9] rfl
  have hD9 := hD.sub (ws' := [(mm, .inr (21, [.int 0, .ref q_1, .ref q_4, .ref q_7, .ref q_10])), (q_1, .inr (1, [.int 0, .ref eD, .int 0])), (q_4, .inr (1, [.int u_41, .ref u_21, .int 3])), (q_7, .inr (1, [.int 0, .ref eD, .int 0])), (q_10, .inr (1, [.int 0, .ref eD, .int 0])), (u_21, .inl (u_22, 10, .inr (.inr (.inr (.inr (va_up ((va_up ((va_up (fun _ => none) (0 : Int32).toNatClampNeg (some q_16))) (1 : Int32).toNatClampNeg (some q_27))) (2 : Int32).toNatClampNeg (some q_36))))))), (q_16, .inr (18, [.int (-1), .ref u_17])), (q_27, .inr (18, [.int (-2), .ref u_28])), (q_36, .inr (18, [.int (-3), .ref u_37])), (u_17, .inl (u_18, 0, .inr (.inr (.inr (.inr (fun _ => none)))))), (u_28, .inl (u_29, 0, .inr (.inr (.inr (.inr (fun _ => none)))))), (u_37, .inl (u_38, 0, .inr (.inr (.inr (.inr (fun _ => none))))))]) [0, 1, 10, 2, 3, 12, 6, 8, 11, 5, 7, 9] (by decide) rfl
  have hK9 := hK.sub (tys' := [(u_22, .object "java/lang/Object"), (u_18, .object "HornbookModel$Tree"), (u_29, .object "HornbookModel$Tree"), (u_38, .object "HornbookModel$Tree")]) [2, 1, 3, 4] rfl
  refine W.widen (k := 12) (n := 31) (Nat.le_of_ble_eq_true rfl) (Nat.le_of_ble_eq_true rfl) ?_
  exact W.vret hx hb hr (fun t ht hW => ⟨⟨(q_1, q_4, q_7, q_10, u_21, u_22, q_16, q_27, q_36, u_17, u_28, u_37, u_41, u_18, u_29, u_38), rfl, trivial, ⟨by rw [ht]; exact hP9, va_K.moved hW.alike hK9, hD9⟩⟩, hS.F ht⟩) hS.2.2 dX19_init_104
