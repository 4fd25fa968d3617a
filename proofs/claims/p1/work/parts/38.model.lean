theorem dX18_init_0 : decode cX18_init 0 = .ok (.aload_n 0, 1) := by decide +kernel
theorem dX18_init_1 : decode cX18_init 1 = .ok (.invokespecial 3, 3) := by decide +kernel
theorem dX18_init_4 : decode cX18_init 4 = .ok (.aload_n 0, 1) := by decide +kernel
theorem dX18_init_5 : decode cX18_init 5 = .ok (.iconst (-1), 1) := by decide +kernel
theorem dX18_init_6 : decode cX18_init 6 = .ok (.putfield 9, 3) := by decide +kernel
theorem dX18_init_9 : decode cX18_init 9 = .ok (.return_, 1) := by decide +kernel
theorem dX17_call_0 : decode cX17_call 0 = .ok (.aload_n 0, 1) := by decide +kernel
theorem dX17_call_1 : decode cX17_call 1 = .ok (.aload_n 1, 1) := by decide +kernel
theorem dX17_call_2 : decode cX17_call 2 = .ok (.invokevirtual 72, 3) := by decide +kernel
theorem dX17_call_5 : decode cX17_call 5 = .ok (.astore 5, 2) := by decide +kernel
theorem dX17_call_7 : decode cX17_call 7 = .ok (.new 33, 3) := by decide +kernel
theorem dX17_call_10 : decode cX17_call 10 = .ok (.dup, 1) := by decide +kernel
theorem dX17_call_11 : decode cX17_call 11 = .ok (.invokespecial 67, 3) := by decide +kernel
theorem dX17_call_14 : decode cX17_call 14 = .ok (.astore 6, 2) := by decide +kernel
theorem dX17_call_16 : decode cX17_call 16 = .ok (.iconst 0, 1) := by decide +kernel
theorem dX17_call_17 : decode cX17_call 17 = .ok (.istore 7, 2) := by decide +kernel
theorem dX17_call_19 : decode cX17_call 19 = .ok (.iload 7, 2) := by decide +kernel
theorem dX17_call_21 : decode cX17_call 21 = .ok (.aload_n 0, 1) := by decide +kernel
theorem dX17_call_22 : decode cX17_call 22 = .ok (.getfield 3, 3) := by decide +kernel
theorem dX17_call_25 : decode cX17_call 25 = .ok (.getfield 112, 3) := by decide +kernel
theorem dX17_call_28 : decode cX17_call 28 = .ok (.invokevirtual 43, 3) := by decide +kernel
theorem dX17_call_31 : decode cX17_call 31 = .ok (.if_icmp .ge 144, 3) := by decide +kernel
theorem dX17_call_175 : decode cX17_call 175 = .ok (.aload 4, 2) := by decide +kernel
theorem dX17_call_177 : decode cX17_call 177 = .ok (.aload 6, 2) := by decide +kernel
theorem dX17_call_179 : decode cX17_call 179 = .ok (.invokevirtual 43, 3) := by decide +kernel
theorem dX17_call_182 : decode cX17_call 182 = .ok (.putfield 162, 3) := by decide +kernel
theorem dX17_call_185 : decode cX17_call 185 = .ok (.aload 4, 2) := by decide +kernel
theorem dX17_call_187 : decode cX17_call 187 = .ok (.new 47, 3) := by decide +kernel
theorem dX17_call_190 : decode cX17_call 190 = .ok (.dup, 1) := by decide +kernel
theorem dX17_call_191 : decode cX17_call 191 = .ok (.bipush (-2), 2) := by decide +kernel
theorem dX17_call_193 : decode cX17_call 193 = .ok (.invokespecial 99, 3) := by decide +kernel
theorem dX17_call_196 : decode cX17_call 196 = .ok (.putfield 164, 3) := by decide +kernel
theorem dX17_call_199 : decode cX17_call 199 = .ok (.aload 4, 2) := by decide +kernel
theorem dX17_call_201 : decode cX17_call 201 = .ok (.aload 4, 2) := by decide +kernel
theorem dX17_call_203 : decode cX17_call 203 = .ok (.getfield 153, 3) := by decide +kernel
theorem dX17_call_206 : decode cX17_call 206 = .ok (.ifCond .ne 7, 3) := by decide +kernel
theorem dX17_call_209 : decode cX17_call 209 = .ok (.iconst 1, 1) := by decide +kernel
theorem dX17_call_210 : decode cX17_call 210 = .ok (.goto 16, 3) := by decide +kernel
theorem dX17_call_226 : decode cX17_call 226 = .ok (.putfield 170, 3) := by decide +kernel
theorem dX17_call_229 : decode cX17_call 229 = .ok (.iconst 0, 1) := by decide +kernel
theorem dX17_call_230 : decode cX17_call 230 = .ok (.istore 7, 2) := by decide +kernel
theorem dX17_call_232 : decode cX17_call 232 = .ok (.iload 7, 2) := by decide +kernel
theorem dX17_call_234 : decode cX17_call 234 = .ok (.aload 6, 2) := by decide +kernel
theorem dX17_call_236 : decode cX17_call 236 = .ok (.invokevirtual 43, 3) := by decide +kernel
theorem dX17_call_239 : decode cX17_call 239 = .ok (.if_icmp .ge 143, 3) := by decide +kernel
theorem dX17_call_382 : decode cX17_call 382 = .ok (.return_, 1) := by decide +kernel
theorem dX19_trees_0 : decode cX19_trees 0 = .ok (.iload_n 1, 1) := by decide +kernel
theorem dX19_trees_1 : decode cX19_trees 1 = .ok (.iconst (-1), 1) := by decide +kernel
theorem dX19_trees_2 : decode cX19_trees 2 = .ok (.if_icmp .ne 7, 3) := by decide +kernel
theorem dX19_trees_5 : decode cX19_trees 5 = .ok (.iconst 0, 1) := by decide +kernel
theorem dX19_trees_6 : decode cX19_trees 6 = .ok (.goto 13, 3) := by decide +kernel
theorem dX19_trees_19 : decode cX19_trees 19 = .ok (.anewarray 25, 3) := by decide +kernel
theorem dX19_trees_22 : decode cX19_trees 22 = .ok (.astore_n 3, 1) := by decide +kernel
theorem dX19_trees_23 : decode cX19_trees 23 = .ok (.aload_n 3, 1) := by decide +kernel
theorem dX19_trees_24 : decode cX19_trees 24 = .ok (.arraylength, 1) := by decide +kernel
theorem dX19_trees_25 : decode cX19_trees 25 = .ok (.ifCond .le 11, 3) := by decide +kernel
theorem dX19_trees_36 : decode cX19_trees 36 = .ok (.aload_n 3, 1) := by decide +kernel
theorem dX19_trees_37 : decode cX19_trees 37 = .ok (.arraylength, 1) := by decide +kernel
theorem dX19_trees_38 : decode cX19_trees 38 = .ok (.iconst 1, 1) := by decide +kernel
theorem dX19_trees_39 : decode cX19_trees 39 = .ok (.if_icmp .le 11, 3) := by decide +kernel
theorem dX19_trees_50 : decode cX19_trees 50 = .ok (.aload_n 3, 1) := by decide +kernel
theorem dX19_trees_51 : decode cX19_trees 51 = .ok (.areturn, 1) := by decide +kernel
theorem dX19_trees_9 : decode cX19_trees 9 = .ok (.iload_n 2, 1) := by decide +kernel
theorem dX19_trees_10 : decode cX19_trees 10 = .ok (.iconst (-1), 1) := by decide +kernel
theorem dX19_trees_11 : decode cX19_trees 11 = .ok (.if_icmp .ne 7, 3) := by decide +kernel
theorem dX19_trees_14 : decode cX19_trees 14 = .ok (.iconst 1, 1) := by decide +kernel
theorem dX19_trees_15 : decode cX19_trees 15 = .ok (.goto 4, 3) := by decide +kernel
theorem dX19_trees_28 : decode cX19_trees 28 = .ok (.aload_n 3, 1) := by decide +kernel
theorem dX19_trees_29 : decode cX19_trees 29 = .ok (.iconst 0, 1) := by decide +kernel
theorem dX19_trees_30 : decode cX19_trees 30 = .ok (.aload_n 0, 1) := by decide +kernel
theorem dX19_trees_31 : decode cX19_trees 31 = .ok (.iload_n 1, 1) := by decide +kernel
theorem dX19_trees_32 : decode cX19_trees 32 = .ok (.invokevirtual 87, 3) := by decide +kernel
theorem dX19_trees_35 : decode cX19_trees 35 = .ok (.aastore, 1) := by decide +kernel
theorem dX19_trees_18 : decode cX19_trees 18 = .ok (.iconst 2, 1) := by decide +kernel
theorem dX19_trees_42 : decode cX19_trees 42 = .ok (.aload_n 3, 1) := by decide +kernel
theorem dX19_trees_43 : decode cX19_trees 43 = .ok (.iconst 1, 1) := by decide +kernel
theorem dX19_trees_44 : decode cX19_trees 44 = .ok (.aload_n 0, 1) := by decide +kernel
theorem dX19_trees_45 : decode cX19_trees 45 = .ok (.iload_n 2, 1) := by decide +kernel
theorem dX19_trees_46 : decode cX19_trees 46 = .ok (.invokevirtual 87, 3) := by decide +kernel
theorem dX19_trees_49 : decode cX19_trees 49 = .ok (.aastore, 1) := by decide +kernel
def wb_c_W_init : List Cond := [.methodLink RX18 3 objectInit, .instanceMethod objectInit, .code objectInit ⟨#[0xb1]⟩ 1 none, .fieldLink RX18 9 "HornbookModel$Word" "chosen" "I"] ++ u_ws RX18 TX18 7
def w_c_W_init : List Cond := .code yX18_init cX18_init 1 none :: wb_c_W_init
set_option maxHeartbeats 4000000 in
set_option maxRecDepth 100000 in
theorem c_W_init (l : Launch) (eD eI : Nat) (ad : Nat → Nat) (dC : Nat → ClassId) (dI : Nat → Nat → Nat) (sz : Nat) (wd : Nat) : Met l yX18_init w_c_W_init ({ frames := 1, cells := 0, slots := 0, locals := 12 }) (va_Pc [.ref wd] (zPre eD eI ad (dC, dI) [(wd, .inr (20, [.null, .int 0, .int 0, .int 0, .null, .int 0, .int 0]))] [] sz)) (va_Qv (fun (_ : Unit) => True) (fun (_ : Unit) => zEnd (dC, dI) (va_A [(wd, .inr (20, [.null, .int 0, .int 0, .int 0, .null, .int 0, .int 0]))] sz) [(wd, .inr (20, [.null, .int 0, .int 0, .int (-1), .null, .int 0, .int 0]))] []) (va_A [(wd, .inr (20, [.null, .int 0, .int 0, .int 0, .null, .int 0, .int 0]))] sz)) 0 0 (va_A [(wd, .inr (20, [.null, .int 0, .int 0, .int 0, .null, .int 0, .int 0]))] sz) := by
  refine Met.ofW (cc := cX18_init) (maxL := 1) (ret := none) (by decide) rfl ?_
  intro p e s m args below meth c s₁ B hml hv
  obtain ⟨rfl, hsz, hP, hK, hD0, hE⟩ := hv
  have hx := B.exec
  have hb := B.bytes
  have hr := B.returns
  have hts := atoms_spec (ws := w_c_W_init) B.pre
  have hown : s.vm.findClass RX18 = some m.cls := findClass_of_methodNamed B.named
  have hlocks := B.notSynchronized
  have hin : meth.name = "<init>" := (name_of_methodNamed B.named B.method).1
  subst hsz
  have hD := hD0.self (sz := s.heap.size)
  generalize hAe : va_A [(wd, .inr (20, [.null, .int 0, .int 0, .int 0, .null, .int 0, .int 0]))] s.heap.size = A at hD hE ⊢
  have hA : ∀ q : Nat, s.heap.size ≤ q → A q := fun q h => by rw [← hAe]; exact Or.inr h
  have hS : va_S A s.heap s.heap [] := va_S.rf
  have hP : va_P (dC, dI) vwCl [(wd, .inr (20, [.null, .int 0, .int 0, .int 0, .null, .int 0, .int 0]))] s.heap := hP
  have hl := lv_entry ([.ref wd]) (n := 1) (Nat.le_of_ble_eq_true rfl)
  rw [lg_entry_eq]
  generalize (lg_sl ([.ref wd]) ++ List.replicate (1 - (lg_sl ([.ref wd])).length) Slot.unset).toArray = ls at hl ⊢
  have hl : lv_has ls 1 [(0, .ref wd)] := hl
  have in_RX18 : ∀ w ∈ u_ws RX18 TX18 7, w ∈ w_c_W_init := by decide +kernel
  refine lv_aload_n hx hb dX18_init_0 rfl (lv_at hl 0 rfl) ?_
  refine W.objInit hx hb hown (hts (.methodLink RX18 3 objectInit) (by decide +kernel)) (hts (.instanceMethod objectInit) (by decide +kernel)) (hts (.code objectInit ⟨#[0xb1]⟩ 1 none) (by decide +kernel)) rfl (by rw [hml]; exact hl.1) rfl dX18_init_1 (Nat.le_of_ble_eq_true rfl) (Nat.le_of_ble_eq_true rfl) ?_
  refine W.eq (g2 := F0 m 4 ls ([])) rfl ?_
  refine lv_aload_n hx hb dX18_init_4 rfl (lv_at hl 0 rfl) ?_
  refine lv_iconst (v := (-1)) hx hb dX18_init_5 (by decide) ?_
  refine va_put (D := (dC, dI)) (ci := 20) (v := .int (-1)) (ty := .int) (C := RX18) (T := TX18) (N := 7) hx hb hts in_RX18 tyX18 tyX18_ok nmX18 hown hK hP hD hS 0 rfl rfl 3 (by decide) (hts (.fieldLink RX18 9 "HornbookModel$Word" "chosen" "I") (by decide +kernel)) (fun _ h9 => h9) rfl (by decide +kernel) rfl rfl (Nat.le_of_ble_eq_true rfl) dX18_init_6 (fun H locs hP hD hS => ?_)
  have hP : va_P (dC, dI) vwCl [(wd, .inr (20, [.null, .int 0, .int 0, .int (-1), .null, .int 0, .int 0]))] H := hP
  have hD : va_D A [(wd, .inr (20, [.null, .int 0, .int 0, .int (-1), .null, .int 0, .int 0]))] := hD
  have hP9 := hP.sub (ws' := [(wd, .inr (20, [.null, .int 0, .int 0, .int (-1), .null, .int 0, .int 0]))]) [0] rfl
  have hD9 := hD.sub (ws' := [(wd, .inr (20, [.null, .int 0, .int 0, .int (-1), .null, .int 0, .int 0]))]) [0] (by decide) rfl
  have hK9 := hK.sub (tys' := []) [] rfl
  refine W.widen (k := 0) (n := 0) (Nat.le_of_ble_eq_true rfl) (Nat.le_of_ble_eq_true rfl) ?_
  exact W.vret hx hb hr (fun t ht hW => ⟨⟨(), rfl, trivial, ⟨by rw [ht]; exact hP9, va_K.moved hW.alike hK9, hD9⟩⟩, hS.F ht⟩) hS.2.2 dX18_init_9

def wb_c_V_call : List Cond := [.code yX17_road cX17_road 3 (some (.object "java/util/ArrayList")), .classLink RX17 33 RJx4a65c, .instantiable RJx4a65c 3, .initialized RJx4a65c, .code yJx4a65c_init_da8c8 cJx4a65c_init_da8c8 1 none, .code yJxc12de_init_da8c8 cJxc12de_init_da8c8 1 none, .code yJxa1e45_init_da8c8 cJxa1e45_init_da8c8 1 none, .methodLink RJxa1e45 1 objectInit, .instanceMethod objectInit, .code objectInit ⟨#[0xb1]⟩ 1 none, .initialized RJxa1e45, .methodLink RJxc12de 1 yJxa1e45_init_da8c8, .instanceMethod yJxa1e45_init_da8c8, .fieldLink RJxc12de 7 "java/util/AbstractList" "modCount" "I", .initialized RJxc12de, .methodLink RJx4a65c 1 yJxc12de_init_da8c8, .instanceMethod yJxc12de_init_da8c8, .fieldLink RJx4a65c 39 "java/util/ArrayList" "DEFAULTCAPACITY_EMPTY_ELEMENTDATA" "[Ljava/lang/Object;", .fieldLink RJx4a65c 9 "java/util/ArrayList" "elementData" "[Ljava/lang/Object;", .methodLink RX17 67 yJx4a65c_init_da8c8, .instanceMethod yJx4a65c_init_da8c8, .code yX16_isSort cX16_isSort 1 (some .boolean), .fieldLink RX16 14 "HornbookModel$Tree" "head" "I", .methodLink RX17 68 yX16_isSort, .instanceMethod yX16_isSort, .selects RX16 yX16_isSort yX16_isSort, .initialized RX16, .methodLink RX17 72 yX17_road, .instanceMethod yX17_road, .selects RX17 yX17_road yX17_road, .initialized RX17, .fieldLink RX17 3 "HornbookModel$View" "this$0" "LHornbookModel;", .code yJx4a65c_size_8abf5 cJx4a65c_size_8abf5 1 (some .int), .fieldLink RJx4a65c 48 "java/util/ArrayList" "size" "I", .methodLink RX17 43 yJx4a65c_size_8abf5, .instanceMethod yJx4a65c_size_8abf5, .selects RJx4a65c yJx4a65c_size_8abf5 yJx4a65c_size_8abf5, .fieldLink RX17 162 "HornbookModel$Word" "taking" "I", .classLink RX17 47 RX16, .instantiable RX16 2, .code yX16_init cX16_init 2 none, .classLink RX16 3 "HornbookModel$Tree", .code yX16_init_ cX16_init_ 3 none, .methodLink RX16 9 objectInit, .fieldLink RX16 18 "HornbookModel$Tree" "inner" "[LHornbookModel$Tree;", .methodLink RX16 5 yX16_init_, .instanceMethod yX16_init_, .methodLink RX17 99 yX16_init, .instanceMethod yX16_init, .fieldLink RX17 164 "HornbookModel$Word" "type" "LHornbookModel$Tree;", .fieldLink RX17 153 "HornbookModel$Word" "seen" "I", .fieldLink RX17 170 "HornbookModel$Word" "fault" "I"] ++ u_ws RJx4a65c TJx4a65c 3 ++ u_ws RX16 TX16 2 ++ u_ws RX17 TX17 5 ++ u_ws RX18 TX18 7 ++ u_ws RX19 TX19 5
def w_c_V_call : List Cond := .code yX17_call cX17_call 10 none :: wb_c_V_call
set_option maxRecDepth 100000 in
theorem g_c_V_call_0 : GoodIn w_c_V_call (wsV RX17 72 RX17 yX17_road w_c_V_road) := goodIn_app (goodIn_of _ (by decide +kernel)) (goodIn_p (big := w_c_V_call) (.code yX17_road cX17_road 3 (some (.object "java/util/ArrayList")) :: wb_c_V_road) [1, 5, 6, 7, 10, 22] rfl (by decide +kernel))
set_option maxRecDepth 100000 in
theorem g_c_V_call_1 : GoodIn w_c_V_call (w_c_AL_init) := goodIn_p (big := w_c_V_call) (.code yJx4a65c_init_da8c8 cJx4a65c_init_da8c8 1 none :: wb_c_AL_init) [5, 6, 7, 10] rfl (by decide +kernel)
set_option maxRecDepth 100000 in
theorem g_c_V_call_2 : GoodIn w_c_V_call (wsV RX17 43 RJx4a65c yJx4a65c_size_8abf5 w_c_AL_size) := goodIn_app (goodIn_of _ (by decide +kernel)) (goodIn_p (big := w_c_V_call) (.code yJx4a65c_size_8abf5 cJx4a65c_size_8abf5 1 (some .int) :: wb_c_AL_size) [33] rfl (by decide +kernel))
set_option maxRecDepth 100000 in
theorem g_c_V_call_3 : GoodIn w_c_V_call (w_c_T_init1) := goodIn_p (big := w_c_V_call) (.code yX16_init cX16_init 2 none :: wb_c_T_init1) [41, 43, 10] rfl (by decide +kernel)
set_option maxHeartbeats 4000000 in
set_option maxRecDepth 100000 in
theorem c_V_call (l : Launch) (eD eI : Nat) (ad : Nat → Nat) (dC : Nat → ClassId) (dI : Nat → Nat → Nat) (sz : Nat) (vw : Nat) (mm : Nat) (ms : Nat) (mt : Nat) (mh : Nat) (me : Nat) (th : Int32) (h : Nat) (hd : Int32) (f1 : Value) (nm : Int32) (tk : Nat) (wd : Nat) (h1 : hd < 0) : Met l yX17_call w_c_V_call ({ frames := 5, cells := 4, slots := 8, locals := 94 }) (va_Pc [.ref vw, .ref h, .int nm, .ref tk, .ref wd] (zPre eD eI ad (dC, dI) [(vw, .inr (19, [.int (-1), .int (-1), .int (-1), .int (-1), .ref mm])), (mm, .inr (21, [.int th, .ref ms, .ref mt, .ref mh, .ref me])), (mh, .inr (1, [.int 0, .ref eD, .int 0])), (h, .inr (18, [.int hd, f1])), (wd, .inr (20, [.null, .int 0, .int 0, .int (-1), .null, .int 0, .int 0]))] [] sz)) (va_Qv (fun (nt : Nat) => True) (fun (nt : Nat) => zEnd (dC, dI) (va_A [(vw, .inr (19, [.int (-1), .int (-1), .int (-1), .int (-1), .ref mm])), (mm, .inr (21, [.int th, .ref ms, .ref mt, .ref mh, .ref me])), (mh, .inr (1, [.int 0, .ref eD, .int 0])), (h, .inr (18, [.int hd, f1])), (wd, .inr (20, [.null, .int 0, .int 0, .int (-1), .null, .int 0, .int 0]))] sz) [(mm, .inr (21, [.int th, .ref ms, .ref mt, .ref mh, .ref me])), (wd, .inr (20, [.ref nt, .int 0, .int 0, .int (-1), .null, .int 1, .int 0]))] []) (va_A [(vw, .inr (19, [.int (-1), .int (-1), .int (-1), .int (-1), .ref mm])), (mm, .inr (21, [.int th, .ref ms, .ref mt, .ref mh, .ref me])), (mh, .inr (1, [.int 0, .ref eD, .int 0])), (h, .inr (18, [.int hd, f1])), (wd, .inr (20, [.null, .int 0, .int 0, .int (-1), .null, .int 0, .int 0]))] sz)) 4 8 (va_A [(vw, .inr (19, [.int (-1), .int (-1), .int (-1), .int (-1), .ref mm])), (mm, .inr (21, [.int th, .ref ms, .ref mt, .ref mh, .ref me])), (mh, .inr (1, [.int 0, .ref eD, .int 0])), (h, .inr (18, [.int hd, f1])), (wd, .inr (20, [.null, .int 0, .int 0, .int (-1), .null, .int 0, .int 0]))] sz) := by
  refine Met.ofW (cc := cX17_call) (maxL := 10) (ret := none) (by decide) rfl ?_
  intro p e s m args below meth c s₁ B hml hv
  obtain ⟨rfl, hsz, hP, hK, hD0, hE⟩ := hv
  have hx := B.exec
  have hb := B.bytes
  have hr := B.returns
  have hts := atoms_spec (ws := w_c_V_call) B.pre
  have hown : s.vm.findClass RX17 = some m.cls := findClass_of_methodNamed B.named
  have hlocks := B.notSynchronized
  subst hsz
  have hD := hD0.self (sz := s.heap.size)
  generalize hAe : va_A [(vw, .inr (19, [.int (-1), .int (-1), .int (-1), .int (-1), .ref mm])), (mm, .inr (21, [.int th, .ref ms, .ref mt, .ref mh, .ref me])), (mh, .inr (1, [.int 0, .ref eD, .int 0])), (h, .inr (18, [.int hd, f1])), (wd, .inr (20, [.null, .int 0, .int 0, .int (-1), .null, .int 0, .int 0]))] s.heap.size = A at hD hE ⊢
  have hA : ∀ q : Nat, s.heap.size ≤ q → A q := fun q h => by rw [← hAe]; exact Or.inr h
  have hS : va_S A s.heap s.heap [] := va_S.rf
  have hP : va_P (dC, dI) vwCl [(vw, .inr (19, [.int (-1), .int (-1), .int (-1), .int (-1), .ref mm])), (mm, .inr (21, [.int th, .ref ms, .ref mt, .ref mh, .ref me])), (mh, .inr (1, [.int 0, .ref eD, .int 0])), (h, .inr (18, [.int hd, f1])), (wd, .inr (20, [.null, .int 0, .int 0, .int (-1), .null, .int 0, .int 0]))] s.heap := hP
  have hl := lv_entry ([.ref vw, .ref h, .int nm, .ref tk, .ref wd]) (n := 10) (Nat.le_of_ble_eq_true rfl)
  rw [lg_entry_eq]
  generalize (lg_sl ([.ref vw, .ref h, .int nm, .ref tk, .ref wd]) ++ List.replicate (10 - (lg_sl ([.ref vw, .ref h, .int nm, .ref tk, .ref wd])).length) Slot.unset).toArray = ls at hl ⊢
  have hl : lv_has ls 10 [(0, .ref vw), (1, .ref h), (2, .int nm), (3, .ref tk), (4, .ref wd)] := hl
  have in_RJx4a65c : ∀ w ∈ u_ws RJx4a65c TJx4a65c 3, w ∈ w_c_V_call := by decide +kernel
  have in_RX16 : ∀ w ∈ u_ws RX16 TX16 2, w ∈ w_c_V_call := by decide +kernel
  have in_RX17 : ∀ w ∈ u_ws RX17 TX17 5, w ∈ w_c_V_call := by decide +kernel
  have in_RX18 : ∀ w ∈ u_ws RX18 TX18 7, w ∈ w_c_V_call := by decide +kernel
  have in_RX19 : ∀ w ∈ u_ws RX19 TX19 5, w ∈ w_c_V_call := by decide +kernel
  refine lv_aload_n hx hb dX17_call_0 rfl (lv_at hl 0 rfl) ?_
  refine lv_aload_n hx hb dX17_call_1 rfl (lv_at hl 1 rfl) ?_
  refine z_q (wr := [(mm, .inr (21, [.int th, .ref ms, .ref mt, .ref mh, .ref me])), (mh, .inr (1, [.int 0, .ref eD, .int 0])), (wd, .inr (20, [.null, .int 0, .int 0, .int (-1), .null, .int 0, .int 0]))]) (va_runV (As := [.ref h]) (rest := []) ⟨hx, hb, hml, hown, hts⟩ (c_V_road l eD eI ad dC dI s.heap.size vw mm h hd f1 (h1)) (cwV 1 hts g_c_V_call_0 rfl rfl rfl (by decide +kernel) ⟨Nat.le_of_ble_eq_true rfl, Nat.le_of_ble_eq_true rfl⟩) (z_preV (wc := [(vw, .inr (19, [.int (-1), .int (-1), .int (-1), .int (-1), .ref mm])), (h, .inr (18, [.int hd, f1]))]) hP hD hK hS hA hE [0, 3] [] rfl (by decide) rfl (ci := 19) (q0 := 0) rfl rfl) rfl rfl hl.1 rfl (lv_room (Nat.le_of_ble_eq_true rfl)) dX17_call_2 ⟨Nat.le_of_ble_eq_true rfl, Nat.le_of_ble_eq_true rfl⟩) hP hD hK hS hA [0, 3] [1, 2, 4] rfl rfl (by decide) (by decide) (fun r_2 u H locs hw_3 hP hD hK hS => ?_)
  obtain ⟨u_1, rfl⟩ : ∃ z, z = u := ⟨_, rfl⟩
  have hP : va_P (dC, dI) vwCl [(mm, .inr (21, [.int th, .ref ms, .ref mt, .ref mh, .ref me])), (mh, .inr (1, [.int 0, .ref eD, .int 0])), (wd, .inr (20, [.null, .int 0, .int 0, .int (-1), .null, .int 0, .int 0])), (vw, .inr (19, [.int (-1), .int (-1), .int (-1), .int (-1), .ref mm])), (h, .inr (18, [.int hd, f1])), (u_1, .inr (1, [.int 0, .ref eD, .int 0]))] H := hP
  have hD : va_D A [(mm, .inr (21, [.int th, .ref ms, .ref mt, .ref mh, .ref me])), (mh, .inr (1, [.int 0, .ref eD, .int 0])), (wd, .inr (20, [.null, .int 0, .int 0, .int (-1), .null, .int 0, .int 0])), (vw, .inr (19, [.int (-1), .int (-1), .int (-1), .int (-1), .ref mm])), (h, .inr (18, [.int hd, f1])), (u_1, .inr (1, [.int 0, .ref eD, .int 0]))] := hD
  have hK : va_K (dC, dI) vwCl [] s := by simpa using hK
  have hw_3 : r_2 = some u_1 := hw_3
  have hw_3 := hw_3.symm
  subst hw_3
  refine W.eq (g2 := F0 m 5 ls (.ref u_1 :: [])) rfl ?_
  refine lv_astore (lv' := [(5, .ref u_1), (0, .ref vw), (1, .ref h), (2, .int nm), (3, .ref tk), (4, .ref wd)]) hx hb dX17_call_5 hl (by decide) rfl (fun ls hl => ?_)
  refine va_new (ci := 1) (fs := [.int 0, .null, .int 0]) (C := RJx4a65c) (T := TJx4a65c) (N := 3) hx hb hts in_RJx4a65c tyJx4a65c tyJx4a65c_ok hown (hts (.classLink RX17 33 RJx4a65c) (by decide +kernel)) (hts (.instantiable RJx4a65c 3) (by decide +kernel)) (hts (.initialized RJx4a65c) (by decide +kernel)) hK hP hD hS hA rfl (fun j hj => by rcases (show j = 0 ∨ j = 1 ∨ j = 2 by omega) with rfl | rfl | rfl <;> rfl) (Nat.le_of_ble_eq_true rfl) (Nat.le_of_ble_eq_true rfl) dX17_call_7 (fun q_4 H hP hD hS => ?_)
  have hP : va_P (dC, dI) vwCl [(mm, .inr (21, [.int th, .ref ms, .ref mt, .ref mh, .ref me])), (mh, .inr (1, [.int 0, .ref eD, .int 0])), (wd, .inr (20, [.null, .int 0, .int 0, .int (-1), .null, .int 0, .int 0])), (vw, .inr (19, [.int (-1), .int (-1), .int (-1), .int (-1), .ref mm])), (h, .inr (18, [.int hd, f1])), (u_1, .inr (1, [.int 0, .ref eD, .int 0])), (q_4, .inr (1, [.int 0, .null, .int 0]))] H := hP
  have hD : va_D A [(mm, .inr (21, [.int th, .ref ms, .ref mt, .ref mh, .ref me])), (mh, .inr (1, [.int 0, .ref eD, .int 0])), (wd, .inr (20, [.null, .int 0, .int 0, .int (-1), .null, .int 0, .int 0])), (vw, .inr (19, [.int (-1), .int (-1), .int (-1), .int (-1), .ref mm])), (h, .inr (18, [.int hd, f1])), (u_1, .inr (1, [.int 0, .ref eD, .int 0])), (q_4, .inr (1, [.int 0, .null, .int 0]))] := hD
  refine lv_dup hx hb dX17_call_10 rfl ?_
  refine z_v (wr := [(mm, .inr (21, [.int th, .ref ms, .ref mt, .ref mh, .ref me])), (mh, .inr (1, [.int 0, .ref eD, .int 0])), (wd, .inr (20, [.null, .int 0, .int 0, .int (-1), .null, .int 0, .int 0])), (vw, .inr (19, [.int (-1), .int (-1), .int (-1), .int (-1), .ref mm])), (h, .inr (18, [.int hd, f1])), (u_1, .inr (1, [.int 0, .ref eD, .int 0]))]) (va_runI (As := []) (rest := [.ref q_4]) ⟨hx, hb, hml, hown, hts⟩ (c_AL_init l eD eI ad dC dI H.size q_4) (cwI 0 hts g_c_V_call_1 rfl rfl rfl (hts (.initialized RJx4a65c) (by decide +kernel)) (hts (.methodLink RX17 67 yJx4a65c_init_da8c8) (by decide +kernel)) (hts (.instanceMethod yJx4a65c_init_da8c8) (by decide +kernel)) rfl (by decide +kernel) ⟨Nat.le_of_ble_eq_true rfl, Nat.le_of_ble_eq_true rfl⟩) (z_preS (wc := [(q_4, .inr (1, [.int 0, .null, .int 0]))]) hP hD hK hS hA hE [6] [] rfl (by decide) rfl) rfl rfl hl.1 rfl (lv_room (Nat.le_of_ble_eq_true rfl)) dX17_call_11 ⟨Nat.le_of_ble_eq_true rfl, Nat.le_of_ble_eq_true rfl⟩) hP hD hK hS hA [6] [0, 1, 2, 3, 4, 5] rfl rfl (by decide) (by decide) (fun u H locs hw_6 hP hD hK hS => ?_)
  obtain ⟨⟩ := u
  have hP : va_P (dC, dI) vwCl [(mm, .inr (21, [.int th, .ref ms, .ref mt, .ref mh, .ref me])), (mh, .inr (1, [.int 0, .ref eD, .int 0])), (wd, .inr (20, [.null, .int 0, .int 0, .int (-1), .null, .int 0, .int 0])), (vw, .inr (19, [.int (-1), .int (-1), .int (-1), .int (-1), .ref mm])), (h, .inr (18, [.int hd, f1])), (u_1, .inr (1, [.int 0, .ref eD, .int 0])), (q_4, .inr (1, [.int 0, .ref eD, .int 0]))] H := hP
  have hD : va_D A [(mm, .inr (21, [.int th, .ref ms, .ref mt, .ref mh, .ref me])), (mh, .inr (1, [.int 0, .ref eD, .int 0])), (wd, .inr (20, [.null, .int 0, .int 0, .int (-1), .null, .int 0, .int 0])), (vw, .inr (19, [.int (-1), .int (-1), .int (-1), .int (-1), .ref mm])), (h, .inr (18, [.int hd, f1])), (u_1, .inr (1, [.int 0, .ref eD, .int 0])), (q_4, .inr (1, [.int 0, .ref eD, .int 0]))] := hD
  have hK : va_K (dC, dI) vwCl [] s := by simpa using hK
  refine lv_astore (lv' := [(6, .ref q_4), (5, .ref u_1), (0, .ref vw), (1, .ref h), (2, .int nm), (3, .ref tk), (4, .ref wd)]) hx hb dX17_call_14 hl (by decide) rfl (fun ls hl => ?_)
  refine lv_iconst (v := 0) hx hb dX17_call_16 (by decide) ?_
  refine lv_istore (lv' := [(7, .int 0), (6, .ref q_4), (5, .ref u_1), (0, .ref vw), (1, .ref h), (2, .int nm), (3, .ref tk), (4, .ref wd)]) hx hb dX17_call_17 hl (by decide) rfl (fun ls hl => ?_)
  refine lv_iload hx hb dX17_call_19 (lv_at hl 0 rfl) ?_
  refine lv_aload_n hx hb dX17_call_21 rfl (lv_at hl 3 rfl) ?_
  refine va_get (D := (dC, dI)) (ci := 19) (v := .ref mm) (C := RX17) (T := TX17) (N := 5) hx hb hts in_RX17 hown hK hP 3 rfl rfl 4 (by decide) (hts (.fieldLink RX17 3 "HornbookModel$View" "this$0" "LHornbookModel;") (by decide +kernel)) (fun _ h9 => h9) rfl dX17_call_22 ?_
  refine va_getN (D := (dC, dI)) (ci := 21) (v := .ref mh) (C := RX19) (T := TX19) (N := 5) hx hb hts in_RX19 hown hK hP 0 rfl rfl 3 (by decide) (va_Nw.use rfl (hE.2.2.1 (.fieldLinkNest RX17 112 "HornbookModel" "methods" "Ljava/util/ArrayList;" "HornbookModel") (by decide +kernel))) (fun _ h9 => h9) rfl dX17_call_25 ?_
  refine z_i (wr := [(mm, .inr (21, [.int th, .ref ms, .ref mt, .ref mh, .ref me])), (wd, .inr (20, [.null, .int 0, .int 0, .int (-1), .null, .int 0, .int 0])), (vw, .inr (19, [.int (-1), .int (-1), .int (-1), .int (-1), .ref mm])), (h, .inr (18, [.int hd, f1])), (u_1, .inr (1, [.int 0, .ref eD, .int 0])), (q_4, .inr (1, [.int 0, .ref eD, .int 0]))]) (va_runV (As := []) (rest := [.int 0]) ⟨hx, hb, hml, hown, hts⟩ (c_AL_size l eD eI ad dC dI H.size mh ((.int 0)) ((.ref eD)) 0) (cwV 0 hts g_c_V_call_2 rfl rfl rfl (by decide +kernel) ⟨Nat.le_of_ble_eq_true rfl, Nat.le_of_ble_eq_true rfl⟩) (z_preV (wc := [(mh, .inr (1, [.int 0, .ref eD, .int 0]))]) hP hD hK hS hA hE [1] [] rfl (by decide) rfl (ci := 1) (q0 := 0) rfl rfl) rfl rfl hl.1 rfl (lv_room (Nat.le_of_ble_eq_true rfl)) dX17_call_28 ⟨Nat.le_of_ble_eq_true rfl, Nat.le_of_ble_eq_true rfl⟩) hP hD hK hS hA [1] [0, 2, 3, 4, 5, 6] rfl rfl (by decide) (by decide) (fun r_7 u H locs hw_8 hP hD hK hS => ?_)
  obtain ⟨⟩ := u
  have hP : va_P (dC, dI) vwCl [(mm, .inr (21, [.int th, .ref ms, .ref mt, .ref mh, .ref me])), (wd, .inr (20, [.null, .int 0, .int 0, .int (-1), .null, .int 0, .int 0])), (vw, .inr (19, [.int (-1), .int (-1), .int (-1), .int (-1), .ref mm])), (h, .inr (18, [.int hd, f1])), (u_1, .inr (1, [.int 0, .ref eD, .int 0])), (q_4, .inr (1, [.int 0, .ref eD, .int 0])), (mh, .inr (1, [.int 0, .ref eD, .int 0]))] H := hP
  have hD : va_D A [(mm, .inr (21, [.int th, .ref ms, .ref mt, .ref mh, .ref me])), (wd, .inr (20, [.null, .int 0, .int 0, .int (-1), .null, .int 0, .int 0])), (vw, .inr (19, [.int (-1), .int (-1), .int (-1), .int (-1), .ref mm])), (h, .inr (18, [.int hd, f1])), (u_1, .inr (1, [.int 0, .ref eD, .int 0])), (q_4, .inr (1, [.int 0, .ref eD, .int 0])), (mh, .inr (1, [.int 0, .ref eD, .int 0]))] := hD
  have hK : va_K (dC, dI) vwCl [] s := by simpa using hK
  have hw_8 : r_7 = 0 := hw_8
  have hw_8 := hw_8.symm
  subst hw_8
  refine lv_icmp_ge (tgt := 175) hx hb dX17_call_31 (by decide) (fun c_9 => ?_) (fun c_9 => ?_)
  rotate_left
  · exact absurd (by decide) c_9
  refine lv_aload hx hb dX17_call_175 (lv_at hl 7 rfl) ?_
  refine lv_aload hx hb dX17_call_177 (lv_at hl 1 rfl) ?_
  refine z_i (wr := [(mm, .inr (21, [.int th, .ref ms, .ref mt, .ref mh, .ref me])), (wd, .inr (20, [.null, .int 0, .int 0, .int (-1), .null, .int 0, .int 0])), (vw, .inr (19, [.int (-1), .int (-1), .int (-1), .int (-1), .ref mm])), (h, .inr (18, [.int hd, f1])), (u_1, .inr (1, [.int 0, .ref eD, .int 0])), (mh, .inr (1, [.int 0, .ref eD, .int 0]))]) (va_runV (As := []) (rest := [.ref wd]) ⟨hx, hb, hml, hown, hts⟩ (c_AL_size l eD eI ad dC dI H.size q_4 ((.int 0)) ((.ref eD)) 0) (cwV 0 hts g_c_V_call_2 rfl rfl rfl (by decide +kernel) ⟨Nat.le_of_ble_eq_true rfl, Nat.le_of_ble_eq_true rfl⟩) (z_preV (wc := [(q_4, .inr (1, [.int 0, .ref eD, .int 0]))]) hP hD hK hS hA hE [5] [] rfl (by decide) rfl (ci := 1) (q0 := 0) rfl rfl) rfl rfl hl.1 rfl (lv_room (Nat.le_of_ble_eq_true rfl)) dX17_call_179 ⟨Nat.le_of_ble_eq_true rfl, Nat.le_of_ble_eq_true rfl⟩) hP hD hK hS hA [5] [0, 1, 2, 3, 4, 6] rfl rfl (by decide) (by decide) (fun r_10 u H locs hw_11 hP hD hK hS => ?_)
  obtain ⟨⟩ := u
  have hP : va_P (dC, dI) vwCl [(mm, .inr (21, [.int th, .ref ms, .ref mt, .ref mh, .ref me])), (wd, .inr (20, [.null, .int 0, .int 0, .int (-1), .null, .int 0, .int 0])), (vw, .inr (19, [.int (-1), .int (-1), .int (-1), .int (-1), .ref mm])), (h, .inr (18, [.int hd, f1])), (u_1, .inr (1, [.int 0, .ref eD, .int 0])), (mh, .inr (1, [.int 0, .ref eD, .int 0])), (q_4, .inr (1, [.int 0, .ref eD, .int 0]))] H := hP
  have hD : va_D A [(mm, .inr (21, [.int th, .ref ms, .ref mt, .ref mh, .ref me])), (wd, .inr (20, [.null, .int 0, .int 0, .int (-1), .null, .int 0, .int 0])), (vw, .inr (19, [.int (-1), .int (-1), .int (-1), .int (-1), .ref mm])), (h, .inr (18, [.int hd, f1])), (u_1, .inr (1, [.int 0, .ref eD, .int 0])), (mh, .inr (1, [.int 0, .ref eD, .int 0])), (q_4, .inr (1, [.int 0, .ref eD, .int 0]))] := hD
  have hK : va_K (dC, dI) vwCl [] s := by simpa using hK
  have hw_11 : r_10 = 0 := hw_11
  have hw_11 := hw_11.symm
  subst hw_11
  refine va_put (D := (dC, dI)) (ci := 20) (v := .int 0) (ty := .int) (C := RX18) (T := TX18) (N := 7) hx hb hts in_RX18 tyX18 tyX18_ok nmX18 hown hK hP hD hS 1 rfl rfl 2 (by decide) (hts (.fieldLink RX17 162 "HornbookModel$Word" "taking" "I") (by decide +kernel)) (fun _ h9 => h9) rfl (by decide +kernel) rfl rfl (Nat.le_of_ble_eq_true rfl) dX17_call_182 (fun H locs hP hD hS => ?_)
  have hP : va_P (dC, dI) vwCl [(mm, .inr (21, [.int th, .ref ms, .ref mt, .ref mh, .ref me])), (wd, .inr (20, [.null, .int 0, .int 0, .int (-1), .null, .int 0, .int 0])), (vw, .inr (19, [.int (-1), .int (-1), .int (-1), .int (-1), .ref mm])), (h, .inr (18, [.int hd, f1])), (u_1, .inr (1, [.int 0, .ref eD, .int 0])), (mh, .inr (1, [.int 0, .ref eD, .int 0])), (q_4, .inr (1, [.int 0, .ref eD, .int 0]))] H := hP
  have hD : va_D A [(mm, .inr (21, [.int th, .ref ms, .ref mt, .ref mh, .ref me])), (wd, .inr (20, [.null, .int 0, .int 0, .int (-1), .null, .int 0, .int 0])), (vw, .inr (19, [.int (-1), .int (-1), .int (-1), .int (-1), .ref mm])), (h, .inr (18, [.int hd, f1])), (u_1, .inr (1, [.int 0, .ref eD, .int 0])), (mh, .inr (1, [.int 0, .ref eD, .int 0])), (q_4, .inr (1, [.int 0, .ref eD, .int 0]))] := hD
  refine lv_aload hx hb dX17_call_185 (lv_at hl 7 rfl) ?_
  refine va_new (ci := 18) (fs := [.int 0, .null]) (C := RX16) (T := TX16) (N := 2) hx hb hts in_RX16 tyX16 tyX16_ok hown (hts (.classLink RX17 47 RX16) (by decide +kernel)) (hts (.instantiable RX16 2) (by decide +kernel)) (hts (.initialized RX16) (by decide +kernel)) hK hP hD hS hA rfl (fun j hj => by rcases (show j = 0 ∨ j = 1 by omega) with rfl | rfl <;> rfl) (Nat.le_of_ble_eq_true rfl) (Nat.le_of_ble_eq_true rfl) dX17_call_187 (fun q_12 H hP hD hS => ?_)
  have hP : va_P (dC, dI) vwCl [(mm, .inr (21, [.int th, .ref ms, .ref mt, .ref mh, .ref me])), (wd, .inr (20, [.null, .int 0, .int 0, .int (-1), .null, .int 0, .int 0])), (vw, .inr (19, [.int (-1), .int (-1), .int (-1), .int (-1), .ref mm])), (h, .inr (18, [.int hd, f1])), (u_1, .inr (1, [.int 0, .ref eD, .int 0])), (mh, .inr (1, [.int 0, .ref eD, .int 0])), (q_4, .inr (1, [.int 0, .ref eD, .int 0])), (q_12, .inr (18, [.int 0, .null]))] H := hP
  have hD : va_D A [(mm, .inr (21, [.int th, .ref ms, .ref mt, .ref mh, .ref me])), (wd, .inr (20, [.null, .int 0, .int 0, .int (-1), .null, .int 0, .int 0])), (vw, .inr (19, [.int (-1), .int (-1), .int (-1), .int (-1), .ref mm])), (h, .inr (18, [.int hd, f1])), (u_1, .inr (1, [.int 0, .ref eD, .int 0])), (mh, .inr (1, [.int 0, .ref eD, .int 0])), (q_4, .inr (1, [.int 0, .ref eD, .int 0])), (q_12, .inr (18, [.int 0, .null]))] := hD
  refine lv_dup hx hb dX17_call_190 rfl ?_
  refine lv_bipush (v := (-2)) hx hb dX17_call_191 (by decide) ?_
  refine z_v (wr := [(mm, .inr (21, [.int th, .ref ms, .ref mt, .ref mh, .ref me])), (wd, .inr (20, [.null, .int 0, .int 0, .int (-1), .null, .int 0, .int 0])), (vw, .inr (19, [.int (-1), .int (-1), .int (-1), .int (-1), .ref mm])), (h, .inr (18, [.int hd, f1])), (u_1, .inr (1, [.int 0, .ref eD, .int 0])), (mh, .inr (1, [.int 0, .ref eD, .int 0])), (q_4, .inr (1, [.int 0, .ref eD, .int 0]))]) (va_runI (As := [.int (-2)]) (rest := [.ref q_12, .ref wd]) ⟨hx, hb, hml, hown, hts⟩ (c_T_init1 l eD eI ad dC dI H.size q_12 (-2)) (cwI 1 hts g_c_V_call_3 rfl rfl rfl (hts (.initialized RX16) (by decide +kernel)) (hts (.methodLink RX17 99 yX16_init) (by decide +kernel)) (hts (.instanceMethod yX16_init) (by decide +kernel)) rfl (by decide +kernel) ⟨Nat.le_of_ble_eq_true rfl, Nat.le_of_ble_eq_true rfl⟩) (z_preS (wc := [(q_12, .inr (18, [.int 0, .null]))]) hP hD hK hS hA hE [7] [] rfl (by decide) rfl) rfl rfl hl.1 rfl (lv_room (Nat.le_of_ble_eq_true rfl)) dX17_call_193 ⟨Nat.le_of_ble_eq_true rfl, Nat.le_of_ble_eq_true rfl⟩) hP hD hK hS hA [7] [0, 1, 2, 3, 4, 5, 6] rfl rfl (by decide) (by decide) (fun u H locs hw_16 hP hD hK hS => ?_)
  obtain ⟨u_13, u_14⟩ := u
  have hP : va_P (dC, dI) vwCl [(mm, .inr (21, [.int th, .ref ms, .ref mt, .ref mh, .ref me])), (wd, .inr (20, [.null, .int 0, .int 0, .int (-1), .null, .int 0, .int 0])), (vw, .inr (19, [.int (-1), .int (-1), .int (-1), .int (-1), .ref mm])), (h, .inr (18, [.int hd, f1])), (u_1, .inr (1, [.int 0, .ref eD, .int 0])), (mh, .inr (1, [.int 0, .ref eD, .int 0])), (q_4, .inr (1, [.int 0, .ref eD, .int 0])), (q_12, .inr (18, [.int (-2), .ref u_13])), (u_13, .inl (u_14, 0, .inr (.inr (.inr (.inr (fun _ => none))))))] H := hP
  have hD : va_D A [(mm, .inr (21, [.int th, .ref ms, .ref mt, .ref mh, .ref me])), (wd, .inr (20, [.null, .int 0, .int 0, .int (-1), .null, .int 0, .int 0])), (vw, .inr (19, [.int (-1), .int (-1), .int (-1), .int (-1), .ref mm])), (h, .inr (18, [.int hd, f1])), (u_1, .inr (1, [.int 0, .ref eD, .int 0])), (mh, .inr (1, [.int 0, .ref eD, .int 0])), (q_4, .inr (1, [.int 0, .ref eD, .int 0])), (q_12, .inr (18, [.int (-2), .ref u_13])), (u_13, .inl (u_14, 0, .inr (.inr (.inr (.inr (fun _ => none))))))] := hD
  have hK : va_K (dC, dI) vwCl [(u_14, .object "HornbookModel$Tree")] s := hK
  refine va_put (D := (dC, dI)) (ci := 20) (v := .ref q_12) (ty := .object "HornbookModel$Tree") (C := RX18) (T := TX18) (N := 7) hx hb hts in_RX18 tyX18 tyX18_ok nmX18 hown hK hP hD hS 1 rfl rfl 0 (by decide) (hts (.fieldLink RX17 164 "HornbookModel$Word" "type" "LHornbookModel$Tree;") (by decide +kernel)) (fun _ h9 => h9) rfl (by decide +kernel) rfl rfl (Nat.le_of_ble_eq_true rfl) dX17_call_196 (fun H locs hP hD hS => ?_)
  have hP : va_P (dC, dI) vwCl [(mm, .inr (21, [.int th, .ref ms, .ref mt, .ref mh, .ref me])), (wd, .inr (20, [.ref q_12, .int 0, .int 0, .int (-1), .null, .int 0, .int 0])), (vw, .inr (19, [.int (-1), .int (-1), .int (-1), .int (-1), .ref mm])), (h, .inr (18, [.int hd, f1])), (u_1, .inr (1, [.int 0, .ref eD, .int 0])), (mh, .inr (1, [.int 0, .ref eD, .int 0])), (q_4, .inr (1, [.int 0, .ref eD, .int 0])), (q_12, .inr (18, [.int (-2), .ref u_13])), (u_13, .inl (u_14, 0, .inr (.inr (.inr (.inr (fun _ => none))))))] H := hP
  have hD : va_D A [(mm, .inr (21, [.int th, .ref ms, .ref mt, .ref mh, .ref me])), (wd, .inr (20, [.ref q_12, .int 0, .int 0, .int (-1), .null, .int 0, .int 0])), (vw, .inr (19, [.int (-1), .int (-1), .int (-1), .int (-1), .ref mm])), (h, .inr (18, [.int hd, f1])), (u_1, .inr (1, [.int 0, .ref eD, .int 0])), (mh, .inr (1, [.int 0, .ref eD, .int 0])), (q_4, .inr (1, [.int 0, .ref eD, .int 0])), (q_12, .inr (18, [.int (-2), .ref u_13])), (u_13, .inl (u_14, 0, .inr (.inr (.inr (.inr (fun _ => none))))))] := hD
  refine lv_aload hx hb dX17_call_199 (lv_at hl 7 rfl) ?_
  refine lv_aload hx hb dX17_call_201 (lv_at hl 7 rfl) ?_
  refine va_get (D := (dC, dI)) (ci := 20) (v := .int 0) (C := RX18) (T := TX18) (N := 7) hx hb hts in_RX18 hown hK hP 1 rfl rfl 1 (by decide) (hts (.fieldLink RX17 153 "HornbookModel$Word" "seen" "I") (by decide +kernel)) (fun _ h9 => h9) rfl dX17_call_203 ?_
  refine lv_if_ne (tgt := 213) hx hb dX17_call_206 (by decide) (fun c_17 => ?_) (fun c_17 => ?_)
  · exact absurd (by decide) c_17
  refine lv_iconst (v := 1) hx hb dX17_call_209 (by decide) ?_
  refine lv_goto (tgt := 226) hx hb dX17_call_210 (by decide) ?_
  refine va_put (D := (dC, dI)) (ci := 20) (v := .int 1) (ty := .int) (C := RX18) (T := TX18) (N := 7) hx hb hts in_RX18 tyX18 tyX18_ok nmX18 hown hK hP hD hS 1 rfl rfl 5 (by decide) (hts (.fieldLink RX17 170 "HornbookModel$Word" "fault" "I") (by decide +kernel)) (fun _ h9 => h9) rfl (by decide +kernel) rfl rfl (Nat.le_of_ble_eq_true rfl) dX17_call_226 (fun H locs hP hD hS => ?_)
  have hP : va_P (dC, dI) vwCl [(mm, .inr (21, [.int th, .ref ms, .ref mt, .ref mh, .ref me])), (wd, .inr (20, [.ref q_12, .int 0, .int 0, .int (-1), .null, .int 1, .int 0])), (vw, .inr (19, [.int (-1), .int (-1), .int (-1), .int (-1), .ref mm])), (h, .inr (18, [.int hd, f1])), (u_1, .inr (1, [.int 0, .ref eD, .int 0])), (mh, .inr (1, [.int 0, .ref eD, .int 0])), (q_4, .inr (1, [.int 0, .ref eD, .int 0])), (q_12, .inr (18, [.int (-2), .ref u_13])), (u_13, .inl (u_14, 0, .inr (.inr (.inr (.inr (fun _ => none))))))] H := hP
  have hD : va_D A [(mm, .inr (21, [.int th, .ref ms, .ref mt, .ref mh, .ref me])), (wd, .inr (20, [.ref q_12, .int 0, .int 0, .int (-1), .null, .int 1, .int 0])), (vw, .inr (19, [.int (-1), .int (-1), .int (-1), .int (-1), .ref mm])), (h, .inr (18, [.int hd, f1])), (u_1, .inr (1, [.int 0, .ref eD, .int 0])), (mh, .inr (1, [.int 0, .ref eD, .int 0])), (q_4, .inr (1, [.int 0, .ref eD, .int 0])), (q_12, .inr (18, [.int (-2), .ref u_13])), (u_13, .inl (u_14, 0, .inr (.inr (.inr (.inr (fun _ => none))))))] := hD
  refine lv_iconst (v := 0) hx hb dX17_call_229 (by decide) ?_
  refine lv_istore (lv' := [(7, .int 0), (6, .ref q_4), (5, .ref u_1), (0, .ref vw), (1, .ref h), (2, .int nm), (3, .ref tk), (4, .ref wd)]) hx hb dX17_call_230 hl (by decide) rfl (fun ls hl => ?_)
  refine lv_iload hx hb dX17_call_232 (lv_at hl 0 rfl) ?_
  refine lv_aload hx hb dX17_call_234 (lv_at hl 1 rfl) ?_
  refine z_i (wr := [(mm, .inr (21, [.int th, .ref ms, .ref mt, .ref mh, .ref me])), (wd, .inr (20, [.ref q_12, .int 0, .int 0, .int (-1), .null, .int 1, .int 0])), (vw, .inr (19, [.int (-1), .int (-1), .int (-1), .int (-1), .ref mm])), (h, .inr (18, [.int hd, f1])), (u_1, .inr (1, [.int 0, .ref eD, .int 0])), (mh, .inr (1, [.int 0, .ref eD, .int 0])), (q_12, .inr (18, [.int (-2), .ref u_13])), (u_13, .inl (u_14, 0, .inr (.inr (.inr (.inr (fun _ => none))))))]) (va_runV (As := []) (rest := [.int 0]) ⟨hx, hb, hml, hown, hts⟩ (c_AL_size l eD eI ad dC dI H.size q_4 ((.int 0)) ((.ref eD)) 0) (cwV 0 hts g_c_V_call_2 rfl rfl rfl (by decide +kernel) ⟨Nat.le_of_ble_eq_true rfl, Nat.le_of_ble_eq_true rfl⟩) (z_preV (wc := [(q_4, .inr (1, [.int 0, .ref eD, .int 0]))]) hP hD hK hS hA hE [6] [] rfl (by decide) rfl (ci := 1) (q0 := 0) rfl rfl) rfl rfl hl.1 rfl (lv_room (Nat.le_of_ble_eq_true rfl)) dX17_call_236 ⟨Nat.le_of_ble_eq_true rfl, Nat.le_of_ble_eq_true rfl⟩) hP hD hK hS hA [6] [0, 1, 2, 3, 4, 5, 7, 8] rfl rfl (by decide) (by decide) (fun r_18 u H locs hw_19 hP hD hK hS => ?_)
  obtain ⟨⟩ := u
  have hP : va_P (dC, dI) vwCl [(mm, .inr (21, [.int th, .ref ms, .ref mt, .ref mh, .ref me])), (wd, .inr (20, [.ref q_12, .int 0, .int 0, .int (-1), .null, .int 1, .int 0])), (vw, .inr (19, [.int (-1), .int (-1), .int (-1), .int (-1), .ref mm])), (h, .inr (18, [.int hd, f1])), (u_1, .inr (1, [.int 0, .ref eD, .int 0])), (mh, .inr (1, [.int 0, .ref eD, .int 0])), (q_12, .inr (18, [.int (-2), .ref u_13])), (u_13, .inl (u_14, 0, .inr (.inr (.inr (.inr (fun _ => none)))))), (q_4, .inr (1, [.int 0, .ref eD, .int 0]))] H := hP
  have hD : va_D A [(mm, .inr (21, [.int th, .ref ms, .ref mt, .ref mh, .ref me])), (wd, .inr (20, [.ref q_12, .int 0, .int 0, .int (-1), .null, .int 1, .int 0])), (vw, .inr (19, [.int (-1), .int (-1), .int (-1), .int (-1), .ref mm])), (h, .inr (18, [.int hd, f1])), (u_1, .inr (1, [.int 0, .ref eD, .int 0])), (mh, .inr (1, [.int 0, .ref eD, .int 0])), (q_12, .inr (18, [.int (-2), .ref u_13])), (u_13, .inl (u_14, 0, .inr (.inr (.inr (.inr (fun _ => none)))))), (q_4, .inr (1, [.int 0, .ref eD, .int 0]))] := hD
  have hK : va_K (dC, dI) vwCl [(u_14, .object "HornbookModel$Tree")] s := by simpa using hK
  have hw_19 : r_18 = 0 := hw_19
  have hw_19 := hw_19.symm
  subst hw_19
  refine lv_icmp_ge (tgt := 382) hx hb dX17_call_239 (by decide) (fun c_20 => ?_) (fun c_20 => ?_)
  rotate_left
  · exact absurd (by decide) c_20
  have hP9 := hP.sub (ws' := [(mm, .inr (21, [.int th, .ref ms, .ref mt, .ref mh, .ref me])), (wd, .inr (20, [.ref q_12, .int 0, .int 0, .int (-1), .null, .int 1, .int 0]))]) [0, 1] rfl
  have hD9 := hD.sub (ws' := [(mm, .inr (21, [.int th, .ref ms, .ref mt, .ref mh, .ref me])), (wd, .inr (20, [.ref q_12, .int 0, .int 0, .int (-1), .null, .int 1, .int 0]))]) [0, 1] (by decide) rfl
  have hK9 := hK.sub (tys' := []) [] rfl
  refine W.widen (k := 4) (n := 8) (Nat.le_of_ble_eq_true rfl) (Nat.le_of_ble_eq_true rfl) ?_
  exact W.vret hx hb hr (fun t ht hW => ⟨⟨q_12, rfl, trivial, ⟨by rw [ht]; exact hP9, va_K.moved hW.alike hK9, hD9⟩⟩, hS.F ht⟩) hS.2.2 dX17_call_382

def wb_c_M_trees_n : List Cond := [.classLink RX19 25 "HornbookModel$Tree"]
def w_c_M_trees_n : List Cond := .code yX19_trees cX19_trees 4 (some (.array (.object "HornbookModel$Tree"))) :: wb_c_M_trees_n
set_option maxHeartbeats 4000000 in
set_option maxRecDepth 100000 in
theorem c_M_trees_n (l : Launch) (eD eI : Nat) (ad : Nat → Nat) (dC : Nat → ClassId) (dI : Nat → Nat → Nat) (sz : Nat) (mm : Nat) (ms : Nat) (mt : Nat) (mh : Nat) (me : Nat) (th : Int32) (mo : Int32) (ma : Nat) (kO : ClassId) (t0 : Nat) (t1 : Nat) (t2 : Nat) : Met l yX19_trees w_c_M_trees_n ({ frames := 0, cells := 1, slots := 0, locals := 0 }) (va_Pc [.ref mm, .int (-1), .int (-1)] (zPre eD eI ad (dC, dI) [(mm, .inr (21, [.int th, .ref ms, .ref mt, .ref mh, .ref me])), (mt, .inr (1, [.int mo, .ref ma, .int 3])), (ma, .inl (kO, 10, .inr (.inr (.inr (.inr (zfT t0 t1 t2))))))] [(kO, .object "java/lang/Object")] sz)) (va_Qq (fun (r : Option Nat) (u : Nat × ClassId) => match u with | (tk, kk) => r = some tk) (fun (u : Nat × ClassId) => match u with | (tk, kk) => zEnd (dC, dI) (va_A [(mm, .inr (21, [.int th, .ref ms, .ref mt, .ref mh, .ref me])), (mt, .inr (1, [.int mo, .ref ma, .int 3])), (ma, .inl (kO, 10, .inr (.inr (.inr (.inr (zfT t0 t1 t2))))))] sz) [(mm, .inr (21, [.int th, .ref ms, .ref mt, .ref mh, .ref me])), (mt, .inr (1, [.int mo, .ref ma, .int 3])), (ma, .inl (kO, 10, .inr (.inr (.inr (.inr (zfT t0 t1 t2)))))), (tk, .inl (kk, 0, .inr (.inr (.inr (.inr (fun _ => none))))))] [(kO, .object "java/lang/Object"), (kk, .object "HornbookModel$Tree")]) (va_A [(mm, .inr (21, [.int th, .ref ms, .ref mt, .ref mh, .ref me])), (mt, .inr (1, [.int mo, .ref ma, .int 3])), (ma, .inl (kO, 10, .inr (.inr (.inr (.inr (zfT t0 t1 t2))))))] sz)) 1 0 (va_A [(mm, .inr (21, [.int th, .ref ms, .ref mt, .ref mh, .ref me])), (mt, .inr (1, [.int mo, .ref ma, .int 3])), (ma, .inl (kO, 10, .inr (.inr (.inr (.inr (zfT t0 t1 t2))))))] sz) := by
  refine Met.ofW (cc := cX19_trees) (maxL := 4) (ret := (some (.array (.object "HornbookModel$Tree")))) (by decide) rfl ?_
  intro p e s m args below meth c s₁ B hml hv
  obtain ⟨rfl, hsz, hP, hK, hD0, hE⟩ := hv
  have hx := B.exec
  have hb := B.bytes
  have hr := B.returns
  have hts := atoms_spec (ws := w_c_M_trees_n) B.pre
  have hown : s.vm.findClass RX19 = some m.cls := findClass_of_methodNamed B.named
  have hlocks := B.notSynchronized
  subst hsz
  have hD := hD0.self (sz := s.heap.size)
  generalize hAe : va_A [(mm, .inr (21, [.int th, .ref ms, .ref mt, .ref mh, .ref me])), (mt, .inr (1, [.int mo, .ref ma, .int 3])), (ma, .inl (kO, 10, .inr (.inr (.inr (.inr (zfT t0 t1 t2))))))] s.heap.size = A at hD hE ⊢
  have hA : ∀ q : Nat, s.heap.size ≤ q → A q := fun q h => by rw [← hAe]; exact Or.inr h
  have hS : va_S A s.heap s.heap [] := va_S.rf
  have hP : va_P (dC, dI) vwCl [(mm, .inr (21, [.int th, .ref ms, .ref mt, .ref mh, .ref me])), (mt, .inr (1, [.int mo, .ref ma, .int 3])), (ma, .inl (kO, 10, .inr (.inr (.inr (.inr (zfT t0 t1 t2))))))] s.heap := hP
  have hl := lv_entry ([.ref mm, .int (-1), .int (-1)]) (n := 4) (Nat.le_of_ble_eq_true rfl)
  rw [lg_entry_eq]
  generalize (lg_sl ([.ref mm, .int (-1), .int (-1)]) ++ List.replicate (4 - (lg_sl ([.ref mm, .int (-1), .int (-1)])).length) Slot.unset).toArray = ls at hl ⊢
  have hl : lv_has ls 4 [(0, .ref mm), (1, .int (-1)), (2, .int (-1))] := hl
  refine lv_iload_n hx hb dX19_trees_0 rfl (lv_at hl 1 rfl) ?_
  refine lv_iconst (v := (-1)) hx hb dX19_trees_1 (by decide) ?_
  refine lv_icmp_ne (tgt := 9) hx hb dX19_trees_2 (by decide) (fun c_1 => ?_) (fun c_1 => ?_)
  · exact absurd (by decide) c_1
  refine lv_iconst (v := 0) hx hb dX19_trees_5 (by decide) ?_
  refine lv_goto (tgt := 19) hx hb dX19_trees_6 (by decide) ?_
  refine va_newq (C := "HornbookModel$Tree") hx hb hown (hts (.classLink RX19 25 "HornbookModel$Tree") (by decide +kernel)) (hE.2.2.2.2.2.2.1 "HornbookModel$Tree" (by decide +kernel)) hK hP hD hS hA (N' := 0) (by decide) (by decide) (Nat.le_of_ble_eq_true rfl) (Nat.le_of_ble_eq_true rfl) (Nat.le_of_ble_eq_true rfl) dX19_trees_19 (fun q_2 k_3 H hK hP hD hS => ?_)
  have hP : va_P (dC, dI) vwCl [(mm, .inr (21, [.int th, .ref ms, .ref mt, .ref mh, .ref me])), (mt, .inr (1, [.int mo, .ref ma, .int 3])), (ma, .inl (kO, 10, .inr (.inr (.inr (.inr (zfT t0 t1 t2)))))), (q_2, .inl (k_3, 0, .inr (.inr (.inr (.inr (fun _ => none))))))] H := hP
  have hD : va_D A [(mm, .inr (21, [.int th, .ref ms, .ref mt, .ref mh, .ref me])), (mt, .inr (1, [.int mo, .ref ma, .int 3])), (ma, .inl (kO, 10, .inr (.inr (.inr (.inr (zfT t0 t1 t2)))))), (q_2, .inl (k_3, 0, .inr (.inr (.inr (.inr (fun _ => none))))))] := hD
  have hK : va_K (dC, dI) vwCl [(kO, .object "java/lang/Object"), (k_3, .object "HornbookModel$Tree")] s := hK
  refine lv_astore_n (lv' := [(3, .ref q_2), (0, .ref mm), (1, .int (-1)), (2, .int (-1))]) hx hb dX19_trees_22 rfl hl (by decide) rfl (fun ls hl => ?_)
  refine lv_aload_n hx hb dX19_trees_23 rfl (lv_at hl 0 rfl) ?_
  refine va_alen (D := (dC, dI)) (v := 0) hx hb hK hP 3 1 rfl rfl rfl dX19_trees_24 ?_
  refine lv_if_le (tgt := 36) hx hb dX19_trees_25 (by decide) (fun c_4 => ?_) (fun c_4 => ?_)
  rotate_left
  · exact absurd (by decide) c_4
  refine lv_aload_n hx hb dX19_trees_36 rfl (lv_at hl 0 rfl) ?_
  refine va_alen (D := (dC, dI)) (v := 0) hx hb hK hP 3 1 rfl rfl rfl dX19_trees_37 ?_
  refine lv_iconst (v := 1) hx hb dX19_trees_38 (by decide) ?_
  refine lv_icmp_le (tgt := 50) hx hb dX19_trees_39 (by decide) (fun c_5 => ?_) (fun c_5 => ?_)
  rotate_left
  · exact absurd (by decide) c_5
  refine lv_aload_n hx hb dX19_trees_50 rfl (lv_at hl 0 rfl) ?_
  have hP9 := hP.sub (ws' := [(mm, .inr (21, [.int th, .ref ms, .ref mt, .ref mh, .ref me])), (mt, .inr (1, [.int mo, .ref ma, .int 3])), (ma, .inl (kO, 10, .inr (.inr (.inr (.inr (zfT t0 t1 t2)))))), (q_2, .inl (k_3, 0, .inr (.inr (.inr (.inr (fun _ => none))))))]) [0, 1, 2, 3] rfl
  have hD9 := hD.sub (ws' := [(mm, .inr (21, [.int th, .ref ms, .ref mt, .ref mh, .ref me])), (mt, .inr (1, [.int mo, .ref ma, .int 3])), (ma, .inl (kO, 10, .inr (.inr (.inr (.inr (zfT t0 t1 t2)))))), (q_2, .inl (k_3, 0, .inr (.inr (.inr (.inr (fun _ => none))))))]) [0, 1, 2, 3] (by decide) rfl
  have hK9 := hK.sub (tys' := [(kO, .object "java/lang/Object"), (k_3, .object "HornbookModel$Tree")]) [0, 1] rfl
  refine W.widen (k := 1) (n := 0) (Nat.le_of_ble_eq_true rfl) (Nat.le_of_ble_eq_true rfl) ?_
  exact W.aret (v := .ref q_2) hx hb hr (Or.inr ⟨_, rfl⟩) (Or.inr ⟨_, rfl⟩) (fun t ht hW => ⟨⟨some q_2, (q_2, k_3), rfl, rfl, ⟨by rw [ht]; exact hP9, va_K.moved hW.alike hK9, hD9⟩⟩, hS.F ht⟩) hS.2.2 dX19_trees_51

def wb_c_M_trees_0 : List Cond := [.classLink RX19 25 "HornbookModel$Tree", .code yX19_type cX19_type 2 (some (.object "HornbookModel$Tree")), .fieldLink RX19 16 "HornbookModel" "types" "Ljava/util/ArrayList;", .code yJx4a65c_get_915e3 cJx4a65c_get_915e3 2 (some (.object "java/lang/Object")), .fieldLink RJx4a65c 48 "java/util/ArrayList" "size" "I", .code yJ15_checkIndex_7cf53 cJ15_checkIndex_7cf53 2 (some .int), .code yJ3_checkIndex_8e157 cJ3_checkIndex_8e157 3 (some .int), .methodLink RJ15 105 yJ3_checkIndex_8e157, .static yJ3_checkIndex_8e157, .initialized RJ3, .methodLink RJx4a65c 118 yJ15_checkIndex_7cf53, .static yJ15_checkIndex_7cf53, .initialized RJ15, .code yJx4a65c_elementData_915e3 cJx4a65c_elementData_915e3 2 (some (.object "java/lang/Object")), .fieldLink RJx4a65c 9 "java/util/ArrayList" "elementData" "[Ljava/lang/Object;", .methodLink RJx4a65c 123 yJx4a65c_elementData_915e3, .instanceMethod yJx4a65c_elementData_915e3, .selects RJx4a65c yJx4a65c_elementData_915e3 yJx4a65c_elementData_915e3, .initialized RJx4a65c, .methodLink RX19 59 yJx4a65c_get_915e3, .instanceMethod yJx4a65c_get_915e3, .selects RJx4a65c yJx4a65c_get_915e3 yJx4a65c_get_915e3, .methodLink RX19 87 yX19_type, .instanceMethod yX19_type, .selects RX19 yX19_type yX19_type, .initialized RX19] ++ u_ws RJx4a65c TJx4a65c 3 ++ u_ws RX19 TX19 5
def w_c_M_trees_0 : List Cond := .code yX19_trees cX19_trees 4 (some (.array (.object "HornbookModel$Tree"))) :: wb_c_M_trees_0
set_option maxRecDepth 100000 in
theorem g_c_M_trees_0_0 : GoodIn w_c_M_trees_0 (wsV RX19 87 RX19 yX19_type w_c_M_type_0) := goodIn_app (goodIn_of _ (by decide +kernel)) (goodIn_p (big := w_c_M_trees_0) (.code yX19_type cX19_type 2 (some (.object "HornbookModel$Tree")) :: wb_c_M_type_0) [2, 4, 6, 7, 14] rfl (by decide +kernel))
set_option maxHeartbeats 4000000 in
set_option maxRecDepth 100000 in
theorem c_M_trees_0 (l : Launch) (eD eI : Nat) (ad : Nat → Nat) (dC : Nat → ClassId) (dI : Nat → Nat → Nat) (sz : Nat) (mm : Nat) (ms : Nat) (mt : Nat) (mh : Nat) (me : Nat) (th : Int32) (mo : Int32) (ma : Nat) (kO : ClassId) (t0 : Nat) (t1 : Nat) (t2 : Nat) (f0 : Value) : Met l yX19_trees w_c_M_trees_0 ({ frames := 4, cells := 1, slots := 1, locals := 85 }) (va_Pc [.ref mm, .int 0, .int (-1)] (zPre eD eI ad (dC, dI) [(mm, .inr (21, [.int th, .ref ms, .ref mt, .ref mh, .ref me])), (mt, .inr (1, [.int mo, .ref ma, .int 3])), (ma, .inl (kO, 10, .inr (.inr (.inr (.inr (zfT t0 t1 t2)))))), (t0, .inr (18, [.int (-1), f0]))] [(kO, .object "java/lang/Object")] sz)) (va_Qq (fun (r : Option Nat) (u : Nat × ClassId) => match u with | (tk, kk) => r = some tk) (fun (u : Nat × ClassId) => match u with | (tk, kk) => zEnd (dC, dI) (va_A [(mm, .inr (21, [.int th, .ref ms, .ref mt, .ref mh, .ref me])), (mt, .inr (1, [.int mo, .ref ma, .int 3])), (ma, .inl (kO, 10, .inr (.inr (.inr (.inr (zfT t0 t1 t2)))))), (t0, .inr (18, [.int (-1), f0]))] sz) [(mm, .inr (21, [.int th, .ref ms, .ref mt, .ref mh, .ref me])), (mt, .inr (1, [.int mo, .ref ma, .int 3])), (ma, .inl (kO, 10, .inr (.inr (.inr (.inr (zfT t0 t1 t2)))))), (t0, .inr (18, [.int (-1), f0])), (tk, .inl (kk, 1, .inr (.inr (.inr (.inr (va_up (fun _ => none) (0 : Int32).toNatClampNeg (some t0)))))))] [(kO, .object "java/lang/Object"), (kk, .object "HornbookModel$Tree")]) (va_A [(mm, .inr (21, [.int th, .ref ms, .ref mt, .ref mh, .ref me])), (mt, .inr (1, [.int mo, .ref ma, .int 3])), (ma, .inl (kO, 10, .inr (.inr (.inr (.inr (zfT t0 t1 t2)))))), (t0, .inr (18, [.int (-1), f0]))] sz)) 1 1 (va_A [(mm, .inr (21, [.int th, .ref ms, .ref mt, .ref mh, .ref me])), (mt, .inr (1, [.int mo, .ref ma, .int 3])), (ma, .inl (kO, 10, .inr (.inr (.inr (.inr (zfT t0 t1 t2)))))), (t0, .inr (18, [.int (-1), f0]))] sz) := by
  refine Met.ofW (cc := cX19_trees) (maxL := 4) (ret := (some (.array (.object "HornbookModel$Tree")))) (by decide) rfl ?_
  intro p e s m args below meth c s₁ B hml hv
  obtain ⟨rfl, hsz, hP, hK, hD0, hE⟩ := hv
  have hx := B.exec
  have hb := B.bytes
  have hr := B.returns
  have hts := atoms_spec (ws := w_c_M_trees_0) B.pre
  have hown : s.vm.findClass RX19 = some m.cls := findClass_of_methodNamed B.named
  have hlocks := B.notSynchronized
  subst hsz
  have hD := hD0.self (sz := s.heap.size)
  generalize hAe : va_A [(mm, .inr (21, [.int th, .ref ms, .ref mt, .ref mh, .ref me])), (mt, .inr (1, [.int mo, .ref ma, .int 3])), (ma, .inl (kO, 10, .inr (.inr (.inr (.inr (zfT t0 t1 t2)))))), (t0, .inr (18, [.int (-1), f0]))] s.heap.size = A at hD hE ⊢
  have hA : ∀ q : Nat, s.heap.size ≤ q → A q := fun q h => by rw [← hAe]; exact Or.inr h
  have hS : va_S A s.heap s.heap [] := va_S.rf
  have hP : va_P (dC, dI) vwCl [(mm, .inr (21, [.int th, .ref ms, .ref mt, .ref mh, .ref me])), (mt, .inr (1, [.int mo, .ref ma, .int 3])), (ma, .inl (kO, 10, .inr (.inr (.inr (.inr (zfT t0 t1 t2)))))), (t0, .inr (18, [.int (-1), f0]))] s.heap := hP
  have hl := lv_entry ([.ref mm, .int 0, .int (-1)]) (n := 4) (Nat.le_of_ble_eq_true rfl)
  rw [lg_entry_eq]
  generalize (lg_sl ([.ref mm, .int 0, .int (-1)]) ++ List.replicate (4 - (lg_sl ([.ref mm, .int 0, .int (-1)])).length) Slot.unset).toArray = ls at hl ⊢
  have hl : lv_has ls 4 [(0, .ref mm), (1, .int 0), (2, .int (-1))] := hl
  have in_RJx4a65c : ∀ w ∈ u_ws RJx4a65c TJx4a65c 3, w ∈ w_c_M_trees_0 := by decide +kernel
  have in_RX19 : ∀ w ∈ u_ws RX19 TX19 5, w ∈ w_c_M_trees_0 := by decide +kernel
  refine lv_iload_n hx hb dX19_trees_0 rfl (lv_at hl 1 rfl) ?_
  refine lv_iconst (v := (-1)) hx hb dX19_trees_1 (by decide) ?_
  refine lv_icmp_ne (tgt := 9) hx hb dX19_trees_2 (by decide) (fun c_1 => ?_) (fun c_1 => ?_)
  rotate_left
  · exact absurd c_1 (by decide)
  refine lv_iload_n hx hb dX19_trees_9 rfl (lv_at hl 2 rfl) ?_
  refine lv_iconst (v := (-1)) hx hb dX19_trees_10 (by decide) ?_
  refine lv_icmp_ne (tgt := 18) hx hb dX19_trees_11 (by decide) (fun c_2 => ?_) (fun c_2 => ?_)
  · exact absurd (by decide) c_2
  refine lv_iconst (v := 1) hx hb dX19_trees_14 (by decide) ?_
  refine lv_goto (tgt := 19) hx hb dX19_trees_15 (by decide) ?_
  refine va_newq (C := "HornbookModel$Tree") hx hb hown (hts (.classLink RX19 25 "HornbookModel$Tree") (by decide +kernel)) (hE.2.2.2.2.2.2.1 "HornbookModel$Tree" (by decide +kernel)) hK hP hD hS hA (N' := 1) (by decide) (by decide) (Nat.le_of_ble_eq_true rfl) (Nat.le_of_ble_eq_true rfl) (Nat.le_of_ble_eq_true rfl) dX19_trees_19 (fun q_3 k_4 H hK hP hD hS => ?_)
  have hP : va_P (dC, dI) vwCl [(mm, .inr (21, [.int th, .ref ms, .ref mt, .ref mh, .ref me])), (mt, .inr (1, [.int mo, .ref ma, .int 3])), (ma, .inl (kO, 10, .inr (.inr (.inr (.inr (zfT t0 t1 t2)))))), (t0, .inr (18, [.int (-1), f0])), (q_3, .inl (k_4, 1, .inr (.inr (.inr (.inr (fun _ => none))))))] H := hP
  have hD : va_D A [(mm, .inr (21, [.int th, .ref ms, .ref mt, .ref mh, .ref me])), (mt, .inr (1, [.int mo, .ref ma, .int 3])), (ma, .inl (kO, 10, .inr (.inr (.inr (.inr (zfT t0 t1 t2)))))), (t0, .inr (18, [.int (-1), f0])), (q_3, .inl (k_4, 1, .inr (.inr (.inr (.inr (fun _ => none))))))] := hD
  have hK : va_K (dC, dI) vwCl [(kO, .object "java/lang/Object"), (k_4, .object "HornbookModel$Tree")] s := hK
  refine lv_astore_n (lv' := [(3, .ref q_3), (0, .ref mm), (1, .int 0), (2, .int (-1))]) hx hb dX19_trees_22 rfl hl (by decide) rfl (fun ls hl => ?_)
  refine lv_aload_n hx hb dX19_trees_23 rfl (lv_at hl 0 rfl) ?_
  refine va_alen (D := (dC, dI)) (v := 1) hx hb hK hP 4 1 rfl rfl rfl dX19_trees_24 ?_
  refine lv_if_le (tgt := 36) hx hb dX19_trees_25 (by decide) (fun c_5 => ?_) (fun c_5 => ?_)
  · exact absurd c_5 (by decide)
  refine lv_aload_n hx hb dX19_trees_28 rfl (lv_at hl 0 rfl) ?_
  refine lv_iconst (v := 0) hx hb dX19_trees_29 (by decide) ?_
  refine lv_aload_n hx hb dX19_trees_30 rfl (lv_at hl 1 rfl) ?_
  refine lv_iload_n hx hb dX19_trees_31 rfl (lv_at hl 2 rfl) ?_
  refine z_q (wr := [(q_3, .inl (k_4, 1, .inr (.inr (.inr (.inr (fun _ => none))))))]) (va_runV (As := [.int 0]) (rest := [.int 0, .ref q_3]) ⟨hx, hb, hml, hown, hts⟩ (c_M_type_0 l eD eI ad dC dI H.size mm ms mt mh me th mo ma kO t0 t1 t2 f0) (cwV 1 hts g_c_M_trees_0_0 rfl rfl rfl (by decide +kernel) ⟨Nat.le_of_ble_eq_true rfl, Nat.le_of_ble_eq_true rfl⟩) (z_preV (wc := [(mm, .inr (21, [.int th, .ref ms, .ref mt, .ref mh, .ref me])), (mt, .inr (1, [.int mo, .ref ma, .int 3])), (ma, .inl (kO, 10, .inr (.inr (.inr (.inr (zfT t0 t1 t2)))))), (t0, .inr (18, [.int (-1), f0]))]) hP hD hK hS hA hE [0, 1, 2, 3] [0] rfl (by decide) rfl (ci := 21) (q0 := 0) rfl rfl) rfl rfl hl.1 rfl (lv_room (Nat.le_of_ble_eq_true rfl)) dX19_trees_32 ⟨Nat.le_of_ble_eq_true rfl, Nat.le_of_ble_eq_true rfl⟩) hP hD hK hS hA [0, 1, 2, 3] [4] rfl rfl (by decide) (by decide) (fun r_6 u H locs hw_7 hP hD hK hS => ?_)
  obtain ⟨⟩ := u
  have hP : va_P (dC, dI) vwCl [(q_3, .inl (k_4, 1, .inr (.inr (.inr (.inr (fun _ => none)))))), (mm, .inr (21, [.int th, .ref ms, .ref mt, .ref mh, .ref me])), (mt, .inr (1, [.int mo, .ref ma, .int 3])), (ma, .inl (kO, 10, .inr (.inr (.inr (.inr (zfT t0 t1 t2)))))), (t0, .inr (18, [.int (-1), f0]))] H := hP
  have hD : va_D A [(q_3, .inl (k_4, 1, .inr (.inr (.inr (.inr (fun _ => none)))))), (mm, .inr (21, [.int th, .ref ms, .ref mt, .ref mh, .ref me])), (mt, .inr (1, [.int mo, .ref ma, .int 3])), (ma, .inl (kO, 10, .inr (.inr (.inr (.inr (zfT t0 t1 t2)))))), (t0, .inr (18, [.int (-1), f0]))] := hD
  have hK : va_K (dC, dI) vwCl [(kO, .object "java/lang/Object"), (k_4, .object "HornbookModel$Tree")] s := by simpa using hK
  have hw_7 : r_6 = some t0 := hw_7
  have hw_7 := hw_7.symm
  subst hw_7
  refine W.eq (g2 := F0 m 35 ls (.ref t0 :: .int 0 :: .ref q_3 :: [])) rfl ?_
  refine va_astq (D := (dC, dI)) hx hb hK hP hD hS 0 1 4 18 rfl rfl rfl rfl (by unfold vp_in; decide) dX19_trees_35 (fun H locs hP hD hS => ?_)
  have hP : va_P (dC, dI) vwCl [(q_3, .inl (k_4, 1, .inr (.inr (.inr (.inr (va_up (fun _ => none) (0 : Int32).toNatClampNeg (some t0))))))), (mm, .inr (21, [.int th, .ref ms, .ref mt, .ref mh, .ref me])), (mt, .inr (1, [.int mo, .ref ma, .int 3])), (ma, .inl (kO, 10, .inr (.inr (.inr (.inr (zfT t0 t1 t2)))))), (t0, .inr (18, [.int (-1), f0]))] H := hP
  have hD : va_D A [(q_3, .inl (k_4, 1, .inr (.inr (.inr (.inr (va_up (fun _ => none) (0 : Int32).toNatClampNeg (some t0))))))), (mm, .inr (21, [.int th, .ref ms, .ref mt, .ref mh, .ref me])), (mt, .inr (1, [.int mo, .ref ma, .int 3])), (ma, .inl (kO, 10, .inr (.inr (.inr (.inr (zfT t0 t1 t2)))))), (t0, .inr (18, [.int (-1), f0]))] := hD
  refine lv_aload_n hx hb dX19_trees_36 rfl (lv_at hl 0 rfl) ?_
  refine va_alen (D := (dC, dI)) (v := 1) hx hb hK hP 0 1 rfl rfl rfl dX19_trees_37 ?_
  refine lv_iconst (v := 1) hx hb dX19_trees_38 (by decide) ?_
  refine lv_icmp_le (tgt := 50) hx hb dX19_trees_39 (by decide) (fun c_8 => ?_) (fun c_8 => ?_)
  rotate_left
  · exact absurd (by decide) c_8
  refine lv_aload_n hx hb dX19_trees_50 rfl (lv_at hl 0 rfl) ?_
  have hP9 := hP.sub (ws' := [(mm, .inr (21, [.int th, .ref ms, .ref mt, .ref mh, .ref me])), (mt, .inr (1, [.int mo, .ref ma, .int 3])), (ma, .inl (kO, 10, .inr (.inr (.inr (.inr (zfT t0 t1 t2)))))), (t0, .inr (18, [.int (-1), f0])), (q_3, .inl (k_4, 1, .inr (.inr (.inr (.inr (va_up (fun _ => none) (0 : Int32).toNatClampNeg (some t0)))))))]) [1, 2, 3, 4, 0] rfl
  have hD9 := hD.sub (ws' := [(mm, .inr (21, [.int th, .ref ms, .ref mt, .ref mh, .ref me])), (mt, .inr (1, [.int mo, .ref ma, .int 3])), (ma, .inl (kO, 10, .inr (.inr (.inr (.inr (zfT t0 t1 t2)))))), (t0, .inr (18, [.int (-1), f0])), (q_3, .inl (k_4, 1, .inr (.inr (.inr (.inr (va_up (fun _ => none) (0 : Int32).toNatClampNeg (some t0)))))))]) [1, 2, 3, 4, 0] (by decide) rfl
  have hK9 := hK.sub (tys' := [(kO, .object "java/lang/Object"), (k_4, .object "HornbookModel$Tree")]) [0, 1] rfl
  refine W.widen (k := 1) (n := 1) (Nat.le_of_ble_eq_true rfl) (Nat.le_of_ble_eq_true rfl) ?_
  exact W.aret (v := .ref q_3) hx hb hr (Or.inr ⟨_, rfl⟩) (Or.inr ⟨_, rfl⟩) (fun t ht hW => ⟨⟨some q_3, (q_3, k_4), rfl, rfl, ⟨by rw [ht]; exact hP9, va_K.moved hW.alike hK9, hD9⟩⟩, hS.F ht⟩) hS.2.2 dX19_trees_51

def wb_c_M_trees_00 : List Cond := [.classLink RX19 25 "HornbookModel$Tree", .code yX19_type cX19_type 2 (some (.object "HornbookModel$Tree")), .fieldLink RX19 16 "HornbookModel" "types" "Ljava/util/ArrayList;", .code yJx4a65c_get_915e3 cJx4a65c_get_915e3 2 (some (.object "java/lang/Object")), .fieldLink RJx4a65c 48 "java/util/ArrayList" "size" "I", .code yJ15_checkIndex_7cf53 cJ15_checkIndex_7cf53 2 (some .int), .code yJ3_checkIndex_8e157 cJ3_checkIndex_8e157 3 (some .int), .methodLink RJ15 105 yJ3_checkIndex_8e157, .static yJ3_checkIndex_8e157, .initialized RJ3, .methodLink RJx4a65c 118 yJ15_checkIndex_7cf53, .static yJ15_checkIndex_7cf53, .initialized RJ15, .code yJx4a65c_elementData_915e3 cJx4a65c_elementData_915e3 2 (some (.object "java/lang/Object")), .fieldLink RJx4a65c 9 "java/util/ArrayList" "elementData" "[Ljava/lang/Object;", .methodLink RJx4a65c 123 yJx4a65c_elementData_915e3, .instanceMethod yJx4a65c_elementData_915e3, .selects RJx4a65c yJx4a65c_elementData_915e3 yJx4a65c_elementData_915e3, .initialized RJx4a65c, .methodLink RX19 59 yJx4a65c_get_915e3, .instanceMethod yJx4a65c_get_915e3, .selects RJx4a65c yJx4a65c_get_915e3 yJx4a65c_get_915e3, .methodLink RX19 87 yX19_type, .instanceMethod yX19_type, .selects RX19 yX19_type yX19_type, .initialized RX19] ++ u_ws RJx4a65c TJx4a65c 3 ++ u_ws RX19 TX19 5
def w_c_M_trees_00 : List Cond := .code yX19_trees cX19_trees 4 (some (.array (.object "HornbookModel$Tree"))) :: wb_c_M_trees_00
set_option maxRecDepth 100000 in
theorem g_c_M_trees_00_0 : GoodIn w_c_M_trees_00 (wsV RX19 87 RX19 yX19_type w_c_M_type_0) := goodIn_app (goodIn_of _ (by decide +kernel)) (goodIn_p (big := w_c_M_trees_00) (.code yX19_type cX19_type 2 (some (.object "HornbookModel$Tree")) :: wb_c_M_type_0) [2, 4, 6, 7, 14] rfl (by decide +kernel))
set_option maxHeartbeats 4000000 in
set_option maxRecDepth 100000 in
theorem c_M_trees_00 (l : Launch) (eD eI : Nat) (ad : Nat → Nat) (dC : Nat → ClassId) (dI : Nat → Nat → Nat) (sz : Nat) (mm : Nat) (ms : Nat) (mt : Nat) (mh : Nat) (me : Nat) (th : Int32) (mo : Int32) (ma : Nat) (kO : ClassId) (t0 : Nat) (t1 : Nat) (t2 : Nat) (f0 : Value) : Met l yX19_trees w_c_M_trees_00 ({ frames := 4, cells := 1, slots := 2, locals := 85 }) (va_Pc [.ref mm, .int 0, .int 0] (zPre eD eI ad (dC, dI) [(mm, .inr (21, [.int th, .ref ms, .ref mt, .ref mh, .ref me])), (mt, .inr (1, [.int mo, .ref ma, .int 3])), (ma, .inl (kO, 10, .inr (.inr (.inr (.inr (zfT t0 t1 t2)))))), (t0, .inr (18, [.int (-1), f0]))] [(kO, .object "java/lang/Object")] sz)) (va_Qq (fun (r : Option Nat) (u : Nat × ClassId) => match u with | (tk, kk) => r = some tk) (fun (u : Nat × ClassId) => match u with | (tk, kk) => zEnd (dC, dI) (va_A [(mm, .inr (21, [.int th, .ref ms, .ref mt, .ref mh, .ref me])), (mt, .inr (1, [.int mo, .ref ma, .int 3])), (ma, .inl (kO, 10, .inr (.inr (.inr (.inr (zfT t0 t1 t2)))))), (t0, .inr (18, [.int (-1), f0]))] sz) [(mm, .inr (21, [.int th, .ref ms, .ref mt, .ref mh, .ref me])), (mt, .inr (1, [.int mo, .ref ma, .int 3])), (ma, .inl (kO, 10, .inr (.inr (.inr (.inr (zfT t0 t1 t2)))))), (t0, .inr (18, [.int (-1), f0])), (tk, .inl (kk, 2, .inr (.inr (.inr (.inr (va_up (va_up (fun _ => none) (0 : Int32).toNatClampNeg (some t0)) (1 : Int32).toNatClampNeg (some t0)))))))] [(kO, .object "java/lang/Object"), (kk, .object "HornbookModel$Tree")]) (va_A [(mm, .inr (21, [.int th, .ref ms, .ref mt, .ref mh, .ref me])), (mt, .inr (1, [.int mo, .ref ma, .int 3])), (ma, .inl (kO, 10, .inr (.inr (.inr (.inr (zfT t0 t1 t2)))))), (t0, .inr (18, [.int (-1), f0]))] sz)) 1 2 (va_A [(mm, .inr (21, [.int th, .ref ms, .ref mt, .ref mh, .ref me])), (mt, .inr (1, [.int mo, .ref ma, .int 3])), (ma, .inl (kO, 10, .inr (.inr (.inr (.inr (zfT t0 t1 t2)))))), (t0, .inr (18, [.int (-1), f0]))] sz) := by
  refine Met.ofW (cc := cX19_trees) (maxL := 4) (ret := (some (.array (.object "HornbookModel$Tree")))) (by decide) rfl ?_
  intro p e s m args below meth c s₁ B hml hv
  obtain ⟨rfl, hsz, hP, hK, hD0, hE⟩ := hv
  have hx := B.exec
  have hb := B.bytes
  have hr := B.returns
  have hts := atoms_spec (ws := w_c_M_trees_00) B.pre
  have hown : s.vm.findClass RX19 = some m.cls := findClass_of_methodNamed B.named
  have hlocks := B.notSynchronized
  subst hsz
  have hD := hD0.self (sz := s.heap.size)
  generalize hAe : va_A [(mm, .inr (21, [.int th, .ref ms, .ref mt, .ref mh, .ref me])), (mt, .inr (1, [.int mo, .ref ma, .int 3])), (ma, .inl (kO, 10, .inr (.inr (.inr (.inr (zfT t0 t1 t2)))))), (t0, .inr (18, [.int (-1), f0]))] s.heap.size = A at hD hE ⊢
  have hA : ∀ q : Nat, s.heap.size ≤ q → A q := fun q h => by rw [← hAe]; exact Or.inr h
  have hS : va_S A s.heap s.heap [] := va_S.rf
  have hP : va_P (dC, dI) vwCl [(mm, .inr (21, [.int th, .ref ms, .ref mt, .ref mh, .ref me])), (mt, .inr (1, [.int mo, .ref ma, .int 3])), (ma, .inl (kO, 10, .inr (.inr (.inr (.inr (zfT t0 t1 t2)))))), (t0, .inr (18, [.int (-1), f0]))] s.heap := hP
  have hl := lv_entry ([.ref mm, .int 0, .int 0]) (n := 4) (Nat.le_of_ble_eq_true rfl)
  rw [lg_entry_eq]
  generalize (lg_sl ([.ref mm, .int 0, .int 0]) ++ List.replicate (4 - (lg_sl ([.ref mm, .int 0, .int 0])).length) Slot.unset).toArray = ls at hl ⊢
  have hl : lv_has ls 4 [(0, .ref mm), (1, .int 0), (2, .int 0)] := hl
  have in_RJx4a65c : ∀ w ∈ u_ws RJx4a65c TJx4a65c 3, w ∈ w_c_M_trees_00 := by decide +kernel
  have in_RX19 : ∀ w ∈ u_ws RX19 TX19 5, w ∈ w_c_M_trees_00 := by decide +kernel
  refine lv_iload_n hx hb dX19_trees_0 rfl (lv_at hl 1 rfl) ?_
  refine lv_iconst (v := (-1)) hx hb dX19_trees_1 (by decide) ?_
  refine lv_icmp_ne (tgt := 9) hx hb dX19_trees_2 (by decide) (fun c_1 => ?_) (fun c_1 => ?_)
  rotate_left
  · exact absurd c_1 (by decide)
  refine lv_iload_n hx hb dX19_trees_9 rfl (lv_at hl 2 rfl) ?_
  refine lv_iconst (v := (-1)) hx hb dX19_trees_10 (by decide) ?_
  refine lv_icmp_ne (tgt := 18) hx hb dX19_trees_11 (by decide) (fun c_2 => ?_) (fun c_2 => ?_)
  rotate_left
  · exact absurd c_2 (by decide)
  refine lv_iconst (v := 2) hx hb dX19_trees_18 (by decide) ?_
  refine va_newq (C := "HornbookModel$Tree") hx hb hown (hts (.classLink RX19 25 "HornbookModel$Tree") (by decide +kernel)) (hE.2.2.2.2.2.2.1 "HornbookModel$Tree" (by decide +kernel)) hK hP hD hS hA (N' := 2) (by decide) (by decide) (Nat.le_of_ble_eq_true rfl) (Nat.le_of_ble_eq_true rfl) (Nat.le_of_ble_eq_true rfl) dX19_trees_19 (fun q_3 k_4 H hK hP hD hS => ?_)
  have hP : va_P (dC, dI) vwCl [(mm, .inr (21, [.int th, .ref ms, .ref mt, .ref mh, .ref me])), (mt, .inr (1, [.int mo, .ref ma, .int 3])), (ma, .inl (kO, 10, .inr (.inr (.inr (.inr (zfT t0 t1 t2)))))), (t0, .inr (18, [.int (-1), f0])), (q_3, .inl (k_4, 2, .inr (.inr (.inr (.inr (fun _ => none))))))] H := hP
  have hD : va_D A [(mm, .inr (21, [.int th, .ref ms, .ref mt, .ref mh, .ref me])), (mt, .inr (1, [.int mo, .ref ma, .int 3])), (ma, .inl (kO, 10, .inr (.inr (.inr (.inr (zfT t0 t1 t2)))))), (t0, .inr (18, [.int (-1), f0])), (q_3, .inl (k_4, 2, .inr (.inr (.inr (.inr (fun _ => none))))))] := hD
  have hK : va_K (dC, dI) vwCl [(kO, .object "java/lang/Object"), (k_4, .object "HornbookModel$Tree")] s := hK
  refine lv_astore_n (lv' := [(3, .ref q_3), (0, .ref mm), (1, .int 0), (2, .int 0)]) hx hb dX19_trees_22 rfl hl (by decide) rfl (fun ls hl => ?_)
  refine lv_aload_n hx hb dX19_trees_23 rfl (lv_at hl 0 rfl) ?_
  refine va_alen (D := (dC, dI)) (v := 2) hx hb hK hP 4 1 rfl rfl rfl dX19_trees_24 ?_
  refine lv_if_le (tgt := 36) hx hb dX19_trees_25 (by decide) (fun c_5 => ?_) (fun c_5 => ?_)
  · exact absurd c_5 (by decide)
  refine lv_aload_n hx hb dX19_trees_28 rfl (lv_at hl 0 rfl) ?_
  refine lv_iconst (v := 0) hx hb dX19_trees_29 (by decide) ?_
  refine lv_aload_n hx hb dX19_trees_30 rfl (lv_at hl 1 rfl) ?_
  refine lv_iload_n hx hb dX19_trees_31 rfl (lv_at hl 2 rfl) ?_
  refine z_q (wr := [(q_3, .inl (k_4, 2, .inr (.inr (.inr (.inr (fun _ => none))))))]) (va_runV (As := [.int 0]) (rest := [.int 0, .ref q_3]) ⟨hx, hb, hml, hown, hts⟩ (c_M_type_0 l eD eI ad dC dI H.size mm ms mt mh me th mo ma kO t0 t1 t2 f0) (cwV 1 hts g_c_M_trees_00_0 rfl rfl rfl (by decide +kernel) ⟨Nat.le_of_ble_eq_true rfl, Nat.le_of_ble_eq_true rfl⟩) (z_preV (wc := [(mm, .inr (21, [.int th, .ref ms, .ref mt, .ref mh, .ref me])), (mt, .inr (1, [.int mo, .ref ma, .int 3])), (ma, .inl (kO, 10, .inr (.inr (.inr (.inr (zfT t0 t1 t2)))))), (t0, .inr (18, [.int (-1), f0]))]) hP hD hK hS hA hE [0, 1, 2, 3] [0] rfl (by decide) rfl (ci := 21) (q0 := 0) rfl rfl) rfl rfl hl.1 rfl (lv_room (Nat.le_of_ble_eq_true rfl)) dX19_trees_32 ⟨Nat.le_of_ble_eq_true rfl, Nat.le_of_ble_eq_true rfl⟩) hP hD hK hS hA [0, 1, 2, 3] [4] rfl rfl (by decide) (by decide) (fun r_6 u H locs hw_7 hP hD hK hS => ?_)
  obtain ⟨⟩ := u
  have hP : va_P (dC, dI) vwCl [(q_3, .inl (k_4, 2, .inr (.inr (.inr (.inr (fun _ => none)))))), (mm, .inr (21, [.int th, .ref ms, .ref mt, .ref mh, .ref me])), (mt, .inr (1, [.int mo, .ref ma, .int 3])), (ma, .inl (kO, 10, .inr (.inr (.inr (.inr (zfT t0 t1 t2)))))), (t0, .inr (18, [.int (-1), f0]))] H := hP
  have hD : va_D A [(q_3, .inl (k_4, 2, .inr (.inr (.inr (.inr (fun _ => none)))))), (mm, .inr (21, [.int th, .ref ms, .ref mt, .ref mh, .ref me])), (mt, .inr (1, [.int mo, .ref ma, .int 3])), (ma, .inl (kO, 10, .inr (.inr (.inr (.inr (zfT t0 t1 t2)))))), (t0, .inr (18, [.int (-1), f0]))] := hD
  have hK : va_K (dC, dI) vwCl [(kO, .object "java/lang/Object"), (k_4, .object "HornbookModel$Tree")] s := by simpa using hK
  have hw_7 : r_6 = some t0 := hw_7
  have hw_7 := hw_7.symm
  subst hw_7
  refine W.eq (g2 := F0 m 35 ls (.ref t0 :: .int 0 :: .ref q_3 :: [])) rfl ?_
  refine va_astq (D := (dC, dI)) hx hb hK hP hD hS 0 1 4 18 rfl rfl rfl rfl (by unfold vp_in; decide) dX19_trees_35 (fun H locs hP hD hS => ?_)
  have hP : va_P (dC, dI) vwCl [(q_3, .inl (k_4, 2, .inr (.inr (.inr (.inr (va_up (fun _ => none) (0 : Int32).toNatClampNeg (some t0))))))), (mm, .inr (21, [.int th, .ref ms, .ref mt, .ref mh, .ref me])), (mt, .inr (1, [.int mo, .ref ma, .int 3])), (ma, .inl (kO, 10, .inr (.inr (.inr (.inr (zfT t0 t1 t2)))))), (t0, .inr (18, [.int (-1), f0]))] H := hP
  have hD : va_D A [(q_3, .inl (k_4, 2, .inr (.inr (.inr (.inr (va_up (fun _ => none) (0 : Int32).toNatClampNeg (some t0))))))), (mm, .inr (21, [.int th, .ref ms, .ref mt, .ref mh, .ref me])), (mt, .inr (1, [.int mo, .ref ma, .int 3])), (ma, .inl (kO, 10, .inr (.inr (.inr (.inr (zfT t0 t1 t2)))))), (t0, .inr (18, [.int (-1), f0]))] := hD
  refine lv_aload_n hx hb dX19_trees_36 rfl (lv_at hl 0 rfl) ?_
  refine va_alen (D := (dC, dI)) (v := 2) hx hb hK hP 0 1 rfl rfl rfl dX19_trees_37 ?_
  refine lv_iconst (v := 1) hx hb dX19_trees_38 (by decide) ?_
  refine lv_icmp_le (tgt := 50) hx hb dX19_trees_39 (by decide) (fun c_8 => ?_) (fun c_8 => ?_)
  · exact absurd c_8 (by decide)
  refine lv_aload_n hx hb dX19_trees_42 rfl (lv_at hl 0 rfl) ?_
  refine lv_iconst (v := 1) hx hb dX19_trees_43 (by decide) ?_
  refine lv_aload_n hx hb dX19_trees_44 rfl (lv_at hl 1 rfl) ?_
  refine lv_iload_n hx hb dX19_trees_45 rfl (lv_at hl 3 rfl) ?_
  refine z_q (wr := [(q_3, .inl (k_4, 2, .inr (.inr (.inr (.inr (va_up (fun _ => none) (0 : Int32).toNatClampNeg (some t0)))))))]) (va_runV (As := [.int 0]) (rest := [.int 1, .ref q_3]) ⟨hx, hb, hml, hown, hts⟩ (c_M_type_0 l eD eI ad dC dI H.size mm ms mt mh me th mo ma kO t0 t1 t2 f0) (cwV 1 hts g_c_M_trees_00_0 rfl rfl rfl (by decide +kernel) ⟨Nat.le_of_ble_eq_true rfl, Nat.le_of_ble_eq_true rfl⟩) (z_preV (wc := [(mm, .inr (21, [.int th, .ref ms, .ref mt, .ref mh, .ref me])), (mt, .inr (1, [.int mo, .ref ma, .int 3])), (ma, .inl (kO, 10, .inr (.inr (.inr (.inr (zfT t0 t1 t2)))))), (t0, .inr (18, [.int (-1), f0]))]) hP hD hK hS hA hE [1, 2, 3, 4] [0] rfl (by decide) rfl (ci := 21) (q0 := 0) rfl rfl) rfl rfl hl.1 rfl (lv_room (Nat.le_of_ble_eq_true rfl)) dX19_trees_46 ⟨Nat.le_of_ble_eq_true rfl, Nat.le_of_ble_eq_true rfl⟩) hP hD hK hS hA [1, 2, 3, 4] [0] rfl rfl (by decide) (by decide) (fun r_9 u H locs hw_10 hP hD hK hS => ?_)
  obtain ⟨⟩ := u
  have hP : va_P (dC, dI) vwCl [(q_3, .inl (k_4, 2, .inr (.inr (.inr (.inr (va_up (fun _ => none) (0 : Int32).toNatClampNeg (some t0))))))), (mm, .inr (21, [.int th, .ref ms, .ref mt, .ref mh, .ref me])), (mt, .inr (1, [.int mo, .ref ma, .int 3])), (ma, .inl (kO, 10, .inr (.inr (.inr (.inr (zfT t0 t1 t2)))))), (t0, .inr (18, [.int (-1), f0]))] H := hP
  have hD : va_D A [(q_3, .inl (k_4, 2, .inr (.inr (.inr (.inr (va_up (fun _ => none) (0 : Int32).toNatClampNeg (some t0))))))), (mm, .inr (21, [.int th, .ref ms, .ref mt, .ref mh, .ref me])), (mt, .inr (1, [.int mo, .ref ma, .int 3])), (ma, .inl (kO, 10, .inr (.inr (.inr (.inr (zfT t0 t1 t2)))))), (t0, .inr (18, [.int (-1), f0]))] := hD
  have hK : va_K (dC, dI) vwCl [(kO, .object "java/lang/Object"), (k_4, .object "HornbookModel$Tree")] s := by simpa using hK
  have hw_10 : r_9 = some t0 := hw_10
  have hw_10 := hw_10.symm
  subst hw_10
  refine W.eq (g2 := F0 m 49 ls (.ref t0 :: .int 1 :: .ref q_3 :: [])) rfl ?_
  refine va_astq (D := (dC, dI)) hx hb hK hP hD hS 0 1 4 18 rfl rfl rfl rfl (by unfold vp_in; decide) dX19_trees_49 (fun H locs hP hD hS => ?_)
  have hP : va_P (dC, dI) vwCl [(q_3, .inl (k_4, 2, .inr (.inr (.inr (.inr (va_up (va_up (fun _ => none) (0 : Int32).toNatClampNeg (some t0)) (1 : Int32).toNatClampNeg (some t0))))))), (mm, .inr (21, [.int th, .ref ms, .ref mt, .ref mh, .ref me])), (mt, .inr (1, [.int mo, .ref ma, .int 3])), (ma, .inl (kO, 10, .inr (.inr (.inr (.inr (zfT t0 t1 t2)))))), (t0, .inr (18, [.int (-1), f0]))] H := hP
  have hD : va_D A [(q_3, .inl (k_4, 2, .inr (.inr (.inr (.inr (va_up (va_up (fun _ => none) (0 : Int32).toNatClampNeg (some t0)) (1 : Int32).toNatClampNeg (some t0))))))), (mm, .inr (21, [.int th, .ref ms, .ref mt, .ref mh, .ref me])), (mt, .inr (1, [.int mo, .ref ma, .int 3])), (ma, .inl (kO, 10, .inr (.inr (.inr (.inr (zfT t0 t1 t2)))))), (t0, .inr (18, [.int (-1), f0]))] := hD
  refine lv_aload_n hx hb dX19_trees_50 rfl (lv_at hl 0 rfl) ?_
  have hP9 := hP.sub (ws' := [(mm, .inr (21, [.int th, .ref ms, .ref mt, .ref mh, .ref me])), (mt, .inr (1, [.int mo, .ref ma, .int 3])), (ma, .inl (kO, 10, .inr (.inr (.inr (.inr (zfT t0 t1 t2)))))), (t0, .inr (18, [.int (-1), f0])), (q_3, .inl (k_4, 2, .inr (.inr (.inr (.inr (va_up (va_up (fun _ => none) (0 : Int32).toNatClampNeg (some t0)) (1 : Int32).toNatClampNeg (some t0)))))))]) [1, 2, 3, 4, 0] rfl
  have hD9 := hD.sub (ws' := [(mm, .inr (21, [.int th, .ref ms, .ref mt, .ref mh, .ref me])), (mt, .inr (1, [.int mo, .ref ma, .int 3])), (ma, .inl (kO, 10, .inr (.inr (.inr (.inr (zfT t0 t1 t2)))))), (t0, .inr (18, [.int (-1), f0])), (q_3, .inl (k_4, 2, .inr (.inr (.inr (.inr (va_up (va_up (fun _ => none) (0 : Int32).toNatClampNeg (some t0)) (1 : Int32).toNatClampNeg (some t0)))))))]) [1, 2, 3, 4, 0] (by decide) rfl
  have hK9 := hK.sub (tys' := [(kO, .object "java/lang/Object"), (k_4, .object "HornbookModel$Tree")]) [0, 1] rfl
  refine W.widen (k := 1) (n := 2) (Nat.le_of_ble_eq_true rfl) (Nat.le_of_ble_eq_true rfl) ?_
  exact W.aret (v := .ref q_3) hx hb hr (Or.inr ⟨_, rfl⟩) (Or.inr ⟨_, rfl⟩) (fun t ht hW => ⟨⟨some q_3, (q_3, k_4), rfl, rfl, ⟨by rw [ht]; exact hP9, va_K.moved hW.alike hK9, hD9⟩⟩, hS.F ht⟩) hS.2.2 dX19_trees_51

def wb_c_M_trees_01 : List Cond := [.classLink RX19 25 "HornbookModel$Tree", .code yX19_type cX19_type 2 (some (.object "HornbookModel$Tree")), .fieldLink RX19 16 "HornbookModel" "types" "Ljava/util/ArrayList;", .code yJx4a65c_get_915e3 cJx4a65c_get_915e3 2 (some (.object "java/lang/Object")), .fieldLink RJx4a65c 48 "java/util/ArrayList" "size" "I", .code yJ15_checkIndex_7cf53 cJ15_checkIndex_7cf53 2 (some .int), .code yJ3_checkIndex_8e157 cJ3_checkIndex_8e157 3 (some .int), .methodLink RJ15 105 yJ3_checkIndex_8e157, .static yJ3_checkIndex_8e157, .initialized RJ3, .methodLink RJx4a65c 118 yJ15_checkIndex_7cf53, .static yJ15_checkIndex_7cf53, .initialized RJ15, .code yJx4a65c_elementData_915e3 cJx4a65c_elementData_915e3 2 (some (.object "java/lang/Object")), .fieldLink RJx4a65c 9 "java/util/ArrayList" "elementData" "[Ljava/lang/Object;", .methodLink RJx4a65c 123 yJx4a65c_elementData_915e3, .instanceMethod yJx4a65c_elementData_915e3, .selects RJx4a65c yJx4a65c_elementData_915e3 yJx4a65c_elementData_915e3, .initialized RJx4a65c, .methodLink RX19 59 yJx4a65c_get_915e3, .instanceMethod yJx4a65c_get_915e3, .selects RJx4a65c yJx4a65c_get_915e3 yJx4a65c_get_915e3, .methodLink RX19 87 yX19_type, .instanceMethod yX19_type, .selects RX19 yX19_type yX19_type, .initialized RX19] ++ u_ws RJx4a65c TJx4a65c 3 ++ u_ws RX19 TX19 5
def w_c_M_trees_01 : List Cond := .code yX19_trees cX19_trees 4 (some (.array (.object "HornbookModel$Tree"))) :: wb_c_M_trees_01
set_option maxRecDepth 100000 in
theorem g_c_M_trees_01_0 : GoodIn w_c_M_trees_01 (wsV RX19 87 RX19 yX19_type w_c_M_type_0) := goodIn_app (goodIn_of _ (by decide +kernel)) (goodIn_p (big := w_c_M_trees_01) (.code yX19_type cX19_type 2 (some (.object "HornbookModel$Tree")) :: wb_c_M_type_0) [2, 4, 6, 7, 14] rfl (by decide +kernel))
set_option maxRecDepth 100000 in
theorem g_c_M_trees_01_1 : GoodIn w_c_M_trees_01 (wsV RX19 87 RX19 yX19_type w_c_M_type_1) := goodIn_app (goodIn_of _ (by decide +kernel)) (goodIn_p (big := w_c_M_trees_01) (.code yX19_type cX19_type 2 (some (.object "HornbookModel$Tree")) :: wb_c_M_type_1) [2, 4, 6, 7, 14] rfl (by decide +kernel))
set_option maxHeartbeats 4000000 in
set_option maxRecDepth 100000 in
theorem c_M_trees_01 (l : Launch) (eD eI : Nat) (ad : Nat → Nat) (dC : Nat → ClassId) (dI : Nat → Nat → Nat) (sz : Nat) (mm : Nat) (ms : Nat) (mt : Nat) (mh : Nat) (me : Nat) (th : Int32) (mo : Int32) (ma : Nat) (kO : ClassId) (t0 : Nat) (t1 : Nat) (t2 : Nat) (f0 : Value) (f1 : Value) : Met l yX19_trees w_c_M_trees_01 ({ frames := 4, cells := 1, slots := 2, locals := 85 }) (va_Pc [.ref mm, .int 0, .int 1] (zPre eD eI ad (dC, dI) [(mm, .inr (21, [.int th, .ref ms, .ref mt, .ref mh, .ref me])), (mt, .inr (1, [.int mo, .ref ma, .int 3])), (ma, .inl (kO, 10, .inr (.inr (.inr (.inr (zfT t0 t1 t2)))))), (t0, .inr (18, [.int (-1), f0])), (t1, .inr (18, [.int (-2), f1]))] [(kO, .object "java/lang/Object")] sz)) (va_Qq (fun (r : Option Nat) (u : Nat × ClassId) => match u with | (tk, kk) => r = some tk) (fun (u : Nat × ClassId) => match u with | (tk, kk) => zEnd (dC, dI) (va_A [(mm, .inr (21, [.int th, .ref ms, .ref mt, .ref mh, .ref me])), (mt, .inr (1, [.int mo, .ref ma, .int 3])), (ma, .inl (kO, 10, .inr (.inr (.inr (.inr (zfT t0 t1 t2)))))), (t0, .inr (18, [.int (-1), f0])), (t1, .inr (18, [.int (-2), f1]))] sz) [(mm, .inr (21, [.int th, .ref ms, .ref mt, .ref mh, .ref me])), (mt, .inr (1, [.int mo, .ref ma, .int 3])), (ma, .inl (kO, 10, .inr (.inr (.inr (.inr (zfT t0 t1 t2)))))), (t0, .inr (18, [.int (-1), f0])), (t1, .inr (18, [.int (-2), f1])), (tk, .inl (kk, 2, .inr (.inr (.inr (.inr (va_up (va_up (fun _ => none) (0 : Int32).toNatClampNeg (some t0)) (1 : Int32).toNatClampNeg (some t1)))))))] [(kO, .object "java/lang/Object"), (kk, .object "HornbookModel$Tree")]) (va_A [(mm, .inr (21, [.int th, .ref ms, .ref mt, .ref mh, .ref me])), (mt, .inr (1, [.int mo, .ref ma, .int 3])), (ma, .inl (kO, 10, .inr (.inr (.inr (.inr (zfT t0 t1 t2)))))), (t0, .inr (18, [.int (-1), f0])), (t1, .inr (18, [.int (-2), f1]))] sz)) 1 2 (va_A [(mm, .inr (21, [.int th, .ref ms, .ref mt, .ref mh, .ref me])), (mt, .inr (1, [.int mo, .ref ma, .int 3])), (ma, .inl (kO, 10, .inr (.inr (.inr (.inr (zfT t0 t1 t2)))))), (t0, .inr (18, [.int (-1), f0])), (t1, .inr (18, [.int (-2), f1]))] sz) := by
  refine Met.ofW (cc := cX19_trees) (maxL := 4) (ret := (some (.array (.object "HornbookModel$Tree")))) (by decide) rfl ?_
  intro p e s m args below meth c s₁ B hml hv
  obtain ⟨rfl, hsz, hP, hK, hD0, hE⟩ := hv
  have hx := B.exec
  have hb := B.bytes
  have hr := B.returns
  have hts := atoms_spec (ws := w_c_M_trees_01) B.pre
  have hown : s.vm.findClass RX19 = some m.cls := findClass_of_methodNamed B.named
  have hlocks := B.notSynchronized
  subst hsz
  have hD := hD0.self (sz := s.heap.size)
  generalize hAe : va_A [(mm, .inr (21, [.int th, .ref ms, .ref mt, .ref mh, .ref me])), (mt, .inr (1, [.int mo, .ref ma, .int 3])), (ma, .inl (kO, 10, .inr (.inr (.inr (.inr (zfT t0 t1 t2)))))), (t0, .inr (18, [.int (-1), f0])), (t1, .inr (18, [.int (-2), f1]))] s.heap.size = A at hD hE ⊢
  have hA : ∀ q : Nat, s.heap.size ≤ q → A q := fun q h => by rw [← hAe]; exact Or.inr h
  have hS : va_S A s.heap s.heap [] := va_S.rf
  have hP : va_P (dC, dI) vwCl [(mm, .inr (21, [.int th, .ref ms, .ref mt, .ref mh, .ref me])), (mt, .inr (1, [.int mo, .ref ma, .int 3])), (ma, .inl (kO, 10, .inr (.inr (.inr (.inr (zfT t0 t1 t2)))))), (t0, .inr (18, [.int (-1), f0])), (t1, .inr (18, [.int (-2), f1]))] s.heap := hP
  have hl := lv_entry ([.ref mm, .int 0, .int 1]) (n := 4) (Nat.le_of_ble_eq_true rfl)
  rw [lg_entry_eq]
  generalize (lg_sl ([.ref mm, .int 0, .int 1]) ++ List.replicate (4 - (lg_sl ([.ref mm, .int 0, .int 1])).length) Slot.unset).toArray = ls at hl ⊢
  have hl : lv_has ls 4 [(0, .ref mm), (1, .int 0), (2, .int 1)] := hl
  have in_RJx4a65c : ∀ w ∈ u_ws RJx4a65c TJx4a65c 3, w ∈ w_c_M_trees_01 := by decide +kernel
  have in_RX19 : ∀ w ∈ u_ws RX19 TX19 5, w ∈ w_c_M_trees_01 := by decide +kernel
  refine lv_iload_n hx hb dX19_trees_0 rfl (lv_at hl 1 rfl) ?_
  refine lv_iconst (v := (-1)) hx hb dX19_trees_1 (by decide) ?_
  refine lv_icmp_ne (tgt := 9) hx hb dX19_trees_2 (by decide) (fun c_1 => ?_) (fun c_1 => ?_)
  rotate_left
  · exact absurd c_1 (by decide)
  refine lv_iload_n hx hb dX19_trees_9 rfl (lv_at hl 2 rfl) ?_
  refine lv_iconst (v := (-1)) hx hb dX19_trees_10 (by decide) ?_
  refine lv_icmp_ne (tgt := 18) hx hb dX19_trees_11 (by decide) (fun c_2 => ?_) (fun c_2 => ?_)
  rotate_left
  · exact absurd c_2 (by decide)
  refine lv_iconst (v := 2) hx hb dX19_trees_18 (by decide) ?_
  refine va_newq (C := "HornbookModel$Tree") hx hb hown (hts (.classLink RX19 25 "HornbookModel$Tree") (by decide +kernel)) (hE.2.2.2.2.2.2.1 "HornbookModel$Tree" (by decide +kernel)) hK hP hD hS hA (N' := 2) (by decide) (by decide) (Nat.le_of_ble_eq_true rfl) (Nat.le_of_ble_eq_true rfl) (Nat.le_of_ble_eq_true rfl) dX19_trees_19 (fun q_3 k_4 H hK hP hD hS => ?_)
  have hP : va_P (dC, dI) vwCl [(mm, .inr (21, [.int th, .ref ms, .ref mt, .ref mh, .ref me])), (mt, .inr (1, [.int mo, .ref ma, .int 3])), (ma, .inl (kO, 10, .inr (.inr (.inr (.inr (zfT t0 t1 t2)))))), (t0, .inr (18, [.int (-1), f0])), (t1, .inr (18, [.int (-2), f1])), (q_3, .inl (k_4, 2, .inr (.inr (.inr (.inr (fun _ => none))))))] H := hP
  have hD : va_D A [(mm, .inr (21, [.int th, .ref ms, .ref mt, .ref mh, .ref me])), (mt, .inr (1, [.int mo, .ref ma, .int 3])), (ma, .inl (kO, 10, .inr (.inr (.inr (.inr (zfT t0 t1 t2)))))), (t0, .inr (18, [.int (-1), f0])), (t1, .inr (18, [.int (-2), f1])), (q_3, .inl (k_4, 2, .inr (.inr (.inr (.inr (fun _ => none))))))] := hD
  have hK : va_K (dC, dI) vwCl [(kO, .object "java/lang/Object"), (k_4, .object "HornbookModel$Tree")] s := hK
  refine lv_astore_n (lv' := [(3, .ref q_3), (0, .ref mm), (1, .int 0), (2, .int 1)]) hx hb dX19_trees_22 rfl hl (by decide) rfl (fun ls hl => ?_)
  refine lv_aload_n hx hb dX19_trees_23 rfl (lv_at hl 0 rfl) ?_
  refine va_alen (D := (dC, dI)) (v := 2) hx hb hK hP 5 1 rfl rfl rfl dX19_trees_24 ?_
  refine lv_if_le (tgt := 36) hx hb dX19_trees_25 (by decide) (fun c_5 => ?_) (fun c_5 => ?_)
  · exact absurd c_5 (by decide)
  refine lv_aload_n hx hb dX19_trees_28 rfl (lv_at hl 0 rfl) ?_
  refine lv_iconst (v := 0) hx hb dX19_trees_29 (by decide) ?_
  refine lv_aload_n hx hb dX19_trees_30 rfl (lv_at hl 1 rfl) ?_
  refine lv_iload_n hx hb dX19_trees_31 rfl (lv_at hl 2 rfl) ?_
  refine z_q (wr := [(t1, .inr (18, [.int (-2), f1])), (q_3, .inl (k_4, 2, .inr (.inr (.inr (.inr (fun _ => none))))))]) (va_runV (As := [.int 0]) (rest := [.int 0, .ref q_3]) ⟨hx, hb, hml, hown, hts⟩ (c_M_type_0 l eD eI ad dC dI H.size mm ms mt mh me th mo ma kO t0 t1 t2 f0) (cwV 1 hts g_c_M_trees_01_0 rfl rfl rfl (by decide +kernel) ⟨Nat.le_of_ble_eq_true rfl, Nat.le_of_ble_eq_true rfl⟩) (z_preV (wc := [(mm, .inr (21, [.int th, .ref ms, .ref mt, .ref mh, .ref me])), (mt, .inr (1, [.int mo, .ref ma, .int 3])), (ma, .inl (kO, 10, .inr (.inr (.inr (.inr (zfT t0 t1 t2)))))), (t0, .inr (18, [.int (-1), f0]))]) hP hD hK hS hA hE [0, 1, 2, 3] [0] rfl (by decide) rfl (ci := 21) (q0 := 0) rfl rfl) rfl rfl hl.1 rfl (lv_room (Nat.le_of_ble_eq_true rfl)) dX19_trees_32 ⟨Nat.le_of_ble_eq_true rfl, Nat.le_of_ble_eq_true rfl⟩) hP hD hK hS hA [0, 1, 2, 3] [4, 5] rfl rfl (by decide) (by decide) (fun r_6 u H locs hw_7 hP hD hK hS => ?_)
  obtain ⟨⟩ := u
  have hP : va_P (dC, dI) vwCl [(t1, .inr (18, [.int (-2), f1])), (q_3, .inl (k_4, 2, .inr (.inr (.inr (.inr (fun _ => none)))))), (mm, .inr (21, [.int th, .ref ms, .ref mt, .ref mh, .ref me])), (mt, .inr (1, [.int mo, .ref ma, .int 3])), (ma, .inl (kO, 10, .inr (.inr (.inr (.inr (zfT t0 t1 t2)))))), (t0, .inr (18, [.int (-1), f0]))] H := hP
  have hD : va_D A [(t1, .inr (18, [.int (-2), f1])), (q_3, .inl (k_4, 2, .inr (.inr (.inr (.inr (fun _ => none)))))), (mm, .inr (21, [.int th, .ref ms, .ref mt, .ref mh, .ref me])), (mt, .inr (1, [.int mo, .ref ma, .int 3])), (ma, .inl (kO, 10, .inr (.inr (.inr (.inr (zfT t0 t1 t2)))))), (t0, .inr (18, [.int (-1), f0]))] := hD
  have hK : va_K (dC, dI) vwCl [(kO, .object "java/lang/Object"), (k_4, .object "HornbookModel$Tree")] s := by simpa using hK
  have hw_7 : r_6 = some t0 := hw_7
  have hw_7 := hw_7.symm
  subst hw_7
  refine W.eq (g2 := F0 m 35 ls (.ref t0 :: .int 0 :: .ref q_3 :: [])) rfl ?_
  refine va_astq (D := (dC, dI)) hx hb hK hP hD hS 1 1 5 18 rfl rfl rfl rfl (by unfold vp_in; decide) dX19_trees_35 (fun H locs hP hD hS => ?_)
  have hP : va_P (dC, dI) vwCl [(t1, .inr (18, [.int (-2), f1])), (q_3, .inl (k_4, 2, .inr (.inr (.inr (.inr (va_up (fun _ => none) (0 : Int32).toNatClampNeg (some t0))))))), (mm, .inr (21, [.int th, .ref ms, .ref mt, .ref mh, .ref me])), (mt, .inr (1, [.int mo, .ref ma, .int 3])), (ma, .inl (kO, 10, .inr (.inr (.inr (.inr (zfT t0 t1 t2)))))), (t0, .inr (18, [.int (-1), f0]))] H := hP
  have hD : va_D A [(t1, .inr (18, [.int (-2), f1])), (q_3, .inl (k_4, 2, .inr (.inr (.inr (.inr (va_up (fun _ => none) (0 : Int32).toNatClampNeg (some t0))))))), (mm, .inr (21, [.int th, .ref ms, .ref mt, .ref mh, .ref me])), (mt, .inr (1, [.int mo, .ref ma, .int 3])), (ma, .inl (kO, 10, .inr (.inr (.inr (.inr (zfT t0 t1 t2)))))), (t0, .inr (18, [.int (-1), f0]))] := hD
  refine lv_aload_n hx hb dX19_trees_36 rfl (lv_at hl 0 rfl) ?_
  refine va_alen (D := (dC, dI)) (v := 2) hx hb hK hP 1 1 rfl rfl rfl dX19_trees_37 ?_
  refine lv_iconst (v := 1) hx hb dX19_trees_38 (by decide) ?_
  refine lv_icmp_le (tgt := 50) hx hb dX19_trees_39 (by decide) (fun c_8 => ?_) (fun c_8 => ?_)
  · exact absurd c_8 (by decide)
  refine lv_aload_n hx hb dX19_trees_42 rfl (lv_at hl 0 rfl) ?_
  refine lv_iconst (v := 1) hx hb dX19_trees_43 (by decide) ?_
  refine lv_aload_n hx hb dX19_trees_44 rfl (lv_at hl 1 rfl) ?_
  refine lv_iload_n hx hb dX19_trees_45 rfl (lv_at hl 3 rfl) ?_
  refine z_q (wr := [(q_3, .inl (k_4, 2, .inr (.inr (.inr (.inr (va_up (fun _ => none) (0 : Int32).toNatClampNeg (some t0))))))), (t0, .inr (18, [.int (-1), f0]))]) (va_runV (As := [.int 1]) (rest := [.int 1, .ref q_3]) ⟨hx, hb, hml, hown, hts⟩ (c_M_type_1 l eD eI ad dC dI H.size mm ms mt mh me th mo ma kO t0 t1 t2 f1) (cwV 1 hts g_c_M_trees_01_1 rfl rfl rfl (by decide +kernel) ⟨Nat.le_of_ble_eq_true rfl, Nat.le_of_ble_eq_true rfl⟩) (z_preV (wc := [(mm, .inr (21, [.int th, .ref ms, .ref mt, .ref mh, .ref me])), (mt, .inr (1, [.int mo, .ref ma, .int 3])), (ma, .inl (kO, 10, .inr (.inr (.inr (.inr (zfT t0 t1 t2)))))), (t1, .inr (18, [.int (-2), f1]))]) hP hD hK hS hA hE [2, 3, 4, 0] [0] rfl (by decide) rfl (ci := 21) (q0 := 0) rfl rfl) rfl rfl hl.1 rfl (lv_room (Nat.le_of_ble_eq_true rfl)) dX19_trees_46 ⟨Nat.le_of_ble_eq_true rfl, Nat.le_of_ble_eq_true rfl⟩) hP hD hK hS hA [2, 3, 4, 0] [1, 5] rfl rfl (by decide) (by decide) (fun r_9 u H locs hw_10 hP hD hK hS => ?_)
  obtain ⟨⟩ := u
  have hP : va_P (dC, dI) vwCl [(q_3, .inl (k_4, 2, .inr (.inr (.inr (.inr (va_up (fun _ => none) (0 : Int32).toNatClampNeg (some t0))))))), (t0, .inr (18, [.int (-1), f0])), (mm, .inr (21, [.int th, .ref ms, .ref mt, .ref mh, .ref me])), (mt, .inr (1, [.int mo, .ref ma, .int 3])), (ma, .inl (kO, 10, .inr (.inr (.inr (.inr (zfT t0 t1 t2)))))), (t1, .inr (18, [.int (-2), f1]))] H := hP
  have hD : va_D A [(q_3, .inl (k_4, 2, .inr (.inr (.inr (.inr (va_up (fun _ => none) (0 : Int32).toNatClampNeg (some t0))))))), (t0, .inr (18, [.int (-1), f0])), (mm, .inr (21, [.int th, .ref ms, .ref mt, .ref mh, .ref me])), (mt, .inr (1, [.int mo, .ref ma, .int 3])), (ma, .inl (kO, 10, .inr (.inr (.inr (.inr (zfT t0 t1 t2)))))), (t1, .inr (18, [.int (-2), f1]))] := hD
  have hK : va_K (dC, dI) vwCl [(kO, .object "java/lang/Object"), (k_4, .object "HornbookModel$Tree")] s := by simpa using hK
  have hw_10 : r_9 = some t1 := hw_10
  have hw_10 := hw_10.symm
  subst hw_10
  refine W.eq (g2 := F0 m 49 ls (.ref t1 :: .int 1 :: .ref q_3 :: [])) rfl ?_
  refine va_astq (D := (dC, dI)) hx hb hK hP hD hS 0 1 5 18 rfl rfl rfl rfl (by unfold vp_in; decide) dX19_trees_49 (fun H locs hP hD hS => ?_)
  have hP : va_P (dC, dI) vwCl [(q_3, .inl (k_4, 2, .inr (.inr (.inr (.inr (va_up (va_up (fun _ => none) (0 : Int32).toNatClampNeg (some t0)) (1 : Int32).toNatClampNeg (some t1))))))), (t0, .inr (18, [.int (-1), f0])), (mm, .inr (21, [.int th, .ref ms, .ref mt, .ref mh, .ref me])), (mt, .inr (1, [.int mo, .ref ma, .int 3])), (ma, .inl (kO, 10, .inr (.inr (.inr (.inr (zfT t0 t1 t2)))))), (t1, .inr (18, [.int (-2), f1]))] H := hP
  have hD : va_D A [(q_3, .inl (k_4, 2, .inr (.inr (.inr (.inr (va_up (va_up (fun _ => none) (0 : Int32).toNatClampNeg (some t0)) (1 : Int32).toNatClampNeg (some t1))))))), (t0, .inr (18, [.int (-1), f0])), (mm, .inr (21, [.int th, .ref ms, .ref mt, .ref mh, .ref me])), (mt, .inr (1, [.int mo, .ref ma, .int 3])), (ma, .inl (kO, 10, .inr (.inr (.inr (.inr (zfT t0 t1 t2)))))), (t1, .inr (18, [.int (-2), f1]))] := hD
  refine lv_aload_n hx hb dX19_trees_50 rfl (lv_at hl 0 rfl) ?_
  have hP9 := hP.sub (ws' := [(mm, .inr (21, [.int th, .ref ms, .ref mt, .ref mh, .ref me])), (mt, .inr (1, [.int mo, .ref ma, .int 3])), (ma, .inl (kO, 10, .inr (.inr (.inr (.inr (zfT t0 t1 t2)))))), (t0, .inr (18, [.int (-1), f0])), (t1, .inr (18, [.int (-2), f1])), (q_3, .inl (k_4, 2, .inr (.inr (.inr (.inr (va_up (va_up (fun _ => none) (0 : Int32).toNatClampNeg (some t0)) (1 : Int32).toNatClampNeg (some t1)))))))]) [2, 3, 4, 1, 5, 0] rfl
  have hD9 := hD.sub (ws' := [(mm, .inr (21, [.int th, .ref ms, .ref mt, .ref mh, .ref me])), (mt, .inr (1, [.int mo, .ref ma, .int 3])), (ma, .inl (kO, 10, .inr (.inr (.inr (.inr (zfT t0 t1 t2)))))), (t0, .inr (18, [.int (-1), f0])), (t1, .inr (18, [.int (-2), f1])), (q_3, .inl (k_4, 2, .inr (.inr (.inr (.inr (va_up (va_up (fun _ => none) (0 : Int32).toNatClampNeg (some t0)) (1 : Int32).toNatClampNeg (some t1)))))))]) [2, 3, 4, 1, 5, 0] (by decide) rfl
  have hK9 := hK.sub (tys' := [(kO, .object "java/lang/Object"), (k_4, .object "HornbookModel$Tree")]) [0, 1] rfl
  refine W.widen (k := 1) (n := 2) (Nat.le_of_ble_eq_true rfl) (Nat.le_of_ble_eq_true rfl) ?_
  exact W.aret (v := .ref q_3) hx hb hr (Or.inr ⟨_, rfl⟩) (Or.inr ⟨_, rfl⟩) (fun t ht hW => ⟨⟨some q_3, (q_3, k_4), rfl, rfl, ⟨by rw [ht]; exact hP9, va_K.moved hW.alike hK9, hD9⟩⟩, hS.F ht⟩) hS.2.2 dX19_trees_51

def wb_c_M_trees_02 : List Cond := [.classLink RX19 25 "HornbookModel$Tree", .code yX19_type cX19_type 2 (some (.object "HornbookModel$Tree")), .fieldLink RX19 16 "HornbookModel" "types" "Ljava/util/ArrayList;", .code yJx4a65c_get_915e3 cJx4a65c_get_915e3 2 (some (.object "java/lang/Object")), .fieldLink RJx4a65c 48 "java/util/ArrayList" "size" "I", .code yJ15_checkIndex_7cf53 cJ15_checkIndex_7cf53 2 (some .int), .code yJ3_checkIndex_8e157 cJ3_checkIndex_8e157 3 (some .int), .methodLink RJ15 105 yJ3_checkIndex_8e157, .static yJ3_checkIndex_8e157, .initialized RJ3, .methodLink RJx4a65c 118 yJ15_checkIndex_7cf53, .static yJ15_checkIndex_7cf53, .initialized RJ15, .code yJx4a65c_elementData_915e3 cJx4a65c_elementData_915e3 2 (some (.object "java/lang/Object")), .fieldLink RJx4a65c 9 "java/util/ArrayList" "elementData" "[Ljava/lang/Object;", .methodLink RJx4a65c 123 yJx4a65c_elementData_915e3, .instanceMethod yJx4a65c_elementData_915e3, .selects RJx4a65c yJx4a65c_elementData_915e3 yJx4a65c_elementData_915e3, .initialized RJx4a65c, .methodLink RX19 59 yJx4a65c_get_915e3, .instanceMethod yJx4a65c_get_915e3, .selects RJx4a65c yJx4a65c_get_915e3 yJx4a65c_get_915e3, .methodLink RX19 87 yX19_type, .instanceMethod yX19_type, .selects RX19 yX19_type yX19_type, .initialized RX19] ++ u_ws RJx4a65c TJx4a65c 3 ++ u_ws RX19 TX19 5
def w_c_M_trees_02 : List Cond := .code yX19_trees cX19_trees 4 (some (.array (.object "HornbookModel$Tree"))) :: wb_c_M_trees_02
set_option maxRecDepth 100000 in
theorem g_c_M_trees_02_0 : GoodIn w_c_M_trees_02 (wsV RX19 87 RX19 yX19_type w_c_M_type_0) := goodIn_app (goodIn_of _ (by decide +kernel)) (goodIn_p (big := w_c_M_trees_02) (.code yX19_type cX19_type 2 (some (.object "HornbookModel$Tree")) :: wb_c_M_type_0) [2, 4, 6, 7, 14] rfl (by decide +kernel))
set_option maxRecDepth 100000 in
theorem g_c_M_trees_02_1 : GoodIn w_c_M_trees_02 (wsV RX19 87 RX19 yX19_type w_c_M_type_2) := goodIn_app (goodIn_of _ (by decide +kernel)) (goodIn_p (big := w_c_M_trees_02) (.code yX19_type cX19_type 2 (some (.object "HornbookModel$Tree")) :: wb_c_M_type_2) [2, 4, 6, 7, 14] rfl (by decide +kernel))
set_option maxHeartbeats 4000000 in
set_option maxRecDepth 100000 in
theorem c_M_trees_02 (l : Launch) (eD eI : Nat) (ad : Nat → Nat) (dC : Nat → ClassId) (dI : Nat → Nat → Nat) (sz : Nat) (mm : Nat) (ms : Nat) (mt : Nat) (mh : Nat) (me : Nat) (th : Int32) (mo : Int32) (ma : Nat) (kO : ClassId) (t0 : Nat) (t1 : Nat) (t2 : Nat) (f0 : Value) (f2 : Value) : Met l yX19_trees w_c_M_trees_02 ({ frames := 4, cells := 1, slots := 2, locals := 85 }) (va_Pc [.ref mm, .int 0, .int 2] (zPre eD eI ad (dC, dI) [(mm, .inr (21, [.int th, .ref ms, .ref mt, .ref mh, .ref me])), (mt, .inr (1, [.int mo, .ref ma, .int 3])), (ma, .inl (kO, 10, .inr (.inr (.inr (.inr (zfT t0 t1 t2)))))), (t0, .inr (18, [.int (-1), f0])), (t2, .inr (18, [.int (-3), f2]))] [(kO, .object "java/lang/Object")] sz)) (va_Qq (fun (r : Option Nat) (u : Nat × ClassId) => match u with | (tk, kk) => r = some tk) (fun (u : Nat × ClassId) => match u with | (tk, kk) => zEnd (dC, dI) (va_A [(mm, .inr (21, [.int th, .ref ms, .ref mt, .ref mh, .ref me])), (mt, .inr (1, [.int mo, .ref ma, .int 3])), (ma, .inl (kO, 10, .inr (.inr (.inr (.inr (zfT t0 t1 t2)))))), (t0, .inr (18, [.int (-1), f0])), (t2, .inr (18, [.int (-3), f2]))] sz) [(mm, .inr (21, [.int th, .ref ms, .ref mt, .ref mh, .ref me])), (mt, .inr (1, [.int mo, .ref ma, .int 3])), (ma, .inl (kO, 10, .inr (.inr (.inr (.inr (zfT t0 t1 t2)))))), (t0, .inr (18, [.int (-1), f0])), (t2, .inr (18, [.int (-3), f2])), (tk, .inl (kk, 2, .inr (.inr (.inr (.inr (va_up (va_up (fun _ => none) (0 : Int32).toNatClampNeg (some t0)) (1 : Int32).toNatClampNeg (some t2)))))))] [(kO, .object "java/lang/Object"), (kk, .object "HornbookModel$Tree")]) (va_A [(mm, .inr (21, [.int th, .ref ms, .ref mt, .ref mh, .ref me])), (mt, .inr (1, [.int mo, .ref ma, .int 3])), (ma, .inl (kO, 10, .inr (.inr (.inr (.inr (zfT t0 t1 t2)))))), (t0, .inr (18, [.int (-1), f0])), (t2, .inr (18, [.int (-3), f2]))] sz)) 1 2 (va_A [(mm, .inr (21, [.int th, .ref ms, .ref mt, .ref mh, .ref me])), (mt, .inr (1, [.int mo, .ref ma, .int 3])), (ma, .inl (kO, 10, .inr (.inr (.inr (.inr (zfT t0 t1 t2)))))), (t0, .inr (18, [.int (-1), f0])), (t2, .inr (18, [.int (-3), f2]))] sz) := by
  refine Met.ofW (cc := cX19_trees) (maxL := 4) (ret := (some (.array (.object "HornbookModel$Tree")))) (by decide) rfl ?_
  intro p e s m args below meth c s₁ B hml hv
  obtain ⟨rfl, hsz, hP, hK, hD0, hE⟩ := hv
  have hx := B.exec
  have hb := B.bytes
  have hr := B.returns
  have hts := atoms_spec (ws := w_c_M_trees_02) B.pre
  have hown : s.vm.findClass RX19 = some m.cls := findClass_of_methodNamed B.named
  have hlocks := B.notSynchronized
  subst hsz
  have hD := hD0.self (sz := s.heap.size)
  generalize hAe : va_A [(mm, .inr (21, [.int th, .ref ms, .ref mt, .ref mh, .ref me])), (mt, .inr (1, [.int mo, .ref ma, .int 3])), (ma, .inl (kO, 10, .inr (.inr (.inr (.inr (zfT t0 t1 t2)))))), (t0, .inr (18, [.int (-1), f0])), (t2, .inr (18, [.int (-3), f2]))] s.heap.size = A at hD hE ⊢
  have hA : ∀ q : Nat, s.heap.size ≤ q → A q := fun q h => by rw [← hAe]; exact Or.inr h
  have hS : va_S A s.heap s.heap [] := va_S.rf
  have hP : va_P (dC, dI) vwCl [(mm, .inr (21, [.int th, .ref ms, .ref mt, .ref mh, .ref me])), (mt, .inr (1, [.int mo, .ref ma, .int 3])), (ma, .inl (kO, 10, .inr (.inr (.inr (.inr (zfT t0 t1 t2)))))), (t0, .inr (18, [.int (-1), f0])), (t2, .inr (18, [.int (-3), f2]))] s.heap := hP
  have hl := lv_entry ([.ref mm, .int 0, .int 2]) (n := 4) (Nat.le_of_ble_eq_true rfl)
  rw [lg_entry_eq]
  generalize (lg_sl ([.ref mm, .int 0, .int 2]) ++ List.replicate (4 - (lg_sl ([.ref mm, .int 0, .int 2])).length) Slot.unset).toArray = ls at hl ⊢
  have hl : lv_has ls 4 [(0, .ref mm), (1, .int 0), (2, .int 2)] := hl
  have in_RJx4a65c : ∀ w ∈ u_ws RJx4a65c TJx4a65c 3, w ∈ w_c_M_trees_02 := by decide +kernel
  have in_RX19 : ∀ w ∈ u_ws RX19 TX19 5, w ∈ w_c_M_trees_02 := by decide +kernel
  refine lv_iload_n hx hb dX19_trees_0 rfl (lv_at hl 1 rfl) ?_
  refine lv_iconst (v := (-1)) hx hb dX19_trees_1 (by decide) ?_
  refine lv_icmp_ne (tgt := 9) hx hb dX19_trees_2 (by decide) (fun c_1 => ?_) (fun c_1 => ?_)
  rotate_left
  · exact absurd c_1 (by decide)
  refine lv_iload_n hx hb dX19_trees_9 rfl (lv_at hl 2 rfl) ?_
  refine lv_iconst (v := (-1)) hx hb dX19_trees_10 (by decide) ?_
  refine lv_icmp_ne (tgt := 18) hx hb dX19_trees_11 (by decide) (fun c_2 => ?_) (fun c_2 => ?_)
  rotate_left
  · exact absurd c_2 (by decide)
  refine lv_iconst (v := 2) hx hb dX19_trees_18 (by decide) ?_
  refine va_newq (C := "HornbookModel$Tree") hx hb hown (hts (.classLink RX19 25 "HornbookModel$Tree") (by decide +kernel)) (hE.2.2.2.2.2.2.1 "HornbookModel$Tree" (by decide +kernel)) hK hP hD hS hA (N' := 2) (by decide) (by decide) (Nat.le_of_ble_eq_true rfl) (Nat.le_of_ble_eq_true rfl) (Nat.le_of_ble_eq_true rfl) dX19_trees_19 (fun q_3 k_4 H hK hP hD hS => ?_)
  have hP : va_P (dC, dI) vwCl [(mm, .inr (21, [.int th, .ref ms, .ref mt, .ref mh, .ref me])), (mt, .inr (1, [.int mo, .ref ma, .int 3])), (ma, .inl (kO, 10, .inr (.inr (.inr (.inr (zfT t0 t1 t2)))))), (t0, .inr (18, [.int (-1), f0])), (t2, .inr (18, [.int (-3), f2])), (q_3, .inl (k_4, 2, .inr (.inr (.inr (.inr (fun _ => none))))))] H := hP
  have hD : va_D A [(mm, .inr (21, [.int th, .ref ms, .ref mt, .ref mh, .ref me])), (mt, .inr (1, [.int mo, .ref ma, .int 3])), (ma, .inl (kO, 10, .inr (.inr (.inr (.inr (zfT t0 t1 t2)))))), (t0, .inr (18, [.int (-1), f0])), (t2, .inr (18, [.int (-3), f2])), (q_3, .inl (k_4, 2, .inr (.inr (.inr (.inr (fun _ => none))))))] := hD
  have hK : va_K (dC, dI) vwCl [(kO, .object "java/lang/Object"), (k_4, .object "HornbookModel$Tree")] s := hK
  refine lv_astore_n (lv' := [(3, .ref q_3), (0, .ref mm), (1, .int 0), (2, .int 2)]) hx hb dX19_trees_22 rfl hl (by decide) rfl (fun ls hl => ?_)
  refine lv_aload_n hx hb dX19_trees_23 rfl (lv_at hl 0 rfl) ?_
  refine va_alen (D := (dC, dI)) (v := 2) hx hb hK hP 5 1 rfl rfl rfl dX19_trees_24 ?_
  refine lv_if_le (tgt := 36) hx hb dX19_trees_25 (by decide) (fun c_5 => ?_) (fun c_5 => ?_)
  · exact absurd c_5 (by decide)
  refine lv_aload_n hx hb dX19_trees_28 rfl (lv_at hl 0 rfl) ?_
  refine lv_iconst (v := 0) hx hb dX19_trees_29 (by decide) ?_
  refine lv_aload_n hx hb dX19_trees_30 rfl (lv_at hl 1 rfl) ?_
  refine lv_iload_n hx hb dX19_trees_31 rfl (lv_at hl 2 rfl) ?_
  refine z_q (wr := [(t2, .inr (18, [.int (-3), f2])), (q_3, .inl (k_4, 2, .inr (.inr (.inr (.inr (fun _ => none))))))]) (va_runV (As := [.int 0]) (rest := [.int 0, .ref q_3]) ⟨hx, hb, hml, hown, hts⟩ (c_M_type_0 l eD eI ad dC dI H.size mm ms mt mh me th mo ma kO t0 t1 t2 f0) (cwV 1 hts g_c_M_trees_02_0 rfl rfl rfl (by decide +kernel) ⟨Nat.le_of_ble_eq_true rfl, Nat.le_of_ble_eq_true rfl⟩) (z_preV (wc := [(mm, .inr (21, [.int th, .ref ms, .ref mt, .ref mh, .ref me])), (mt, .inr (1, [.int mo, .ref ma, .int 3])), (ma, .inl (kO, 10, .inr (.inr (.inr (.inr (zfT t0 t1 t2)))))), (t0, .inr (18, [.int (-1), f0]))]) hP hD hK hS hA hE [0, 1, 2, 3] [0] rfl (by decide) rfl (ci := 21) (q0 := 0) rfl rfl) rfl rfl hl.1 rfl (lv_room (Nat.le_of_ble_eq_true rfl)) dX19_trees_32 ⟨Nat.le_of_ble_eq_true rfl, Nat.le_of_ble_eq_true rfl⟩) hP hD hK hS hA [0, 1, 2, 3] [4, 5] rfl rfl (by decide) (by decide) (fun r_6 u H locs hw_7 hP hD hK hS => ?_)
  obtain ⟨⟩ := u
  have hP : va_P (dC, dI) vwCl [(t2, .inr (18, [.int (-3), f2])), (q_3, .inl (k_4, 2, .inr (.inr (.inr (.inr (fun _ => none)))))), (mm, .inr (21, [.int th, .ref ms, .ref mt, .ref mh, .ref me])), (mt, .inr (1, [.int mo, .ref ma, .int 3])), (ma, .inl (kO, 10, .inr (.inr (.inr (.inr (zfT t0 t1 t2)))))), (t0, .inr (18, [.int (-1), f0]))] H := hP
  have hD : va_D A [(t2, .inr (18, [.int (-3), f2])), (q_3, .inl (k_4, 2, .inr (.inr (.inr (.inr (fun _ => none)))))), (mm, .inr (21, [.int th, .ref ms, .ref mt, .ref mh, .ref me])), (mt, .inr (1, [.int mo, .ref ma, .int 3])), (ma, .inl (kO, 10, .inr (.inr (.inr (.inr (zfT t0 t1 t2)))))), (t0, .inr (18, [.int (-1), f0]))] := hD
  have hK : va_K (dC, dI) vwCl [(kO, .object "java/lang/Object"), (k_4, .object "HornbookModel$Tree")] s := by simpa using hK
  have hw_7 : r_6 = some t0 := hw_7
  have hw_7 := hw_7.symm
  subst hw_7
  refine W.eq (g2 := F0 m 35 ls (.ref t0 :: .int 0 :: .ref q_3 :: [])) rfl ?_
  refine va_astq (D := (dC, dI)) hx hb hK hP hD hS 1 1 5 18 rfl rfl rfl rfl (by unfold vp_in; decide) dX19_trees_35 (fun H locs hP hD hS => ?_)
  have hP : va_P (dC, dI) vwCl [(t2, .inr (18, [.int (-3), f2])), (q_3, .inl (k_4, 2, .inr (.inr (.inr (.inr (va_up (fun _ => none) (0 : Int32).toNatClampNeg (some t0))))))), (mm, .inr (21, [.int th, .ref ms, .ref mt, .ref mh, .ref me])), (mt, .inr (1, [.int mo, .ref ma, .int 3])), (ma, .inl (kO, 10, .inr (.inr (.inr (.inr (zfT t0 t1 t2)))))), (t0, .inr (18, [.int (-1), f0]))] H := hP
  have hD : va_D A [(t2, .inr (18, [.int (-3), f2])), (q_3, .inl (k_4, 2, .inr (.inr (.inr (.inr (va_up (fun _ => none) (0 : Int32).toNatClampNeg (some t0))))))), (mm, .inr (21, [.int th, .ref ms, .ref mt, .ref mh, .ref me])), (mt, .inr (1, [.int mo, .ref ma, .int 3])), (ma, .inl (kO, 10, .inr (.inr (.inr (.inr (zfT t0 t1 t2)))))), (t0, .inr (18, [.int (-1), f0]))] := hD
  refine lv_aload_n hx hb dX19_trees_36 rfl (lv_at hl 0 rfl) ?_
  refine va_alen (D := (dC, dI)) (v := 2) hx hb hK hP 1 1 rfl rfl rfl dX19_trees_37 ?_
  refine lv_iconst (v := 1) hx hb dX19_trees_38 (by decide) ?_
  refine lv_icmp_le (tgt := 50) hx hb dX19_trees_39 (by decide) (fun c_8 => ?_) (fun c_8 => ?_)
  · exact absurd c_8 (by decide)
  refine lv_aload_n hx hb dX19_trees_42 rfl (lv_at hl 0 rfl) ?_
  refine lv_iconst (v := 1) hx hb dX19_trees_43 (by decide) ?_
  refine lv_aload_n hx hb dX19_trees_44 rfl (lv_at hl 1 rfl) ?_
  refine lv_iload_n hx hb dX19_trees_45 rfl (lv_at hl 3 rfl) ?_
  refine z_q (wr := [(q_3, .inl (k_4, 2, .inr (.inr (.inr (.inr (va_up (fun _ => none) (0 : Int32).toNatClampNeg (some t0))))))), (t0, .inr (18, [.int (-1), f0]))]) (va_runV (As := [.int 2]) (rest := [.int 1, .ref q_3]) ⟨hx, hb, hml, hown, hts⟩ (c_M_type_2 l eD eI ad dC dI H.size mm ms mt mh me th mo ma kO t0 t1 t2 f2) (cwV 1 hts g_c_M_trees_02_1 rfl rfl rfl (by decide +kernel) ⟨Nat.le_of_ble_eq_true rfl, Nat.le_of_ble_eq_true rfl⟩) (z_preV (wc := [(mm, .inr (21, [.int th, .ref ms, .ref mt, .ref mh, .ref me])), (mt, .inr (1, [.int mo, .ref ma, .int 3])), (ma, .inl (kO, 10, .inr (.inr (.inr (.inr (zfT t0 t1 t2)))))), (t2, .inr (18, [.int (-3), f2]))]) hP hD hK hS hA hE [2, 3, 4, 0] [0] rfl (by decide) rfl (ci := 21) (q0 := 0) rfl rfl) rfl rfl hl.1 rfl (lv_room (Nat.le_of_ble_eq_true rfl)) dX19_trees_46 ⟨Nat.le_of_ble_eq_true rfl, Nat.le_of_ble_eq_true rfl⟩) hP hD hK hS hA [2, 3, 4, 0] [1, 5] rfl rfl (by decide) (by decide) (fun r_9 u H locs hw_10 hP hD hK hS => ?_)
  obtain ⟨⟩ := u
  have hP : va_P (dC, dI) vwCl [(q_3, .inl (k_4, 2, .inr (.inr (.inr (.inr (va_up (fun _ => none) (0 : Int32).toNatClampNeg (some t0))))))), (t0, .inr (18, [.int (-1), f0])), (mm, .inr (21, [.int th, .ref ms, .ref mt, .ref mh, .ref me])), (mt, .inr (1, [.int mo, .ref ma, .int 3])), (ma, .inl (kO, 10, .inr (.inr (.inr (.inr (zfT t0 t1 t2)))))), (t2, .inr (18, [.int (-3), f2]))] H := hP
  have hD : va_D A [(q_3, .inl (k_4, 2, .inr (.inr (.inr (.inr (va_up (fun _ => none) (0 : Int32).toNatClampNeg (some t0))))))), (t0, .inr (18, [.int (-1), f0])), (mm, .inr (21, [.int th, .ref ms, .ref mt, .ref mh, .ref me])), (mt, .inr (1, [.int mo, .ref ma, .int 3])), (ma, .inl (kO, 10, .inr (.inr (.inr (.inr (zfT t0 t1 t2)))))), (t2, .inr (18, [.int (-3), f2]))] := hD
  have hK : va_K (dC, dI) vwCl [(kO, .object "java/lang/Object"), (k_4, .object "HornbookModel$Tree")] s := by simpa using hK
  have hw_10 : r_9 = some t2 := hw_10
  have hw_10 := hw_10.symm
  subst hw_10
  refine W.eq (g2 := F0 m 49 ls (.ref t2 :: .int 1 :: .ref q_3 :: [])) rfl ?_
  refine va_astq (D := (dC, dI)) hx hb hK hP hD hS 0 1 5 18 rfl rfl rfl rfl (by unfold vp_in; decide) dX19_trees_49 (fun H locs hP hD hS => ?_)
  have hP : va_P (dC, dI) vwCl [(q_3, .inl (k_4, 2, .inr (.inr (.inr (.inr (va_up (va_up (fun _ => none) (0 : Int32).toNatClampNeg (some t0)) (1 : Int32).toNatClampNeg (some t2))))))), (t0, .inr (18, [.int (-1), f0])), (mm, .inr (21, [.int th, .ref ms, .ref mt, .ref mh, .ref me])), (mt, .inr (1, [.int mo, .ref ma, .int 3])), (ma, .inl (kO, 10, .inr (.inr (.inr (.inr (zfT t0 t1 t2)))))), (t2, .inr (18, [.int (-3), f2]))] H := hP
  have hD : va_D A [(q_3, .inl (k_4, 2, .inr (.inr (.inr (.inr (va_up (va_up (fun _ => none) (0 : Int32).toNatClampNeg (some t0)) (1 : Int32).toNatClampNeg (some t2))))))), (t0, .inr (18, [.int (-1), f0])), (mm, .inr (21, [.int th, .ref ms, .ref mt, .ref mh, .ref me])), (mt, .inr (1, [.int mo, .ref ma, .int 3])), (ma, .inl (kO, 10, .inr (.inr (.inr (.inr (zfT t0 t1 t2)))))), (t2, .inr (18, [.int (-3), f2]))] := hD
  refine lv_aload_n hx hb dX19_trees_50 rfl (lv_at hl 0 rfl) ?_
  have hP9 := hP.sub (ws' := [(mm, .inr (21, [.int th, .ref ms, .ref mt, .ref mh, .ref me])), (mt, .inr (1, [.int mo, .ref ma, .int 3])), (ma, .inl (kO, 10, .inr (.inr (.inr (.inr (zfT t0 t1 t2)))))), (t0, .inr (18, [.int (-1), f0])), (t2, .inr (18, [.int (-3), f2])), (q_3, .inl (k_4, 2, .inr (.inr (.inr (.inr (va_up (va_up (fun _ => none) (0 : Int32).toNatClampNeg (some t0)) (1 : Int32).toNatClampNeg (some t2)))))))]) [2, 3, 4, 1, 5, 0] rfl
  have hD9 := hD.sub (ws' := [(mm, .inr (21, [.int th, .ref ms, .ref mt, .ref mh, .ref me])), (mt, .inr (1, [.int mo, .ref ma, .int 3])), (ma, .inl (kO, 10, .inr (.inr (.inr (.inr (zfT t0 t1 t2)))))), (t0, .inr (18, [.int (-1), f0])), (t2, .inr (18, [.int (-3), f2])), (q_3, .inl (k_4, 2, .inr (.inr (.inr (.inr (va_up (va_up (fun _ => none) (0 : Int32).toNatClampNeg (some t0)) (1 : Int32).toNatClampNeg (some t2)))))))]) [2, 3, 4, 1, 5, 0] (by decide) rfl
  have hK9 := hK.sub (tys' := [(kO, .object "java/lang/Object"), (k_4, .object "HornbookModel$Tree")]) [0, 1] rfl
  refine W.widen (k := 1) (n := 2) (Nat.le_of_ble_eq_true rfl) (Nat.le_of_ble_eq_true rfl) ?_
  exact W.aret (v := .ref q_3) hx hb hr (Or.inr ⟨_, rfl⟩) (Or.inr ⟨_, rfl⟩) (fun t ht hW => ⟨⟨some q_3, (q_3, k_4), rfl, rfl, ⟨by rw [ht]; exact hP9, va_K.moved hW.alike hK9, hD9⟩⟩, hS.F ht⟩) hS.2.2 dX19_trees_51

def wb_c_M_trees_1 : List Cond := [.classLink RX19 25 "HornbookModel$Tree", .code yX19_type cX19_type 2 (some (.object "HornbookModel$Tree")), .fieldLink RX19 16 "HornbookModel" "types" "Ljava/util/ArrayList;", .code yJx4a65c_get_915e3 cJx4a65c_get_915e3 2 (some (.object "java/lang/Object")), .fieldLink RJx4a65c 48 "java/util/ArrayList" "size" "I", .code yJ15_checkIndex_7cf53 cJ15_checkIndex_7cf53 2 (some .int), .code yJ3_checkIndex_8e157 cJ3_checkIndex_8e157 3 (some .int), .methodLink RJ15 105 yJ3_checkIndex_8e157, .static yJ3_checkIndex_8e157, .initialized RJ3, .methodLink RJx4a65c 118 yJ15_checkIndex_7cf53, .static yJ15_checkIndex_7cf53, .initialized RJ15, .code yJx4a65c_elementData_915e3 cJx4a65c_elementData_915e3 2 (some (.object "java/lang/Object")), .fieldLink RJx4a65c 9 "java/util/ArrayList" "elementData" "[Ljava/lang/Object;", .methodLink RJx4a65c 123 yJx4a65c_elementData_915e3, .instanceMethod yJx4a65c_elementData_915e3, .selects RJx4a65c yJx4a65c_elementData_915e3 yJx4a65c_elementData_915e3, .initialized RJx4a65c, .methodLink RX19 59 yJx4a65c_get_915e3, .instanceMethod yJx4a65c_get_915e3, .selects RJx4a65c yJx4a65c_get_915e3 yJx4a65c_get_915e3, .methodLink RX19 87 yX19_type, .instanceMethod yX19_type, .selects RX19 yX19_type yX19_type, .initialized RX19] ++ u_ws RJx4a65c TJx4a65c 3 ++ u_ws RX19 TX19 5
def w_c_M_trees_1 : List Cond := .code yX19_trees cX19_trees 4 (some (.array (.object "HornbookModel$Tree"))) :: wb_c_M_trees_1
set_option maxRecDepth 100000 in
theorem g_c_M_trees_1_0 : GoodIn w_c_M_trees_1 (wsV RX19 87 RX19 yX19_type w_c_M_type_1) := goodIn_app (goodIn_of _ (by decide +kernel)) (goodIn_p (big := w_c_M_trees_1) (.code yX19_type cX19_type 2 (some (.object "HornbookModel$Tree")) :: wb_c_M_type_1) [2, 4, 6, 7, 14] rfl (by decide +kernel))
set_option maxHeartbeats 4000000 in
set_option maxRecDepth 100000 in
theorem c_M_trees_1 (l : Launch) (eD eI : Nat) (ad : Nat → Nat) (dC : Nat → ClassId) (dI : Nat → Nat → Nat) (sz : Nat) (mm : Nat) (ms : Nat) (mt : Nat) (mh : Nat) (me : Nat) (th : Int32) (mo : Int32) (ma : Nat) (kO : ClassId) (t0 : Nat) (t1 : Nat) (t2 : Nat) (f1 : Value) : Met l yX19_trees w_c_M_trees_1 ({ frames := 4, cells := 1, slots := 1, locals := 85 }) (va_Pc [.ref mm, .int 1, .int (-1)] (zPre eD eI ad (dC, dI) [(mm, .inr (21, [.int th, .ref ms, .ref mt, .ref mh, .ref me])), (mt, .inr (1, [.int mo, .ref ma, .int 3])), (ma, .inl (kO, 10, .inr (.inr (.inr (.inr (zfT t0 t1 t2)))))), (t1, .inr (18, [.int (-2), f1]))] [(kO, .object "java/lang/Object")] sz)) (va_Qq (fun (r : Option Nat) (u : Nat × ClassId) => match u with | (tk, kk) => r = some tk) (fun (u : Nat × ClassId) => match u with | (tk, kk) => zEnd (dC, dI) (va_A [(mm, .inr (21, [.int th, .ref ms, .ref mt, .ref mh, .ref me])), (mt, .inr (1, [.int mo, .ref ma, .int 3])), (ma, .inl (kO, 10, .inr (.inr (.inr (.inr (zfT t0 t1 t2)))))), (t1, .inr (18, [.int (-2), f1]))] sz) [(mm, .inr (21, [.int th, .ref ms, .ref mt, .ref mh, .ref me])), (mt, .inr (1, [.int mo, .ref ma, .int 3])), (ma, .inl (kO, 10, .inr (.inr (.inr (.inr (zfT t0 t1 t2)))))), (t1, .inr (18, [.int (-2), f1])), (tk, .inl (kk, 1, .inr (.inr (.inr (.inr (va_up (fun _ => none) (0 : Int32).toNatClampNeg (some t1)))))))] [(kO, .object "java/lang/Object"), (kk, .object "HornbookModel$Tree")]) (va_A [(mm, .inr (21, [.int th, .ref ms, .ref mt, .ref mh, .ref me])), (mt, .inr (1, [.int mo, .ref ma, .int 3])), (ma, .inl (kO, 10, .inr (.inr (.inr (.inr (zfT t0 t1 t2)))))), (t1, .inr (18, [.int (-2), f1]))] sz)) 1 1 (va_A [(mm, .inr (21, [.int th, .ref ms, .ref mt, .ref mh, .ref me])), (mt, .inr (1, [.int mo, .ref ma, .int 3])), (ma, .inl (kO, 10, .inr (.inr (.inr (.inr (zfT t0 t1 t2)))))), (t1, .inr (18, [.int (-2), f1]))] sz) := by
  refine Met.ofW (cc := cX19_trees) (maxL := 4) (ret := (some (.array (.object "HornbookModel$Tree")))) (by decide) rfl ?_
  intro p e s m args below meth c s₁ B hml hv
  obtain ⟨rfl, hsz, hP, hK, hD0, hE⟩ := hv
  have hx := B.exec
  have hb := B.bytes
  have hr := B.returns
  have hts := atoms_spec (ws := w_c_M_trees_1) B.pre
  have hown : s.vm.findClass RX19 = some m.cls := findClass_of_methodNamed B.named
  have hlocks := B.notSynchronized
  subst hsz
  have hD := hD0.self (sz := s.heap.size)
  generalize hAe : va_A [(mm, .inr (21, [.int th, .ref ms, .ref mt, .ref mh, .ref me])), (mt, .inr (1, [.int mo, .ref ma, .int 3])), (ma, .inl (kO, 10, .inr (.inr (.inr (.inr (zfT t0 t1 t2)))))), (t1, .inr (18, [.int (-2), f1]))] s.heap.size = A at hD hE ⊢
  have hA : ∀ q : Nat, s.heap.size ≤ q → A q := fun q h => by rw [← hAe]; exact Or.inr h
  have hS : va_S A s.heap s.heap [] := va_S.rf
  have hP : va_P (dC, dI) vwCl [(mm, .inr (21, [.int th, .ref ms, .ref mt, .ref mh, .ref me])), (mt, .inr (1, [.int mo, .ref ma, .int 3])), (ma, .inl (kO, 10, .inr (.inr (.inr (.inr (zfT t0 t1 t2)))))), (t1, .inr (18, [.int (-2), f1]))] s.heap := hP
  have hl := lv_entry ([.ref mm, .int 1, .int (-1)]) (n := 4) (Nat.le_of_ble_eq_true rfl)
  rw [lg_entry_eq]
  generalize (lg_sl ([.ref mm, .int 1, .int (-1)]) ++ List.replicate (4 - (lg_sl ([.ref mm, .int 1, .int (-1)])).length) Slot.unset).toArray = ls at hl ⊢
  have hl : lv_has ls 4 [(0, .ref mm), (1, .int 1), (2, .int (-1))] := hl
  have in_RJx4a65c : ∀ w ∈ u_ws RJx4a65c TJx4a65c 3, w ∈ w_c_M_trees_1 := by decide +kernel
  have in_RX19 : ∀ w ∈ u_ws RX19 TX19 5, w ∈ w_c_M_trees_1 := by decide +kernel
  refine lv_iload_n hx hb dX19_trees_0 rfl (lv_at hl 1 rfl) ?_
  refine lv_iconst (v := (-1)) hx hb dX19_trees_1 (by decide) ?_
  refine lv_icmp_ne (tgt := 9) hx hb dX19_trees_2 (by decide) (fun c_1 => ?_) (fun c_1 => ?_)
  rotate_left
  · exact absurd c_1 (by decide)
  refine lv_iload_n hx hb dX19_trees_9 rfl (lv_at hl 2 rfl) ?_
  refine lv_iconst (v := (-1)) hx hb dX19_trees_10 (by decide) ?_
  refine lv_icmp_ne (tgt := 18) hx hb dX19_trees_11 (by decide) (fun c_2 => ?_) (fun c_2 => ?_)
  · exact absurd (by decide) c_2
  refine lv_iconst (v := 1) hx hb dX19_trees_14 (by decide) ?_
  refine lv_goto (tgt := 19) hx hb dX19_trees_15 (by decide) ?_
  refine va_newq (C := "HornbookModel$Tree") hx hb hown (hts (.classLink RX19 25 "HornbookModel$Tree") (by decide +kernel)) (hE.2.2.2.2.2.2.1 "HornbookModel$Tree" (by decide +kernel)) hK hP hD hS hA (N' := 1) (by decide) (by decide) (Nat.le_of_ble_eq_true rfl) (Nat.le_of_ble_eq_true rfl) (Nat.le_of_ble_eq_true rfl) dX19_trees_19 (fun q_3 k_4 H hK hP hD hS => ?_)
  have hP : va_P (dC, dI) vwCl [(mm, .inr (21, [.int th, .ref ms, .ref mt, .ref mh, .ref me])), (mt, .inr (1, [.int mo, .ref ma, .int 3])), (ma, .inl (kO, 10, .inr (.inr (.inr (.inr (zfT t0 t1 t2)))))), (t1, .inr (18, [.int (-2), f1])), (q_3, .inl (k_4, 1, .inr (.inr (.inr (.inr (fun _ => none))))))] H := hP
  have hD : va_D A [(mm, .inr (21, [.int th, .ref ms, .ref mt, .ref mh, .ref me])), (mt, .inr (1, [.int mo, .ref ma, .int 3])), (ma, .inl (kO, 10, .inr (.inr (.inr (.inr (zfT t0 t1 t2)))))), (t1, .inr (18, [.int (-2), f1])), (q_3, .inl (k_4, 1, .inr (.inr (.inr (.inr (fun _ => none))))))] := hD
  have hK : va_K (dC, dI) vwCl [(kO, .object "java/lang/Object"), (k_4, .object "HornbookModel$Tree")] s := hK
  refine lv_astore_n (lv' := [(3, .ref q_3), (0, .ref mm), (1, .int 1), (2, .int (-1))]) hx hb dX19_trees_22 rfl hl (by decide) rfl (fun ls hl => ?_)
  refine lv_aload_n hx hb dX19_trees_23 rfl (lv_at hl 0 rfl) ?_
  refine va_alen (D := (dC, dI)) (v := 1) hx hb hK hP 4 1 rfl rfl rfl dX19_trees_24 ?_
  refine lv_if_le (tgt := 36) hx hb dX19_trees_25 (by decide) (fun c_5 => ?_) (fun c_5 => ?_)
  · exact absurd c_5 (by decide)
  refine lv_aload_n hx hb dX19_trees_28 rfl (lv_at hl 0 rfl) ?_
  refine lv_iconst (v := 0) hx hb dX19_trees_29 (by decide) ?_
  refine lv_aload_n hx hb dX19_trees_30 rfl (lv_at hl 1 rfl) ?_
  refine lv_iload_n hx hb dX19_trees_31 rfl (lv_at hl 2 rfl) ?_
  refine z_q (wr := [(q_3, .inl (k_4, 1, .inr (.inr (.inr (.inr (fun _ => none))))))]) (va_runV (As := [.int 1]) (rest := [.int 0, .ref q_3]) ⟨hx, hb, hml, hown, hts⟩ (c_M_type_1 l eD eI ad dC dI H.size mm ms mt mh me th mo ma kO t0 t1 t2 f1) (cwV 1 hts g_c_M_trees_1_0 rfl rfl rfl (by decide +kernel) ⟨Nat.le_of_ble_eq_true rfl, Nat.le_of_ble_eq_true rfl⟩) (z_preV (wc := [(mm, .inr (21, [.int th, .ref ms, .ref mt, .ref mh, .ref me])), (mt, .inr (1, [.int mo, .ref ma, .int 3])), (ma, .inl (kO, 10, .inr (.inr (.inr (.inr (zfT t0 t1 t2)))))), (t1, .inr (18, [.int (-2), f1]))]) hP hD hK hS hA hE [0, 1, 2, 3] [0] rfl (by decide) rfl (ci := 21) (q0 := 0) rfl rfl) rfl rfl hl.1 rfl (lv_room (Nat.le_of_ble_eq_true rfl)) dX19_trees_32 ⟨Nat.le_of_ble_eq_true rfl, Nat.le_of_ble_eq_true rfl⟩) hP hD hK hS hA [0, 1, 2, 3] [4] rfl rfl (by decide) (by decide) (fun r_6 u H locs hw_7 hP hD hK hS => ?_)
  obtain ⟨⟩ := u
  have hP : va_P (dC, dI) vwCl [(q_3, .inl (k_4, 1, .inr (.inr (.inr (.inr (fun _ => none)))))), (mm, .inr (21, [.int th, .ref ms, .ref mt, .ref mh, .ref me])), (mt, .inr (1, [.int mo, .ref ma, .int 3])), (ma, .inl (kO, 10, .inr (.inr (.inr (.inr (zfT t0 t1 t2)))))), (t1, .inr (18, [.int (-2), f1]))] H := hP
  have hD : va_D A [(q_3, .inl (k_4, 1, .inr (.inr (.inr (.inr (fun _ => none)))))), (mm, .inr (21, [.int th, .ref ms, .ref mt, .ref mh, .ref me])), (mt, .inr (1, [.int mo, .ref ma, .int 3])), (ma, .inl (kO, 10, .inr (.inr (.inr (.inr (zfT t0 t1 t2)))))), (t1, .inr (18, [.int (-2), f1]))] := hD
  have hK : va_K (dC, dI) vwCl [(kO, .object "java/lang/Object"), (k_4, .object "HornbookModel$Tree")] s := by simpa using hK
  have hw_7 : r_6 = some t1 := hw_7
  have hw_7 := hw_7.symm
  subst hw_7
  refine W.eq (g2 := F0 m 35 ls (.ref t1 :: .int 0 :: .ref q_3 :: [])) rfl ?_
  refine va_astq (D := (dC, dI)) hx hb hK hP hD hS 0 1 4 18 rfl rfl rfl rfl (by unfold vp_in; decide) dX19_trees_35 (fun H locs hP hD hS => ?_)
  have hP : va_P (dC, dI) vwCl [(q_3, .inl (k_4, 1, .inr (.inr (.inr (.inr (va_up (fun _ => none) (0 : Int32).toNatClampNeg (some t1))))))), (mm, .inr (21, [.int th, .ref ms, .ref mt, .ref mh, .ref me])), (mt, .inr (1, [.int mo, .ref ma, .int 3])), (ma, .inl (kO, 10, .inr (.inr (.inr (.inr (zfT t0 t1 t2)))))), (t1, .inr (18, [.int (-2), f1]))] H := hP
  have hD : va_D A [(q_3, .inl (k_4, 1, .inr (.inr (.inr (.inr (va_up (fun _ => none) (0 : Int32).toNatClampNeg (some t1))))))), (mm, .inr (21, [.int th, .ref ms, .ref mt, .ref mh, .ref me])), (mt, .inr (1, [.int mo, .ref ma, .int 3])), (ma, .inl (kO, 10, .inr (.inr (.inr (.inr (zfT t0 t1 t2)))))), (t1, .inr (18, [.int (-2), f1]))] := hD
  refine lv_aload_n hx hb dX19_trees_36 rfl (lv_at hl 0 rfl) ?_
  refine va_alen (D := (dC, dI)) (v := 1) hx hb hK hP 0 1 rfl rfl rfl dX19_trees_37 ?_
  refine lv_iconst (v := 1) hx hb dX19_trees_38 (by decide) ?_
  refine lv_icmp_le (tgt := 50) hx hb dX19_trees_39 (by decide) (fun c_8 => ?_) (fun c_8 => ?_)
  rotate_left
  · exact absurd (by decide) c_8
  refine lv_aload_n hx hb dX19_trees_50 rfl (lv_at hl 0 rfl) ?_
  have hP9 := hP.sub (ws' := [(mm, .inr (21, [.int th, .ref ms, .ref mt, .ref mh, .ref me])), (mt, .inr (1, [.int mo, .ref ma, .int 3])), (ma, .inl (kO, 10, .inr (.inr (.inr (.inr (zfT t0 t1 t2)))))), (t1, .inr (18, [.int (-2), f1])), (q_3, .inl (k_4, 1, .inr (.inr (.inr (.inr (va_up (fun _ => none) (0 : Int32).toNatClampNeg (some t1)))))))]) [1, 2, 3, 4, 0] rfl
  have hD9 := hD.sub (ws' := [(mm, .inr (21, [.int th, .ref ms, .ref mt, .ref mh, .ref me])), (mt, .inr (1, [.int mo, .ref ma, .int 3])), (ma, .inl (kO, 10, .inr (.inr (.inr (.inr (zfT t0 t1 t2)))))), (t1, .inr (18, [.int (-2), f1])), (q_3, .inl (k_4, 1, .inr (.inr (.inr (.inr (va_up (fun _ => none) (0 : Int32).toNatClampNeg (some t1)))))))]) [1, 2, 3, 4, 0] (by decide) rfl
  have hK9 := hK.sub (tys' := [(kO, .object "java/lang/Object"), (k_4, .object "HornbookModel$Tree")]) [0, 1] rfl
  refine W.widen (k := 1) (n := 1) (Nat.le_of_ble_eq_true rfl) (Nat.le_of_ble_eq_true rfl) ?_
  exact W.aret (v := .ref q_3) hx hb hr (Or.inr ⟨_, rfl⟩) (Or.inr ⟨_, rfl⟩) (fun t ht hW => ⟨⟨some q_3, (q_3, k_4), rfl, rfl, ⟨by rw [ht]; exact hP9, va_K.moved hW.alike hK9, hD9⟩⟩, hS.F ht⟩) hS.2.2 dX19_trees_51

def wb_c_M_trees_10 : List Cond := [.classLink RX19 25 "HornbookModel$Tree", .code yX19_type cX19_type 2 (some (.object "HornbookModel$Tree")), .fieldLink RX19 16 "HornbookModel" "types" "Ljava/util/ArrayList;", .code yJx4a65c_get_915e3 cJx4a65c_get_915e3 2 (some (.object "java/lang/Object")), .fieldLink RJx4a65c 48 "java/util/ArrayList" "size" "I", .code yJ15_checkIndex_7cf53 cJ15_checkIndex_7cf53 2 (some .int), .code yJ3_checkIndex_8e157 cJ3_checkIndex_8e157 3 (some .int), .methodLink RJ15 105 yJ3_checkIndex_8e157, .static yJ3_checkIndex_8e157, .initialized RJ3, .methodLink RJx4a65c 118 yJ15_checkIndex_7cf53, .static yJ15_checkIndex_7cf53, .initialized RJ15, .code yJx4a65c_elementData_915e3 cJx4a65c_elementData_915e3 2 (some (.object "java/lang/Object")), .fieldLink RJx4a65c 9 "java/util/ArrayList" "elementData" "[Ljava/lang/Object;", .methodLink RJx4a65c 123 yJx4a65c_elementData_915e3, .instanceMethod yJx4a65c_elementData_915e3, .selects RJx4a65c yJx4a65c_elementData_915e3 yJx4a65c_elementData_915e3, .initialized RJx4a65c, .methodLink RX19 59 yJx4a65c_get_915e3, .instanceMethod yJx4a65c_get_915e3, .selects RJx4a65c yJx4a65c_get_915e3 yJx4a65c_get_915e3, .methodLink RX19 87 yX19_type, .instanceMethod yX19_type, .selects RX19 yX19_type yX19_type, .initialized RX19] ++ u_ws RJx4a65c TJx4a65c 3 ++ u_ws RX19 TX19 5
def w_c_M_trees_10 : List Cond := .code yX19_trees cX19_trees 4 (some (.array (.object "HornbookModel$Tree"))) :: wb_c_M_trees_10
set_option maxRecDepth 100000 in
theorem g_c_M_trees_10_0 : GoodIn w_c_M_trees_10 (wsV RX19 87 RX19 yX19_type w_c_M_type_1) := goodIn_app (goodIn_of _ (by decide +kernel)) (goodIn_p (big := w_c_M_trees_10) (.code yX19_type cX19_type 2 (some (.object "HornbookModel$Tree")) :: wb_c_M_type_1) [2, 4, 6, 7, 14] rfl (by decide +kernel))
set_option maxRecDepth 100000 in
theorem g_c_M_trees_10_1 : GoodIn w_c_M_trees_10 (wsV RX19 87 RX19 yX19_type w_c_M_type_0) := goodIn_app (goodIn_of _ (by decide +kernel)) (goodIn_p (big := w_c_M_trees_10) (.code yX19_type cX19_type 2 (some (.object "HornbookModel$Tree")) :: wb_c_M_type_0) [2, 4, 6, 7, 14] rfl (by decide +kernel))
set_option maxHeartbeats 4000000 in
set_option maxRecDepth 100000 in
theorem c_M_trees_10 (l : Launch) (eD eI : Nat) (ad : Nat → Nat) (dC : Nat → ClassId) (dI : Nat → Nat → Nat) (sz : Nat) (mm : Nat) (ms : Nat) (mt : Nat) (mh : Nat) (me : Nat) (th : Int32) (mo : Int32) (ma : Nat) (kO : ClassId) (t0 : Nat) (t1 : Nat) (t2 : Nat) (f0 : Value) (f1 : Value) : Met l yX19_trees w_c_M_trees_10 ({ frames := 4, cells := 1, slots := 2, locals := 85 }) (va_Pc [.ref mm, .int 1, .int 0] (zPre eD eI ad (dC, dI) [(mm, .inr (21, [.int th, .ref ms, .ref mt, .ref mh, .ref me])), (mt, .inr (1, [.int mo, .ref ma, .int 3])), (ma, .inl (kO, 10, .inr (.inr (.inr (.inr (zfT t0 t1 t2)))))), (t0, .inr (18, [.int (-1), f0])), (t1, .inr (18, [.int (-2), f1]))] [(kO, .object "java/lang/Object")] sz)) (va_Qq (fun (r : Option Nat) (u : Nat × ClassId) => match u with | (tk, kk) => r = some tk) (fun (u : Nat × ClassId) => match u with | (tk, kk) => zEnd (dC, dI) (va_A [(mm, .inr (21, [.int th, .ref ms, .ref mt, .ref mh, .ref me])), (mt, .inr (1, [.int mo, .ref ma, .int 3])), (ma, .inl (kO, 10, .inr (.inr (.inr (.inr (zfT t0 t1 t2)))))), (t0, .inr (18, [.int (-1), f0])), (t1, .inr (18, [.int (-2), f1]))] sz) [(mm, .inr (21, [.int th, .ref ms, .ref mt, .ref mh, .ref me])), (mt, .inr (1, [.int mo, .ref ma, .int 3])), (ma, .inl (kO, 10, .inr (.inr (.inr (.inr (zfT t0 t1 t2)))))), (t0, .inr (18, [.int (-1), f0])), (t1, .inr (18, [.int (-2), f1])), (tk, .inl (kk, 2, .inr (.inr (.inr (.inr (va_up (va_up (fun _ => none) (0 : Int32).toNatClampNeg (some t1)) (1 : Int32).toNatClampNeg (some t0)))))))] [(kO, .object "java/lang/Object"), (kk, .object "HornbookModel$Tree")]) (va_A [(mm, .inr (21, [.int th, .ref ms, .ref mt, .ref mh, .ref me])), (mt, .inr (1, [.int mo, .ref ma, .int 3])), (ma, .inl (kO, 10, .inr (.inr (.inr (.inr (zfT t0 t1 t2)))))), (t0, .inr (18, [.int (-1), f0])), (t1, .inr (18, [.int (-2), f1]))] sz)) 1 2 (va_A [(mm, .inr (21, [.int th, .ref ms, .ref mt, .ref mh, .ref me])), (mt, .inr (1, [.int mo, .ref ma, .int 3])), (ma, .inl (kO, 10, .inr (.inr (.inr (.inr (zfT t0 t1 t2)))))), (t0, .inr (18, [.int (-1), f0])), (t1, .inr (18, [.int (-2), f1]))] sz) := by
  refine Met.ofW (cc := cX19_trees) (maxL := 4) (ret := (some (.array (.object "HornbookModel$Tree")))) (by decide) rfl ?_
  intro p e s m args below meth c s₁ B hml hv
  obtain ⟨rfl, hsz, hP, hK, hD0, hE⟩ := hv
  have hx := B.exec
  have hb := B.bytes
  have hr := B.returns
  have hts := atoms_spec (ws := w_c_M_trees_10) B.pre
  have hown : s.vm.findClass RX19 = some m.cls := findClass_of_methodNamed B.named
  have hlocks := B.notSynchronized
  subst hsz
  have hD := hD0.self (sz := s.heap.size)
  generalize hAe : va_A [(mm, .inr (21, [.int th, .ref ms, .ref mt, .ref mh, .ref me])), (mt, .inr (1, [.int mo, .ref ma, .int 3])), (ma, .inl (kO, 10, .inr (.inr (.inr (.inr (zfT t0 t1 t2)))))), (t0, .inr (18, [.int (-1), f0])), (t1, .inr (18, [.int (-2), f1]))] s.heap.size = A at hD hE ⊢
  have hA : ∀ q : Nat, s.heap.size ≤ q → A q := fun q h => by rw [← hAe]; exact Or.inr h
  have hS : va_S A s.heap s.heap [] := va_S.rf
  have hP : va_P (dC, dI) vwCl [(mm, .inr (21, [.int th, .ref ms, .ref mt, .ref mh, .ref me])), (mt, .inr (1, [.int mo, .ref ma, .int 3])), (ma, .inl (kO, 10, .inr (.inr (.inr (.inr (zfT t0 t1 t2)))))), (t0, .inr (18, [.int (-1), f0])), (t1, .inr (18, [.int (-2), f1]))] s.heap := hP
  have hl := lv_entry ([.ref mm, .int 1, .int 0]) (n := 4) (Nat.le_of_ble_eq_true rfl)
  rw [lg_entry_eq]
  generalize (lg_sl ([.ref mm, .int 1, .int 0]) ++ List.replicate (4 - (lg_sl ([.ref mm, .int 1, .int 0])).length) Slot.unset).toArray = ls at hl ⊢
  have hl : lv_has ls 4 [(0, .ref mm), (1, .int 1), (2, .int 0)] := hl
  have in_RJx4a65c : ∀ w ∈ u_ws RJx4a65c TJx4a65c 3, w ∈ w_c_M_trees_10 := by decide +kernel
  have in_RX19 : ∀ w ∈ u_ws RX19 TX19 5, w ∈ w_c_M_trees_10 := by decide +kernel
  refine lv_iload_n hx hb dX19_trees_0 rfl (lv_at hl 1 rfl) ?_
  refine lv_iconst (v := (-1)) hx hb dX19_trees_1 (by decide) ?_
  refine lv_icmp_ne (tgt := 9) hx hb dX19_trees_2 (by decide) (fun c_1 => ?_) (fun c_1 => ?_)
  rotate_left
  · exact absurd c_1 (by decide)
  refine lv_iload_n hx hb dX19_trees_9 rfl (lv_at hl 2 rfl) ?_
  refine lv_iconst (v := (-1)) hx hb dX19_trees_10 (by decide) ?_
  refine lv_icmp_ne (tgt := 18) hx hb dX19_trees_11 (by decide) (fun c_2 => ?_) (fun c_2 => ?_)
  rotate_left
  · exact absurd c_2 (by decide)
  refine lv_iconst (v := 2) hx hb dX19_trees_18 (by decide) ?_
  refine va_newq (C := "HornbookModel$Tree") hx hb hown (hts (.classLink RX19 25 "HornbookModel$Tree") (by decide +kernel)) (hE.2.2.2.2.2.2.1 "HornbookModel$Tree" (by decide +kernel)) hK hP hD hS hA (N' := 2) (by decide) (by decide) (Nat.le_of_ble_eq_true rfl) (Nat.le_of_ble_eq_true rfl) (Nat.le_of_ble_eq_true rfl) dX19_trees_19 (fun q_3 k_4 H hK hP hD hS => ?_)
  have hP : va_P (dC, dI) vwCl [(mm, .inr (21, [.int th, .ref ms, .ref mt, .ref mh, .ref me])), (mt, .inr (1, [.int mo, .ref ma, .int 3])), (ma, .inl (kO, 10, .inr (.inr (.inr (.inr (zfT t0 t1 t2)))))), (t0, .inr (18, [.int (-1), f0])), (t1, .inr (18, [.int (-2), f1])), (q_3, .inl (k_4, 2, .inr (.inr (.inr (.inr (fun _ => none))))))] H := hP
  have hD : va_D A [(mm, .inr (21, [.int th, .ref ms, .ref mt, .ref mh, .ref me])), (mt, .inr (1, [.int mo, .ref ma, .int 3])), (ma, .inl (kO, 10, .inr (.inr (.inr (.inr (zfT t0 t1 t2)))))), (t0, .inr (18, [.int (-1), f0])), (t1, .inr (18, [.int (-2), f1])), (q_3, .inl (k_4, 2, .inr (.inr (.inr (.inr (fun _ => none))))))] := hD
  have hK : va_K (dC, dI) vwCl [(kO, .object "java/lang/Object"), (k_4, .object "HornbookModel$Tree")] s := hK
  refine lv_astore_n (lv' := [(3, .ref q_3), (0, .ref mm), (1, .int 1), (2, .int 0)]) hx hb dX19_trees_22 rfl hl (by decide) rfl (fun ls hl => ?_)
  refine lv_aload_n hx hb dX19_trees_23 rfl (lv_at hl 0 rfl) ?_
  refine va_alen (D := (dC, dI)) (v := 2) hx hb hK hP 5 1 rfl rfl rfl dX19_trees_24 ?_
  refine lv_if_le (tgt := 36) hx hb dX19_trees_25 (by decide) (fun c_5 => ?_) (fun c_5 => ?_)
  · exact absurd c_5 (by decide)
  refine lv_aload_n hx hb dX19_trees_28 rfl (lv_at hl 0 rfl) ?_
  refine lv_iconst (v := 0) hx hb dX19_trees_29 (by decide) ?_
  refine lv_aload_n hx hb dX19_trees_30 rfl (lv_at hl 1 rfl) ?_
  refine lv_iload_n hx hb dX19_trees_31 rfl (lv_at hl 2 rfl) ?_
  refine z_q (wr := [(t0, .inr (18, [.int (-1), f0])), (q_3, .inl (k_4, 2, .inr (.inr (.inr (.inr (fun _ => none))))))]) (va_runV (As := [.int 1]) (rest := [.int 0, .ref q_3]) ⟨hx, hb, hml, hown, hts⟩ (c_M_type_1 l eD eI ad dC dI H.size mm ms mt mh me th mo ma kO t0 t1 t2 f1) (cwV 1 hts g_c_M_trees_10_0 rfl rfl rfl (by decide +kernel) ⟨Nat.le_of_ble_eq_true rfl, Nat.le_of_ble_eq_true rfl⟩) (z_preV (wc := [(mm, .inr (21, [.int th, .ref ms, .ref mt, .ref mh, .ref me])), (mt, .inr (1, [.int mo, .ref ma, .int 3])), (ma, .inl (kO, 10, .inr (.inr (.inr (.inr (zfT t0 t1 t2)))))), (t1, .inr (18, [.int (-2), f1]))]) hP hD hK hS hA hE [0, 1, 2, 4] [0] rfl (by decide) rfl (ci := 21) (q0 := 0) rfl rfl) rfl rfl hl.1 rfl (lv_room (Nat.le_of_ble_eq_true rfl)) dX19_trees_32 ⟨Nat.le_of_ble_eq_true rfl, Nat.le_of_ble_eq_true rfl⟩) hP hD hK hS hA [0, 1, 2, 4] [3, 5] rfl rfl (by decide) (by decide) (fun r_6 u H locs hw_7 hP hD hK hS => ?_)
  obtain ⟨⟩ := u
  have hP : va_P (dC, dI) vwCl [(t0, .inr (18, [.int (-1), f0])), (q_3, .inl (k_4, 2, .inr (.inr (.inr (.inr (fun _ => none)))))), (mm, .inr (21, [.int th, .ref ms, .ref mt, .ref mh, .ref me])), (mt, .inr (1, [.int mo, .ref ma, .int 3])), (ma, .inl (kO, 10, .inr (.inr (.inr (.inr (zfT t0 t1 t2)))))), (t1, .inr (18, [.int (-2), f1]))] H := hP
  have hD : va_D A [(t0, .inr (18, [.int (-1), f0])), (q_3, .inl (k_4, 2, .inr (.inr (.inr (.inr (fun _ => none)))))), (mm, .inr (21, [.int th, .ref ms, .ref mt, .ref mh, .ref me])), (mt, .inr (1, [.int mo, .ref ma, .int 3])), (ma, .inl (kO, 10, .inr (.inr (.inr (.inr (zfT t0 t1 t2)))))), (t1, .inr (18, [.int (-2), f1]))] := hD
  have hK : va_K (dC, dI) vwCl [(kO, .object "java/lang/Object"), (k_4, .object "HornbookModel$Tree")] s := by simpa using hK
  have hw_7 : r_6 = some t1 := hw_7
  have hw_7 := hw_7.symm
  subst hw_7
  refine W.eq (g2 := F0 m 35 ls (.ref t1 :: .int 0 :: .ref q_3 :: [])) rfl ?_
  refine va_astq (D := (dC, dI)) hx hb hK hP hD hS 1 1 5 18 rfl rfl rfl rfl (by unfold vp_in; decide) dX19_trees_35 (fun H locs hP hD hS => ?_)
  have hP : va_P (dC, dI) vwCl [(t0, .inr (18, [.int (-1), f0])), (q_3, .inl (k_4, 2, .inr (.inr (.inr (.inr (va_up (fun _ => none) (0 : Int32).toNatClampNeg (some t1))))))), (mm, .inr (21, [.int th, .ref ms, .ref mt, .ref mh, .ref me])), (mt, .inr (1, [.int mo, .ref ma, .int 3])), (ma, .inl (kO, 10, .inr (.inr (.inr (.inr (zfT t0 t1 t2)))))), (t1, .inr (18, [.int (-2), f1]))] H := hP
  have hD : va_D A [(t0, .inr (18, [.int (-1), f0])), (q_3, .inl (k_4, 2, .inr (.inr (.inr (.inr (va_up (fun _ => none) (0 : Int32).toNatClampNeg (some t1))))))), (mm, .inr (21, [.int th, .ref ms, .ref mt, .ref mh, .ref me])), (mt, .inr (1, [.int mo, .ref ma, .int 3])), (ma, .inl (kO, 10, .inr (.inr (.inr (.inr (zfT t0 t1 t2)))))), (t1, .inr (18, [.int (-2), f1]))] := hD
  refine lv_aload_n hx hb dX19_trees_36 rfl (lv_at hl 0 rfl) ?_
  refine va_alen (D := (dC, dI)) (v := 2) hx hb hK hP 1 1 rfl rfl rfl dX19_trees_37 ?_
  refine lv_iconst (v := 1) hx hb dX19_trees_38 (by decide) ?_
  refine lv_icmp_le (tgt := 50) hx hb dX19_trees_39 (by decide) (fun c_8 => ?_) (fun c_8 => ?_)
  · exact absurd c_8 (by decide)
  refine lv_aload_n hx hb dX19_trees_42 rfl (lv_at hl 0 rfl) ?_
  refine lv_iconst (v := 1) hx hb dX19_trees_43 (by decide) ?_
  refine lv_aload_n hx hb dX19_trees_44 rfl (lv_at hl 1 rfl) ?_
  refine lv_iload_n hx hb dX19_trees_45 rfl (lv_at hl 3 rfl) ?_
  refine z_q (wr := [(q_3, .inl (k_4, 2, .inr (.inr (.inr (.inr (va_up (fun _ => none) (0 : Int32).toNatClampNeg (some t1))))))), (t1, .inr (18, [.int (-2), f1]))]) (va_runV (As := [.int 0]) (rest := [.int 1, .ref q_3]) ⟨hx, hb, hml, hown, hts⟩ (c_M_type_0 l eD eI ad dC dI H.size mm ms mt mh me th mo ma kO t0 t1 t2 f0) (cwV 1 hts g_c_M_trees_10_1 rfl rfl rfl (by decide +kernel) ⟨Nat.le_of_ble_eq_true rfl, Nat.le_of_ble_eq_true rfl⟩) (z_preV (wc := [(mm, .inr (21, [.int th, .ref ms, .ref mt, .ref mh, .ref me])), (mt, .inr (1, [.int mo, .ref ma, .int 3])), (ma, .inl (kO, 10, .inr (.inr (.inr (.inr (zfT t0 t1 t2)))))), (t0, .inr (18, [.int (-1), f0]))]) hP hD hK hS hA hE [2, 3, 4, 0] [0] rfl (by decide) rfl (ci := 21) (q0 := 0) rfl rfl) rfl rfl hl.1 rfl (lv_room (Nat.le_of_ble_eq_true rfl)) dX19_trees_46 ⟨Nat.le_of_ble_eq_true rfl, Nat.le_of_ble_eq_true rfl⟩) hP hD hK hS hA [2, 3, 4, 0] [1, 5] rfl rfl (by decide) (by decide) (fun r_9 u H locs hw_10 hP hD hK hS => ?_)
  obtain ⟨⟩ := u
  have hP : va_P (dC, dI) vwCl [(q_3, .inl (k_4, 2, .inr (.inr (.inr (.inr (va_up (fun _ => none) (0 : Int32).toNatClampNeg (some t1))))))), (t1, .inr (18, [.int (-2), f1])), (mm, .inr (21, [.int th, .ref ms, .ref mt, .ref mh, .ref me])), (mt, .inr (1, [.int mo, .ref ma, .int 3])), (ma, .inl (kO, 10, .inr (.inr (.inr (.inr (zfT t0 t1 t2)))))), (t0, .inr (18, [.int (-1), f0]))] H := hP
  have hD : va_D A [(q_3, .inl (k_4, 2, .inr (.inr (.inr (.inr (va_up (fun _ => none) (0 : Int32).toNatClampNeg (some t1))))))), (t1, .inr (18, [.int (-2), f1])), (mm, .inr (21, [.int th, .ref ms, .ref mt, .ref mh, .ref me])), (mt, .inr (1, [.int mo, .ref ma, .int 3])), (ma, .inl (kO, 10, .inr (.inr (.inr (.inr (zfT t0 t1 t2)))))), (t0, .inr (18, [.int (-1), f0]))] := hD
  have hK : va_K (dC, dI) vwCl [(kO, .object "java/lang/Object"), (k_4, .object "HornbookModel$Tree")] s := by simpa using hK
  have hw_10 : r_9 = some t0 := hw_10
  have hw_10 := hw_10.symm
  subst hw_10
  refine W.eq (g2 := F0 m 49 ls (.ref t0 :: .int 1 :: .ref q_3 :: [])) rfl ?_
  refine va_astq (D := (dC, dI)) hx hb hK hP hD hS 0 1 5 18 rfl rfl rfl rfl (by unfold vp_in; decide) dX19_trees_49 (fun H locs hP hD hS => ?_)
  have hP : va_P (dC, dI) vwCl [(q_3, .inl (k_4, 2, .inr (.inr (.inr (.inr (va_up (va_up (fun _ => none) (0 : Int32).toNatClampNeg (some t1)) (1 : Int32).toNatClampNeg (some t0))))))), (t1, .inr (18, [.int (-2), f1])), (mm, .inr (21, [.int th, .ref ms, .ref mt, .ref mh, .ref me])), (mt, .inr (1, [.int mo, .ref ma, .int 3])), (ma, .inl (kO, 10, .inr (.inr (.inr (.inr (zfT t0 t1 t2)))))), (t0, .inr (18, [.int (-1), f0]))] H := hP
  have hD : va_D A [(q_3, .inl (k_4, 2, .inr (.inr (.inr (.inr (va_up (va_up (fun _ => none) (0 : Int32).toNatClampNeg (some t1)) (1 : Int32).toNatClampNeg (some t0))))))), (t1, .inr (18, [.int (-2), f1])), (mm, .inr (21, [.int th, .ref ms, .ref mt, .ref mh, .ref me])), (mt, .inr (1, [.int mo, .ref ma, .int 3])), (ma, .inl (kO, 10, .inr (.inr (.inr (.inr (zfT t0 t1 t2)))))), (t0, .inr (18, [.int (-1), f0]))] := hD
  refine lv_aload_n hx hb dX19_trees_50 rfl (lv_at hl 0 rfl) ?_
  have hP9 := hP.sub (ws' := [(mm, .inr (21, [.int th, .ref ms, .ref mt, .ref mh, .ref me])), (mt, .inr (1, [.int mo, .ref ma, .int 3])), (ma, .inl (kO, 10, .inr (.inr (.inr (.inr (zfT t0 t1 t2)))))), (t0, .inr (18, [.int (-1), f0])), (t1, .inr (18, [.int (-2), f1])), (q_3, .inl (k_4, 2, .inr (.inr (.inr (.inr (va_up (va_up (fun _ => none) (0 : Int32).toNatClampNeg (some t1)) (1 : Int32).toNatClampNeg (some t0)))))))]) [2, 3, 4, 5, 1, 0] rfl
  have hD9 := hD.sub (ws' := [(mm, .inr (21, [.int th, .ref ms, .ref mt, .ref mh, .ref me])), (mt, .inr (1, [.int mo, .ref ma, .int 3])), (ma, .inl (kO, 10, .inr (.inr (.inr (.inr (zfT t0 t1 t2)))))), (t0, .inr (18, [.int (-1), f0])), (t1, .inr (18, [.int (-2), f1])), (q_3, .inl (k_4, 2, .inr (.inr (.inr (.inr (va_up (va_up (fun _ => none) (0 : Int32).toNatClampNeg (some t1)) (1 : Int32).toNatClampNeg (some t0)))))))]) [2, 3, 4, 5, 1, 0] (by decide) rfl
  have hK9 := hK.sub (tys' := [(kO, .object "java/lang/Object"), (k_4, .object "HornbookModel$Tree")]) [0, 1] rfl
  refine W.widen (k := 1) (n := 2) (Nat.le_of_ble_eq_true rfl) (Nat.le_of_ble_eq_true rfl) ?_
  exact W.aret (v := .ref q_3) hx hb hr (Or.inr ⟨_, rfl⟩) (Or.inr ⟨_, rfl⟩) (fun t ht hW => ⟨⟨some q_3, (q_3, k_4), rfl, rfl, ⟨by rw [ht]; exact hP9, va_K.moved hW.alike hK9, hD9⟩⟩, hS.F ht⟩) hS.2.2 dX19_trees_51

def wb_c_M_trees_11 : List Cond := [.classLink RX19 25 "HornbookModel$Tree", .code yX19_type cX19_type 2 (some (.object "HornbookModel$Tree")), .fieldLink RX19 16 "HornbookModel" "types" "Ljava/util/ArrayList;", .code yJx4a65c_get_915e3 cJx4a65c_get_915e3 2 (some (.object "java/lang/Object")), .fieldLink RJx4a65c 48 "java/util/ArrayList" "size" "I", .code yJ15_checkIndex_7cf53 cJ15_checkIndex_7cf53 2 (some .int), .code yJ3_checkIndex_8e157 cJ3_checkIndex_8e157 3 (some .int), .methodLink RJ15 105 yJ3_checkIndex_8e157, .static yJ3_checkIndex_8e157, .initialized RJ3, .methodLink RJx4a65c 118 yJ15_checkIndex_7cf53, .static yJ15_checkIndex_7cf53, .initialized RJ15, .code yJx4a65c_elementData_915e3 cJx4a65c_elementData_915e3 2 (some (.object "java/lang/Object")), .fieldLink RJx4a65c 9 "java/util/ArrayList" "elementData" "[Ljava/lang/Object;", .methodLink RJx4a65c 123 yJx4a65c_elementData_915e3, .instanceMethod yJx4a65c_elementData_915e3, .selects RJx4a65c yJx4a65c_elementData_915e3 yJx4a65c_elementData_915e3, .initialized RJx4a65c, .methodLink RX19 59 yJx4a65c_get_915e3, .instanceMethod yJx4a65c_get_915e3, .selects RJx4a65c yJx4a65c_get_915e3 yJx4a65c_get_915e3, .methodLink RX19 87 yX19_type, .instanceMethod yX19_type, .selects RX19 yX19_type yX19_type, .initialized RX19] ++ u_ws RJx4a65c TJx4a65c 3 ++ u_ws RX19 TX19 5
def w_c_M_trees_11 : List Cond := .code yX19_trees cX19_trees 4 (some (.array (.object "HornbookModel$Tree"))) :: wb_c_M_trees_11
set_option maxRecDepth 100000 in
theorem g_c_M_trees_11_0 : GoodIn w_c_M_trees_11 (wsV RX19 87 RX19 yX19_type w_c_M_type_1) := goodIn_app (goodIn_of _ (by decide +kernel)) (goodIn_p (big := w_c_M_trees_11) (.code yX19_type cX19_type 2 (some (.object "HornbookModel$Tree")) :: wb_c_M_type_1) [2, 4, 6, 7, 14] rfl (by decide +kernel))
set_option maxHeartbeats 4000000 in
set_option maxRecDepth 100000 in
theorem c_M_trees_11 (l : Launch) (eD eI : Nat) (ad : Nat → Nat) (dC : Nat → ClassId) (dI : Nat → Nat → Nat) (sz : Nat) (mm : Nat) (ms : Nat) (mt : Nat) (mh : Nat) (me : Nat) (th : Int32) (mo : Int32) (ma : Nat) (kO : ClassId) (t0 : Nat) (t1 : Nat) (t2 : Nat) (f1 : Value) : Met l yX19_trees w_c_M_trees_11 ({ frames := 4, cells := 1, slots := 2, locals := 85 }) (va_Pc [.ref mm, .int 1, .int 1] (zPre eD eI ad (dC, dI) [(mm, .inr (21, [.int th, .ref ms, .ref mt, .ref mh, .ref me])), (mt, .inr (1, [.int mo, .ref ma, .int 3])), (ma, .inl (kO, 10, .inr (.inr (.inr (.inr (zfT t0 t1 t2)))))), (t1, .inr (18, [.int (-2), f1]))] [(kO, .object "java/lang/Object")] sz)) (va_Qq (fun (r : Option Nat) (u : Nat × ClassId) => match u with | (tk, kk) => r = some tk) (fun (u : Nat × ClassId) => match u with | (tk, kk) => zEnd (dC, dI) (va_A [(mm, .inr (21, [.int th, .ref ms, .ref mt, .ref mh, .ref me])), (mt, .inr (1, [.int mo, .ref ma, .int 3])), (ma, .inl (kO, 10, .inr (.inr (.inr (.inr (zfT t0 t1 t2)))))), (t1, .inr (18, [.int (-2), f1]))] sz) [(mm, .inr (21, [.int th, .ref ms, .ref mt, .ref mh, .ref me])), (mt, .inr (1, [.int mo, .ref ma, .int 3])), (ma, .inl (kO, 10, .inr (.inr (.inr (.inr (zfT t0 t1 t2)))))), (t1, .inr (18, [.int (-2), f1])), (tk, .inl (kk, 2, .inr (.inr (.inr (.inr (va_up (va_up (fun _ => none) (0 : Int32).toNatClampNeg (some t1)) (1 : Int32).toNatClampNeg (some t1)))))))] [(kO, .object "java/lang/Object"), (kk, .object "HornbookModel$Tree")]) (va_A [(mm, .inr (21, [.int th, .ref ms, .ref mt, .ref mh, .ref me])), (mt, .inr (1, [.int mo, .ref ma, .int 3])), (ma, .inl (kO, 10, .inr (.inr (.inr (.inr (zfT t0 t1 t2)))))), (t1, .inr (18, [.int (-2), f1]))] sz)) 1 2 (va_A [(mm, .inr (21, [.int th, .ref ms, .ref mt, .ref mh, .ref me])), (mt, .inr (1, [.int mo, .ref ma, .int 3])), (ma, .inl (kO, 10, .inr (.inr (.inr (.inr (zfT t0 t1 t2)))))), (t1, .inr (18, [.int (-2), f1]))] sz) := by
  refine Met.ofW (cc := cX19_trees) (maxL := 4) (ret := (some (.array (.object "HornbookModel$Tree")))) (by decide) rfl ?_
  intro p e s m args below meth c s₁ B hml hv
  obtain ⟨rfl, hsz, hP, hK, hD0, hE⟩ := hv
  have hx := B.exec
  have hb := B.bytes
  have hr := B.returns
  have hts := atoms_spec (ws := w_c_M_trees_11) B.pre
  have hown : s.vm.findClass RX19 = some m.cls := findClass_of_methodNamed B.named
  have hlocks := B.notSynchronized
  subst hsz
  have hD := hD0.self (sz := s.heap.size)
  generalize hAe : va_A [(mm, .inr (21, [.int th, .ref ms, .ref mt, .ref mh, .ref me])), (mt, .inr (1, [.int mo, .ref ma, .int 3])), (ma, .inl (kO, 10, .inr (.inr (.inr (.inr (zfT t0 t1 t2)))))), (t1, .inr (18, [.int (-2), f1]))] s.heap.size = A at hD hE ⊢
  have hA : ∀ q : Nat, s.heap.size ≤ q → A q := fun q h => by rw [← hAe]; exact Or.inr h
  have hS : va_S A s.heap s.heap [] := va_S.rf
  have hP : va_P (dC, dI) vwCl [(mm, .inr (21, [.int th, .ref ms, .ref mt, .ref mh, .ref me])), (mt, .inr (1, [.int mo, .ref ma, .int 3])), (ma, .inl (kO, 10, .inr (.inr (.inr (.inr (zfT t0 t1 t2)))))), (t1, .inr (18, [.int (-2), f1]))] s.heap := hP
  have hl := lv_entry ([.ref mm, .int 1, .int 1]) (n := 4) (Nat.le_of_ble_eq_true rfl)
  rw [lg_entry_eq]
  generalize (lg_sl ([.ref mm, .int 1, .int 1]) ++ List.replicate (4 - (lg_sl ([.ref mm, .int 1, .int 1])).length) Slot.unset).toArray = ls at hl ⊢
  have hl : lv_has ls 4 [(0, .ref mm), (1, .int 1), (2, .int 1)] := hl
  have in_RJx4a65c : ∀ w ∈ u_ws RJx4a65c TJx4a65c 3, w ∈ w_c_M_trees_11 := by decide +kernel
  have in_RX19 : ∀ w ∈ u_ws RX19 TX19 5, w ∈ w_c_M_trees_11 := by decide +kernel
  refine lv_iload_n hx hb dX19_trees_0 rfl (lv_at hl 1 rfl) ?_
  refine lv_iconst (v := (-1)) hx hb dX19_trees_1 (by decide) ?_
  refine lv_icmp_ne (tgt := 9) hx hb dX19_trees_2 (by decide) (fun c_1 => ?_) (fun c_1 => ?_)
  rotate_left
  · exact absurd c_1 (by decide)
  refine lv_iload_n hx hb dX19_trees_9 rfl (lv_at hl 2 rfl) ?_
  refine lv_iconst (v := (-1)) hx hb dX19_trees_10 (by decide) ?_
  refine lv_icmp_ne (tgt := 18) hx hb dX19_trees_11 (by decide) (fun c_2 => ?_) (fun c_2 => ?_)
  rotate_left
  · exact absurd c_2 (by decide)
  refine lv_iconst (v := 2) hx hb dX19_trees_18 (by decide) ?_
  refine va_newq (C := "HornbookModel$Tree") hx hb hown (hts (.classLink RX19 25 "HornbookModel$Tree") (by decide +kernel)) (hE.2.2.2.2.2.2.1 "HornbookModel$Tree" (by decide +kernel)) hK hP hD hS hA (N' := 2) (by decide) (by decide) (Nat.le_of_ble_eq_true rfl) (Nat.le_of_ble_eq_true rfl) (Nat.le_of_ble_eq_true rfl) dX19_trees_19 (fun q_3 k_4 H hK hP hD hS => ?_)
  have hP : va_P (dC, dI) vwCl [(mm, .inr (21, [.int th, .ref ms, .ref mt, .ref mh, .ref me])), (mt, .inr (1, [.int mo, .ref ma, .int 3])), (ma, .inl (kO, 10, .inr (.inr (.inr (.inr (zfT t0 t1 t2)))))), (t1, .inr (18, [.int (-2), f1])), (q_3, .inl (k_4, 2, .inr (.inr (.inr (.inr (fun _ => none))))))] H := hP
  have hD : va_D A [(mm, .inr (21, [.int th, .ref ms, .ref mt, .ref mh, .ref me])), (mt, .inr (1, [.int mo, .ref ma, .int 3])), (ma, .inl (kO, 10, .inr (.inr (.inr (.inr (zfT t0 t1 t2)))))), (t1, .inr (18, [.int (-2), f1])), (q_3, .inl (k_4, 2, .inr (.inr (.inr (.inr (fun _ => none))))))] := hD
  have hK : va_K (dC, dI) vwCl [(kO, .object "java/lang/Object"), (k_4, .object "HornbookModel$Tree")] s := hK
  refine lv_astore_n (lv' := [(3, .ref q_3), (0, .ref mm), (1, .int 1), (2, .int 1)]) hx hb dX19_trees_22 rfl hl (by decide) rfl (fun ls hl => ?_)
  refine lv_aload_n hx hb dX19_trees_23 rfl (lv_at hl 0 rfl) ?_
  refine va_alen (D := (dC, dI)) (v := 2) hx hb hK hP 4 1 rfl rfl rfl dX19_trees_24 ?_
  refine lv_if_le (tgt := 36) hx hb dX19_trees_25 (by decide) (fun c_5 => ?_) (fun c_5 => ?_)
  · exact absurd c_5 (by decide)
  refine lv_aload_n hx hb dX19_trees_28 rfl (lv_at hl 0 rfl) ?_
  refine lv_iconst (v := 0) hx hb dX19_trees_29 (by decide) ?_
  refine lv_aload_n hx hb dX19_trees_30 rfl (lv_at hl 1 rfl) ?_
  refine lv_iload_n hx hb dX19_trees_31 rfl (lv_at hl 2 rfl) ?_
  refine z_q (wr := [(q_3, .inl (k_4, 2, .inr (.inr (.inr (.inr (fun _ => none))))))]) (va_runV (As := [.int 1]) (rest := [.int 0, .ref q_3]) ⟨hx, hb, hml, hown, hts⟩ (c_M_type_1 l eD eI ad dC dI H.size mm ms mt mh me th mo ma kO t0 t1 t2 f1) (cwV 1 hts g_c_M_trees_11_0 rfl rfl rfl (by decide +kernel) ⟨Nat.le_of_ble_eq_true rfl, Nat.le_of_ble_eq_true rfl⟩) (z_preV (wc := [(mm, .inr (21, [.int th, .ref ms, .ref mt, .ref mh, .ref me])), (mt, .inr (1, [.int mo, .ref ma, .int 3])), (ma, .inl (kO, 10, .inr (.inr (.inr (.inr (zfT t0 t1 t2)))))), (t1, .inr (18, [.int (-2), f1]))]) hP hD hK hS hA hE [0, 1, 2, 3] [0] rfl (by decide) rfl (ci := 21) (q0 := 0) rfl rfl) rfl rfl hl.1 rfl (lv_room (Nat.le_of_ble_eq_true rfl)) dX19_trees_32 ⟨Nat.le_of_ble_eq_true rfl, Nat.le_of_ble_eq_true rfl⟩) hP hD hK hS hA [0, 1, 2, 3] [4] rfl rfl (by decide) (by decide) (fun r_6 u H locs hw_7 hP hD hK hS => ?_)
  obtain ⟨⟩ := u
  have hP : va_P (dC, dI) vwCl [(q_3, .inl (k_4, 2, .inr (.inr (.inr (.inr (fun _ => none)))))), (mm, .inr (21, [.int th, .ref ms, .ref mt, .ref mh, .ref me])), (mt, .inr (1, [.int mo, .ref ma, .int 3])), (ma, .inl (kO, 10, .inr (.inr (.inr (.inr (zfT t0 t1 t2)))))), (t1, .inr (18, [.int (-2), f1]))] H := hP
  have hD : va_D A [(q_3, .inl (k_4, 2, .inr (.inr (.inr (.inr (fun _ => none)))))), (mm, .inr (21, [.int th, .ref ms, .ref mt, .ref mh, .ref me])), (mt, .inr (1, [.int mo, .ref ma, .int 3])), (ma, .inl (kO, 10, .inr (.inr (.inr (.inr (zfT t0 t1 t2)))))), (t1, .inr (18, [.int (-2), f1]))] := hD
  have hK : va_K (dC, dI) vwCl [(kO, .object "java/lang/Object"), (k_4, .object "HornbookModel$Tree")] s := by simpa using hK
  have hw_7 : r_6 = some t1 := hw_7
  have hw_7 := hw_7.symm
  subst hw_7
  refine W.eq (g2 := F0 m 35 ls (.ref t1 :: .int 0 :: .ref q_3 :: [])) rfl ?_
  refine va_astq (D := (dC, dI)) hx hb hK hP hD hS 0 1 4 18 rfl rfl rfl rfl (by unfold vp_in; decide) dX19_trees_35 (fun H locs hP hD hS => ?_)
  have hP : va_P (dC, dI) vwCl [(q_3, .inl (k_4, 2, .inr (.inr (.inr (.inr (va_up (fun _ => none) (0 : Int32).toNatClampNeg (some t1))))))), (mm, .inr (21, [.int th, .ref ms, .ref mt, .ref mh, .ref me])), (mt, .inr (1, [.int mo, .ref ma, .int 3])), (ma, .inl (kO, 10, .inr (.inr (.inr (.inr (zfT t0 t1 t2)))))), (t1, .inr (18, [.int (-2), f1]))] H := hP
  have hD : va_D A [(q_3, .inl (k_4, 2, .inr (.inr (.inr (.inr (va_up (fun _ => none) (0 : Int32).toNatClampNeg (some t1))))))), (mm, .inr (21, [.int th, .ref ms, .ref mt, .ref mh, .ref me])), (mt, .inr (1, [.int mo, .ref ma, .int 3])), (ma, .inl (kO, 10, .inr (.inr (.inr (.inr (zfT t0 t1 t2)))))), (t1, .inr (18, [.int (-2), f1]))] := hD
  refine lv_aload_n hx hb dX19_trees_36 rfl (lv_at hl 0 rfl) ?_
  refine va_alen (D := (dC, dI)) (v := 2) hx hb hK hP 0 1 rfl rfl rfl dX19_trees_37 ?_
  refine lv_iconst (v := 1) hx hb dX19_trees_38 (by decide) ?_
  refine lv_icmp_le (tgt := 50) hx hb dX19_trees_39 (by decide) (fun c_8 => ?_) (fun c_8 => ?_)
  · exact absurd c_8 (by decide)
  refine lv_aload_n hx hb dX19_trees_42 rfl (lv_at hl 0 rfl) ?_
  refine lv_iconst (v := 1) hx hb dX19_trees_43 (by decide) ?_
  refine lv_aload_n hx hb dX19_trees_44 rfl (lv_at hl 1 rfl) ?_
  refine lv_iload_n hx hb dX19_trees_45 rfl (lv_at hl 3 rfl) ?_
  refine z_q (wr := [(q_3, .inl (k_4, 2, .inr (.inr (.inr (.inr (va_up (fun _ => none) (0 : Int32).toNatClampNeg (some t1)))))))]) (va_runV (As := [.int 1]) (rest := [.int 1, .ref q_3]) ⟨hx, hb, hml, hown, hts⟩ (c_M_type_1 l eD eI ad dC dI H.size mm ms mt mh me th mo ma kO t0 t1 t2 f1) (cwV 1 hts g_c_M_trees_11_0 rfl rfl rfl (by decide +kernel) ⟨Nat.le_of_ble_eq_true rfl, Nat.le_of_ble_eq_true rfl⟩) (z_preV (wc := [(mm, .inr (21, [.int th, .ref ms, .ref mt, .ref mh, .ref me])), (mt, .inr (1, [.int mo, .ref ma, .int 3])), (ma, .inl (kO, 10, .inr (.inr (.inr (.inr (zfT t0 t1 t2)))))), (t1, .inr (18, [.int (-2), f1]))]) hP hD hK hS hA hE [1, 2, 3, 4] [0] rfl (by decide) rfl (ci := 21) (q0 := 0) rfl rfl) rfl rfl hl.1 rfl (lv_room (Nat.le_of_ble_eq_true rfl)) dX19_trees_46 ⟨Nat.le_of_ble_eq_true rfl, Nat.le_of_ble_eq_true rfl⟩) hP hD hK hS hA [1, 2, 3, 4] [0] rfl rfl (by decide) (by decide) (fun r_9 u H locs hw_10 hP hD hK hS => ?_)
  obtain ⟨⟩ := u
  have hP : va_P (dC, dI) vwCl [(q_3, .inl (k_4, 2, .inr (.inr (.inr (.inr (va_up (fun _ => none) (0 : Int32).toNatClampNeg (some t1))))))), (mm, .inr (21, [.int th, .ref ms, .ref mt, .ref mh, .ref me])), (mt, .inr (1, [.int mo, .ref ma, .int 3])), (ma, .inl (kO, 10, .inr (.inr (.inr (.inr (zfT t0 t1 t2)))))), (t1, .inr (18, [.int (-2), f1]))] H := hP
  have hD : va_D A [(q_3, .inl (k_4, 2, .inr (.inr (.inr (.inr (va_up (fun _ => none) (0 : Int32).toNatClampNeg (some t1))))))), (mm, .inr (21, [.int th, .ref ms, .ref mt, .ref mh, .ref me])), (mt, .inr (1, [.int mo, .ref ma, .int 3])), (ma, .inl (kO, 10, .inr (.inr (.inr (.inr (zfT t0 t1 t2)))))), (t1, .inr (18, [.int (-2), f1]))] := hD
  have hK : va_K (dC, dI) vwCl [(kO, .object "java/lang/Object"), (k_4, .object "HornbookModel$Tree")] s := by simpa using hK
  have hw_10 : r_9 = some t1 := hw_10
  have hw_10 := hw_10.symm
  subst hw_10
  refine W.eq (g2 := F0 m 49 ls (.ref t1 :: .int 1 :: .ref q_3 :: [])) rfl ?_
  refine va_astq (D := (dC, dI)) hx hb hK hP hD hS 0 1 4 18 rfl rfl rfl rfl (by unfold vp_in; decide) dX19_trees_49 (fun H locs hP hD hS => ?_)
  have hP : va_P (dC, dI) vwCl [(q_3, .inl (k_4, 2, .inr (.inr (.inr (.inr (va_up (va_up (fun _ => none) (0 : Int32).toNatClampNeg (some t1)) (1 : Int32).toNatClampNeg (some t1))))))), (mm, .inr (21, [.int th, .ref ms, .ref mt, .ref mh, .ref me])), (mt, .inr (1, [.int mo, .ref ma, .int 3])), (ma, .inl (kO, 10, .inr (.inr (.inr (.inr (zfT t0 t1 t2)))))), (t1, .inr (18, [.int (-2), f1]))] H := hP
  have hD : va_D A [(q_3, .inl (k_4, 2, .inr (.inr (.inr (.inr (va_up (va_up (fun _ => none) (0 : Int32).toNatClampNeg (some t1)) (1 : Int32).toNatClampNeg (some t1))))))), (mm, .inr (21, [.int th, .ref ms, .ref mt, .ref mh, .ref me])), (mt, .inr (1, [.int mo, .ref ma, .int 3])), (ma, .inl (kO, 10, .inr (.inr (.inr (.inr (zfT t0 t1 t2)))))), (t1, .inr (18, [.int (-2), f1]))] := hD
  refine lv_aload_n hx hb dX19_trees_50 rfl (lv_at hl 0 rfl) ?_
  have hP9 := hP.sub (ws' := [(mm, .inr (21, [.int th, .ref ms, .ref mt, .ref mh, .ref me])), (mt, .inr (1, [.int mo, .ref ma, .int 3])), (ma, .inl (kO, 10, .inr (.inr (.inr (.inr (zfT t0 t1 t2)))))), (t1, .inr (18, [.int (-2), f1])), (q_3, .inl (k_4, 2, .inr (.inr (.inr (.inr (va_up (va_up (fun _ => none) (0 : Int32).toNatClampNeg (some t1)) (1 : Int32).toNatClampNeg (some t1)))))))]) [1, 2, 3, 4, 0] rfl
  have hD9 := hD.sub (ws' := [(mm, .inr (21, [.int th, .ref ms, .ref mt, .ref mh, .ref me])), (mt, .inr (1, [.int mo, .ref ma, .int 3])), (ma, .inl (kO, 10, .inr (.inr (.inr (.inr (zfT t0 t1 t2)))))), (t1, .inr (18, [.int (-2), f1])), (q_3, .inl (k_4, 2, .inr (.inr (.inr (.inr (va_up (va_up (fun _ => none) (0 : Int32).toNatClampNeg (some t1)) (1 : Int32).toNatClampNeg (some t1)))))))]) [1, 2, 3, 4, 0] (by decide) rfl
  have hK9 := hK.sub (tys' := [(kO, .object "java/lang/Object"), (k_4, .object "HornbookModel$Tree")]) [0, 1] rfl
  refine W.widen (k := 1) (n := 2) (Nat.le_of_ble_eq_true rfl) (Nat.le_of_ble_eq_true rfl) ?_
  exact W.aret (v := .ref q_3) hx hb hr (Or.inr ⟨_, rfl⟩) (Or.inr ⟨_, rfl⟩) (fun t ht hW => ⟨⟨some q_3, (q_3, k_4), rfl, rfl, ⟨by rw [ht]; exact hP9, va_K.moved hW.alike hK9, hD9⟩⟩, hS.F ht⟩) hS.2.2 dX19_trees_51

def wb_c_M_trees_12 : List Cond := [.classLink RX19 25 "HornbookModel$Tree", .code yX19_type cX19_type 2 (some (.object "HornbookModel$Tree")), .fieldLink RX19 16 "HornbookModel" "types" "Ljava/util/ArrayList;", .code yJx4a65c_get_915e3 cJx4a65c_get_915e3 2 (some (.object "java/lang/Object")), .fieldLink RJx4a65c 48 "java/util/ArrayList" "size" "I", .code yJ15_checkIndex_7cf53 cJ15_checkIndex_7cf53 2 (some .int), .code yJ3_checkIndex_8e157 cJ3_checkIndex_8e157 3 (some .int), .methodLink RJ15 105 yJ3_checkIndex_8e157, .static yJ3_checkIndex_8e157, .initialized RJ3, .methodLink RJx4a65c 118 yJ15_checkIndex_7cf53, .static yJ15_checkIndex_7cf53, .initialized RJ15, .code yJx4a65c_elementData_915e3 cJx4a65c_elementData_915e3 2 (some (.object "java/lang/Object")), .fieldLink RJx4a65c 9 "java/util/ArrayList" "elementData" "[Ljava/lang/Object;", .methodLink RJx4a65c 123 yJx4a65c_elementData_915e3, .instanceMethod yJx4a65c_elementData_915e3, .selects RJx4a65c yJx4a65c_elementData_915e3 yJx4a65c_elementData_915e3, .initialized RJx4a65c, .methodLink RX19 59 yJx4a65c_get_915e3, .instanceMethod yJx4a65c_get_915e3, .selects RJx4a65c yJx4a65c_get_915e3 yJx4a65c_get_915e3, .methodLink RX19 87 yX19_type, .instanceMethod yX19_type, .selects RX19 yX19_type yX19_type, .initialized RX19] ++ u_ws RJx4a65c TJx4a65c 3 ++ u_ws RX19 TX19 5
def w_c_M_trees_12 : List Cond := .code yX19_trees cX19_trees 4 (some (.array (.object "HornbookModel$Tree"))) :: wb_c_M_trees_12
set_option maxRecDepth 100000 in
theorem g_c_M_trees_12_0 : GoodIn w_c_M_trees_12 (wsV RX19 87 RX19 yX19_type w_c_M_type_1) := goodIn_app (goodIn_of _ (by decide +kernel)) (goodIn_p (big := w_c_M_trees_12) (.code yX19_type cX19_type 2 (some (.object "HornbookModel$Tree")) :: wb_c_M_type_1) [2, 4, 6, 7, 14] rfl (by decide +kernel))
set_option maxRecDepth 100000 in
theorem g_c_M_trees_12_1 : GoodIn w_c_M_trees_12 (wsV RX19 87 RX19 yX19_type w_c_M_type_2) := goodIn_app (goodIn_of _ (by decide +kernel)) (goodIn_p (big := w_c_M_trees_12) (.code yX19_type cX19_type 2 (some (.object "HornbookModel$Tree")) :: wb_c_M_type_2) [2, 4, 6, 7, 14] rfl (by decide +kernel))
set_option maxHeartbeats 4000000 in
set_option maxRecDepth 100000 in
theorem c_M_trees_12 (l : Launch) (eD eI : Nat) (ad : Nat → Nat) (dC : Nat → ClassId) (dI : Nat → Nat → Nat) (sz : Nat) (mm : Nat) (ms : Nat) (mt : Nat) (mh : Nat) (me : Nat) (th : Int32) (mo : Int32) (ma : Nat) (kO : ClassId) (t0 : Nat) (t1 : Nat) (t2 : Nat) (f1 : Value) (f2 : Value) : Met l yX19_trees w_c_M_trees_12 ({ frames := 4, cells := 1, slots := 2, locals := 85 }) (va_Pc [.ref mm, .int 1, .int 2] (zPre eD eI ad (dC, dI) [(mm, .inr (21, [.int th, .ref ms, .ref mt, .ref mh, .ref me])), (mt, .inr (1, [.int mo, .ref ma, .int 3])), (ma, .inl (kO, 10, .inr (.inr (.inr (.inr (zfT t0 t1 t2)))))), (t1, .inr (18, [.int (-2), f1])), (t2, .inr (18, [.int (-3), f2]))] [(kO, .object "java/lang/Object")] sz)) (va_Qq (fun (r : Option Nat) (u : Nat × ClassId) => match u with | (tk, kk) => r = some tk) (fun (u : Nat × ClassId) => match u with | (tk, kk) => zEnd (dC, dI) (va_A [(mm, .inr (21, [.int th, .ref ms, .ref mt, .ref mh, .ref me])), (mt, .inr (1, [.int mo, .ref ma, .int 3])), (ma, .inl (kO, 10, .inr (.inr (.inr (.inr (zfT t0 t1 t2)))))), (t1, .inr (18, [.int (-2), f1])), (t2, .inr (18, [.int (-3), f2]))] sz) [(mm, .inr (21, [.int th, .ref ms, .ref mt, .ref mh, .ref me])), (mt, .inr (1, [.int mo, .ref ma, .int 3])), (ma, .inl (kO, 10, .inr (.inr (.inr (.inr (zfT t0 t1 t2)))))), (t1, .inr (18, [.int (-2), f1])), (t2, .inr (18, [.int (-3), f2])), (tk, .inl (kk, 2, .inr (.inr (.inr (.inr (va_up (va_up (fun _ => none) (0 : Int32).toNatClampNeg (some t1)) (1 : Int32).toNatClampNeg (some t2)))))))] [(kO, .object "java/lang/Object"), (kk, .object "HornbookModel$Tree")]) (va_A [(mm, .inr (21, [.int th, .ref ms, .ref mt, .ref mh, .ref me])), (mt, .inr (1, [.int mo, .ref ma, .int 3])), (ma, .inl (kO, 10, .inr (.inr (.inr (.inr (zfT t0 t1 t2)))))), (t1, .inr (18, [.int (-2), f1])), (t2, .inr (18, [.int (-3), f2]))] sz)) 1 2 (va_A [(mm, .inr (21, [.int th, .ref ms, .ref mt, .ref mh, .ref me])), (mt, .inr (1, [.int mo, .ref ma, .int 3])), (ma, .inl (kO, 10, .inr (.inr (.inr (.inr (zfT t0 t1 t2)))))), (t1, .inr (18, [.int (-2), f1])), (t2, .inr (18, [.int (-3), f2]))] sz) := by
  refine Met.ofW (cc := cX19_trees) (maxL := 4) (ret := (some (.array (.object "HornbookModel$Tree")))) (by decide) rfl ?_
  intro p e s m args below meth c s₁ B hml hv
  obtain ⟨rfl, hsz, hP, hK, hD0, hE⟩ := hv
  have hx := B.exec
  have hb := B.bytes
  have hr := B.returns
  have hts := atoms_spec (ws := w_c_M_trees_12) B.pre
  have hown : s.vm.findClass RX19 = some m.cls := findClass_of_methodNamed B.named
  have hlocks := B.notSynchronized
  subst hsz
  have hD := hD0.self (sz := s.heap.size)
  generalize hAe : va_A [(mm, .inr (21, [.int th, .ref ms, .ref mt, .ref mh, .ref me])), (mt, .inr (1, [.int mo, .ref ma, .int 3])), (ma, .inl (kO, 10, .inr (.inr (.inr (.inr (zfT t0 t1 t2)))))), (t1, .inr (18, [.int (-2), f1])), (t2, .inr (18, [.int (-3), f2]))] s.heap.size = A at hD hE ⊢
  have hA : ∀ q : Nat, s.heap.size ≤ q → A q := fun q h => by rw [← hAe]; exact Or.inr h
  have hS : va_S A s.heap s.heap [] := va_S.rf
  have hP : va_P (dC, dI) vwCl [(mm, .inr (21, [.int th, .ref ms, .ref mt, .ref mh, .ref me])), (mt, .inr (1, [.int mo, .ref ma, .int 3])), (ma, .inl (kO, 10, .inr (.inr (.inr (.inr (zfT t0 t1 t2)))))), (t1, .inr (18, [.int (-2), f1])), (t2, .inr (18, [.int (-3), f2]))] s.heap := hP
  have hl := lv_entry ([.ref mm, .int 1, .int 2]) (n := 4) (Nat.le_of_ble_eq_true rfl)
  rw [lg_entry_eq]
  generalize (lg_sl ([.ref mm, .int 1, .int 2]) ++ List.replicate (4 - (lg_sl ([.ref mm, .int 1, .int 2])).length) Slot.unset).toArray = ls at hl ⊢
  have hl : lv_has ls 4 [(0, .ref mm), (1, .int 1), (2, .int 2)] := hl
  have in_RJx4a65c : ∀ w ∈ u_ws RJx4a65c TJx4a65c 3, w ∈ w_c_M_trees_12 := by decide +kernel
  have in_RX19 : ∀ w ∈ u_ws RX19 TX19 5, w ∈ w_c_M_trees_12 := by decide +kernel
  refine lv_iload_n hx hb dX19_trees_0 rfl (lv_at hl 1 rfl) ?_
  refine lv_iconst (v := (-1)) hx hb dX19_trees_1 (by decide) ?_
  refine lv_icmp_ne (tgt := 9) hx hb dX19_trees_2 (by decide) (fun c_1 => ?_) (fun c_1 => ?_)
  rotate_left
  · exact absurd c_1 (by decide)
  refine lv_iload_n hx hb dX19_trees_9 rfl (lv_at hl 2 rfl) ?_
  refine lv_iconst (v := (-1)) hx hb dX19_trees_10 (by decide) ?_
  refine lv_icmp_ne (tgt := 18) hx hb dX19_trees_11 (by decide) (fun c_2 => ?_) (fun c_2 => ?_)
  rotate_left
  · exact absurd c_2 (by decide)
  refine lv_iconst (v := 2) hx hb dX19_trees_18 (by decide) ?_
  refine va_newq (C := "HornbookModel$Tree") hx hb hown (hts (.classLink RX19 25 "HornbookModel$Tree") (by decide +kernel)) (hE.2.2.2.2.2.2.1 "HornbookModel$Tree" (by decide +kernel)) hK hP hD hS hA (N' := 2) (by decide) (by decide) (Nat.le_of_ble_eq_true rfl) (Nat.le_of_ble_eq_true rfl) (Nat.le_of_ble_eq_true rfl) dX19_trees_19 (fun q_3 k_4 H hK hP hD hS => ?_)
  have hP : va_P (dC, dI) vwCl [(mm, .inr (21, [.int th, .ref ms, .ref mt, .ref mh, .ref me])), (mt, .inr (1, [.int mo, .ref ma, .int 3])), (ma, .inl (kO, 10, .inr (.inr (.inr (.inr (zfT t0 t1 t2)))))), (t1, .inr (18, [.int (-2), f1])), (t2, .inr (18, [.int (-3), f2])), (q_3, .inl (k_4, 2, .inr (.inr (.inr (.inr (fun _ => none))))))] H := hP
  have hD : va_D A [(mm, .inr (21, [.int th, .ref ms, .ref mt, .ref mh, .ref me])), (mt, .inr (1, [.int mo, .ref ma, .int 3])), (ma, .inl (kO, 10, .inr (.inr (.inr (.inr (zfT t0 t1 t2)))))), (t1, .inr (18, [.int (-2), f1])), (t2, .inr (18, [.int (-3), f2])), (q_3, .inl (k_4, 2, .inr (.inr (.inr (.inr (fun _ => none))))))] := hD
  have hK : va_K (dC, dI) vwCl [(kO, .object "java/lang/Object"), (k_4, .object "HornbookModel$Tree")] s := hK
  refine lv_astore_n (lv' := [(3, .ref q_3), (0, .ref mm), (1, .int 1), (2, .int 2)]) hx hb dX19_trees_22 rfl hl (by decide) rfl (fun ls hl => ?_)
  refine lv_aload_n hx hb dX19_trees_23 rfl (lv_at hl 0 rfl) ?_
  refine va_alen (D := (dC, dI)) (v := 2) hx hb hK hP 5 1 rfl rfl rfl dX19_trees_24 ?_
  refine lv_if_le (tgt := 36) hx hb dX19_trees_25 (by decide) (fun c_5 => ?_) (fun c_5 => ?_)
  · exact absurd c_5 (by decide)
  refine lv_aload_n hx hb dX19_trees_28 rfl (lv_at hl 0 rfl) ?_
  refine lv_iconst (v := 0) hx hb dX19_trees_29 (by decide) ?_
  refine lv_aload_n hx hb dX19_trees_30 rfl (lv_at hl 1 rfl) ?_
  refine lv_iload_n hx hb dX19_trees_31 rfl (lv_at hl 2 rfl) ?_
  refine z_q (wr := [(t2, .inr (18, [.int (-3), f2])), (q_3, .inl (k_4, 2, .inr (.inr (.inr (.inr (fun _ => none))))))]) (va_runV (As := [.int 1]) (rest := [.int 0, .ref q_3]) ⟨hx, hb, hml, hown, hts⟩ (c_M_type_1 l eD eI ad dC dI H.size mm ms mt mh me th mo ma kO t0 t1 t2 f1) (cwV 1 hts g_c_M_trees_12_0 rfl rfl rfl (by decide +kernel) ⟨Nat.le_of_ble_eq_true rfl, Nat.le_of_ble_eq_true rfl⟩) (z_preV (wc := [(mm, .inr (21, [.int th, .ref ms, .ref mt, .ref mh, .ref me])), (mt, .inr (1, [.int mo, .ref ma, .int 3])), (ma, .inl (kO, 10, .inr (.inr (.inr (.inr (zfT t0 t1 t2)))))), (t1, .inr (18, [.int (-2), f1]))]) hP hD hK hS hA hE [0, 1, 2, 3] [0] rfl (by decide) rfl (ci := 21) (q0 := 0) rfl rfl) rfl rfl hl.1 rfl (lv_room (Nat.le_of_ble_eq_true rfl)) dX19_trees_32 ⟨Nat.le_of_ble_eq_true rfl, Nat.le_of_ble_eq_true rfl⟩) hP hD hK hS hA [0, 1, 2, 3] [4, 5] rfl rfl (by decide) (by decide) (fun r_6 u H locs hw_7 hP hD hK hS => ?_)
  obtain ⟨⟩ := u
  have hP : va_P (dC, dI) vwCl [(t2, .inr (18, [.int (-3), f2])), (q_3, .inl (k_4, 2, .inr (.inr (.inr (.inr (fun _ => none)))))), (mm, .inr (21, [.int th, .ref ms, .ref mt, .ref mh, .ref me])), (mt, .inr (1, [.int mo, .ref ma, .int 3])), (ma, .inl (kO, 10, .inr (.inr (.inr (.inr (zfT t0 t1 t2)))))), (t1, .inr (18, [.int (-2), f1]))] H := hP
  have hD : va_D A [(t2, .inr (18, [.int (-3), f2])), (q_3, .inl (k_4, 2, .inr (.inr (.inr (.inr (fun _ => none)))))), (mm, .inr (21, [.int th, .ref ms, .ref mt, .ref mh, .ref me])), (mt, .inr (1, [.int mo, .ref ma, .int 3])), (ma, .inl (kO, 10, .inr (.inr (.inr (.inr (zfT t0 t1 t2)))))), (t1, .inr (18, [.int (-2), f1]))] := hD
  have hK : va_K (dC, dI) vwCl [(kO, .object "java/lang/Object"), (k_4, .object "HornbookModel$Tree")] s := by simpa using hK
  have hw_7 : r_6 = some t1 := hw_7
  have hw_7 := hw_7.symm
  subst hw_7
  refine W.eq (g2 := F0 m 35 ls (.ref t1 :: .int 0 :: .ref q_3 :: [])) rfl ?_
  refine va_astq (D := (dC, dI)) hx hb hK hP hD hS 1 1 5 18 rfl rfl rfl rfl (by unfold vp_in; decide) dX19_trees_35 (fun H locs hP hD hS => ?_)
  have hP : va_P (dC, dI) vwCl [(t2, .inr (18, [.int (-3), f2])), (q_3, .inl (k_4, 2, .inr (.inr (.inr (.inr (va_up (fun _ => none) (0 : Int32).toNatClampNeg (some t1))))))), (mm, .inr (21, [.int th, .ref ms, .ref mt, .ref mh, .ref me])), (mt, .inr (1, [.int mo, .ref ma, .int 3])), (ma, .inl (kO, 10, .inr (.inr (.inr (.inr (zfT t0 t1 t2)))))), (t1, .inr (18, [.int (-2), f1]))] H := hP
  have hD : va_D A [(t2, .inr (18, [.int (-3), f2])), (q_3, .inl (k_4, 2, .inr (.inr (.inr (.inr (va_up (fun _ => none) (0 : Int32).toNatClampNeg (some t1))))))), (mm, .inr (21, [.int th, .ref ms, .ref mt, .ref mh, .ref me])), (mt, .inr (1, [.int mo, .ref ma, .int 3])), (ma, .inl (kO, 10, .inr (.inr (.inr (.inr (zfT t0 t1 t2)))))), (t1, .inr (18, [.int (-2), f1]))] := hD
  refine lv_aload_n hx hb dX19_trees_36 rfl (lv_at hl 0 rfl) ?_
  refine va_alen (D := (dC, dI)) (v := 2) hx hb hK hP 1 1 rfl rfl rfl dX19_trees_37 ?_
  refine lv_iconst (v := 1) hx hb dX19_trees_38 (by decide) ?_
  refine lv_icmp_le (tgt := 50) hx hb dX19_trees_39 (by decide) (fun c_8 => ?_) (fun c_8 => ?_)
  · exact absurd c_8 (by decide)
  refine lv_aload_n hx hb dX19_trees_42 rfl (lv_at hl 0 rfl) ?_
  refine lv_iconst (v := 1) hx hb dX19_trees_43 (by decide) ?_
  refine lv_aload_n hx hb dX19_trees_44 rfl (lv_at hl 1 rfl) ?_
  refine lv_iload_n hx hb dX19_trees_45 rfl (lv_at hl 3 rfl) ?_
  refine z_q (wr := [(q_3, .inl (k_4, 2, .inr (.inr (.inr (.inr (va_up (fun _ => none) (0 : Int32).toNatClampNeg (some t1))))))), (t1, .inr (18, [.int (-2), f1]))]) (va_runV (As := [.int 2]) (rest := [.int 1, .ref q_3]) ⟨hx, hb, hml, hown, hts⟩ (c_M_type_2 l eD eI ad dC dI H.size mm ms mt mh me th mo ma kO t0 t1 t2 f2) (cwV 1 hts g_c_M_trees_12_1 rfl rfl rfl (by decide +kernel) ⟨Nat.le_of_ble_eq_true rfl, Nat.le_of_ble_eq_true rfl⟩) (z_preV (wc := [(mm, .inr (21, [.int th, .ref ms, .ref mt, .ref mh, .ref me])), (mt, .inr (1, [.int mo, .ref ma, .int 3])), (ma, .inl (kO, 10, .inr (.inr (.inr (.inr (zfT t0 t1 t2)))))), (t2, .inr (18, [.int (-3), f2]))]) hP hD hK hS hA hE [2, 3, 4, 0] [0] rfl (by decide) rfl (ci := 21) (q0 := 0) rfl rfl) rfl rfl hl.1 rfl (lv_room (Nat.le_of_ble_eq_true rfl)) dX19_trees_46 ⟨Nat.le_of_ble_eq_true rfl, Nat.le_of_ble_eq_true rfl⟩) hP hD hK hS hA [2, 3, 4, 0] [1, 5] rfl rfl (by decide) (by decide) (fun r_9 u H locs hw_10 hP hD hK hS => ?_)
  obtain ⟨⟩ := u
  have hP : va_P (dC, dI) vwCl [(q_3, .inl (k_4, 2, .inr (.inr (.inr (.inr (va_up (fun _ => none) (0 : Int32).toNatClampNeg (some t1))))))), (t1, .inr (18, [.int (-2), f1])), (mm, .inr (21, [.int th, .ref ms, .ref mt, .ref mh, .ref me])), (mt, .inr (1, [.int mo, .ref ma, .int 3])), (ma, .inl (kO, 10, .inr (.inr (.inr (.inr (zfT t0 t1 t2)))))), (t2, .inr (18, [.int (-3), f2]))] H := hP
  have hD : va_D A [(q_3, .inl (k_4, 2, .inr (.inr (.inr (.inr (va_up (fun _ => none) (0 : Int32).toNatClampNeg (some t1))))))), (t1, .inr (18, [.int (-2), f1])), (mm, .inr (21, [.int th, .ref ms, .ref mt, .ref mh, .ref me])), (mt, .inr (1, [.int mo, .ref ma, .int 3])), (ma, .inl (kO, 10, .inr (.inr (.inr (.inr (zfT t0 t1 t2)))))), (t2, .inr (18, [.int (-3), f2]))] := hD
  have hK : va_K (dC, dI) vwCl [(kO, .object "java/lang/Object"), (k_4, .object "HornbookModel$Tree")] s := by simpa using hK
  have hw_10 : r_9 = some t2 := hw_10
  have hw_10 := hw_10.symm
  subst hw_10
  refine W.eq (g2 := F0 m 49 ls (.ref t2 :: .int 1 :: .ref q_3 :: [])) rfl ?_
  refine va_astq (D := (dC, dI)) hx hb hK hP hD hS 0 1 5 18 rfl rfl rfl rfl (by unfold vp_in; decide) dX19_trees_49 (fun H locs hP hD hS => ?_)
  have hP : va_P (dC, dI) vwCl [(q_3, .inl (k_4, 2, .inr (.inr (.inr (.inr (va_up (va_up (fun _ => none) (0 : Int32).toNatClampNeg (some t1)) (1 : Int32).toNatClampNeg (some t2))))))), (t1, .inr (18, [.int (-2), f1])), (mm, .inr (21, [.int th, .ref ms, .ref mt, .ref mh, .ref me])), (mt, .inr (1, [.int mo, .ref ma, .int 3])), (ma, .inl (kO, 10, .inr (.inr (.inr (.inr (zfT t0 t1 t2)))))), (t2, .inr (18, [.int (-3), f2]))] H := hP
  have hD : va_D A [(q_3, .inl (k_4, 2, .inr (.inr (.inr (.inr (va_up (va_up (fun _ => none) (0 : Int32).toNatClampNeg (some t1)) (1 : Int32).toNatClampNeg (some t2))))))), (t1, .inr (18, [.int (-2), f1])), (mm, .inr (21, [.int th, .ref ms, .ref mt, .ref mh, .ref me])), (mt, .inr (1, [.int mo, .ref ma, .int 3])), (ma, .inl (kO, 10, .inr (.inr (.inr (.inr (zfT t0 t1 t2)))))), (t2, .inr (18, [.int (-3), f2]))] := hD
  refine lv_aload_n hx hb dX19_trees_50 rfl (lv_at hl 0 rfl) ?_
  have hP9 := hP.sub (ws' := [(mm, .inr (21, [.int th, .ref ms, .ref mt, .ref mh, .ref me])), (mt, .inr (1, [.int mo, .ref ma, .int 3])), (ma, .inl (kO, 10, .inr (.inr (.inr (.inr (zfT t0 t1 t2)))))), (t1, .inr (18, [.int (-2), f1])), (t2, .inr (18, [.int (-3), f2])), (q_3, .inl (k_4, 2, .inr (.inr (.inr (.inr (va_up (va_up (fun _ => none) (0 : Int32).toNatClampNeg (some t1)) (1 : Int32).toNatClampNeg (some t2)))))))]) [2, 3, 4, 1, 5, 0] rfl
  have hD9 := hD.sub (ws' := [(mm, .inr (21, [.int th, .ref ms, .ref mt, .ref mh, .ref me])), (mt, .inr (1, [.int mo, .ref ma, .int 3])), (ma, .inl (kO, 10, .inr (.inr (.inr (.inr (zfT t0 t1 t2)))))), (t1, .inr (18, [.int (-2), f1])), (t2, .inr (18, [.int (-3), f2])), (q_3, .inl (k_4, 2, .inr (.inr (.inr (.inr (va_up (va_up (fun _ => none) (0 : Int32).toNatClampNeg (some t1)) (1 : Int32).toNatClampNeg (some t2)))))))]) [2, 3, 4, 1, 5, 0] (by decide) rfl
  have hK9 := hK.sub (tys' := [(kO, .object "java/lang/Object"), (k_4, .object "HornbookModel$Tree")]) [0, 1] rfl
  refine W.widen (k := 1) (n := 2) (Nat.le_of_ble_eq_true rfl) (Nat.le_of_ble_eq_true rfl) ?_
  exact W.aret (v := .ref q_3) hx hb hr (Or.inr ⟨_, rfl⟩) (Or.inr ⟨_, rfl⟩) (fun t ht hW => ⟨⟨some q_3, (q_3, k_4), rfl, rfl, ⟨by rw [ht]; exact hP9, va_K.moved hW.alike hK9, hD9⟩⟩, hS.F ht⟩) hS.2.2 dX19_trees_51

def wb_c_M_trees_2 : List Cond := [.classLink RX19 25 "HornbookModel$Tree", .code yX19_type cX19_type 2 (some (.object "HornbookModel$Tree")), .fieldLink RX19 16 "HornbookModel" "types" "Ljava/util/ArrayList;", .code yJx4a65c_get_915e3 cJx4a65c_get_915e3 2 (some (.object "java/lang/Object")), .fieldLink RJx4a65c 48 "java/util/ArrayList" "size" "I", .code yJ15_checkIndex_7cf53 cJ15_checkIndex_7cf53 2 (some .int), .code yJ3_checkIndex_8e157 cJ3_checkIndex_8e157 3 (some .int), .methodLink RJ15 105 yJ3_checkIndex_8e157, .static yJ3_checkIndex_8e157, .initialized RJ3, .methodLink RJx4a65c 118 yJ15_checkIndex_7cf53, .static yJ15_checkIndex_7cf53, .initialized RJ15, .code yJx4a65c_elementData_915e3 cJx4a65c_elementData_915e3 2 (some (.object "java/lang/Object")), .fieldLink RJx4a65c 9 "java/util/ArrayList" "elementData" "[Ljava/lang/Object;", .methodLink RJx4a65c 123 yJx4a65c_elementData_915e3, .instanceMethod yJx4a65c_elementData_915e3, .selects RJx4a65c yJx4a65c_elementData_915e3 yJx4a65c_elementData_915e3, .initialized RJx4a65c, .methodLink RX19 59 yJx4a65c_get_915e3, .instanceMethod yJx4a65c_get_915e3, .selects RJx4a65c yJx4a65c_get_915e3 yJx4a65c_get_915e3, .methodLink RX19 87 yX19_type, .instanceMethod yX19_type, .selects RX19 yX19_type yX19_type, .initialized RX19] ++ u_ws RJx4a65c TJx4a65c 3 ++ u_ws RX19 TX19 5
def w_c_M_trees_2 : List Cond := .code yX19_trees cX19_trees 4 (some (.array (.object "HornbookModel$Tree"))) :: wb_c_M_trees_2
set_option maxRecDepth 100000 in
theorem g_c_M_trees_2_0 : GoodIn w_c_M_trees_2 (wsV RX19 87 RX19 yX19_type w_c_M_type_2) := goodIn_app (goodIn_of _ (by decide +kernel)) (goodIn_p (big := w_c_M_trees_2) (.code yX19_type cX19_type 2 (some (.object "HornbookModel$Tree")) :: wb_c_M_type_2) [2, 4, 6, 7, 14] rfl (by decide +kernel))
set_option maxHeartbeats 4000000 in
set_option maxRecDepth 100000 in
theorem c_M_trees_2 (l : Launch) (eD eI : Nat) (ad : Nat → Nat) (dC : Nat → ClassId) (dI : Nat → Nat → Nat) (sz : Nat) (mm : Nat) (ms : Nat) (mt : Nat) (mh : Nat) (me : Nat) (th : Int32) (mo : Int32) (ma : Nat) (kO : ClassId) (t0 : Nat) (t1 : Nat) (t2 : Nat) (f2 : Value) : Met l yX19_trees w_c_M_trees_2 ({ frames := 4, cells := 1, slots := 1, locals := 85 }) (va_Pc [.ref mm, .int 2, .int (-1)] (zPre eD eI ad (dC, dI) [(mm, .inr (21, [.int th, .ref ms, .ref mt, .ref mh, .ref me])), (mt, .inr (1, [.int mo, .ref ma, .int 3])), (ma, .inl (kO, 10, .inr (.inr (.inr (.inr (zfT t0 t1 t2)))))), (t2, .inr (18, [.int (-3), f2]))] [(kO, .object "java/lang/Object")] sz)) (va_Qq (fun (r : Option Nat) (u : Nat × ClassId) => match u with | (tk, kk) => r = some tk) (fun (u : Nat × ClassId) => match u with | (tk, kk) => zEnd (dC, dI) (va_A [(mm, .inr (21, [.int th, .ref ms, .ref mt, .ref mh, .ref me])), (mt, .inr (1, [.int mo, .ref ma, .int 3])), (ma, .inl (kO, 10, .inr (.inr (.inr (.inr (zfT t0 t1 t2)))))), (t2, .inr (18, [.int (-3), f2]))] sz) [(mm, .inr (21, [.int th, .ref ms, .ref mt, .ref mh, .ref me])), (mt, .inr (1, [.int mo, .ref ma, .int 3])), (ma, .inl (kO, 10, .inr (.inr (.inr (.inr (zfT t0 t1 t2)))))), (t2, .inr (18, [.int (-3), f2])), (tk, .inl (kk, 1, .inr (.inr (.inr (.inr (va_up (fun _ => none) (0 : Int32).toNatClampNeg (some t2)))))))] [(kO, .object "java/lang/Object"), (kk, .object "HornbookModel$Tree")]) (va_A [(mm, .inr (21, [.int th, .ref ms, .ref mt, .ref mh, .ref me])), (mt, .inr (1, [.int mo, .ref ma, .int 3])), (ma, .inl (kO, 10, .inr (.inr (.inr (.inr (zfT t0 t1 t2)))))), (t2, .inr (18, [.int (-3), f2]))] sz)) 1 1 (va_A [(mm, .inr (21, [.int th, .ref ms, .ref mt, .ref mh, .ref me])), (mt, .inr (1, [.int mo, .ref ma, .int 3])), (ma, .inl (kO, 10, .inr (.inr (.inr (.inr (zfT t0 t1 t2)))))), (t2, .inr (18, [.int (-3), f2]))] sz) := by
  refine Met.ofW (cc := cX19_trees) (maxL := 4) (ret := (some (.array (.object "HornbookModel$Tree")))) (by decide) rfl ?_
  intro p e s m args below meth c s₁ B hml hv
  obtain ⟨rfl, hsz, hP, hK, hD0, hE⟩ := hv
  have hx := B.exec
  have hb := B.bytes
  have hr := B.returns
  have hts := atoms_spec (ws := w_c_M_trees_2) B.pre
  have hown : s.vm.findClass RX19 = some m.cls := findClass_of_methodNamed B.named
  have hlocks := B.notSynchronized
  subst hsz
  have hD := hD0.self (sz := s.heap.size)
  generalize hAe : va_A [(mm, .inr (21, [.int th, .ref ms, .ref mt, .ref mh, .ref me])), (mt, .inr (1, [.int mo, .ref ma, .int 3])), (ma, .inl (kO, 10, .inr (.inr (.inr (.inr (zfT t0 t1 t2)))))), (t2, .inr (18, [.int (-3), f2]))] s.heap.size = A at hD hE ⊢
  have hA : ∀ q : Nat, s.heap.size ≤ q → A q := fun q h => by rw [← hAe]; exact Or.inr h
  have hS : va_S A s.heap s.heap [] := va_S.rf
  have hP : va_P (dC, dI) vwCl [(mm, .inr (21, [.int th, .ref ms, .ref mt, .ref mh, .ref me])), (mt, .inr (1, [.int mo, .ref ma, .int 3])), (ma, .inl (kO, 10, .inr (.inr (.inr (.inr (zfT t0 t1 t2)))))), (t2, .inr (18, [.int (-3), f2]))] s.heap := hP
  have hl := lv_entry ([.ref mm, .int 2, .int (-1)]) (n := 4) (Nat.le_of_ble_eq_true rfl)
  rw [lg_entry_eq]
  generalize (lg_sl ([.ref mm, .int 2, .int (-1)]) ++ List.replicate (4 - (lg_sl ([.ref mm, .int 2, .int (-1)])).length) Slot.unset).toArray = ls at hl ⊢
  have hl : lv_has ls 4 [(0, .ref mm), (1, .int 2), (2, .int (-1))] := hl
  have in_RJx4a65c : ∀ w ∈ u_ws RJx4a65c TJx4a65c 3, w ∈ w_c_M_trees_2 := by decide +kernel
  have in_RX19 : ∀ w ∈ u_ws RX19 TX19 5, w ∈ w_c_M_trees_2 := by decide +kernel
  refine lv_iload_n hx hb dX19_trees_0 rfl (lv_at hl 1 rfl) ?_
  refine lv_iconst (v := (-1)) hx hb dX19_trees_1 (by decide) ?_
  refine lv_icmp_ne (tgt := 9) hx hb dX19_trees_2 (by decide) (fun c_1 => ?_) (fun c_1 => ?_)
  rotate_left
  · exact absurd c_1 (by decide)
  refine lv_iload_n hx hb dX19_trees_9 rfl (lv_at hl 2 rfl) ?_
  refine lv_iconst (v := (-1)) hx hb dX19_trees_10 (by decide) ?_
  refine lv_icmp_ne (tgt := 18) hx hb dX19_trees_11 (by decide) (fun c_2 => ?_) (fun c_2 => ?_)
  · exact absurd (by decide) c_2
  refine lv_iconst (v := 1) hx hb dX19_trees_14 (by decide) ?_
  refine lv_goto (tgt := 19) hx hb dX19_trees_15 (by decide) ?_
  refine va_newq (C := "HornbookModel$Tree") hx hb hown (hts (.classLink RX19 25 "HornbookModel$Tree") (by decide +kernel)) (hE.2.2.2.2.2.2.1 "HornbookModel$Tree" (by decide +kernel)) hK hP hD hS hA (N' := 1) (by decide) (by decide) (Nat.le_of_ble_eq_true rfl) (Nat.le_of_ble_eq_true rfl) (Nat.le_of_ble_eq_true rfl) dX19_trees_19 (fun q_3 k_4 H hK hP hD hS => ?_)
  have hP : va_P (dC, dI) vwCl [(mm, .inr (21, [.int th, .ref ms, .ref mt, .ref mh, .ref me])), (mt, .inr (1, [.int mo, .ref ma, .int 3])), (ma, .inl (kO, 10, .inr (.inr (.inr (.inr (zfT t0 t1 t2)))))), (t2, .inr (18, [.int (-3), f2])), (q_3, .inl (k_4, 1, .inr (.inr (.inr (.inr (fun _ => none))))))] H := hP
  have hD : va_D A [(mm, .inr (21, [.int th, .ref ms, .ref mt, .ref mh, .ref me])), (mt, .inr (1, [.int mo, .ref ma, .int 3])), (ma, .inl (kO, 10, .inr (.inr (.inr (.inr (zfT t0 t1 t2)))))), (t2, .inr (18, [.int (-3), f2])), (q_3, .inl (k_4, 1, .inr (.inr (.inr (.inr (fun _ => none))))))] := hD
  have hK : va_K (dC, dI) vwCl [(kO, .object "java/lang/Object"), (k_4, .object "HornbookModel$Tree")] s := hK
  refine lv_astore_n (lv' := [(3, .ref q_3), (0, .ref mm), (1, .int 2), (2, .int (-1))]) hx hb dX19_trees_22 rfl hl (by decide) rfl (fun ls hl => ?_)
  refine lv_aload_n hx hb dX19_trees_23 rfl (lv_at hl 0 rfl) ?_
  refine va_alen (D := (dC, dI)) (v := 1) hx hb hK hP 4 1 rfl rfl rfl dX19_trees_24 ?_
  refine lv_if_le (tgt := 36) hx hb dX19_trees_25 (by decide) (fun c_5 => ?_) (fun c_5 => ?_)
  · exact absurd c_5 (by decide)
  refine lv_aload_n hx hb dX19_trees_28 rfl (lv_at hl 0 rfl) ?_
  refine lv_iconst (v := 0) hx hb dX19_trees_29 (by decide) ?_
  refine lv_aload_n hx hb dX19_trees_30 rfl (lv_at hl 1 rfl) ?_
  refine lv_iload_n hx hb dX19_trees_31 rfl (lv_at hl 2 rfl) ?_
  refine z_q (wr := [(q_3, .inl (k_4, 1, .inr (.inr (.inr (.inr (fun _ => none))))))]) (va_runV (As := [.int 2]) (rest := [.int 0, .ref q_3]) ⟨hx, hb, hml, hown, hts⟩ (c_M_type_2 l eD eI ad dC dI H.size mm ms mt mh me th mo ma kO t0 t1 t2 f2) (cwV 1 hts g_c_M_trees_2_0 rfl rfl rfl (by decide +kernel) ⟨Nat.le_of_ble_eq_true rfl, Nat.le_of_ble_eq_true rfl⟩) (z_preV (wc := [(mm, .inr (21, [.int th, .ref ms, .ref mt, .ref mh, .ref me])), (mt, .inr (1, [.int mo, .ref ma, .int 3])), (ma, .inl (kO, 10, .inr (.inr (.inr (.inr (zfT t0 t1 t2)))))), (t2, .inr (18, [.int (-3), f2]))]) hP hD hK hS hA hE [0, 1, 2, 3] [0] rfl (by decide) rfl (ci := 21) (q0 := 0) rfl rfl) rfl rfl hl.1 rfl (lv_room (Nat.le_of_ble_eq_true rfl)) dX19_trees_32 ⟨Nat.le_of_ble_eq_true rfl, Nat.le_of_ble_eq_true rfl⟩) hP hD hK hS hA [0, 1, 2, 3] [4] rfl rfl (by decide) (by decide) (fun r_6 u H locs hw_7 hP hD hK hS => ?_)
  obtain ⟨⟩ := u
  have hP : va_P (dC, dI) vwCl [(q_3, .inl (k_4, 1, .inr (.inr (.inr (.inr (fun _ => none)))))), (mm, .inr (21, [.int th, .ref ms, .ref mt, .ref mh, .ref me])), (mt, .inr (1, [.int mo, .ref ma, .int 3])), (ma, .inl (kO, 10, .inr (.inr (.inr (.inr (zfT t0 t1 t2)))))), (t2, .inr (18, [.int (-3), f2]))] H := hP
  have hD : va_D A [(q_3, .inl (k_4, 1, .inr (.inr (.inr (.inr (fun _ => none)))))), (mm, .inr (21, [.int th, .ref ms, .ref mt, .ref mh, .ref me])), (mt, .inr (1, [.int mo, .ref ma, .int 3])), (ma, .inl (kO, 10, .inr (.inr (.inr (.inr (zfT t0 t1 t2)))))), (t2, .inr (18, [.int (-3), f2]))] := hD
  have hK : va_K (dC, dI) vwCl [(kO, .object "java/lang/Object"), (k_4, .object "HornbookModel$Tree")] s := by simpa using hK
  have hw_7 : r_6 = some t2 := hw_7
  have hw_7 := hw_7.symm
  subst hw_7
  refine W.eq (g2 := F0 m 35 ls (.ref t2 :: .int 0 :: .ref q_3 :: [])) rfl ?_
  refine va_astq (D := (dC, dI)) hx hb hK hP hD hS 0 1 4 18 rfl rfl rfl rfl (by unfold vp_in; decide) dX19_trees_35 (fun H locs hP hD hS => ?_)
  have hP : va_P (dC, dI) vwCl [(q_3, .inl (k_4, 1, .inr (.inr (.inr (.inr (va_up (fun _ => none) (0 : Int32).toNatClampNeg (some t2))))))), (mm, .inr (21, [.int th, .ref ms, .ref mt, .ref mh, .ref me])), (mt, .inr (1, [.int mo, .ref ma, .int 3])), (ma, .inl (kO, 10, .inr (.inr (.inr (.inr (zfT t0 t1 t2)))))), (t2, .inr (18, [.int (-3), f2]))] H := hP
  have hD : va_D A [(q_3, .inl (k_4, 1, .inr (.inr (.inr (.inr (va_up (fun _ => none) (0 : Int32).toNatClampNeg (some t2))))))), (mm, .inr (21, [.int th, .ref ms, .ref mt, .ref mh, .ref me])), (mt, .inr (1, [.int mo, .ref ma, .int 3])), (ma, .inl (kO, 10, .inr (.inr (.inr (.inr (zfT t0 t1 t2)))))), (t2, .inr (18, [.int (-3), f2]))] := hD
  refine lv_aload_n hx hb dX19_trees_36 rfl (lv_at hl 0 rfl) ?_
  refine va_alen (D := (dC, dI)) (v := 1) hx hb hK hP 0 1 rfl rfl rfl dX19_trees_37 ?_
  refine lv_iconst (v := 1) hx hb dX19_trees_38 (by decide) ?_
  refine lv_icmp_le (tgt := 50) hx hb dX19_trees_39 (by decide) (fun c_8 => ?_) (fun c_8 => ?_)
  rotate_left
  · exact absurd (by decide) c_8
  refine lv_aload_n hx hb dX19_trees_50 rfl (lv_at hl 0 rfl) ?_
  have hP9 := hP.sub (ws' := [(mm, .inr (21, [.int th, .ref ms, .ref mt, .ref mh, .ref me])), (mt, .inr (1, [.int mo, .ref ma, .int 3])), (ma, .inl (kO, 10, .inr (.inr (.inr (.inr (zfT t0 t1 t2)))))), (t2, .inr (18, [.int (-3), f2])), (q_3, .inl (k_4, 1, .inr (.inr (.inr (.inr (va_up (fun _ => none) (0 : Int32).toNatClampNeg (some t2)))))))]) [1, 2, 3, 4, 0] rfl
  have hD9 := hD.sub (ws' := [(mm, .inr (21, [.int th, .ref ms, .ref mt, .ref mh, .ref me])), (mt, .inr (1, [.int mo, .ref ma, .int 3])), (ma, .inl (kO, 10, .inr (.inr (.inr (.inr (zfT t0 t1 t2)))))), (t2, .inr (18, [.int (-3), f2])), (q_3, .inl (k_4, 1, .inr (.inr (.inr (.inr (va_up (fun _ => none) (0 : Int32).toNatClampNeg (some t2)))))))]) [1, 2, 3, 4, 0] (by decide) rfl
  have hK9 := hK.sub (tys' := [(kO, .object "java/lang/Object"), (k_4, .object "HornbookModel$Tree")]) [0, 1] rfl
  refine W.widen (k := 1) (n := 1) (Nat.le_of_ble_eq_true rfl) (Nat.le_of_ble_eq_true rfl) ?_
  exact W.aret (v := .ref q_3) hx hb hr (Or.inr ⟨_, rfl⟩) (Or.inr ⟨_, rfl⟩) (fun t ht hW => ⟨⟨some q_3, (q_3, k_4), rfl, rfl, ⟨by rw [ht]; exact hP9, va_K.moved hW.alike hK9, hD9⟩⟩, hS.F ht⟩) hS.2.2 dX19_trees_51

def wb_c_M_trees_20 : List Cond := [.classLink RX19 25 "HornbookModel$Tree", .code yX19_type cX19_type 2 (some (.object "HornbookModel$Tree")), .fieldLink RX19 16 "HornbookModel" "types" "Ljava/util/ArrayList;", .code yJx4a65c_get_915e3 cJx4a65c_get_915e3 2 (some (.object "java/lang/Object")), .fieldLink RJx4a65c 48 "java/util/ArrayList" "size" "I", .code yJ15_checkIndex_7cf53 cJ15_checkIndex_7cf53 2 (some .int), .code yJ3_checkIndex_8e157 cJ3_checkIndex_8e157 3 (some .int), .methodLink RJ15 105 yJ3_checkIndex_8e157, .static yJ3_checkIndex_8e157, .initialized RJ3, .methodLink RJx4a65c 118 yJ15_checkIndex_7cf53, .static yJ15_checkIndex_7cf53, .initialized RJ15, .code yJx4a65c_elementData_915e3 cJx4a65c_elementData_915e3 2 (some (.object "java/lang/Object")), .fieldLink RJx4a65c 9 "java/util/ArrayList" "elementData" "[Ljava/lang/Object;", .methodLink RJx4a65c 123 yJx4a65c_elementData_915e3, .instanceMethod yJx4a65c_elementData_915e3, .selects RJx4a65c yJx4a65c_elementData_915e3 yJx4a65c_elementData_915e3, .initialized RJx4a65c, .methodLink RX19 59 yJx4a65c_get_915e3, .instanceMethod yJx4a65c_get_915e3, .selects RJx4a65c yJx4a65c_get_915e3 yJx4a65c_get_915e3, .methodLink RX19 87 yX19_type, .instanceMethod yX19_type, .selects RX19 yX19_type yX19_type, .initialized RX19] ++ u_ws RJx4a65c TJx4a65c 3 ++ u_ws RX19 TX19 5
def w_c_M_trees_20 : List Cond := .code yX19_trees cX19_trees 4 (some (.array (.object "HornbookModel$Tree"))) :: wb_c_M_trees_20
set_option maxRecDepth 100000 in
theorem g_c_M_trees_20_0 : GoodIn w_c_M_trees_20 (wsV RX19 87 RX19 yX19_type w_c_M_type_2) := goodIn_app (goodIn_of _ (by decide +kernel)) (goodIn_p (big := w_c_M_trees_20) (.code yX19_type cX19_type 2 (some (.object "HornbookModel$Tree")) :: wb_c_M_type_2) [2, 4, 6, 7, 14] rfl (by decide +kernel))
set_option maxRecDepth 100000 in
theorem g_c_M_trees_20_1 : GoodIn w_c_M_trees_20 (wsV RX19 87 RX19 yX19_type w_c_M_type_0) := goodIn_app (goodIn_of _ (by decide +kernel)) (goodIn_p (big := w_c_M_trees_20) (.code yX19_type cX19_type 2 (some (.object "HornbookModel$Tree")) :: wb_c_M_type_0) [2, 4, 6, 7, 14] rfl (by decide +kernel))
set_option maxHeartbeats 4000000 in
set_option maxRecDepth 100000 in
theorem c_M_trees_20 (l : Launch) (eD eI : Nat) (ad : Nat → Nat) (dC : Nat → ClassId) (dI : Nat → Nat → Nat) (sz : Nat) (mm : Nat) (ms : Nat) (mt : Nat) (mh : Nat) (me : Nat) (th : Int32) (mo : Int32) (ma : Nat) (kO : ClassId) (t0 : Nat) (t1 : Nat) (t2 : Nat) (f0 : Value) (f2 : Value) : Met l yX19_trees w_c_M_trees_20 ({ frames := 4, cells := 1, slots := 2, locals := 85 }) (va_Pc [.ref mm, .int 2, .int 0] (zPre eD eI ad (dC, dI) [(mm, .inr (21, [.int th, .ref ms, .ref mt, .ref mh, .ref me])), (mt, .inr (1, [.int mo, .ref ma, .int 3])), (ma, .inl (kO, 10, .inr (.inr (.inr (.inr (zfT t0 t1 t2)))))), (t0, .inr (18, [.int (-1), f0])), (t2, .inr (18, [.int (-3), f2]))] [(kO, .object "java/lang/Object")] sz)) (va_Qq (fun (r : Option Nat) (u : Nat × ClassId) => match u with | (tk, kk) => r = some tk) (fun (u : Nat × ClassId) => match u with | (tk, kk) => zEnd (dC, dI) (va_A [(mm, .inr (21, [.int th, .ref ms, .ref mt, .ref mh, .ref me])), (mt, .inr (1, [.int mo, .ref ma, .int 3])), (ma, .inl (kO, 10, .inr (.inr (.inr (.inr (zfT t0 t1 t2)))))), (t0, .inr (18, [.int (-1), f0])), (t2, .inr (18, [.int (-3), f2]))] sz) [(mm, .inr (21, [.int th, .ref ms, .ref mt, .ref mh, .ref me])), (mt, .inr (1, [.int mo, .ref ma, .int 3])), (ma, .inl (kO, 10, .inr (.inr (.inr (.inr (zfT t0 t1 t2)))))), (t0, .inr (18, [.int (-1), f0])), (t2, .inr (18, [.int (-3), f2])), (tk, .inl (kk, 2, .inr (.inr (.inr (.inr (va_up (va_up (fun _ => none) (0 : Int32).toNatClampNeg (some t2)) (1 : Int32).toNatClampNeg (some t0)))))))] [(kO, .object "java/lang/Object"), (kk, .object "HornbookModel$Tree")]) (va_A [(mm, .inr (21, [.int th, .ref ms, .ref mt, .ref mh, .ref me])), (mt, .inr (1, [.int mo, .ref ma, .int 3])), (ma, .inl (kO, 10, .inr (.inr (.inr (.inr (zfT t0 t1 t2)))))), (t0, .inr (18, [.int (-1), f0])), (t2, .inr (18, [.int (-3), f2]))] sz)) 1 2 (va_A [(mm, .inr (21, [.int th, .ref ms, .ref mt, .ref mh, .ref me])), (mt, .inr (1, [.int mo, .ref ma, .int 3])), (ma, .inl (kO, 10, .inr (.inr (.inr (.inr (zfT t0 t1 t2)))))), (t0, .inr (18, [.int (-1), f0])), (t2, .inr (18, [.int (-3), f2]))] sz) := by
  refine Met.ofW (cc := cX19_trees) (maxL := 4) (ret := (some (.array (.object "HornbookModel$Tree")))) (by decide) rfl ?_
  intro p e s m args below meth c s₁ B hml hv
  obtain ⟨rfl, hsz, hP, hK, hD0, hE⟩ := hv
  have hx := B.exec
  have hb := B.bytes
  have hr := B.returns
  have hts := atoms_spec (ws := w_c_M_trees_20) B.pre
  have hown : s.vm.findClass RX19 = some m.cls := findClass_of_methodNamed B.named
  have hlocks := B.notSynchronized
  subst hsz
  have hD := hD0.self (sz := s.heap.size)
  generalize hAe : va_A [(mm, .inr (21, [.int th, .ref ms, .ref mt, .ref mh, .ref me])), (mt, .inr (1, [.int mo, .ref ma, .int 3])), (ma, .inl (kO, 10, .inr (.inr (.inr (.inr (zfT t0 t1 t2)))))), (t0, .inr (18, [.int (-1), f0])), (t2, .inr (18, [.int (-3), f2]))] s.heap.size = A at hD hE ⊢
  have hA : ∀ q : Nat, s.heap.size ≤ q → A q := fun q h => by rw [← hAe]; exact Or.inr h
  have hS : va_S A s.heap s.heap [] := va_S.rf
  have hP : va_P (dC, dI) vwCl [(mm, .inr (21, [.int th, .ref ms, .ref mt, .ref mh, .ref me])), (mt, .inr (1, [.int mo, .ref ma, .int 3])), (ma, .inl (kO, 10, .inr (.inr (.inr (.inr (zfT t0 t1 t2)))))), (t0, .inr (18, [.int (-1), f0])), (t2, .inr (18, [.int (-3), f2]))] s.heap := hP
  have hl := lv_entry ([.ref mm, .int 2, .int 0]) (n := 4) (Nat.le_of_ble_eq_true rfl)
  rw [lg_entry_eq]
  generalize (lg_sl ([.ref mm, .int 2, .int 0]) ++ List.replicate (4 - (lg_sl ([.ref mm, .int 2, .int 0])).length) Slot.unset).toArray = ls at hl ⊢
  have hl : lv_has ls 4 [(0, .ref mm), (1, .int 2), (2, .int 0)] := hl
  have in_RJx4a65c : ∀ w ∈ u_ws RJx4a65c TJx4a65c 3, w ∈ w_c_M_trees_20 := by decide +kernel
  have in_RX19 : ∀ w ∈ u_ws RX19 TX19 5, w ∈ w_c_M_trees_20 := by decide +kernel
  refine lv_iload_n hx hb dX19_trees_0 rfl (lv_at hl 1 rfl) ?_
  refine lv_iconst (v := (-1)) hx hb dX19_trees_1 (by decide) ?_
  refine lv_icmp_ne (tgt := 9) hx hb dX19_trees_2 (by decide) (fun c_1 => ?_) (fun c_1 => ?_)
  rotate_left
  · exact absurd c_1 (by decide)
  refine lv_iload_n hx hb dX19_trees_9 rfl (lv_at hl 2 rfl) ?_
  refine lv_iconst (v := (-1)) hx hb dX19_trees_10 (by decide) ?_
  refine lv_icmp_ne (tgt := 18) hx hb dX19_trees_11 (by decide) (fun c_2 => ?_) (fun c_2 => ?_)
  rotate_left
  · exact absurd c_2 (by decide)
  refine lv_iconst (v := 2) hx hb dX19_trees_18 (by decide) ?_
  refine va_newq (C := "HornbookModel$Tree") hx hb hown (hts (.classLink RX19 25 "HornbookModel$Tree") (by decide +kernel)) (hE.2.2.2.2.2.2.1 "HornbookModel$Tree" (by decide +kernel)) hK hP hD hS hA (N' := 2) (by decide) (by decide) (Nat.le_of_ble_eq_true rfl) (Nat.le_of_ble_eq_true rfl) (Nat.le_of_ble_eq_true rfl) dX19_trees_19 (fun q_3 k_4 H hK hP hD hS => ?_)
  have hP : va_P (dC, dI) vwCl [(mm, .inr (21, [.int th, .ref ms, .ref mt, .ref mh, .ref me])), (mt, .inr (1, [.int mo, .ref ma, .int 3])), (ma, .inl (kO, 10, .inr (.inr (.inr (.inr (zfT t0 t1 t2)))))), (t0, .inr (18, [.int (-1), f0])), (t2, .inr (18, [.int (-3), f2])), (q_3, .inl (k_4, 2, .inr (.inr (.inr (.inr (fun _ => none))))))] H := hP
  have hD : va_D A [(mm, .inr (21, [.int th, .ref ms, .ref mt, .ref mh, .ref me])), (mt, .inr (1, [.int mo, .ref ma, .int 3])), (ma, .inl (kO, 10, .inr (.inr (.inr (.inr (zfT t0 t1 t2)))))), (t0, .inr (18, [.int (-1), f0])), (t2, .inr (18, [.int (-3), f2])), (q_3, .inl (k_4, 2, .inr (.inr (.inr (.inr (fun _ => none))))))] := hD
  have hK : va_K (dC, dI) vwCl [(kO, .object "java/lang/Object"), (k_4, .object "HornbookModel$Tree")] s := hK
  refine lv_astore_n (lv' := [(3, .ref q_3), (0, .ref mm), (1, .int 2), (2, .int 0)]) hx hb dX19_trees_22 rfl hl (by decide) rfl (fun ls hl => ?_)
  refine lv_aload_n hx hb dX19_trees_23 rfl (lv_at hl 0 rfl) ?_
  refine va_alen (D := (dC, dI)) (v := 2) hx hb hK hP 5 1 rfl rfl rfl dX19_trees_24 ?_
  refine lv_if_le (tgt := 36) hx hb dX19_trees_25 (by decide) (fun c_5 => ?_) (fun c_5 => ?_)
  · exact absurd c_5 (by decide)
  refine lv_aload_n hx hb dX19_trees_28 rfl (lv_at hl 0 rfl) ?_
  refine lv_iconst (v := 0) hx hb dX19_trees_29 (by decide) ?_
  refine lv_aload_n hx hb dX19_trees_30 rfl (lv_at hl 1 rfl) ?_
  refine lv_iload_n hx hb dX19_trees_31 rfl (lv_at hl 2 rfl) ?_
  refine z_q (wr := [(t0, .inr (18, [.int (-1), f0])), (q_3, .inl (k_4, 2, .inr (.inr (.inr (.inr (fun _ => none))))))]) (va_runV (As := [.int 2]) (rest := [.int 0, .ref q_3]) ⟨hx, hb, hml, hown, hts⟩ (c_M_type_2 l eD eI ad dC dI H.size mm ms mt mh me th mo ma kO t0 t1 t2 f2) (cwV 1 hts g_c_M_trees_20_0 rfl rfl rfl (by decide +kernel) ⟨Nat.le_of_ble_eq_true rfl, Nat.le_of_ble_eq_true rfl⟩) (z_preV (wc := [(mm, .inr (21, [.int th, .ref ms, .ref mt, .ref mh, .ref me])), (mt, .inr (1, [.int mo, .ref ma, .int 3])), (ma, .inl (kO, 10, .inr (.inr (.inr (.inr (zfT t0 t1 t2)))))), (t2, .inr (18, [.int (-3), f2]))]) hP hD hK hS hA hE [0, 1, 2, 4] [0] rfl (by decide) rfl (ci := 21) (q0 := 0) rfl rfl) rfl rfl hl.1 rfl (lv_room (Nat.le_of_ble_eq_true rfl)) dX19_trees_32 ⟨Nat.le_of_ble_eq_true rfl, Nat.le_of_ble_eq_true rfl⟩) hP hD hK hS hA [0, 1, 2, 4] [3, 5] rfl rfl (by decide) (by decide) (fun r_6 u H locs hw_7 hP hD hK hS => ?_)
  obtain ⟨⟩ := u
  have hP : va_P (dC, dI) vwCl [(t0, .inr (18, [.int (-1), f0])), (q_3, .inl (k_4, 2, .inr (.inr (.inr (.inr (fun _ => none)))))), (mm, .inr (21, [.int th, .ref ms, .ref mt, .ref mh, .ref me])), (mt, .inr (1, [.int mo, .ref ma, .int 3])), (ma, .inl (kO, 10, .inr (.inr (.inr (.inr (zfT t0 t1 t2)))))), (t2, .inr (18, [.int (-3), f2]))] H := hP
  have hD : va_D A [(t0, .inr (18, [.int (-1), f0])), (q_3, .inl (k_4, 2, .inr (.inr (.inr (.inr (fun _ => none)))))), (mm, .inr (21, [.int th, .ref ms, .ref mt, .ref mh, .ref me])), (mt, .inr (1, [.int mo, .ref ma, .int 3])), (ma, .inl (kO, 10, .inr (.inr (.inr (.inr (zfT t0 t1 t2)))))), (t2, .inr (18, [.int (-3), f2]))] := hD
  have hK : va_K (dC, dI) vwCl [(kO, .object "java/lang/Object"), (k_4, .object "HornbookModel$Tree")] s := by simpa using hK
  have hw_7 : r_6 = some t2 := hw_7
  have hw_7 := hw_7.symm
  subst hw_7
  refine W.eq (g2 := F0 m 35 ls (.ref t2 :: .int 0 :: .ref q_3 :: [])) rfl ?_
  refine va_astq (D := (dC, dI)) hx hb hK hP hD hS 1 1 5 18 rfl rfl rfl rfl (by unfold vp_in; decide) dX19_trees_35 (fun H locs hP hD hS => ?_)
  have hP : va_P (dC, dI) vwCl [(t0, .inr (18, [.int (-1), f0])), (q_3, .inl (k_4, 2, .inr (.inr (.inr (.inr (va_up (fun _ => none) (0 : Int32).toNatClampNeg (some t2))))))), (mm, .inr (21, [.int th, .ref ms, .ref mt, .ref mh, .ref me])), (mt, .inr (1, [.int mo, .ref ma, .int 3])), (ma, .inl (kO, 10, .inr (.inr (.inr (.inr (zfT t0 t1 t2)))))), (t2, .inr (18, [.int (-3), f2]))] H := hP
  have hD : va_D A [(t0, .inr (18, [.int (-1), f0])), (q_3, .inl (k_4, 2, .inr (.inr (.inr (.inr (va_up (fun _ => none) (0 : Int32).toNatClampNeg (some t2))))))), (mm, .inr (21, [.int th, .ref ms, .ref mt, .ref mh, .ref me])), (mt, .inr (1, [.int mo, .ref ma, .int 3])), (ma, .inl (kO, 10, .inr (.inr (.inr (.inr (zfT t0 t1 t2)))))), (t2, .inr (18, [.int (-3), f2]))] := hD
  refine lv_aload_n hx hb dX19_trees_36 rfl (lv_at hl 0 rfl) ?_
  refine va_alen (D := (dC, dI)) (v := 2) hx hb hK hP 1 1 rfl rfl rfl dX19_trees_37 ?_
  refine lv_iconst (v := 1) hx hb dX19_trees_38 (by decide) ?_
  refine lv_icmp_le (tgt := 50) hx hb dX19_trees_39 (by decide) (fun c_8 => ?_) (fun c_8 => ?_)
  · exact absurd c_8 (by decide)
  refine lv_aload_n hx hb dX19_trees_42 rfl (lv_at hl 0 rfl) ?_
  refine lv_iconst (v := 1) hx hb dX19_trees_43 (by decide) ?_
  refine lv_aload_n hx hb dX19_trees_44 rfl (lv_at hl 1 rfl) ?_
  refine lv_iload_n hx hb dX19_trees_45 rfl (lv_at hl 3 rfl) ?_
  refine z_q (wr := [(q_3, .inl (k_4, 2, .inr (.inr (.inr (.inr (va_up (fun _ => none) (0 : Int32).toNatClampNeg (some t2))))))), (t2, .inr (18, [.int (-3), f2]))]) (va_runV (As := [.int 0]) (rest := [.int 1, .ref q_3]) ⟨hx, hb, hml, hown, hts⟩ (c_M_type_0 l eD eI ad dC dI H.size mm ms mt mh me th mo ma kO t0 t1 t2 f0) (cwV 1 hts g_c_M_trees_20_1 rfl rfl rfl (by decide +kernel) ⟨Nat.le_of_ble_eq_true rfl, Nat.le_of_ble_eq_true rfl⟩) (z_preV (wc := [(mm, .inr (21, [.int th, .ref ms, .ref mt, .ref mh, .ref me])), (mt, .inr (1, [.int mo, .ref ma, .int 3])), (ma, .inl (kO, 10, .inr (.inr (.inr (.inr (zfT t0 t1 t2)))))), (t0, .inr (18, [.int (-1), f0]))]) hP hD hK hS hA hE [2, 3, 4, 0] [0] rfl (by decide) rfl (ci := 21) (q0 := 0) rfl rfl) rfl rfl hl.1 rfl (lv_room (Nat.le_of_ble_eq_true rfl)) dX19_trees_46 ⟨Nat.le_of_ble_eq_true rfl, Nat.le_of_ble_eq_true rfl⟩) hP hD hK hS hA [2, 3, 4, 0] [1, 5] rfl rfl (by decide) (by decide) (fun r_9 u H locs hw_10 hP hD hK hS => ?_)
  obtain ⟨⟩ := u
  have hP : va_P (dC, dI) vwCl [(q_3, .inl (k_4, 2, .inr (.inr (.inr (.inr (va_up (fun _ => none) (0 : Int32).toNatClampNeg (some t2))))))), (t2, .inr (18, [.int (-3), f2])), (mm, .inr (21, [.int th, .ref ms, .ref mt, .ref mh, .ref me])), (mt, .inr (1, [.int mo, .ref ma, .int 3])), (ma, .inl (kO, 10, .inr (.inr (.inr (.inr (zfT t0 t1 t2)))))), (t0, .inr (18, [.int (-1), f0]))] H := hP
  have hD : va_D A [(q_3, .inl (k_4, 2, .inr (.inr (.inr (.inr (va_up (fun _ => none) (0 : Int32).toNatClampNeg (some t2))))))), (t2, .inr (18, [.int (-3), f2])), (mm, .inr (21, [.int th, .ref ms, .ref mt, .ref mh, .ref me])), (mt, .inr (1, [.int mo, .ref ma, .int 3])), (ma, .inl (kO, 10, .inr (.inr (.inr (.inr (zfT t0 t1 t2)))))), (t0, .inr (18, [.int (-1), f0]))] := hD
  have hK : va_K (dC, dI) vwCl [(kO, .object "java/lang/Object"), (k_4, .object "HornbookModel$Tree")] s := by simpa using hK
  have hw_10 : r_9 = some t0 := hw_10
  have hw_10 := hw_10.symm
  subst hw_10
  refine W.eq (g2 := F0 m 49 ls (.ref t0 :: .int 1 :: .ref q_3 :: [])) rfl ?_
  refine va_astq (D := (dC, dI)) hx hb hK hP hD hS 0 1 5 18 rfl rfl rfl rfl (by unfold vp_in; decide) dX19_trees_49 (fun H locs hP hD hS => ?_)
  have hP : va_P (dC, dI) vwCl [(q_3, .inl (k_4, 2, .inr (.inr (.inr (.inr (va_up (va_up (fun _ => none) (0 : Int32).toNatClampNeg (some t2)) (1 : Int32).toNatClampNeg (some t0))))))), (t2, .inr (18, [.int (-3), f2])), (mm, .inr (21, [.int th, .ref ms, .ref mt, .ref mh, .ref me])), (mt, .inr (1, [.int mo, .ref ma, .int 3])), (ma, .inl (kO, 10, .inr (.inr (.inr (.inr (zfT t0 t1 t2)))))), (t0, .inr (18, [.int (-1), f0]))] H := hP
  have hD : va_D A [(q_3, .inl (k_4, 2, .inr (.inr (.inr (.inr (va_up (va_up (fun _ => none) (0 : Int32).toNatClampNeg (some t2)) (1 : Int32).toNatClampNeg (some t0))))))), (t2, .inr (18, [.int (-3), f2])), (mm, .inr (21, [.int th, .ref ms, .ref mt, .ref mh, .ref me])), (mt, .inr (1, [.int mo, .ref ma, .int 3])), (ma, .inl (kO, 10, .inr (.inr (.inr (.inr (zfT t0 t1 t2)))))), (t0, .inr (18, [.int (-1), f0]))] := hD
  refine lv_aload_n hx hb dX19_trees_50 rfl (lv_at hl 0 rfl) ?_
  have hP9 := hP.sub (ws' := [(mm, .inr (21, [.int th, .ref ms, .ref mt, .ref mh, .ref me])), (mt, .inr (1, [.int mo, .ref ma, .int 3])), (ma, .inl (kO, 10, .inr (.inr (.inr (.inr (zfT t0 t1 t2)))))), (t0, .inr (18, [.int (-1), f0])), (t2, .inr (18, [.int (-3), f2])), (q_3, .inl (k_4, 2, .inr (.inr (.inr (.inr (va_up (va_up (fun _ => none) (0 : Int32).toNatClampNeg (some t2)) (1 : Int32).toNatClampNeg (some t0)))))))]) [2, 3, 4, 5, 1, 0] rfl
  have hD9 := hD.sub (ws' := [(mm, .inr (21, [.int th, .ref ms, .ref mt, .ref mh, .ref me])), (mt, .inr (1, [.int mo, .ref ma, .int 3])), (ma, .inl (kO, 10, .inr (.inr (.inr (.inr (zfT t0 t1 t2)))))), (t0, .inr (18, [.int (-1), f0])), (t2, .inr (18, [.int (-3), f2])), (q_3, .inl (k_4, 2, .inr (.inr (.inr (.inr (va_up (va_up (fun _ => none) (0 : Int32).toNatClampNeg (some t2)) (1 : Int32).toNatClampNeg (some t0)))))))]) [2, 3, 4, 5, 1, 0] (by decide) rfl
  have hK9 := hK.sub (tys' := [(kO, .object "java/lang/Object"), (k_4, .object "HornbookModel$Tree")]) [0, 1] rfl
  refine W.widen (k := 1) (n := 2) (Nat.le_of_ble_eq_true rfl) (Nat.le_of_ble_eq_true rfl) ?_
  exact W.aret (v := .ref q_3) hx hb hr (Or.inr ⟨_, rfl⟩) (Or.inr ⟨_, rfl⟩) (fun t ht hW => ⟨⟨some q_3, (q_3, k_4), rfl, rfl, ⟨by rw [ht]; exact hP9, va_K.moved hW.alike hK9, hD9⟩⟩, hS.F ht⟩) hS.2.2 dX19_trees_51

def wb_c_M_trees_21 : List Cond := [.classLink RX19 25 "HornbookModel$Tree", .code yX19_type cX19_type 2 (some (.object "HornbookModel$Tree")), .fieldLink RX19 16 "HornbookModel" "types" "Ljava/util/ArrayList;", .code yJx4a65c_get_915e3 cJx4a65c_get_915e3 2 (some (.object "java/lang/Object")), .fieldLink RJx4a65c 48 "java/util/ArrayList" "size" "I", .code yJ15_checkIndex_7cf53 cJ15_checkIndex_7cf53 2 (some .int), .code yJ3_checkIndex_8e157 cJ3_checkIndex_8e157 3 (some .int), .methodLink RJ15 105 yJ3_checkIndex_8e157, .static yJ3_checkIndex_8e157, .initialized RJ3, .methodLink RJx4a65c 118 yJ15_checkIndex_7cf53, .static yJ15_checkIndex_7cf53, .initialized RJ15, .code yJx4a65c_elementData_915e3 cJx4a65c_elementData_915e3 2 (some (.object "java/lang/Object")), .fieldLink RJx4a65c 9 "java/util/ArrayList" "elementData" "[Ljava/lang/Object;", .methodLink RJx4a65c 123 yJx4a65c_elementData_915e3, .instanceMethod yJx4a65c_elementData_915e3, .selects RJx4a65c yJx4a65c_elementData_915e3 yJx4a65c_elementData_915e3, .initialized RJx4a65c, .methodLink RX19 59 yJx4a65c_get_915e3, .instanceMethod yJx4a65c_get_915e3, .selects RJx4a65c yJx4a65c_get_915e3 yJx4a65c_get_915e3, .methodLink RX19 87 yX19_type, .instanceMethod yX19_type, .selects RX19 yX19_type yX19_type, .initialized RX19] ++ u_ws RJx4a65c TJx4a65c 3 ++ u_ws RX19 TX19 5
def w_c_M_trees_21 : List Cond := .code yX19_trees cX19_trees 4 (some (.array (.object "HornbookModel$Tree"))) :: wb_c_M_trees_21
set_option maxRecDepth 100000 in
theorem g_c_M_trees_21_0 : GoodIn w_c_M_trees_21 (wsV RX19 87 RX19 yX19_type w_c_M_type_2) := goodIn_app (goodIn_of _ (by decide +kernel)) (goodIn_p (big := w_c_M_trees_21) (.code yX19_type cX19_type 2 (some (.object "HornbookModel$Tree")) :: wb_c_M_type_2) [2, 4, 6, 7, 14] rfl (by decide +kernel))
set_option maxRecDepth 100000 in
theorem g_c_M_trees_21_1 : GoodIn w_c_M_trees_21 (wsV RX19 87 RX19 yX19_type w_c_M_type_1) := goodIn_app (goodIn_of _ (by decide +kernel)) (goodIn_p (big := w_c_M_trees_21) (.code yX19_type cX19_type 2 (some (.object "HornbookModel$Tree")) :: wb_c_M_type_1) [2, 4, 6, 7, 14] rfl (by decide +kernel))
set_option maxHeartbeats 4000000 in
set_option maxRecDepth 100000 in
theorem c_M_trees_21 (l : Launch) (eD eI : Nat) (ad : Nat → Nat) (dC : Nat → ClassId) (dI : Nat → Nat → Nat) (sz : Nat) (mm : Nat) (ms : Nat) (mt : Nat) (mh : Nat) (me : Nat) (th : Int32) (mo : Int32) (ma : Nat) (kO : ClassId) (t0 : Nat) (t1 : Nat) (t2 : Nat) (f1 : Value) (f2 : Value) : Met l yX19_trees w_c_M_trees_21 ({ frames := 4, cells := 1, slots := 2, locals := 85 }) (va_Pc [.ref mm, .int 2, .int 1] (zPre eD eI ad (dC, dI) [(mm, .inr (21, [.int th, .ref ms, .ref mt, .ref mh, .ref me])), (mt, .inr (1, [.int mo, .ref ma, .int 3])), (ma, .inl (kO, 10, .inr (.inr (.inr (.inr (zfT t0 t1 t2)))))), (t1, .inr (18, [.int (-2), f1])), (t2, .inr (18, [.int (-3), f2]))] [(kO, .object "java/lang/Object")] sz)) (va_Qq (fun (r : Option Nat) (u : Nat × ClassId) => match u with | (tk, kk) => r = some tk) (fun (u : Nat × ClassId) => match u with | (tk, kk) => zEnd (dC, dI) (va_A [(mm, .inr (21, [.int th, .ref ms, .ref mt, .ref mh, .ref me])), (mt, .inr (1, [.int mo, .ref ma, .int 3])), (ma, .inl (kO, 10, .inr (.inr (.inr (.inr (zfT t0 t1 t2)))))), (t1, .inr (18, [.int (-2), f1])), (t2, .inr (18, [.int (-3), f2]))] sz) [(mm, .inr (21, [.int th, .ref ms, .ref mt, .ref mh, .ref me])), (mt, .inr (1, [.int mo, .ref ma, .int 3])), (ma, .inl (kO, 10, .inr (.inr (.inr (.inr (zfT t0 t1 t2)))))), (t1, .inr (18, [.int (-2), f1])), (t2, .inr (18, [.int (-3), f2])), (tk, .inl (kk, 2, .inr (.inr (.inr (.inr (va_up (va_up (fun _ => none) (0 : Int32).toNatClampNeg (some t2)) (1 : Int32).toNatClampNeg (some t1)))))))] [(kO, .object "java/lang/Object"), (kk, .object "HornbookModel$Tree")]) (va_A [(mm, .inr (21, [.int th, .ref ms, .ref mt, .ref mh, .ref me])), (mt, .inr (1, [.int mo, .ref ma, .int 3])), (ma, .inl (kO, 10, .inr (.inr (.inr (.inr (zfT t0 t1 t2)))))), (t1, .inr (18, [.int (-2), f1])), (t2, .inr (18, [.int (-3), f2]))] sz)) 1 2 (va_A [(mm, .inr (21, [.int th, .ref ms, .ref mt, .ref mh, .ref me])), (mt, .inr (1, [.int mo, .ref ma, .int 3])), (ma, .inl (kO, 10, .inr (.inr (.inr (.inr (zfT t0 t1 t2)))))), (t1, .inr (18, [.int (-2), f1])), (t2, .inr (18, [.int (-3), f2]))] sz) := by
  refine Met.ofW (cc := cX19_trees) (maxL := 4) (ret := (some (.array (.object "HornbookModel$Tree")))) (by decide) rfl ?_
  intro p e s m args below meth c s₁ B hml hv
  obtain ⟨rfl, hsz, hP, hK, hD0, hE⟩ := hv
  have hx := B.exec
  have hb := B.bytes
  have hr := B.returns
  have hts := atoms_spec (ws := w_c_M_trees_21) B.pre
  have hown : s.vm.findClass RX19 = some m.cls := findClass_of_methodNamed B.named
  have hlocks := B.notSynchronized
  subst hsz
  have hD := hD0.self (sz := s.heap.size)
  generalize hAe : va_A [(mm, .inr (21, [.int th, .ref ms, .ref mt, .ref mh, .ref me])), (mt, .inr (1, [.int mo, .ref ma, .int 3])), (ma, .inl (kO, 10, .inr (.inr (.inr (.inr (zfT t0 t1 t2)))))), (t1, .inr (18, [.int (-2), f1])), (t2, .inr (18, [.int (-3), f2]))] s.heap.size = A at hD hE ⊢
  have hA : ∀ q : Nat, s.heap.size ≤ q → A q := fun q h => by rw [← hAe]; exact Or.inr h
  have hS : va_S A s.heap s.heap [] := va_S.rf
  have hP : va_P (dC, dI) vwCl [(mm, .inr (21, [.int th, .ref ms, .ref mt, .ref mh, .ref me])), (mt, .inr (1, [.int mo, .ref ma, .int 3])), (ma, .inl (kO, 10, .inr (.inr (.inr (.inr (zfT t0 t1 t2)))))), (t1, .inr (18, [.int (-2), f1])), (t2, .inr (18, [.int (-3), f2]))] s.heap := hP
  have hl := lv_entry ([.ref mm, .int 2, .int 1]) (n := 4) (Nat.le_of_ble_eq_true rfl)
  rw [lg_entry_eq]
  generalize (lg_sl ([.ref mm, .int 2, .int 1]) ++ List.replicate (4 - (lg_sl ([.ref mm, .int 2, .int 1])).length) Slot.unset).toArray = ls at hl ⊢
  have hl : lv_has ls 4 [(0, .ref mm), (1, .int 2), (2, .int 1)] := hl
  have in_RJx4a65c : ∀ w ∈ u_ws RJx4a65c TJx4a65c 3, w ∈ w_c_M_trees_21 := by decide +kernel
  have in_RX19 : ∀ w ∈ u_ws RX19 TX19 5, w ∈ w_c_M_trees_21 := by decide +kernel
  refine lv_iload_n hx hb dX19_trees_0 rfl (lv_at hl 1 rfl) ?_
  refine lv_iconst (v := (-1)) hx hb dX19_trees_1 (by decide) ?_
  refine lv_icmp_ne (tgt := 9) hx hb dX19_trees_2 (by decide) (fun c_1 => ?_) (fun c_1 => ?_)
  rotate_left
  · exact absurd c_1 (by decide)
  refine lv_iload_n hx hb dX19_trees_9 rfl (lv_at hl 2 rfl) ?_
  refine lv_iconst (v := (-1)) hx hb dX19_trees_10 (by decide) ?_
  refine lv_icmp_ne (tgt := 18) hx hb dX19_trees_11 (by decide) (fun c_2 => ?_) (fun c_2 => ?_)
  rotate_left
  · exact absurd c_2 (by decide)
  refine lv_iconst (v := 2) hx hb dX19_trees_18 (by decide) ?_
  refine va_newq (C := "HornbookModel$Tree") hx hb hown (hts (.classLink RX19 25 "HornbookModel$Tree") (by decide +kernel)) (hE.2.2.2.2.2.2.1 "HornbookModel$Tree" (by decide +kernel)) hK hP hD hS hA (N' := 2) (by decide) (by decide) (Nat.le_of_ble_eq_true rfl) (Nat.le_of_ble_eq_true rfl) (Nat.le_of_ble_eq_true rfl) dX19_trees_19 (fun q_3 k_4 H hK hP hD hS => ?_)
  have hP : va_P (dC, dI) vwCl [(mm, .inr (21, [.int th, .ref ms, .ref mt, .ref mh, .ref me])), (mt, .inr (1, [.int mo, .ref ma, .int 3])), (ma, .inl (kO, 10, .inr (.inr (.inr (.inr (zfT t0 t1 t2)))))), (t1, .inr (18, [.int (-2), f1])), (t2, .inr (18, [.int (-3), f2])), (q_3, .inl (k_4, 2, .inr (.inr (.inr (.inr (fun _ => none))))))] H := hP
  have hD : va_D A [(mm, .inr (21, [.int th, .ref ms, .ref mt, .ref mh, .ref me])), (mt, .inr (1, [.int mo, .ref ma, .int 3])), (ma, .inl (kO, 10, .inr (.inr (.inr (.inr (zfT t0 t1 t2)))))), (t1, .inr (18, [.int (-2), f1])), (t2, .inr (18, [.int (-3), f2])), (q_3, .inl (k_4, 2, .inr (.inr (.inr (.inr (fun _ => none))))))] := hD
  have hK : va_K (dC, dI) vwCl [(kO, .object "java/lang/Object"), (k_4, .object "HornbookModel$Tree")] s := hK
  refine lv_astore_n (lv' := [(3, .ref q_3), (0, .ref mm), (1, .int 2), (2, .int 1)]) hx hb dX19_trees_22 rfl hl (by decide) rfl (fun ls hl => ?_)
  refine lv_aload_n hx hb dX19_trees_23 rfl (lv_at hl 0 rfl) ?_
  refine va_alen (D := (dC, dI)) (v := 2) hx hb hK hP 5 1 rfl rfl rfl dX19_trees_24 ?_
  refine lv_if_le (tgt := 36) hx hb dX19_trees_25 (by decide) (fun c_5 => ?_) (fun c_5 => ?_)
  · exact absurd c_5 (by decide)
  refine lv_aload_n hx hb dX19_trees_28 rfl (lv_at hl 0 rfl) ?_
  refine lv_iconst (v := 0) hx hb dX19_trees_29 (by decide) ?_
  refine lv_aload_n hx hb dX19_trees_30 rfl (lv_at hl 1 rfl) ?_
  refine lv_iload_n hx hb dX19_trees_31 rfl (lv_at hl 2 rfl) ?_
  refine z_q (wr := [(t1, .inr (18, [.int (-2), f1])), (q_3, .inl (k_4, 2, .inr (.inr (.inr (.inr (fun _ => none))))))]) (va_runV (As := [.int 2]) (rest := [.int 0, .ref q_3]) ⟨hx, hb, hml, hown, hts⟩ (c_M_type_2 l eD eI ad dC dI H.size mm ms mt mh me th mo ma kO t0 t1 t2 f2) (cwV 1 hts g_c_M_trees_21_0 rfl rfl rfl (by decide +kernel) ⟨Nat.le_of_ble_eq_true rfl, Nat.le_of_ble_eq_true rfl⟩) (z_preV (wc := [(mm, .inr (21, [.int th, .ref ms, .ref mt, .ref mh, .ref me])), (mt, .inr (1, [.int mo, .ref ma, .int 3])), (ma, .inl (kO, 10, .inr (.inr (.inr (.inr (zfT t0 t1 t2)))))), (t2, .inr (18, [.int (-3), f2]))]) hP hD hK hS hA hE [0, 1, 2, 4] [0] rfl (by decide) rfl (ci := 21) (q0 := 0) rfl rfl) rfl rfl hl.1 rfl (lv_room (Nat.le_of_ble_eq_true rfl)) dX19_trees_32 ⟨Nat.le_of_ble_eq_true rfl, Nat.le_of_ble_eq_true rfl⟩) hP hD hK hS hA [0, 1, 2, 4] [3, 5] rfl rfl (by decide) (by decide) (fun r_6 u H locs hw_7 hP hD hK hS => ?_)
  obtain ⟨⟩ := u
  have hP : va_P (dC, dI) vwCl [(t1, .inr (18, [.int (-2), f1])), (q_3, .inl (k_4, 2, .inr (.inr (.inr (.inr (fun _ => none)))))), (mm, .inr (21, [.int th, .ref ms, .ref mt, .ref mh, .ref me])), (mt, .inr (1, [.int mo, .ref ma, .int 3])), (ma, .inl (kO, 10, .inr (.inr (.inr (.inr (zfT t0 t1 t2)))))), (t2, .inr (18, [.int (-3), f2]))] H := hP
  have hD : va_D A [(t1, .inr (18, [.int (-2), f1])), (q_3, .inl (k_4, 2, .inr (.inr (.inr (.inr (fun _ => none)))))), (mm, .inr (21, [.int th, .ref ms, .ref mt, .ref mh, .ref me])), (mt, .inr (1, [.int mo, .ref ma, .int 3])), (ma, .inl (kO, 10, .inr (.inr (.inr (.inr (zfT t0 t1 t2)))))), (t2, .inr (18, [.int (-3), f2]))] := hD
  have hK : va_K (dC, dI) vwCl [(kO, .object "java/lang/Object"), (k_4, .object "HornbookModel$Tree")] s := by simpa using hK
  have hw_7 : r_6 = some t2 := hw_7
  have hw_7 := hw_7.symm
  subst hw_7
  refine W.eq (g2 := F0 m 35 ls (.ref t2 :: .int 0 :: .ref q_3 :: [])) rfl ?_
  refine va_astq (D := (dC, dI)) hx hb hK hP hD hS 1 1 5 18 rfl rfl rfl rfl (by unfold vp_in; decide) dX19_trees_35 (fun H locs hP hD hS => ?_)
  have hP : va_P (dC, dI) vwCl [(t1, .inr (18, [.int (-2), f1])), (q_3, .inl (k_4, 2, .inr (.inr (.inr (.inr (va_up (fun _ => none) (0 : Int32).toNatClampNeg (some t2))))))), (mm, .inr (21, [.int th, .ref ms, .ref mt, .ref mh, .ref me])), (mt, .inr (1, [.int mo, .ref ma, .int 3])), (ma, .inl (kO, 10, .inr (.inr (.inr (.inr (zfT t0 t1 t2)))))), (t2, .inr (18, [.int (-3), f2]))] H := hP
  have hD : va_D A [(t1, .inr (18, [.int (-2), f1])), (q_3, .inl (k_4, 2, .inr (.inr (.inr (.inr (va_up (fun _ => none) (0 : Int32).toNatClampNeg (some t2))))))), (mm, .inr (21, [.int th, .ref ms, .ref mt, .ref mh, .ref me])), (mt, .inr (1, [.int mo, .ref ma, .int 3])), (ma, .inl (kO, 10, .inr (.inr (.inr (.inr (zfT t0 t1 t2)))))), (t2, .inr (18, [.int (-3), f2]))] := hD
  refine lv_aload_n hx hb dX19_trees_36 rfl (lv_at hl 0 rfl) ?_
  refine va_alen (D := (dC, dI)) (v := 2) hx hb hK hP 1 1 rfl rfl rfl dX19_trees_37 ?_
  refine lv_iconst (v := 1) hx hb dX19_trees_38 (by decide) ?_
  refine lv_icmp_le (tgt := 50) hx hb dX19_trees_39 (by decide) (fun c_8 => ?_) (fun c_8 => ?_)
  · exact absurd c_8 (by decide)
  refine lv_aload_n hx hb dX19_trees_42 rfl (lv_at hl 0 rfl) ?_
  refine lv_iconst (v := 1) hx hb dX19_trees_43 (by decide) ?_
  refine lv_aload_n hx hb dX19_trees_44 rfl (lv_at hl 1 rfl) ?_
  refine lv_iload_n hx hb dX19_trees_45 rfl (lv_at hl 3 rfl) ?_
  refine z_q (wr := [(q_3, .inl (k_4, 2, .inr (.inr (.inr (.inr (va_up (fun _ => none) (0 : Int32).toNatClampNeg (some t2))))))), (t2, .inr (18, [.int (-3), f2]))]) (va_runV (As := [.int 1]) (rest := [.int 1, .ref q_3]) ⟨hx, hb, hml, hown, hts⟩ (c_M_type_1 l eD eI ad dC dI H.size mm ms mt mh me th mo ma kO t0 t1 t2 f1) (cwV 1 hts g_c_M_trees_21_1 rfl rfl rfl (by decide +kernel) ⟨Nat.le_of_ble_eq_true rfl, Nat.le_of_ble_eq_true rfl⟩) (z_preV (wc := [(mm, .inr (21, [.int th, .ref ms, .ref mt, .ref mh, .ref me])), (mt, .inr (1, [.int mo, .ref ma, .int 3])), (ma, .inl (kO, 10, .inr (.inr (.inr (.inr (zfT t0 t1 t2)))))), (t1, .inr (18, [.int (-2), f1]))]) hP hD hK hS hA hE [2, 3, 4, 0] [0] rfl (by decide) rfl (ci := 21) (q0 := 0) rfl rfl) rfl rfl hl.1 rfl (lv_room (Nat.le_of_ble_eq_true rfl)) dX19_trees_46 ⟨Nat.le_of_ble_eq_true rfl, Nat.le_of_ble_eq_true rfl⟩) hP hD hK hS hA [2, 3, 4, 0] [1, 5] rfl rfl (by decide) (by decide) (fun r_9 u H locs hw_10 hP hD hK hS => ?_)
  obtain ⟨⟩ := u
  have hP : va_P (dC, dI) vwCl [(q_3, .inl (k_4, 2, .inr (.inr (.inr (.inr (va_up (fun _ => none) (0 : Int32).toNatClampNeg (some t2))))))), (t2, .inr (18, [.int (-3), f2])), (mm, .inr (21, [.int th, .ref ms, .ref mt, .ref mh, .ref me])), (mt, .inr (1, [.int mo, .ref ma, .int 3])), (ma, .inl (kO, 10, .inr (.inr (.inr (.inr (zfT t0 t1 t2)))))), (t1, .inr (18, [.int (-2), f1]))] H := hP
  have hD : va_D A [(q_3, .inl (k_4, 2, .inr (.inr (.inr (.inr (va_up (fun _ => none) (0 : Int32).toNatClampNeg (some t2))))))), (t2, .inr (18, [.int (-3), f2])), (mm, .inr (21, [.int th, .ref ms, .ref mt, .ref mh, .ref me])), (mt, .inr (1, [.int mo, .ref ma, .int 3])), (ma, .inl (kO, 10, .inr (.inr (.inr (.inr (zfT t0 t1 t2)))))), (t1, .inr (18, [.int (-2), f1]))] := hD
  have hK : va_K (dC, dI) vwCl [(kO, .object "java/lang/Object"), (k_4, .object "HornbookModel$Tree")] s := by simpa using hK
  have hw_10 : r_9 = some t1 := hw_10
  have hw_10 := hw_10.symm
  subst hw_10
  refine W.eq (g2 := F0 m 49 ls (.ref t1 :: .int 1 :: .ref q_3 :: [])) rfl ?_
  refine va_astq (D := (dC, dI)) hx hb hK hP hD hS 0 1 5 18 rfl rfl rfl rfl (by unfold vp_in; decide) dX19_trees_49 (fun H locs hP hD hS => ?_)
  have hP : va_P (dC, dI) vwCl [(q_3, .inl (k_4, 2, .inr (.inr (.inr (.inr (va_up (va_up (fun _ => none) (0 : Int32).toNatClampNeg (some t2)) (1 : Int32).toNatClampNeg (some t1))))))), (t2, .inr (18, [.int (-3), f2])), (mm, .inr (21, [.int th, .ref ms, .ref mt, .ref mh, .ref me])), (mt, .inr (1, [.int mo, .ref ma, .int 3])), (ma, .inl (kO, 10, .inr (.inr (.inr (.inr (zfT t0 t1 t2)))))), (t1, .inr (18, [.int (-2), f1]))] H := hP
  have hD : va_D A [(q_3, .inl (k_4, 2, .inr (.inr (.inr (.inr (va_up (va_up (fun _ => none) (0 : Int32).toNatClampNeg (some t2)) (1 : Int32).toNatClampNeg (some t1))))))), (t2, .inr (18, [.int (-3), f2])), (mm, .inr (21, [.int th, .ref ms, .ref mt, .ref mh, .ref me])), (mt, .inr (1, [.int mo, .ref ma, .int 3])), (ma, .inl (kO, 10, .inr (.inr (.inr (.inr (zfT t0 t1 t2)))))), (t1, .inr (18, [.int (-2), f1]))] := hD
  refine lv_aload_n hx hb dX19_trees_50 rfl (lv_at hl 0 rfl) ?_
  have hP9 := hP.sub (ws' := [(mm, .inr (21, [.int th, .ref ms, .ref mt, .ref mh, .ref me])), (mt, .inr (1, [.int mo, .ref ma, .int 3])), (ma, .inl (kO, 10, .inr (.inr (.inr (.inr (zfT t0 t1 t2)))))), (t1, .inr (18, [.int (-2), f1])), (t2, .inr (18, [.int (-3), f2])), (q_3, .inl (k_4, 2, .inr (.inr (.inr (.inr (va_up (va_up (fun _ => none) (0 : Int32).toNatClampNeg (some t2)) (1 : Int32).toNatClampNeg (some t1)))))))]) [2, 3, 4, 5, 1, 0] rfl
  have hD9 := hD.sub (ws' := [(mm, .inr (21, [.int th, .ref ms, .ref mt, .ref mh, .ref me])), (mt, .inr (1, [.int mo, .ref ma, .int 3])), (ma, .inl (kO, 10, .inr (.inr (.inr (.inr (zfT t0 t1 t2)))))), (t1, .inr (18, [.int (-2), f1])), (t2, .inr (18, [.int (-3), f2])), (q_3, .inl (k_4, 2, .inr (.inr (.inr (.inr (va_up (va_up (fun _ => none) (0 : Int32).toNatClampNeg (some t2)) (1 : Int32).toNatClampNeg (some t1)))))))]) [2, 3, 4, 5, 1, 0] (by decide) rfl
  have hK9 := hK.sub (tys' := [(kO, .object "java/lang/Object"), (k_4, .object "HornbookModel$Tree")]) [0, 1] rfl
  refine W.widen (k := 1) (n := 2) (Nat.le_of_ble_eq_true rfl) (Nat.le_of_ble_eq_true rfl) ?_
  exact W.aret (v := .ref q_3) hx hb hr (Or.inr ⟨_, rfl⟩) (Or.inr ⟨_, rfl⟩) (fun t ht hW => ⟨⟨some q_3, (q_3, k_4), rfl, rfl, ⟨by rw [ht]; exact hP9, va_K.moved hW.alike hK9, hD9⟩⟩, hS.F ht⟩) hS.2.2 dX19_trees_51

def wb_c_M_trees_22 : List Cond := [.classLink RX19 25 "HornbookModel$Tree", .code yX19_type cX19_type 2 (some (.object "HornbookModel$Tree")), .fieldLink RX19 16 "HornbookModel" "types" "Ljava/util/ArrayList;", .code yJx4a65c_get_915e3 cJx4a65c_get_915e3 2 (some (.object "java/lang/Object")), .fieldLink RJx4a65c 48 "java/util/ArrayList" "size" "I", .code yJ15_checkIndex_7cf53 cJ15_checkIndex_7cf53 2 (some .int), .code yJ3_checkIndex_8e157 cJ3_checkIndex_8e157 3 (some .int), .methodLink RJ15 105 yJ3_checkIndex_8e157, .static yJ3_checkIndex_8e157, .initialized RJ3, .methodLink RJx4a65c 118 yJ15_checkIndex_7cf53, .static yJ15_checkIndex_7cf53, .initialized RJ15, .code yJx4a65c_elementData_915e3 cJx4a65c_elementData_915e3 2 (some (.object "java/lang/Object")), .fieldLink RJx4a65c 9 "java/util/ArrayList" "elementData" "[Ljava/lang/Object;", .methodLink RJx4a65c 123 yJx4a65c_elementData_915e3, .instanceMethod yJx4a65c_elementData_915e3, .selects RJx4a65c yJx4a65c_elementData_915e3 yJx4a65c_elementData_915e3, .initialized RJx4a65c, .methodLink RX19 59 yJx4a65c_get_915e3, .instanceMethod yJx4a65c_get_915e3, .selects RJx4a65c yJx4a65c_get_915e3 yJx4a65c_get_915e3, .methodLink RX19 87 yX19_type, .instanceMethod yX19_type, .selects RX19 yX19_type yX19_type, .initialized RX19] ++ u_ws RJx4a65c TJx4a65c 3 ++ u_ws RX19 TX19 5
def w_c_M_trees_22 : List Cond := .code yX19_trees cX19_trees 4 (some (.array (.object "HornbookModel$Tree"))) :: wb_c_M_trees_22
set_option maxRecDepth 100000 in
theorem g_c_M_trees_22_0 : GoodIn w_c_M_trees_22 (wsV RX19 87 RX19 yX19_type w_c_M_type_2) := goodIn_app (goodIn_of _ (by decide +kernel)) (goodIn_p (big := w_c_M_trees_22) (.code yX19_type cX19_type 2 (some (.object "HornbookModel$Tree")) :: wb_c_M_type_2) [2, 4, 6, 7, 14] rfl (by decide +kernel))
set_option maxHeartbeats 4000000 in
set_option maxRecDepth 100000 in
theorem c_M_trees_22 (l : Launch) (eD eI : Nat) (ad : Nat → Nat) (dC : Nat → ClassId) (dI : Nat → Nat → Nat) (sz : Nat) (mm : Nat) (ms : Nat) (mt : Nat) (mh : Nat) (me : Nat) (th : Int32) (mo : Int32) (ma : Nat) (kO : ClassId) (t0 : Nat) (t1 : Nat) (t2 : Nat) (f2 : Value) : Met l yX19_trees w_c_M_trees_22 ({ frames := 4, cells := 1, slots := 2, locals := 85 }) (va_Pc [.ref mm, .int 2, .int 2] (zPre eD eI ad (dC, dI) [(mm, .inr (21, [.int th, .ref ms, .ref mt, .ref mh, .ref me])), (mt, .inr (1, [.int mo, .ref ma, .int 3])), (ma, .inl (kO, 10, .inr (.inr (.inr (.inr (zfT t0 t1 t2)))))), (t2, .inr (18, [.int (-3), f2]))] [(kO, .object "java/lang/Object")] sz)) (va_Qq (fun (r : Option Nat) (u : Nat × ClassId) => match u with | (tk, kk) => r = some tk) (fun (u : Nat × ClassId) => match u with | (tk, kk) => zEnd (dC, dI) (va_A [(mm, .inr (21, [.int th, .ref ms, .ref mt, .ref mh, .ref me])), (mt, .inr (1, [.int mo, .ref ma, .int 3])), (ma, .inl (kO, 10, .inr (.inr (.inr (.inr (zfT t0 t1 t2)))))), (t2, .inr (18, [.int (-3), f2]))] sz) [(mm, .inr (21, [.int th, .ref ms, .ref mt, .ref mh, .ref me])), (mt, .inr (1, [.int mo, .ref ma, .int 3])), (ma, .inl (kO, 10, .inr (.inr (.inr (.inr (zfT t0 t1 t2)))))), (t2, .inr (18, [.int (-3), f2])), (tk, .inl (kk, 2, .inr (.inr (.inr (.inr (va_up (va_up (fun _ => none) (0 : Int32).toNatClampNeg (some t2)) (1 : Int32).toNatClampNeg (some t2)))))))] [(kO, .object "java/lang/Object"), (kk, .object "HornbookModel$Tree")]) (va_A [(mm, .inr (21, [.int th, .ref ms, .ref mt, .ref mh, .ref me])), (mt, .inr (1, [.int mo, .ref ma, .int 3])), (ma, .inl (kO, 10, .inr (.inr (.inr (.inr (zfT t0 t1 t2)))))), (t2, .inr (18, [.int (-3), f2]))] sz)) 1 2 (va_A [(mm, .inr (21, [.int th, .ref ms, .ref mt, .ref mh, .ref me])), (mt, .inr (1, [.int mo, .ref ma, .int 3])), (ma, .inl (kO, 10, .inr (.inr (.inr (.inr (zfT t0 t1 t2)))))), (t2, .inr (18, [.int (-3), f2]))] sz) := by
  refine Met.ofW (cc := cX19_trees) (maxL := 4) (ret := (some (.array (.object "HornbookModel$Tree")))) (by decide) rfl ?_
  intro p e s m args below meth c s₁ B hml hv
  obtain ⟨rfl, hsz, hP, hK, hD0, hE⟩ := hv
  have hx := B.exec
  have hb := B.bytes
  have hr := B.returns
  have hts := atoms_spec (ws := w_c_M_trees_22) B.pre
  have hown : s.vm.findClass RX19 = some m.cls := findClass_of_methodNamed B.named
  have hlocks := B.notSynchronized
  subst hsz
  have hD := hD0.self (sz := s.heap.size)
  generalize hAe : va_A [(mm, .inr (21, [.int th, .ref ms, .ref mt, .ref mh, .ref me])), (mt, .inr (1, [.int mo, .ref ma, .int 3])), (ma, .inl (kO, 10, .inr (.inr (.inr (.inr (zfT t0 t1 t2)))))), (t2, .inr (18, [.int (-3), f2]))] s.heap.size = A at hD hE ⊢
  have hA : ∀ q : Nat, s.heap.size ≤ q → A q := fun q h => by rw [← hAe]; exact Or.inr h
  have hS : va_S A s.heap s.heap [] := va_S.rf
  have hP : va_P (dC, dI) vwCl [(mm, .inr (21, [.int th, .ref ms, .ref mt, .ref mh, .ref me])), (mt, .inr (1, [.int mo, .ref ma, .int 3])), (ma, .inl (kO, 10, .inr (.inr (.inr (.inr (zfT t0 t1 t2)))))), (t2, .inr (18, [.int (-3), f2]))] s.heap := hP
  have hl := lv_entry ([.ref mm, .int 2, .int 2]) (n := 4) (Nat.le_of_ble_eq_true rfl)
  rw [lg_entry_eq]
  generalize (lg_sl ([.ref mm, .int 2, .int 2]) ++ List.replicate (4 - (lg_sl ([.ref mm, .int 2, .int 2])).length) Slot.unset).toArray = ls at hl ⊢
  have hl : lv_has ls 4 [(0, .ref mm), (1, .int 2), (2, .int 2)] := hl
  have in_RJx4a65c : ∀ w ∈ u_ws RJx4a65c TJx4a65c 3, w ∈ w_c_M_trees_22 := by decide +kernel
  have in_RX19 : ∀ w ∈ u_ws RX19 TX19 5, w ∈ w_c_M_trees_22 := by decide +kernel
  refine lv_iload_n hx hb dX19_trees_0 rfl (lv_at hl 1 rfl) ?_
  refine lv_iconst (v := (-1)) hx hb dX19_trees_1 (by decide) ?_
  refine lv_icmp_ne (tgt := 9) hx hb dX19_trees_2 (by decide) (fun c_1 => ?_) (fun c_1 => ?_)
  rotate_left
  · exact absurd c_1 (by decide)
  refine lv_iload_n hx hb dX19_trees_9 rfl (lv_at hl 2 rfl) ?_
  refine lv_iconst (v := (-1)) hx hb dX19_trees_10 (by decide) ?_
  refine lv_icmp_ne (tgt := 18) hx hb dX19_trees_11 (by decide) (fun c_2 => ?_) (fun c_2 => ?_)
  rotate_left
  · exact absurd c_2 (by decide)
  refine lv_iconst (v := 2) hx hb dX19_trees_18 (by decide) ?_
  refine va_newq (C := "HornbookModel$Tree") hx hb hown (hts (.classLink RX19 25 "HornbookModel$Tree") (by decide +kernel)) (hE.2.2.2.2.2.2.1 "HornbookModel$Tree" (by decide +kernel)) hK hP hD hS hA (N' := 2) (by decide) (by decide) (Nat.le_of_ble_eq_true rfl) (Nat.le_of_ble_eq_true rfl) (Nat.le_of_ble_eq_true rfl) dX19_trees_19 (fun q_3 k_4 H hK hP hD hS => ?_)
  have hP : va_P (dC, dI) vwCl [(mm, .inr (21, [.int th, .ref ms, .ref mt, .ref mh, .ref me])), (mt, .inr (1, [.int mo, .ref ma, .int 3])), (ma, .inl (kO, 10, .inr (.inr (.inr (.inr (zfT t0 t1 t2)))))), (t2, .inr (18, [.int (-3), f2])), (q_3, .inl (k_4, 2, .inr (.inr (.inr (.inr (fun _ => none))))))] H := hP
  have hD : va_D A [(mm, .inr (21, [.int th, .ref ms, .ref mt, .ref mh, .ref me])), (mt, .inr (1, [.int mo, .ref ma, .int 3])), (ma, .inl (kO, 10, .inr (.inr (.inr (.inr (zfT t0 t1 t2)))))), (t2, .inr (18, [.int (-3), f2])), (q_3, .inl (k_4, 2, .inr (.inr (.inr (.inr (fun _ => none))))))] := hD
  have hK : va_K (dC, dI) vwCl [(kO, .object "java/lang/Object"), (k_4, .object "HornbookModel$Tree")] s := hK
  refine lv_astore_n (lv' := [(3, .ref q_3), (0, .ref mm), (1, .int 2), (2, .int 2)]) hx hb dX19_trees_22 rfl hl (by decide) rfl (fun ls hl => ?_)
  refine lv_aload_n hx hb dX19_trees_23 rfl (lv_at hl 0 rfl) ?_
  refine va_alen (D := (dC, dI)) (v := 2) hx hb hK hP 4 1 rfl rfl rfl dX19_trees_24 ?_
  refine lv_if_le (tgt := 36) hx hb dX19_trees_25 (by decide) (fun c_5 => ?_) (fun c_5 => ?_)
  · exact absurd c_5 (by decide)
  refine lv_aload_n hx hb dX19_trees_28 rfl (lv_at hl 0 rfl) ?_
  refine lv_iconst (v := 0) hx hb dX19_trees_29 (by decide) ?_
  refine lv_aload_n hx hb dX19_trees_30 rfl (lv_at hl 1 rfl) ?_
  refine lv_iload_n hx hb dX19_trees_31 rfl (lv_at hl 2 rfl) ?_
  refine z_q (wr := [(q_3, .inl (k_4, 2, .inr (.inr (.inr (.inr (fun _ => none))))))]) (va_runV (As := [.int 2]) (rest := [.int 0, .ref q_3]) ⟨hx, hb, hml, hown, hts⟩ (c_M_type_2 l eD eI ad dC dI H.size mm ms mt mh me th mo ma kO t0 t1 t2 f2) (cwV 1 hts g_c_M_trees_22_0 rfl rfl rfl (by decide +kernel) ⟨Nat.le_of_ble_eq_true rfl, Nat.le_of_ble_eq_true rfl⟩) (z_preV (wc := [(mm, .inr (21, [.int th, .ref ms, .ref mt, .ref mh, .ref me])), (mt, .inr (1, [.int mo, .ref ma, .int 3])), (ma, .inl (kO, 10, .inr (.inr (.inr (.inr (zfT t0 t1 t2)))))), (t2, .inr (18, [.int (-3), f2]))]) hP hD hK hS hA hE [0, 1, 2, 3] [0] rfl (by decide) rfl (ci := 21) (q0 := 0) rfl rfl) rfl rfl hl.1 rfl (lv_room (Nat.le_of_ble_eq_true rfl)) dX19_trees_32 ⟨Nat.le_of_ble_eq_true rfl, Nat.le_of_ble_eq_true rfl⟩) hP hD hK hS hA [0, 1, 2, 3] [4] rfl rfl (by decide) (by decide) (fun r_6 u H locs hw_7 hP hD hK hS => ?_)
  obtain ⟨⟩ := u
  have hP : va_P (dC, dI) vwCl [(q_3, .inl (k_4, 2, .inr (.inr (.inr (.inr (fun _ => none)))))), (mm, .inr (21, [.int th, .ref ms, .ref mt, .ref mh, .ref me])), (mt, .inr (1, [.int mo, .ref ma, .int 3])), (ma, .inl (kO, 10, .inr (.inr (.inr (.inr (zfT t0 t1 t2)))))), (t2, .inr (18, [.int (-3), f2]))] H := hP
  have hD : va_D A [(q_3, .inl (k_4, 2, .inr (.inr (.inr (.inr (fun _ => none)))))), (mm, .inr (21, [.int th, .ref ms, .ref mt, .ref mh, .ref me])), (mt, .inr (1, [.int mo, .ref ma, .int 3])), (ma, .inl (kO, 10, .inr (.inr (.inr (.inr (zfT t0 t1 t2)))))), (t2, .inr (18, [.int (-3), f2]))] := hD
  have hK : va_K (dC, dI) vwCl [(kO, .object "java/lang/Object"), (k_4, .object "HornbookModel$Tree")] s := by simpa using hK
  have hw_7 : r_6 = some t2 := hw_7
  have hw_7 := hw_7.symm
  subst hw_7
  refine W.eq (g2 := F0 m 35 ls (.ref t2 :: .int 0 :: .ref q_3 :: [])) rfl ?_
  refine va_astq (D := (dC, dI)) hx hb hK hP hD hS 0 1 4 18 rfl rfl rfl rfl (by unfold vp_in; decide) dX19_trees_35 (fun H locs hP hD hS => ?_)
  have hP : va_P (dC, dI) vwCl [(q_3, .inl (k_4, 2, .inr (.inr (.inr (.inr (va_up (fun _ => none) (0 : Int32).toNatClampNeg (some t2))))))), (mm, .inr (21, [.int th, .ref ms, .ref mt, .ref mh, .ref me])), (mt, .inr (1, [.int mo, .ref ma, .int 3])), (ma, .inl (kO, 10, .inr (.inr (.inr (.inr (zfT t0 t1 t2)))))), (t2, .inr (18, [.int (-3), f2]))] H := hP
  have hD : va_D A [(q_3, .inl (k_4, 2, .inr (.inr (.inr (.inr (va_up (fun _ => none) (0 : Int32).toNatClampNeg (some t2))))))), (mm, .inr (21, [.int th, .ref ms, .ref mt, .ref mh, .ref me])), (mt, .inr (1, [.int mo, .ref ma, .int 3])), (ma, .inl (kO, 10, .inr (.inr (.inr (.inr (zfT t0 t1 t2)))))), (t2, .inr (18, [.int (-3), f2]))] := hD
  refine lv_aload_n hx hb dX19_trees_36 rfl (lv_at hl 0 rfl) ?_
  refine va_alen (D := (dC, dI)) (v := 2) hx hb hK hP 0 1 rfl rfl rfl dX19_trees_37 ?_
  refine lv_iconst (v := 1) hx hb dX19_trees_38 (by decide) ?_
  refine lv_icmp_le (tgt := 50) hx hb dX19_trees_39 (by decide) (fun c_8 => ?_) (fun c_8 => ?_)
  · exact absurd c_8 (by decide)
  refine lv_aload_n hx hb dX19_trees_42 rfl (lv_at hl 0 rfl) ?_
  refine lv_iconst (v := 1) hx hb dX19_trees_43 (by decide) ?_
  refine lv_aload_n hx hb dX19_trees_44 rfl (lv_at hl 1 rfl) ?_
  refine lv_iload_n hx hb dX19_trees_45 rfl (lv_at hl 3 rfl) ?_
  refine z_q (wr := [(q_3, .inl (k_4, 2, .inr (.inr (.inr (.inr (va_up (fun _ => none) (0 : Int32).toNatClampNeg (some t2)))))))]) (va_runV (As := [.int 2]) (rest := [.int 1, .ref q_3]) ⟨hx, hb, hml, hown, hts⟩ (c_M_type_2 l eD eI ad dC dI H.size mm ms mt mh me th mo ma kO t0 t1 t2 f2) (cwV 1 hts g_c_M_trees_22_0 rfl rfl rfl (by decide +kernel) ⟨Nat.le_of_ble_eq_true rfl, Nat.le_of_ble_eq_true rfl⟩) (z_preV (wc := [(mm, .inr (21, [.int th, .ref ms, .ref mt, .ref mh, .ref me])), (mt, .inr (1, [.int mo, .ref ma, .int 3])), (ma, .inl (kO, 10, .inr (.inr (.inr (.inr (zfT t0 t1 t2)))))), (t2, .inr (18, [.int (-3), f2]))]) hP hD hK hS hA hE [1, 2, 3, 4] [0] rfl (by decide) rfl (ci := 21) (q0 := 0) rfl rfl) rfl rfl hl.1 rfl (lv_room (Nat.le_of_ble_eq_true rfl)) dX19_trees_46 ⟨Nat.le_of_ble_eq_true rfl, Nat.le_of_ble_eq_true rfl⟩) hP hD hK hS hA [1, 2, 3, 4] [0] rfl rfl (by decide) (by decide) (fun r_9 u H locs hw_10 hP hD hK hS => ?_)
  obtain ⟨⟩ := u
  have hP : va_P (dC, dI) vwCl [(q_3, .inl (k_4, 2, .inr (.inr (.inr (.inr (va_up (fun _ => none) (0 : Int32).toNatClampNeg (some t2))))))), (mm, .inr (21, [.int th, .ref ms, .ref mt, .ref mh, .ref me])), (mt, .inr (1, [.int mo, .ref ma, .int 3])), (ma, .inl (kO, 10, .inr (.inr (.inr (.inr (zfT t0 t1 t2)))))), (t2, .inr (18, [.int (-3), f2]))] H := hP
  have hD : va_D A [(q_3, .inl (k_4, 2, .inr (.inr (.inr (.inr (va_up (fun _ => none) (0 : Int32).toNatClampNeg (some t2))))))), (mm, .inr (21, [.int th, .ref ms, .ref mt, .ref mh, .ref me])), (mt, .inr (1, [.int mo, .ref ma, .int 3])), (ma, .inl (kO, 10, .inr (.inr (.inr (.inr (zfT t0 t1 t2)))))), (t2, .inr (18, [.int (-3), f2]))] := hD
  have hK : va_K (dC, dI) vwCl [(kO, .object "java/lang/Object"), (k_4, .object "HornbookModel$Tree")] s := by simpa using hK
  have hw_10 : r_9 = some t2 := hw_10
  have hw_10 := hw_10.symm
  subst hw_10
  refine W.eq (g2 := F0 m 49 ls (.ref t2 :: .int 1 :: .ref q_3 :: [])) rfl ?_
  refine va_astq (D := (dC, dI)) hx hb hK hP hD hS 0 1 4 18 rfl rfl rfl rfl (by unfold vp_in; decide) dX19_trees_49 (fun H locs hP hD hS => ?_)
  have hP : va_P (dC, dI) vwCl [(q_3, .inl (k_4, 2, .inr (.inr (.inr (.inr (va_up (va_up (fun _ => none) (0 : Int32).toNatClampNeg (some t2)) (1 : Int32).toNatClampNeg (some t2))))))), (mm, .inr (21, [.int th, .ref ms, .ref mt, .ref mh, .ref me])), (mt, .inr (1, [.int mo, .ref ma, .int 3])), (ma, .inl (kO, 10, .inr (.inr (.inr (.inr (zfT t0 t1 t2)))))), (t2, .inr (18, [.int (-3), f2]))] H := hP
  have hD : va_D A [(q_3, .inl (k_4, 2, .inr (.inr (.inr (.inr (va_up (va_up (fun _ => none) (0 : Int32).toNatClampNeg (some t2)) (1 : Int32).toNatClampNeg (some t2))))))), (mm, .inr (21, [.int th, .ref ms, .ref mt, .ref mh, .ref me])), (mt, .inr (1, [.int mo, .ref ma, .int 3])), (ma, .inl (kO, 10, .inr (.inr (.inr (.inr (zfT t0 t1 t2)))))), (t2, .inr (18, [.int (-3), f2]))] := hD
  refine lv_aload_n hx hb dX19_trees_50 rfl (lv_at hl 0 rfl) ?_
  have hP9 := hP.sub (ws' := [(mm, .inr (21, [.int th, .ref ms, .ref mt, .ref mh, .ref me])), (mt, .inr (1, [.int mo, .ref ma, .int 3])), (ma, .inl (kO, 10, .inr (.inr (.inr (.inr (zfT t0 t1 t2)))))), (t2, .inr (18, [.int (-3), f2])), (q_3, .inl (k_4, 2, .inr (.inr (.inr (.inr (va_up (va_up (fun _ => none) (0 : Int32).toNatClampNeg (some t2)) (1 : Int32).toNatClampNeg (some t2)))))))]) [1, 2, 3, 4, 0] rfl
  have hD9 := hD.sub (ws' := [(mm, .inr (21, [.int th, .ref ms, .ref mt, .ref mh, .ref me])), (mt, .inr (1, [.int mo, .ref ma, .int 3])), (ma, .inl (kO, 10, .inr (.inr (.inr (.inr (zfT t0 t1 t2)))))), (t2, .inr (18, [.int (-3), f2])), (q_3, .inl (k_4, 2, .inr (.inr (.inr (.inr (va_up (va_up (fun _ => none) (0 : Int32).toNatClampNeg (some t2)) (1 : Int32).toNatClampNeg (some t2)))))))]) [1, 2, 3, 4, 0] (by decide) rfl
  have hK9 := hK.sub (tys' := [(kO, .object "java/lang/Object"), (k_4, .object "HornbookModel$Tree")]) [0, 1] rfl
  refine W.widen (k := 1) (n := 2) (Nat.le_of_ble_eq_true rfl) (Nat.le_of_ble_eq_true rfl) ?_
  exact W.aret (v := .ref q_3) hx hb hr (Or.inr ⟨_, rfl⟩) (Or.inr ⟨_, rfl⟩) (fun t ht hW => ⟨⟨some q_3, (q_3, k_4), rfl, rfl, ⟨by rw [ht]; exact hP9, va_K.moved hW.alike hK9, hD9⟩⟩, hS.F ht⟩) hS.2.2 dX19_trees_51
