theorem dX16_isSort_0 : decode cX16_isSort 0 = .ok (.aload_n 0, 1) := by decide +kernel
theorem dX16_isSort_1 : decode cX16_isSort 1 = .ok (.getfield 14, 3) := by decide +kernel
theorem dX16_isSort_4 : decode cX16_isSort 4 = .ok (.ifCond .lt 7, 3) := by decide +kernel
theorem dX16_isSort_11 : decode cX16_isSort 11 = .ok (.iconst 0, 1) := by decide +kernel
theorem dX16_isSort_12 : decode cX16_isSort 12 = .ok (.ireturn, 1) := by decide +kernel
theorem dX16_depth_0 : decode cX16_depth 0 = .ok (.iconst 0, 1) := by decide +kernel
theorem dX16_depth_1 : decode cX16_depth 1 = .ok (.istore_n 1, 1) := by decide +kernel
theorem dX16_depth_2 : decode cX16_depth 2 = .ok (.aload_n 0, 1) := by decide +kernel
theorem dX16_depth_3 : decode cX16_depth 3 = .ok (.getfield 18, 3) := by decide +kernel
theorem dX16_depth_6 : decode cX16_depth 6 = .ok (.astore_n 2, 1) := by decide +kernel
theorem dX16_depth_7 : decode cX16_depth 7 = .ok (.aload_n 2, 1) := by decide +kernel
theorem dX16_depth_8 : decode cX16_depth 8 = .ok (.arraylength, 1) := by decide +kernel
theorem dX16_depth_9 : decode cX16_depth 9 = .ok (.istore_n 3, 1) := by decide +kernel
theorem dX16_depth_10 : decode cX16_depth 10 = .ok (.iconst 0, 1) := by decide +kernel
theorem dX16_depth_11 : decode cX16_depth 11 = .ok (.istore 4, 2) := by decide +kernel
theorem dX16_depth_13 : decode cX16_depth 13 = .ok (.iload 4, 2) := by decide +kernel
theorem dX16_depth_15 : decode cX16_depth 15 = .ok (.iload_n 3, 1) := by decide +kernel
theorem dX16_depth_16 : decode cX16_depth 16 = .ok (.if_icmp .ge 27, 3) := by decide +kernel
theorem dX16_depth_43 : decode cX16_depth 43 = .ok (.iload_n 1, 1) := by decide +kernel
theorem dX16_depth_44 : decode cX16_depth 44 = .ok (.ireturn, 1) := by decide +kernel
theorem dX16_has_0 : decode cX16_has 0 = .ok (.aload_n 0, 1) := by decide +kernel
theorem dX16_has_1 : decode cX16_has 1 = .ok (.getfield 14, 3) := by decide +kernel
theorem dX16_has_4 : decode cX16_has 4 = .ok (.iload_n 1, 1) := by decide +kernel
theorem dX16_has_5 : decode cX16_has 5 = .ok (.if_icmp .ne 5, 3) := by decide +kernel
theorem dX16_has_8 : decode cX16_has 8 = .ok (.iconst 1, 1) := by decide +kernel
theorem dX16_has_9 : decode cX16_has 9 = .ok (.ireturn, 1) := by decide +kernel
theorem dX16_has_10 : decode cX16_has 10 = .ok (.aload_n 0, 1) := by decide +kernel
theorem dX16_has_11 : decode cX16_has 11 = .ok (.getfield 18, 3) := by decide +kernel
theorem dX16_has_14 : decode cX16_has 14 = .ok (.astore_n 2, 1) := by decide +kernel
theorem dX16_has_15 : decode cX16_has 15 = .ok (.aload_n 2, 1) := by decide +kernel
theorem dX16_has_16 : decode cX16_has 16 = .ok (.arraylength, 1) := by decide +kernel
theorem dX16_has_17 : decode cX16_has 17 = .ok (.istore_n 3, 1) := by decide +kernel
theorem dX16_has_18 : decode cX16_has 18 = .ok (.iconst 0, 1) := by decide +kernel
theorem dX16_has_19 : decode cX16_has 19 = .ok (.istore 4, 2) := by decide +kernel
theorem dX16_has_21 : decode cX16_has 21 = .ok (.iload 4, 2) := by decide +kernel
theorem dX16_has_23 : decode cX16_has 23 = .ok (.iload_n 3, 1) := by decide +kernel
theorem dX16_has_24 : decode cX16_has 24 = .ok (.if_icmp .ge 26, 3) := by decide +kernel
theorem dX16_has_50 : decode cX16_has 50 = .ok (.iconst 0, 1) := by decide +kernel
theorem dX16_has_51 : decode cX16_has 51 = .ok (.ireturn, 1) := by decide +kernel
theorem dX16_isClosed_0 : decode cX16_isClosed 0 = .ok (.aload_n 0, 1) := by decide +kernel
theorem dX16_isClosed_1 : decode cX16_isClosed 1 = .ok (.bipush (-3), 2) := by decide +kernel
theorem dX16_isClosed_3 : decode cX16_isClosed 3 = .ok (.invokevirtual 36, 3) := by decide +kernel
theorem dX16_isClosed_6 : decode cX16_isClosed 6 = .ok (.ifCond .ne 25, 3) := by decide +kernel
theorem dX16_isClosed_9 : decode cX16_isClosed 9 = .ok (.aload_n 0, 1) := by decide +kernel
theorem dX16_isClosed_10 : decode cX16_isClosed 10 = .ok (.bipush (-4), 2) := by decide +kernel
theorem dX16_isClosed_12 : decode cX16_isClosed 12 = .ok (.invokevirtual 36, 3) := by decide +kernel
theorem dX16_isClosed_15 : decode cX16_isClosed 15 = .ok (.ifCond .ne 16, 3) := by decide +kernel
theorem dX16_isClosed_18 : decode cX16_isClosed 18 = .ok (.aload_n 0, 1) := by decide +kernel
theorem dX16_isClosed_19 : decode cX16_isClosed 19 = .ok (.bipush (-5), 2) := by decide +kernel
theorem dX16_isClosed_21 : decode cX16_isClosed 21 = .ok (.invokevirtual 36, 3) := by decide +kernel
theorem dX16_isClosed_24 : decode cX16_isClosed 24 = .ok (.ifCond .ne 7, 3) := by decide +kernel
theorem dX16_isClosed_27 : decode cX16_isClosed 27 = .ok (.iconst 1, 1) := by decide +kernel
theorem dX16_isClosed_28 : decode cX16_isClosed 28 = .ok (.goto 4, 3) := by decide +kernel
theorem dX16_isClosed_32 : decode cX16_isClosed 32 = .ok (.ireturn, 1) := by decide +kernel
theorem dX16_isClosed_31 : decode cX16_isClosed 31 = .ok (.iconst 0, 1) := by decide +kernel
theorem dX16_isSame_0 : decode cX16_isSame 0 = .ok (.aload_n 0, 1) := by decide +kernel
theorem dX16_isSame_1 : decode cX16_isSame 1 = .ok (.getfield 14, 3) := by decide +kernel
theorem dX16_isSame_4 : decode cX16_isSame 4 = .ok (.aload_n 1, 1) := by decide +kernel
theorem dX16_isSame_5 : decode cX16_isSame 5 = .ok (.getfield 14, 3) := by decide +kernel
theorem dX16_isSame_8 : decode cX16_isSame 8 = .ok (.if_icmp .eq 5, 3) := by decide +kernel
theorem dX16_isSame_13 : decode cX16_isSame 13 = .ok (.iconst 0, 1) := by decide +kernel
theorem dX16_isSame_14 : decode cX16_isSame 14 = .ok (.istore_n 2, 1) := by decide +kernel
theorem dX16_isSame_15 : decode cX16_isSame 15 = .ok (.iload_n 2, 1) := by decide +kernel
theorem dX16_isSame_16 : decode cX16_isSame 16 = .ok (.aload_n 0, 1) := by decide +kernel
theorem dX16_isSame_17 : decode cX16_isSame 17 = .ok (.getfield 18, 3) := by decide +kernel
theorem dX16_isSame_20 : decode cX16_isSame 20 = .ok (.arraylength, 1) := by decide +kernel
theorem dX16_isSame_21 : decode cX16_isSame 21 = .ok (.if_icmp .ge 29, 3) := by decide +kernel
theorem dX16_isSame_50 : decode cX16_isSame 50 = .ok (.iconst 1, 1) := by decide +kernel
theorem dX16_isSame_51 : decode cX16_isSame 51 = .ok (.ireturn, 1) := by decide +kernel
theorem dX16_isSame_11 : decode cX16_isSame 11 = .ok (.iconst 0, 1) := by decide +kernel
theorem dX16_isSame_12 : decode cX16_isSame 12 = .ok (.ireturn, 1) := by decide +kernel
theorem dX19_type_0 : decode cX19_type 0 = .ok (.aload_n 0, 1) := by decide +kernel
theorem dX19_type_1 : decode cX19_type 1 = .ok (.getfield 16, 3) := by decide +kernel
theorem dX19_type_4 : decode cX19_type 4 = .ok (.iload_n 1, 1) := by decide +kernel
theorem dX19_type_5 : decode cX19_type 5 = .ok (.invokevirtual 59, 3) := by decide +kernel
theorem dX19_type_8 : decode cX19_type 8 = .ok (.checkcast 25, 3) := by decide +kernel
theorem dX19_type_11 : decode cX19_type 11 = .ok (.areturn, 1) := by decide +kernel
theorem dX17_init_0 : decode cX17_init 0 = .ok (.aload_n 0, 1) := by decide +kernel
theorem dX17_init_1 : decode cX17_init 1 = .ok (.aload_n 1, 1) := by decide +kernel
theorem dX17_init_2 : decode cX17_init 2 = .ok (.putfield 3, 3) := by decide +kernel
theorem dX17_init_5 : decode cX17_init 5 = .ok (.aload_n 0, 1) := by decide +kernel
theorem dX17_init_6 : decode cX17_init 6 = .ok (.invokespecial 9, 3) := by decide +kernel
theorem dX17_init_9 : decode cX17_init 9 = .ok (.aload_n 0, 1) := by decide +kernel
theorem dX17_init_10 : decode cX17_init 10 = .ok (.iload_n 2, 1) := by decide +kernel
theorem dX17_init_11 : decode cX17_init 11 = .ok (.putfield 15, 3) := by decide +kernel
theorem dX17_init_14 : decode cX17_init 14 = .ok (.aload_n 0, 1) := by decide +kernel
theorem dX17_init_15 : decode cX17_init 15 = .ok (.iload_n 3, 1) := by decide +kernel
theorem dX17_init_16 : decode cX17_init 16 = .ok (.putfield 19, 3) := by decide +kernel
theorem dX17_init_19 : decode cX17_init 19 = .ok (.aload_n 0, 1) := by decide +kernel
theorem dX17_init_20 : decode cX17_init 20 = .ok (.iload 4, 2) := by decide +kernel
theorem dX17_init_22 : decode cX17_init 22 = .ok (.putfield 22, 3) := by decide +kernel
theorem dX17_init_25 : decode cX17_init 25 = .ok (.aload_n 0, 1) := by decide +kernel
theorem dX17_init_26 : decode cX17_init 26 = .ok (.iload 5, 2) := by decide +kernel
theorem dX17_init_28 : decode cX17_init 28 = .ok (.putfield 25, 3) := by decide +kernel
theorem dX17_init_31 : decode cX17_init 31 = .ok (.return_, 1) := by decide +kernel
theorem dX19_view_0 : decode cX19_view 0 = .ok (.new 42, 3) := by decide +kernel
theorem dX19_view_3 : decode cX19_view 3 = .ok (.dup, 1) := by decide +kernel
theorem dX19_view_4 : decode cX19_view 4 = .ok (.aload_n 0, 1) := by decide +kernel
theorem dX19_view_5 : decode cX19_view 5 = .ok (.iconst (-1), 1) := by decide +kernel
theorem dX19_view_6 : decode cX19_view 6 = .ok (.iconst (-1), 1) := by decide +kernel
theorem dX19_view_7 : decode cX19_view 7 = .ok (.iconst (-1), 1) := by decide +kernel
theorem dX19_view_8 : decode cX19_view 8 = .ok (.iconst (-1), 1) := by decide +kernel
theorem dX19_view_9 : decode cX19_view 9 = .ok (.invokespecial 44, 3) := by decide +kernel
theorem dX19_view_12 : decode cX19_view 12 = .ok (.areturn, 1) := by decide +kernel
theorem dX17_road_0 : decode cX17_road 0 = .ok (.new 33, 3) := by decide +kernel
theorem dX17_road_3 : decode cX17_road 3 = .ok (.dup, 1) := by decide +kernel
theorem dX17_road_4 : decode cX17_road 4 = .ok (.invokespecial 67, 3) := by decide +kernel
theorem dX17_road_7 : decode cX17_road 7 = .ok (.astore_n 2, 1) := by decide +kernel
theorem dX17_road_8 : decode cX17_road 8 = .ok (.aload_n 1, 1) := by decide +kernel
theorem dX17_road_9 : decode cX17_road 9 = .ok (.invokevirtual 68, 3) := by decide +kernel
theorem dX17_road_12 : decode cX17_road 12 = .ok (.ifCond .eq 10, 3) := by decide +kernel
theorem dX17_road_22 : decode cX17_road 22 = .ok (.aload_n 2, 1) := by decide +kernel
theorem dX17_road_23 : decode cX17_road 23 = .ok (.areturn, 1) := by decide +kernel
theorem dX17_isUnder_0 : decode cX17_isUnder 0 = .ok (.aload_n 1, 1) := by decide +kernel
theorem dX17_isUnder_1 : decode cX17_isUnder 1 = .ok (.getfield 49, 3) := by decide +kernel
theorem dX17_isUnder_4 : decode cX17_isUnder 4 = .ok (.bipush (-2), 2) := by decide +kernel
theorem dX17_isUnder_6 : decode cX17_isUnder 6 = .ok (.if_icmp .eq 19, 3) := by decide +kernel
theorem dX17_isUnder_9 : decode cX17_isUnder 9 = .ok (.aload_n 2, 1) := by decide +kernel
theorem dX17_isUnder_10 : decode cX17_isUnder 10 = .ok (.getfield 49, 3) := by decide +kernel
theorem dX17_isUnder_13 : decode cX17_isUnder 13 = .ok (.iconst (-1), 1) := by decide +kernel
theorem dX17_isUnder_14 : decode cX17_isUnder 14 = .ok (.if_icmp .eq 11, 3) := by decide +kernel
theorem dX17_isUnder_25 : decode cX17_isUnder 25 = .ok (.iconst 1, 1) := by decide +kernel
theorem dX17_isUnder_26 : decode cX17_isUnder 26 = .ok (.ireturn, 1) := by decide +kernel
theorem dX17_isUnder_17 : decode cX17_isUnder 17 = .ok (.aload_n 1, 1) := by decide +kernel
theorem dX17_isUnder_18 : decode cX17_isUnder 18 = .ok (.aload_n 2, 1) := by decide +kernel
theorem dX17_isUnder_19 : decode cX17_isUnder 19 = .ok (.invokevirtual 76, 3) := by decide +kernel
theorem dX17_isUnder_22 : decode cX17_isUnder 22 = .ok (.ifCond .eq 5, 3) := by decide +kernel
theorem dX17_isUnder_27 : decode cX17_isUnder 27 = .ok (.aload_n 2, 1) := by decide +kernel
theorem dX17_isUnder_28 : decode cX17_isUnder 28 = .ok (.invokevirtual 68, 3) := by decide +kernel
theorem dX17_isUnder_31 : decode cX17_isUnder 31 = .ok (.ifCond .eq 15, 3) := by decide +kernel
theorem dX17_isUnder_46 : decode cX17_isUnder 46 = .ok (.aconst_null, 1) := by decide +kernel
theorem dX17_isUnder_47 : decode cX17_isUnder 47 = .ok (.astore_n 3, 1) := by decide +kernel
theorem dX17_isUnder_48 : decode cX17_isUnder 48 = .ok (.aload_n 3, 1) := by decide +kernel
theorem dX17_isUnder_49 : decode cX17_isUnder 49 = .ok (.ifnonnull 5, 3) := by decide +kernel
theorem dX17_isUnder_52 : decode cX17_isUnder 52 = .ok (.iconst 0, 1) := by decide +kernel
theorem dX17_isUnder_53 : decode cX17_isUnder 53 = .ok (.ireturn, 1) := by decide +kernel
theorem dX17_join_0 : decode cX17_join 0 = .ok (.aload_n 0, 1) := by decide +kernel
theorem dX17_join_1 : decode cX17_join 1 = .ok (.aload_n 1, 1) := by decide +kernel
theorem dX17_join_2 : decode cX17_join 2 = .ok (.aload_n 2, 1) := by decide +kernel
theorem dX17_join_3 : decode cX17_join 3 = .ok (.invokevirtual 91, 3) := by decide +kernel
theorem dX17_join_6 : decode cX17_join 6 = .ok (.ifCond .eq 5, 3) := by decide +kernel
theorem dX17_join_9 : decode cX17_join 9 = .ok (.aload_n 2, 1) := by decide +kernel
theorem dX17_join_10 : decode cX17_join 10 = .ok (.areturn, 1) := by decide +kernel
theorem dX17_join_11 : decode cX17_join 11 = .ok (.aload_n 0, 1) := by decide +kernel
theorem dX17_join_12 : decode cX17_join 12 = .ok (.aload_n 2, 1) := by decide +kernel
theorem dX17_join_13 : decode cX17_join 13 = .ok (.aload_n 1, 1) := by decide +kernel
theorem dX17_join_14 : decode cX17_join 14 = .ok (.invokevirtual 91, 3) := by decide +kernel
theorem dX17_join_17 : decode cX17_join 17 = .ok (.ifCond .eq 5, 3) := by decide +kernel
theorem dX17_join_20 : decode cX17_join 20 = .ok (.aload_n 1, 1) := by decide +kernel
theorem dX17_join_21 : decode cX17_join 21 = .ok (.areturn, 1) := by decide +kernel
def wb_c_T_isSort : List Cond := [.fieldLink RX16 14 "HornbookModel$Tree" "head" "I"] ++ u_ws RX16 TX16 2
def w_c_T_isSort : List Cond := .code yX16_isSort cX16_isSort 1 (some .boolean) :: wb_c_T_isSort
set_option maxHeartbeats 4000000 in
set_option maxRecDepth 100000 in
theorem c_T_isSort (l : Launch) (eD eI : Nat) (ad : Nat → Nat) (dC : Nat → ClassId) (dI : Nat → Nat → Nat) (sz : Nat) (h : Nat) (hd : Int32) (f1 : Value) (h1 : hd < 0) : Met l yX16_isSort w_c_T_isSort ({ frames := 0, cells := 0, slots := 0, locals := 0 }) (va_Pc [.ref h] (zPre eD eI ad (dC, dI) [(h, .inr (18, [.int hd, f1]))] [] sz)) (va_Qi (fun (r : Int32) (_ : Unit) => r = 0) (fun (_ : Unit) => zEnd (dC, dI) (va_A [(h, .inr (18, [.int hd, f1]))] sz) [(h, .inr (18, [.int hd, f1]))] []) (va_A [(h, .inr (18, [.int hd, f1]))] sz)) 0 0 (va_A [(h, .inr (18, [.int hd, f1]))] sz) := by
  refine Met.ofW (cc := cX16_isSort) (maxL := 1) (ret := (some .boolean)) (by decide) rfl ?_
  intro p e s m args below meth c s₁ B hml hv
  obtain ⟨rfl, hsz, hP, hK, hD0, hE⟩ := hv
  have hx := B.exec
  have hb := B.bytes
  have hr := B.returns
  have hts := atoms_spec (ws := w_c_T_isSort) B.pre
  have hown : s.vm.findClass RX16 = some m.cls := findClass_of_methodNamed B.named
  have hlocks := B.notSynchronized
  subst hsz
  have hD := hD0.self (sz := s.heap.size)
  generalize hAe : va_A [(h, .inr (18, [.int hd, f1]))] s.heap.size = A at hD hE ⊢
  have hA : ∀ q : Nat, s.heap.size ≤ q → A q := fun q h => by rw [← hAe]; exact Or.inr h
  have hS : va_S A s.heap s.heap [] := va_S.rf
  have hP : va_P (dC, dI) vwCl [(h, .inr (18, [.int hd, f1]))] s.heap := hP
  have hl := lv_entry ([.ref h]) (n := 1) (Nat.le_of_ble_eq_true rfl)
  rw [lg_entry_eq]
  generalize (lg_sl ([.ref h]) ++ List.replicate (1 - (lg_sl ([.ref h])).length) Slot.unset).toArray = ls at hl ⊢
  have hl : lv_has ls 1 [(0, .ref h)] := hl
  have in_RX16 : ∀ w ∈ u_ws RX16 TX16 2, w ∈ w_c_T_isSort := by decide +kernel
  refine lv_aload_n hx hb dX16_isSort_0 rfl (lv_at hl 0 rfl) ?_
  refine va_get (D := (dC, dI)) (ci := 18) (v := .int hd) (C := RX16) (T := TX16) (N := 2) hx hb hts in_RX16 hown hK hP 0 rfl rfl 0 (by decide) (hts (.fieldLink RX16 14 "HornbookModel$Tree" "head" "I") (by decide +kernel)) (fun _ h9 => h9) rfl dX16_isSort_1 ?_
  refine lv_if_lt (tgt := 11) hx hb dX16_isSort_4 (by decide) (fun c_1 => ?_) (fun c_1 => ?_)
  rotate_left
  · exact absurd h1 c_1
  refine lv_iconst (v := 0) hx hb dX16_isSort_11 (by decide) ?_
  have hP9 := hP.sub (ws' := [(h, .inr (18, [.int hd, f1]))]) [0] rfl
  have hD9 := hD.sub (ws' := [(h, .inr (18, [.int hd, f1]))]) [0] (by decide) rfl
  have hK9 := hK.sub (tys' := []) [] rfl
  refine W.widen (k := 0) (n := 0) (Nat.le_of_ble_eq_true rfl) (Nat.le_of_ble_eq_true rfl) ?_
  exact W.zret (v := 0) hx hb hr (by first | rfl | decide) (fun t ht hW => ⟨⟨0, (), rfl, rfl, ⟨by rw [ht]; exact hP9, va_K.moved hW.alike hK9, hD9⟩⟩, hS.F ht⟩) hS.2.2 dX16_isSort_12

def wb_c_T_depth : List Cond := [.fieldLink RX16 18 "HornbookModel$Tree" "inner" "[LHornbookModel$Tree;"] ++ u_ws RX16 TX16 2
def w_c_T_depth : List Cond := .code yX16_depth cX16_depth 6 (some .int) :: wb_c_T_depth
set_option maxHeartbeats 4000000 in
set_option maxRecDepth 100000 in
theorem c_T_depth (l : Launch) (eD eI : Nat) (ad : Nat → Nat) (dC : Nat → ClassId) (dI : Nat → Nat → Nat) (sz : Nat) (h : Nat) (i : Nat) (kT : ClassId) (hd : Int32) : Met l yX16_depth w_c_T_depth ({ frames := 0, cells := 0, slots := 0, locals := 0 }) (va_Pc [.ref h] (zPre eD eI ad (dC, dI) [(h, .inr (18, [.int hd, .ref i])), (i, .inl (kT, 0, .inr (.inr (.inr (.inr (fun _ => none))))))] [(kT, .object "HornbookModel$Tree")] sz)) (va_Qi (fun (r : Int32) (_ : Unit) => r = 0) (fun (_ : Unit) => zEnd (dC, dI) (va_A [(h, .inr (18, [.int hd, .ref i])), (i, .inl (kT, 0, .inr (.inr (.inr (.inr (fun _ => none))))))] sz) [(h, .inr (18, [.int hd, .ref i])), (i, .inl (kT, 0, .inr (.inr (.inr (.inr (fun _ => none))))))] []) (va_A [(h, .inr (18, [.int hd, .ref i])), (i, .inl (kT, 0, .inr (.inr (.inr (.inr (fun _ => none))))))] sz)) 0 0 (va_A [(h, .inr (18, [.int hd, .ref i])), (i, .inl (kT, 0, .inr (.inr (.inr (.inr (fun _ => none))))))] sz) := by
  refine Met.ofW (cc := cX16_depth) (maxL := 6) (ret := (some .int)) (by decide) rfl ?_
  intro p e s m args below meth c s₁ B hml hv
  obtain ⟨rfl, hsz, hP, hK, hD0, hE⟩ := hv
  have hx := B.exec
  have hb := B.bytes
  have hr := B.returns
  have hts := atoms_spec (ws := w_c_T_depth) B.pre
  have hown : s.vm.findClass RX16 = some m.cls := findClass_of_methodNamed B.named
  have hlocks := B.notSynchronized
  subst hsz
  have hD := hD0.self (sz := s.heap.size)
  generalize hAe : va_A [(h, .inr (18, [.int hd, .ref i])), (i, .inl (kT, 0, .inr (.inr (.inr (.inr (fun _ => none))))))] s.heap.size = A at hD hE ⊢
  have hA : ∀ q : Nat, s.heap.size ≤ q → A q := fun q h => by rw [← hAe]; exact Or.inr h
  have hS : va_S A s.heap s.heap [] := va_S.rf
  have hP : va_P (dC, dI) vwCl [(h, .inr (18, [.int hd, .ref i])), (i, .inl (kT, 0, .inr (.inr (.inr (.inr (fun _ => none))))))] s.heap := hP
  have hl := lv_entry ([.ref h]) (n := 6) (Nat.le_of_ble_eq_true rfl)
  rw [lg_entry_eq]
  generalize (lg_sl ([.ref h]) ++ List.replicate (6 - (lg_sl ([.ref h])).length) Slot.unset).toArray = ls at hl ⊢
  have hl : lv_has ls 6 [(0, .ref h)] := hl
  have in_RX16 : ∀ w ∈ u_ws RX16 TX16 2, w ∈ w_c_T_depth := by decide +kernel
  refine lv_iconst (v := 0) hx hb dX16_depth_0 (by decide) ?_
  refine lv_istore_n (lv' := [(1, .int 0), (0, .ref h)]) hx hb dX16_depth_1 rfl hl (by decide) rfl (fun ls hl => ?_)
  refine lv_aload_n hx hb dX16_depth_2 rfl (lv_at hl 1 rfl) ?_
  refine va_get (D := (dC, dI)) (ci := 18) (v := .ref i) (C := RX16) (T := TX16) (N := 2) hx hb hts in_RX16 hown hK hP 0 rfl rfl 1 (by decide) (hts (.fieldLink RX16 18 "HornbookModel$Tree" "inner" "[LHornbookModel$Tree;") (by decide +kernel)) (fun _ h9 => h9) rfl dX16_depth_3 ?_
  refine lv_astore_n (lv' := [(2, .ref i), (1, .int 0), (0, .ref h)]) hx hb dX16_depth_6 rfl hl (by decide) rfl (fun ls hl => ?_)
  refine lv_aload_n hx hb dX16_depth_7 rfl (lv_at hl 0 rfl) ?_
  refine va_alen (D := (dC, dI)) (v := 0) hx hb hK hP 1 0 rfl rfl rfl dX16_depth_8 ?_
  refine lv_istore_n (lv' := [(3, .int 0), (2, .ref i), (1, .int 0), (0, .ref h)]) hx hb dX16_depth_9 rfl hl (by decide) rfl (fun ls hl => ?_)
  refine lv_iconst (v := 0) hx hb dX16_depth_10 (by decide) ?_
  refine lv_istore (lv' := [(4, .int 0), (3, .int 0), (2, .ref i), (1, .int 0), (0, .ref h)]) hx hb dX16_depth_11 hl (by decide) rfl (fun ls hl => ?_)
  refine lv_iload hx hb dX16_depth_13 (lv_at hl 0 rfl) ?_
  refine lv_iload_n hx hb dX16_depth_15 rfl (lv_at hl 1 rfl) ?_
  refine lv_icmp_ge (tgt := 43) hx hb dX16_depth_16 (by decide) (fun c_1 => ?_) (fun c_1 => ?_)
  rotate_left
  · exact absurd (by decide) c_1
  refine lv_iload_n hx hb dX16_depth_43 rfl (lv_at hl 3 rfl) ?_
  have hP9 := hP.sub (ws' := [(h, .inr (18, [.int hd, .ref i])), (i, .inl (kT, 0, .inr (.inr (.inr (.inr (fun _ => none))))))]) [0, 1] rfl
  have hD9 := hD.sub (ws' := [(h, .inr (18, [.int hd, .ref i])), (i, .inl (kT, 0, .inr (.inr (.inr (.inr (fun _ => none))))))]) [0, 1] (by decide) rfl
  have hK9 := hK.sub (tys' := []) [] rfl
  refine W.widen (k := 0) (n := 0) (Nat.le_of_ble_eq_true rfl) (Nat.le_of_ble_eq_true rfl) ?_
  exact W.iret (v := 0) hx hb hr (fun t ht hW => ⟨⟨0, (), rfl, rfl, ⟨by rw [ht]; exact hP9, va_K.moved hW.alike hK9, hD9⟩⟩, hS.F ht⟩) hS.2.2 dX16_depth_44

def wb_c_T_has_eq : List Cond := [.fieldLink RX16 14 "HornbookModel$Tree" "head" "I"] ++ u_ws RX16 TX16 2
def w_c_T_has_eq : List Cond := .code yX16_has cX16_has 6 (some .boolean) :: wb_c_T_has_eq
set_option maxHeartbeats 4000000 in
set_option maxRecDepth 100000 in
theorem c_T_has_eq (l : Launch) (eD eI : Nat) (ad : Nat → Nat) (dC : Nat → ClassId) (dI : Nat → Nat → Nat) (sz : Nat) (h : Nat) (i : Nat) (kT : ClassId) (hd : Int32) : Met l yX16_has w_c_T_has_eq ({ frames := 0, cells := 0, slots := 0, locals := 0 }) (va_Pc [.ref h, .int hd] (zPre eD eI ad (dC, dI) [(h, .inr (18, [.int hd, .ref i])), (i, .inl (kT, 0, .inr (.inr (.inr (.inr (fun _ => none))))))] [(kT, .object "HornbookModel$Tree")] sz)) (va_Qi (fun (r : Int32) (_ : Unit) => r = 1) (fun (_ : Unit) => zEnd (dC, dI) (va_A [(h, .inr (18, [.int hd, .ref i])), (i, .inl (kT, 0, .inr (.inr (.inr (.inr (fun _ => none))))))] sz) [(h, .inr (18, [.int hd, .ref i])), (i, .inl (kT, 0, .inr (.inr (.inr (.inr (fun _ => none))))))] []) (va_A [(h, .inr (18, [.int hd, .ref i])), (i, .inl (kT, 0, .inr (.inr (.inr (.inr (fun _ => none))))))] sz)) 0 0 (va_A [(h, .inr (18, [.int hd, .ref i])), (i, .inl (kT, 0, .inr (.inr (.inr (.inr (fun _ => none))))))] sz) := by
  refine Met.ofW (cc := cX16_has) (maxL := 6) (ret := (some .boolean)) (by decide) rfl ?_
  intro p e s m args below meth c s₁ B hml hv
  obtain ⟨rfl, hsz, hP, hK, hD0, hE⟩ := hv
  have hx := B.exec
  have hb := B.bytes
  have hr := B.returns
  have hts := atoms_spec (ws := w_c_T_has_eq) B.pre
  have hown : s.vm.findClass RX16 = some m.cls := findClass_of_methodNamed B.named
  have hlocks := B.notSynchronized
  subst hsz
  have hD := hD0.self (sz := s.heap.size)
  generalize hAe : va_A [(h, .inr (18, [.int hd, .ref i])), (i, .inl (kT, 0, .inr (.inr (.inr (.inr (fun _ => none))))))] s.heap.size = A at hD hE ⊢
  have hA : ∀ q : Nat, s.heap.size ≤ q → A q := fun q h => by rw [← hAe]; exact Or.inr h
  have hS : va_S A s.heap s.heap [] := va_S.rf
  have hP : va_P (dC, dI) vwCl [(h, .inr (18, [.int hd, .ref i])), (i, .inl (kT, 0, .inr (.inr (.inr (.inr (fun _ => none))))))] s.heap := hP
  have hl := lv_entry ([.ref h, .int hd]) (n := 6) (Nat.le_of_ble_eq_true rfl)
  rw [lg_entry_eq]
  generalize (lg_sl ([.ref h, .int hd]) ++ List.replicate (6 - (lg_sl ([.ref h, .int hd])).length) Slot.unset).toArray = ls at hl ⊢
  have hl : lv_has ls 6 [(0, .ref h), (1, .int hd)] := hl
  have in_RX16 : ∀ w ∈ u_ws RX16 TX16 2, w ∈ w_c_T_has_eq := by decide +kernel
  refine lv_aload_n hx hb dX16_has_0 rfl (lv_at hl 0 rfl) ?_
  refine va_get (D := (dC, dI)) (ci := 18) (v := .int hd) (C := RX16) (T := TX16) (N := 2) hx hb hts in_RX16 hown hK hP 0 rfl rfl 0 (by decide) (hts (.fieldLink RX16 14 "HornbookModel$Tree" "head" "I") (by decide +kernel)) (fun _ h9 => h9) rfl dX16_has_1 ?_
  refine lv_iload_n hx hb dX16_has_4 rfl (lv_at hl 1 rfl) ?_
  refine lv_icmp_ne (tgt := 10) hx hb dX16_has_5 (by decide) (fun c_1 => ?_) (fun c_1 => ?_)
  · exact absurd rfl c_1
  refine lv_iconst (v := 1) hx hb dX16_has_8 (by decide) ?_
  have hP9 := hP.sub (ws' := [(h, .inr (18, [.int hd, .ref i])), (i, .inl (kT, 0, .inr (.inr (.inr (.inr (fun _ => none))))))]) [0, 1] rfl
  have hD9 := hD.sub (ws' := [(h, .inr (18, [.int hd, .ref i])), (i, .inl (kT, 0, .inr (.inr (.inr (.inr (fun _ => none))))))]) [0, 1] (by decide) rfl
  have hK9 := hK.sub (tys' := []) [] rfl
  refine W.widen (k := 0) (n := 0) (Nat.le_of_ble_eq_true rfl) (Nat.le_of_ble_eq_true rfl) ?_
  exact W.zret (v := 1) hx hb hr (by first | rfl | decide) (fun t ht hW => ⟨⟨1, (), rfl, rfl, ⟨by rw [ht]; exact hP9, va_K.moved hW.alike hK9, hD9⟩⟩, hS.F ht⟩) hS.2.2 dX16_has_9

def wb_c_T_has_ne : List Cond := [.fieldLink RX16 14 "HornbookModel$Tree" "head" "I", .fieldLink RX16 18 "HornbookModel$Tree" "inner" "[LHornbookModel$Tree;"] ++ u_ws RX16 TX16 2
def w_c_T_has_ne : List Cond := .code yX16_has cX16_has 6 (some .boolean) :: wb_c_T_has_ne
set_option maxHeartbeats 4000000 in
set_option maxRecDepth 100000 in
theorem c_T_has_ne (l : Launch) (eD eI : Nat) (ad : Nat → Nat) (dC : Nat → ClassId) (dI : Nat → Nat → Nat) (sz : Nat) (h : Nat) (i : Nat) (kT : ClassId) (hd : Int32) (w : Int32) (h1 : ¬ hd = w) : Met l yX16_has w_c_T_has_ne ({ frames := 0, cells := 0, slots := 0, locals := 0 }) (va_Pc [.ref h, .int w] (zPre eD eI ad (dC, dI) [(h, .inr (18, [.int hd, .ref i])), (i, .inl (kT, 0, .inr (.inr (.inr (.inr (fun _ => none))))))] [(kT, .object "HornbookModel$Tree")] sz)) (va_Qi (fun (r : Int32) (_ : Unit) => r = 0) (fun (_ : Unit) => zEnd (dC, dI) (va_A [(h, .inr (18, [.int hd, .ref i])), (i, .inl (kT, 0, .inr (.inr (.inr (.inr (fun _ => none))))))] sz) [(h, .inr (18, [.int hd, .ref i])), (i, .inl (kT, 0, .inr (.inr (.inr (.inr (fun _ => none))))))] []) (va_A [(h, .inr (18, [.int hd, .ref i])), (i, .inl (kT, 0, .inr (.inr (.inr (.inr (fun _ => none))))))] sz)) 0 0 (va_A [(h, .inr (18, [.int hd, .ref i])), (i, .inl (kT, 0, .inr (.inr (.inr (.inr (fun _ => none))))))] sz) := by
  refine Met.ofW (cc := cX16_has) (maxL := 6) (ret := (some .boolean)) (by decide) rfl ?_
  intro p e s m args below meth c s₁ B hml hv
  obtain ⟨rfl, hsz, hP, hK, hD0, hE⟩ := hv
  have hx := B.exec
  have hb := B.bytes
  have hr := B.returns
  have hts := atoms_spec (ws := w_c_T_has_ne) B.pre
  have hown : s.vm.findClass RX16 = some m.cls := findClass_of_methodNamed B.named
  have hlocks := B.notSynchronized
  subst hsz
  have hD := hD0.self (sz := s.heap.size)
  generalize hAe : va_A [(h, .inr (18, [.int hd, .ref i])), (i, .inl (kT, 0, .inr (.inr (.inr (.inr (fun _ => none))))))] s.heap.size = A at hD hE ⊢
  have hA : ∀ q : Nat, s.heap.size ≤ q → A q := fun q h => by rw [← hAe]; exact Or.inr h
  have hS : va_S A s.heap s.heap [] := va_S.rf
  have hP : va_P (dC, dI) vwCl [(h, .inr (18, [.int hd, .ref i])), (i, .inl (kT, 0, .inr (.inr (.inr (.inr (fun _ => none))))))] s.heap := hP
  have hl := lv_entry ([.ref h, .int w]) (n := 6) (Nat.le_of_ble_eq_true rfl)
  rw [lg_entry_eq]
  generalize (lg_sl ([.ref h, .int w]) ++ List.replicate (6 - (lg_sl ([.ref h, .int w])).length) Slot.unset).toArray = ls at hl ⊢
  have hl : lv_has ls 6 [(0, .ref h), (1, .int w)] := hl
  have in_RX16 : ∀ w ∈ u_ws RX16 TX16 2, w ∈ w_c_T_has_ne := by decide +kernel
  refine lv_aload_n hx hb dX16_has_0 rfl (lv_at hl 0 rfl) ?_
  refine va_get (D := (dC, dI)) (ci := 18) (v := .int hd) (C := RX16) (T := TX16) (N := 2) hx hb hts in_RX16 hown hK hP 0 rfl rfl 0 (by decide) (hts (.fieldLink RX16 14 "HornbookModel$Tree" "head" "I") (by decide +kernel)) (fun _ h9 => h9) rfl dX16_has_1 ?_
  refine lv_iload_n hx hb dX16_has_4 rfl (lv_at hl 1 rfl) ?_
  refine lv_icmp_ne (tgt := 10) hx hb dX16_has_5 (by decide) (fun c_1 => ?_) (fun c_1 => ?_)
  rotate_left
  · exact absurd c_1 h1
  refine lv_aload_n hx hb dX16_has_10 rfl (lv_at hl 0 rfl) ?_
  refine va_get (D := (dC, dI)) (ci := 18) (v := .ref i) (C := RX16) (T := TX16) (N := 2) hx hb hts in_RX16 hown hK hP 0 rfl rfl 1 (by decide) (hts (.fieldLink RX16 18 "HornbookModel$Tree" "inner" "[LHornbookModel$Tree;") (by decide +kernel)) (fun _ h9 => h9) rfl dX16_has_11 ?_
  refine lv_astore_n (lv' := [(2, .ref i), (0, .ref h), (1, .int w)]) hx hb dX16_has_14 rfl hl (by decide) rfl (fun ls hl => ?_)
  refine lv_aload_n hx hb dX16_has_15 rfl (lv_at hl 0 rfl) ?_
  refine va_alen (D := (dC, dI)) (v := 0) hx hb hK hP 1 0 rfl rfl rfl dX16_has_16 ?_
  refine lv_istore_n (lv' := [(3, .int 0), (2, .ref i), (0, .ref h), (1, .int w)]) hx hb dX16_has_17 rfl hl (by decide) rfl (fun ls hl => ?_)
  refine lv_iconst (v := 0) hx hb dX16_has_18 (by decide) ?_
  refine lv_istore (lv' := [(4, .int 0), (3, .int 0), (2, .ref i), (0, .ref h), (1, .int w)]) hx hb dX16_has_19 hl (by decide) rfl (fun ls hl => ?_)
  refine lv_iload hx hb dX16_has_21 (lv_at hl 0 rfl) ?_
  refine lv_iload_n hx hb dX16_has_23 rfl (lv_at hl 1 rfl) ?_
  refine lv_icmp_ge (tgt := 50) hx hb dX16_has_24 (by decide) (fun c_2 => ?_) (fun c_2 => ?_)
  rotate_left
  · exact absurd (by decide) c_2
  refine lv_iconst (v := 0) hx hb dX16_has_50 (by decide) ?_
  have hP9 := hP.sub (ws' := [(h, .inr (18, [.int hd, .ref i])), (i, .inl (kT, 0, .inr (.inr (.inr (.inr (fun _ => none))))))]) [0, 1] rfl
  have hD9 := hD.sub (ws' := [(h, .inr (18, [.int hd, .ref i])), (i, .inl (kT, 0, .inr (.inr (.inr (.inr (fun _ => none))))))]) [0, 1] (by decide) rfl
  have hK9 := hK.sub (tys' := []) [] rfl
  refine W.widen (k := 0) (n := 0) (Nat.le_of_ble_eq_true rfl) (Nat.le_of_ble_eq_true rfl) ?_
  exact W.zret (v := 0) hx hb hr (by first | rfl | decide) (fun t ht hW => ⟨⟨0, (), rfl, rfl, ⟨by rw [ht]; exact hP9, va_K.moved hW.alike hK9, hD9⟩⟩, hS.F ht⟩) hS.2.2 dX16_has_51

def wb_c_T_isClosed_1 : List Cond := [.code yX16_has cX16_has 6 (some .boolean), .fieldLink RX16 14 "HornbookModel$Tree" "head" "I", .fieldLink RX16 18 "HornbookModel$Tree" "inner" "[LHornbookModel$Tree;", .methodLink RX16 36 yX16_has, .instanceMethod yX16_has, .selects RX16 yX16_has yX16_has, .initialized RX16] ++ u_ws RX16 TX16 2
def w_c_T_isClosed_1 : List Cond := .code yX16_isClosed cX16_isClosed 1 (some .boolean) :: wb_c_T_isClosed_1
set_option maxRecDepth 100000 in
theorem g_c_T_isClosed_1_0 : GoodIn w_c_T_isClosed_1 (wsV RX16 36 RX16 yX16_has w_c_T_has_ne) := goodIn_app (goodIn_of _ (by decide +kernel)) (goodIn_p (big := w_c_T_isClosed_1) (.code yX16_has cX16_has 6 (some .boolean) :: wb_c_T_has_ne) [1] rfl (by decide +kernel))
set_option maxHeartbeats 4000000 in
set_option maxRecDepth 100000 in
theorem c_T_isClosed_1 (l : Launch) (eD eI : Nat) (ad : Nat → Nat) (dC : Nat → ClassId) (dI : Nat → Nat → Nat) (sz : Nat) (h : Nat) (i : Nat) (kT : ClassId) : Met l yX16_isClosed w_c_T_isClosed_1 ({ frames := 1, cells := 0, slots := 0, locals := 25 }) (va_Pc [.ref h] (zPre eD eI ad (dC, dI) [(h, .inr (18, [.int (-1), .ref i])), (i, .inl (kT, 0, .inr (.inr (.inr (.inr (fun _ => none))))))] [(kT, .object "HornbookModel$Tree")] sz)) (va_Qi (fun (r : Int32) (_ : Unit) => r = 1) (fun (_ : Unit) => zEnd (dC, dI) (va_A [(h, .inr (18, [.int (-1), .ref i])), (i, .inl (kT, 0, .inr (.inr (.inr (.inr (fun _ => none))))))] sz) [(h, .inr (18, [.int (-1), .ref i])), (i, .inl (kT, 0, .inr (.inr (.inr (.inr (fun _ => none))))))] []) (va_A [(h, .inr (18, [.int (-1), .ref i])), (i, .inl (kT, 0, .inr (.inr (.inr (.inr (fun _ => none))))))] sz)) 0 0 (va_A [(h, .inr (18, [.int (-1), .ref i])), (i, .inl (kT, 0, .inr (.inr (.inr (.inr (fun _ => none))))))] sz) := by
  refine Met.ofW (cc := cX16_isClosed) (maxL := 1) (ret := (some .boolean)) (by decide) rfl ?_
  intro p e s m args below meth c s₁ B hml hv
  obtain ⟨rfl, hsz, hP, hK, hD0, hE⟩ := hv
  have hx := B.exec
  have hb := B.bytes
  have hr := B.returns
  have hts := atoms_spec (ws := w_c_T_isClosed_1) B.pre
  have hown : s.vm.findClass RX16 = some m.cls := findClass_of_methodNamed B.named
  have hlocks := B.notSynchronized
  subst hsz
  have hD := hD0.self (sz := s.heap.size)
  generalize hAe : va_A [(h, .inr (18, [.int (-1), .ref i])), (i, .inl (kT, 0, .inr (.inr (.inr (.inr (fun _ => none))))))] s.heap.size = A at hD hE ⊢
  have hA : ∀ q : Nat, s.heap.size ≤ q → A q := fun q h => by rw [← hAe]; exact Or.inr h
  have hS : va_S A s.heap s.heap [] := va_S.rf
  have hP : va_P (dC, dI) vwCl [(h, .inr (18, [.int (-1), .ref i])), (i, .inl (kT, 0, .inr (.inr (.inr (.inr (fun _ => none))))))] s.heap := hP
  have hl := lv_entry ([.ref h]) (n := 1) (Nat.le_of_ble_eq_true rfl)
  rw [lg_entry_eq]
  generalize (lg_sl ([.ref h]) ++ List.replicate (1 - (lg_sl ([.ref h])).length) Slot.unset).toArray = ls at hl ⊢
  have hl : lv_has ls 1 [(0, .ref h)] := hl
  have in_RX16 : ∀ w ∈ u_ws RX16 TX16 2, w ∈ w_c_T_isClosed_1 := by decide +kernel
  refine lv_aload_n hx hb dX16_isClosed_0 rfl (lv_at hl 0 rfl) ?_
  refine lv_bipush (v := (-3)) hx hb dX16_isClosed_1 (by decide) ?_
  refine z_i (wr := []) (va_runV (As := [.int (-3)]) (rest := []) ⟨hx, hb, hml, hown, hts⟩ (c_T_has_ne l eD eI ad dC dI s.heap.size h i kT (-1) (-3) (by decide)) (cwV 1 hts g_c_T_isClosed_1_0 rfl rfl rfl (by decide +kernel) ⟨Nat.le_of_ble_eq_true rfl, Nat.le_of_ble_eq_true rfl⟩) (z_preV (wc := [(h, .inr (18, [.int (-1), .ref i])), (i, .inl (kT, 0, .inr (.inr (.inr (.inr (fun _ => none))))))]) hP hD hK hS hA hE [0, 1] [0] rfl (by decide) rfl (ci := 18) (q0 := 0) rfl rfl) rfl rfl hl.1 rfl (lv_room (Nat.le_of_ble_eq_true rfl)) dX16_isClosed_3 ⟨Nat.le_of_ble_eq_true rfl, Nat.le_of_ble_eq_true rfl⟩) hP hD hK hS hA [0, 1] [] rfl rfl (by decide) (by decide) (fun r_1 u H locs hw_2 hP hD hK hS => ?_)
  obtain ⟨⟩ := u
  have hP : va_P (dC, dI) vwCl [(h, .inr (18, [.int (-1), .ref i])), (i, .inl (kT, 0, .inr (.inr (.inr (.inr (fun _ => none))))))] H := hP
  have hD : va_D A [(h, .inr (18, [.int (-1), .ref i])), (i, .inl (kT, 0, .inr (.inr (.inr (.inr (fun _ => none))))))] := hD
  have hK : va_K (dC, dI) vwCl [(kT, .object "HornbookModel$Tree")] s := by simpa using hK
  have hw_2 : r_1 = 0 := hw_2
  have hw_2 := hw_2.symm
  subst hw_2
  refine lv_if_ne (tgt := 31) hx hb dX16_isClosed_6 (by decide) (fun c_3 => ?_) (fun c_3 => ?_)
  · exact absurd (by decide) c_3
  refine lv_aload_n hx hb dX16_isClosed_9 rfl (lv_at hl 0 rfl) ?_
  refine lv_bipush (v := (-4)) hx hb dX16_isClosed_10 (by decide) ?_
  refine z_i (wr := []) (va_runV (As := [.int (-4)]) (rest := []) ⟨hx, hb, hml, hown, hts⟩ (c_T_has_ne l eD eI ad dC dI H.size h i kT (-1) (-4) (by decide)) (cwV 1 hts g_c_T_isClosed_1_0 rfl rfl rfl (by decide +kernel) ⟨Nat.le_of_ble_eq_true rfl, Nat.le_of_ble_eq_true rfl⟩) (z_preV (wc := [(h, .inr (18, [.int (-1), .ref i])), (i, .inl (kT, 0, .inr (.inr (.inr (.inr (fun _ => none))))))]) hP hD hK hS hA hE [0, 1] [0] rfl (by decide) rfl (ci := 18) (q0 := 0) rfl rfl) rfl rfl hl.1 rfl (lv_room (Nat.le_of_ble_eq_true rfl)) dX16_isClosed_12 ⟨Nat.le_of_ble_eq_true rfl, Nat.le_of_ble_eq_true rfl⟩) hP hD hK hS hA [0, 1] [] rfl rfl (by decide) (by decide) (fun r_4 u H locs hw_5 hP hD hK hS => ?_)
  obtain ⟨⟩ := u
  have hP : va_P (dC, dI) vwCl [(h, .inr (18, [.int (-1), .ref i])), (i, .inl (kT, 0, .inr (.inr (.inr (.inr (fun _ => none))))))] H := hP
  have hD : va_D A [(h, .inr (18, [.int (-1), .ref i])), (i, .inl (kT, 0, .inr (.inr (.inr (.inr (fun _ => none))))))] := hD
  have hK : va_K (dC, dI) vwCl [(kT, .object "HornbookModel$Tree")] s := by simpa using hK
  have hw_5 : r_4 = 0 := hw_5
  have hw_5 := hw_5.symm
  subst hw_5
  refine lv_if_ne (tgt := 31) hx hb dX16_isClosed_15 (by decide) (fun c_6 => ?_) (fun c_6 => ?_)
  · exact absurd (by decide) c_6
  refine lv_aload_n hx hb dX16_isClosed_18 rfl (lv_at hl 0 rfl) ?_
  refine lv_bipush (v := (-5)) hx hb dX16_isClosed_19 (by decide) ?_
  refine z_i (wr := []) (va_runV (As := [.int (-5)]) (rest := []) ⟨hx, hb, hml, hown, hts⟩ (c_T_has_ne l eD eI ad dC dI H.size h i kT (-1) (-5) (by decide)) (cwV 1 hts g_c_T_isClosed_1_0 rfl rfl rfl (by decide +kernel) ⟨Nat.le_of_ble_eq_true rfl, Nat.le_of_ble_eq_true rfl⟩) (z_preV (wc := [(h, .inr (18, [.int (-1), .ref i])), (i, .inl (kT, 0, .inr (.inr (.inr (.inr (fun _ => none))))))]) hP hD hK hS hA hE [0, 1] [0] rfl (by decide) rfl (ci := 18) (q0 := 0) rfl rfl) rfl rfl hl.1 rfl (lv_room (Nat.le_of_ble_eq_true rfl)) dX16_isClosed_21 ⟨Nat.le_of_ble_eq_true rfl, Nat.le_of_ble_eq_true rfl⟩) hP hD hK hS hA [0, 1] [] rfl rfl (by decide) (by decide) (fun r_7 u H locs hw_8 hP hD hK hS => ?_)
  obtain ⟨⟩ := u
  have hP : va_P (dC, dI) vwCl [(h, .inr (18, [.int (-1), .ref i])), (i, .inl (kT, 0, .inr (.inr (.inr (.inr (fun _ => none))))))] H := hP
  have hD : va_D A [(h, .inr (18, [.int (-1), .ref i])), (i, .inl (kT, 0, .inr (.inr (.inr (.inr (fun _ => none))))))] := hD
  have hK : va_K (dC, dI) vwCl [(kT, .object "HornbookModel$Tree")] s := by simpa using hK
  have hw_8 : r_7 = 0 := hw_8
  have hw_8 := hw_8.symm
  subst hw_8
  refine lv_if_ne (tgt := 31) hx hb dX16_isClosed_24 (by decide) (fun c_9 => ?_) (fun c_9 => ?_)
  · exact absurd (by decide) c_9
  refine lv_iconst (v := 1) hx hb dX16_isClosed_27 (by decide) ?_
  refine lv_goto (tgt := 32) hx hb dX16_isClosed_28 (by decide) ?_
  have hP9 := hP.sub (ws' := [(h, .inr (18, [.int (-1), .ref i])), (i, .inl (kT, 0, .inr (.inr (.inr (.inr (fun _ => none))))))]) [0, 1] rfl
  have hD9 := hD.sub (ws' := [(h, .inr (18, [.int (-1), .ref i])), (i, .inl (kT, 0, .inr (.inr (.inr (.inr (fun _ => none))))))]) [0, 1] (by decide) rfl
  have hK9 := hK.sub (tys' := []) [] rfl
  refine W.widen (k := 0) (n := 0) (Nat.le_of_ble_eq_true rfl) (Nat.le_of_ble_eq_true rfl) ?_
  exact W.zret (v := 1) hx hb hr (by first | rfl | decide) (fun t ht hW => ⟨⟨1, (), rfl, rfl, ⟨by rw [ht]; exact hP9, va_K.moved hW.alike hK9, hD9⟩⟩, hS.F ht⟩) hS.2.2 dX16_isClosed_32

def wb_c_T_isClosed_2 : List Cond := [.code yX16_has cX16_has 6 (some .boolean), .fieldLink RX16 14 "HornbookModel$Tree" "head" "I", .fieldLink RX16 18 "HornbookModel$Tree" "inner" "[LHornbookModel$Tree;", .methodLink RX16 36 yX16_has, .instanceMethod yX16_has, .selects RX16 yX16_has yX16_has, .initialized RX16] ++ u_ws RX16 TX16 2
def w_c_T_isClosed_2 : List Cond := .code yX16_isClosed cX16_isClosed 1 (some .boolean) :: wb_c_T_isClosed_2
set_option maxRecDepth 100000 in
theorem g_c_T_isClosed_2_0 : GoodIn w_c_T_isClosed_2 (wsV RX16 36 RX16 yX16_has w_c_T_has_ne) := goodIn_app (goodIn_of _ (by decide +kernel)) (goodIn_p (big := w_c_T_isClosed_2) (.code yX16_has cX16_has 6 (some .boolean) :: wb_c_T_has_ne) [1] rfl (by decide +kernel))
set_option maxHeartbeats 4000000 in
set_option maxRecDepth 100000 in
theorem c_T_isClosed_2 (l : Launch) (eD eI : Nat) (ad : Nat → Nat) (dC : Nat → ClassId) (dI : Nat → Nat → Nat) (sz : Nat) (h : Nat) (i : Nat) (kT : ClassId) : Met l yX16_isClosed w_c_T_isClosed_2 ({ frames := 1, cells := 0, slots := 0, locals := 25 }) (va_Pc [.ref h] (zPre eD eI ad (dC, dI) [(h, .inr (18, [.int (-2), .ref i])), (i, .inl (kT, 0, .inr (.inr (.inr (.inr (fun _ => none))))))] [(kT, .object "HornbookModel$Tree")] sz)) (va_Qi (fun (r : Int32) (_ : Unit) => r = 1) (fun (_ : Unit) => zEnd (dC, dI) (va_A [(h, .inr (18, [.int (-2), .ref i])), (i, .inl (kT, 0, .inr (.inr (.inr (.inr (fun _ => none))))))] sz) [(h, .inr (18, [.int (-2), .ref i])), (i, .inl (kT, 0, .inr (.inr (.inr (.inr (fun _ => none))))))] []) (va_A [(h, .inr (18, [.int (-2), .ref i])), (i, .inl (kT, 0, .inr (.inr (.inr (.inr (fun _ => none))))))] sz)) 0 0 (va_A [(h, .inr (18, [.int (-2), .ref i])), (i, .inl (kT, 0, .inr (.inr (.inr (.inr (fun _ => none))))))] sz) := by
  refine Met.ofW (cc := cX16_isClosed) (maxL := 1) (ret := (some .boolean)) (by decide) rfl ?_
  intro p e s m args below meth c s₁ B hml hv
  obtain ⟨rfl, hsz, hP, hK, hD0, hE⟩ := hv
  have hx := B.exec
  have hb := B.bytes
  have hr := B.returns
  have hts := atoms_spec (ws := w_c_T_isClosed_2) B.pre
  have hown : s.vm.findClass RX16 = some m.cls := findClass_of_methodNamed B.named
  have hlocks := B.notSynchronized
  subst hsz
  have hD := hD0.self (sz := s.heap.size)
  generalize hAe : va_A [(h, .inr (18, [.int (-2), .ref i])), (i, .inl (kT, 0, .inr (.inr (.inr (.inr (fun _ => none))))))] s.heap.size = A at hD hE ⊢
  have hA : ∀ q : Nat, s.heap.size ≤ q → A q := fun q h => by rw [← hAe]; exact Or.inr h
  have hS : va_S A s.heap s.heap [] := va_S.rf
  have hP : va_P (dC, dI) vwCl [(h, .inr (18, [.int (-2), .ref i])), (i, .inl (kT, 0, .inr (.inr (.inr (.inr (fun _ => none))))))] s.heap := hP
  have hl := lv_entry ([.ref h]) (n := 1) (Nat.le_of_ble_eq_true rfl)
  rw [lg_entry_eq]
  generalize (lg_sl ([.ref h]) ++ List.replicate (1 - (lg_sl ([.ref h])).length) Slot.unset).toArray = ls at hl ⊢
  have hl : lv_has ls 1 [(0, .ref h)] := hl
  have in_RX16 : ∀ w ∈ u_ws RX16 TX16 2, w ∈ w_c_T_isClosed_2 := by decide +kernel
  refine lv_aload_n hx hb dX16_isClosed_0 rfl (lv_at hl 0 rfl) ?_
  refine lv_bipush (v := (-3)) hx hb dX16_isClosed_1 (by decide) ?_
  refine z_i (wr := []) (va_runV (As := [.int (-3)]) (rest := []) ⟨hx, hb, hml, hown, hts⟩ (c_T_has_ne l eD eI ad dC dI s.heap.size h i kT (-2) (-3) (by decide)) (cwV 1 hts g_c_T_isClosed_2_0 rfl rfl rfl (by decide +kernel) ⟨Nat.le_of_ble_eq_true rfl, Nat.le_of_ble_eq_true rfl⟩) (z_preV (wc := [(h, .inr (18, [.int (-2), .ref i])), (i, .inl (kT, 0, .inr (.inr (.inr (.inr (fun _ => none))))))]) hP hD hK hS hA hE [0, 1] [0] rfl (by decide) rfl (ci := 18) (q0 := 0) rfl rfl) rfl rfl hl.1 rfl (lv_room (Nat.le_of_ble_eq_true rfl)) dX16_isClosed_3 ⟨Nat.le_of_ble_eq_true rfl, Nat.le_of_ble_eq_true rfl⟩) hP hD hK hS hA [0, 1] [] rfl rfl (by decide) (by decide) (fun r_1 u H locs hw_2 hP hD hK hS => ?_)
  obtain ⟨⟩ := u
  have hP : va_P (dC, dI) vwCl [(h, .inr (18, [.int (-2), .ref i])), (i, .inl (kT, 0, .inr (.inr (.inr (.inr (fun _ => none))))))] H := hP
  have hD : va_D A [(h, .inr (18, [.int (-2), .ref i])), (i, .inl (kT, 0, .inr (.inr (.inr (.inr (fun _ => none))))))] := hD
  have hK : va_K (dC, dI) vwCl [(kT, .object "HornbookModel$Tree")] s := by simpa using hK
  have hw_2 : r_1 = 0 := hw_2
  have hw_2 := hw_2.symm
  subst hw_2
  refine lv_if_ne (tgt := 31) hx hb dX16_isClosed_6 (by decide) (fun c_3 => ?_) (fun c_3 => ?_)
  · exact absurd (by decide) c_3
  refine lv_aload_n hx hb dX16_isClosed_9 rfl (lv_at hl 0 rfl) ?_
  refine lv_bipush (v := (-4)) hx hb dX16_isClosed_10 (by decide) ?_
  refine z_i (wr := []) (va_runV (As := [.int (-4)]) (rest := []) ⟨hx, hb, hml, hown, hts⟩ (c_T_has_ne l eD eI ad dC dI H.size h i kT (-2) (-4) (by decide)) (cwV 1 hts g_c_T_isClosed_2_0 rfl rfl rfl (by decide +kernel) ⟨Nat.le_of_ble_eq_true rfl, Nat.le_of_ble_eq_true rfl⟩) (z_preV (wc := [(h, .inr (18, [.int (-2), .ref i])), (i, .inl (kT, 0, .inr (.inr (.inr (.inr (fun _ => none))))))]) hP hD hK hS hA hE [0, 1] [0] rfl (by decide) rfl (ci := 18) (q0 := 0) rfl rfl) rfl rfl hl.1 rfl (lv_room (Nat.le_of_ble_eq_true rfl)) dX16_isClosed_12 ⟨Nat.le_of_ble_eq_true rfl, Nat.le_of_ble_eq_true rfl⟩) hP hD hK hS hA [0, 1] [] rfl rfl (by decide) (by decide) (fun r_4 u H locs hw_5 hP hD hK hS => ?_)
  obtain ⟨⟩ := u
  have hP : va_P (dC, dI) vwCl [(h, .inr (18, [.int (-2), .ref i])), (i, .inl (kT, 0, .inr (.inr (.inr (.inr (fun _ => none))))))] H := hP
  have hD : va_D A [(h, .inr (18, [.int (-2), .ref i])), (i, .inl (kT, 0, .inr (.inr (.inr (.inr (fun _ => none))))))] := hD
  have hK : va_K (dC, dI) vwCl [(kT, .object "HornbookModel$Tree")] s := by simpa using hK
  have hw_5 : r_4 = 0 := hw_5
  have hw_5 := hw_5.symm
  subst hw_5
  refine lv_if_ne (tgt := 31) hx hb dX16_isClosed_15 (by decide) (fun c_6 => ?_) (fun c_6 => ?_)
  · exact absurd (by decide) c_6
  refine lv_aload_n hx hb dX16_isClosed_18 rfl (lv_at hl 0 rfl) ?_
  refine lv_bipush (v := (-5)) hx hb dX16_isClosed_19 (by decide) ?_
  refine z_i (wr := []) (va_runV (As := [.int (-5)]) (rest := []) ⟨hx, hb, hml, hown, hts⟩ (c_T_has_ne l eD eI ad dC dI H.size h i kT (-2) (-5) (by decide)) (cwV 1 hts g_c_T_isClosed_2_0 rfl rfl rfl (by decide +kernel) ⟨Nat.le_of_ble_eq_true rfl, Nat.le_of_ble_eq_true rfl⟩) (z_preV (wc := [(h, .inr (18, [.int (-2), .ref i])), (i, .inl (kT, 0, .inr (.inr (.inr (.inr (fun _ => none))))))]) hP hD hK hS hA hE [0, 1] [0] rfl (by decide) rfl (ci := 18) (q0 := 0) rfl rfl) rfl rfl hl.1 rfl (lv_room (Nat.le_of_ble_eq_true rfl)) dX16_isClosed_21 ⟨Nat.le_of_ble_eq_true rfl, Nat.le_of_ble_eq_true rfl⟩) hP hD hK hS hA [0, 1] [] rfl rfl (by decide) (by decide) (fun r_7 u H locs hw_8 hP hD hK hS => ?_)
  obtain ⟨⟩ := u
  have hP : va_P (dC, dI) vwCl [(h, .inr (18, [.int (-2), .ref i])), (i, .inl (kT, 0, .inr (.inr (.inr (.inr (fun _ => none))))))] H := hP
  have hD : va_D A [(h, .inr (18, [.int (-2), .ref i])), (i, .inl (kT, 0, .inr (.inr (.inr (.inr (fun _ => none))))))] := hD
  have hK : va_K (dC, dI) vwCl [(kT, .object "HornbookModel$Tree")] s := by simpa using hK
  have hw_8 : r_7 = 0 := hw_8
  have hw_8 := hw_8.symm
  subst hw_8
  refine lv_if_ne (tgt := 31) hx hb dX16_isClosed_24 (by decide) (fun c_9 => ?_) (fun c_9 => ?_)
  · exact absurd (by decide) c_9
  refine lv_iconst (v := 1) hx hb dX16_isClosed_27 (by decide) ?_
  refine lv_goto (tgt := 32) hx hb dX16_isClosed_28 (by decide) ?_
  have hP9 := hP.sub (ws' := [(h, .inr (18, [.int (-2), .ref i])), (i, .inl (kT, 0, .inr (.inr (.inr (.inr (fun _ => none))))))]) [0, 1] rfl
  have hD9 := hD.sub (ws' := [(h, .inr (18, [.int (-2), .ref i])), (i, .inl (kT, 0, .inr (.inr (.inr (.inr (fun _ => none))))))]) [0, 1] (by decide) rfl
  have hK9 := hK.sub (tys' := []) [] rfl
  refine W.widen (k := 0) (n := 0) (Nat.le_of_ble_eq_true rfl) (Nat.le_of_ble_eq_true rfl) ?_
  exact W.zret (v := 1) hx hb hr (by first | rfl | decide) (fun t ht hW => ⟨⟨1, (), rfl, rfl, ⟨by rw [ht]; exact hP9, va_K.moved hW.alike hK9, hD9⟩⟩, hS.F ht⟩) hS.2.2 dX16_isClosed_32

def wb_c_T_isClosed_3 : List Cond := [.code yX16_has cX16_has 6 (some .boolean), .fieldLink RX16 14 "HornbookModel$Tree" "head" "I", .methodLink RX16 36 yX16_has, .instanceMethod yX16_has, .selects RX16 yX16_has yX16_has, .initialized RX16] ++ u_ws RX16 TX16 2
def w_c_T_isClosed_3 : List Cond := .code yX16_isClosed cX16_isClosed 1 (some .boolean) :: wb_c_T_isClosed_3
set_option maxRecDepth 100000 in
theorem g_c_T_isClosed_3_0 : GoodIn w_c_T_isClosed_3 (wsV RX16 36 RX16 yX16_has w_c_T_has_eq) := goodIn_app (goodIn_of _ (by decide +kernel)) (goodIn_p (big := w_c_T_isClosed_3) (.code yX16_has cX16_has 6 (some .boolean) :: wb_c_T_has_eq) [1] rfl (by decide +kernel))
set_option maxHeartbeats 4000000 in
set_option maxRecDepth 100000 in
theorem c_T_isClosed_3 (l : Launch) (eD eI : Nat) (ad : Nat → Nat) (dC : Nat → ClassId) (dI : Nat → Nat → Nat) (sz : Nat) (h : Nat) (i : Nat) (kT : ClassId) : Met l yX16_isClosed w_c_T_isClosed_3 ({ frames := 1, cells := 0, slots := 0, locals := 25 }) (va_Pc [.ref h] (zPre eD eI ad (dC, dI) [(h, .inr (18, [.int (-3), .ref i])), (i, .inl (kT, 0, .inr (.inr (.inr (.inr (fun _ => none))))))] [(kT, .object "HornbookModel$Tree")] sz)) (va_Qi (fun (r : Int32) (_ : Unit) => r = 0) (fun (_ : Unit) => zEnd (dC, dI) (va_A [(h, .inr (18, [.int (-3), .ref i])), (i, .inl (kT, 0, .inr (.inr (.inr (.inr (fun _ => none))))))] sz) [(h, .inr (18, [.int (-3), .ref i])), (i, .inl (kT, 0, .inr (.inr (.inr (.inr (fun _ => none))))))] []) (va_A [(h, .inr (18, [.int (-3), .ref i])), (i, .inl (kT, 0, .inr (.inr (.inr (.inr (fun _ => none))))))] sz)) 0 0 (va_A [(h, .inr (18, [.int (-3), .ref i])), (i, .inl (kT, 0, .inr (.inr (.inr (.inr (fun _ => none))))))] sz) := by
  refine Met.ofW (cc := cX16_isClosed) (maxL := 1) (ret := (some .boolean)) (by decide) rfl ?_
  intro p e s m args below meth c s₁ B hml hv
  obtain ⟨rfl, hsz, hP, hK, hD0, hE⟩ := hv
  have hx := B.exec
  have hb := B.bytes
  have hr := B.returns
  have hts := atoms_spec (ws := w_c_T_isClosed_3) B.pre
  have hown : s.vm.findClass RX16 = some m.cls := findClass_of_methodNamed B.named
  have hlocks := B.notSynchronized
  subst hsz
  have hD := hD0.self (sz := s.heap.size)
  generalize hAe : va_A [(h, .inr (18, [.int (-3), .ref i])), (i, .inl (kT, 0, .inr (.inr (.inr (.inr (fun _ => none))))))] s.heap.size = A at hD hE ⊢
  have hA : ∀ q : Nat, s.heap.size ≤ q → A q := fun q h => by rw [← hAe]; exact Or.inr h
  have hS : va_S A s.heap s.heap [] := va_S.rf
  have hP : va_P (dC, dI) vwCl [(h, .inr (18, [.int (-3), .ref i])), (i, .inl (kT, 0, .inr (.inr (.inr (.inr (fun _ => none))))))] s.heap := hP
  have hl := lv_entry ([.ref h]) (n := 1) (Nat.le_of_ble_eq_true rfl)
  rw [lg_entry_eq]
  generalize (lg_sl ([.ref h]) ++ List.replicate (1 - (lg_sl ([.ref h])).length) Slot.unset).toArray = ls at hl ⊢
  have hl : lv_has ls 1 [(0, .ref h)] := hl
  have in_RX16 : ∀ w ∈ u_ws RX16 TX16 2, w ∈ w_c_T_isClosed_3 := by decide +kernel
  refine lv_aload_n hx hb dX16_isClosed_0 rfl (lv_at hl 0 rfl) ?_
  refine lv_bipush (v := (-3)) hx hb dX16_isClosed_1 (by decide) ?_
  refine z_i (wr := []) (va_runV (As := [.int (-3)]) (rest := []) ⟨hx, hb, hml, hown, hts⟩ (c_T_has_eq l eD eI ad dC dI s.heap.size h i kT (-3)) (cwV 1 hts g_c_T_isClosed_3_0 rfl rfl rfl (by decide +kernel) ⟨Nat.le_of_ble_eq_true rfl, Nat.le_of_ble_eq_true rfl⟩) (z_preV (wc := [(h, .inr (18, [.int (-3), .ref i])), (i, .inl (kT, 0, .inr (.inr (.inr (.inr (fun _ => none))))))]) hP hD hK hS hA hE [0, 1] [0] rfl (by decide) rfl (ci := 18) (q0 := 0) rfl rfl) rfl rfl hl.1 rfl (lv_room (Nat.le_of_ble_eq_true rfl)) dX16_isClosed_3 ⟨Nat.le_of_ble_eq_true rfl, Nat.le_of_ble_eq_true rfl⟩) hP hD hK hS hA [0, 1] [] rfl rfl (by decide) (by decide) (fun r_1 u H locs hw_2 hP hD hK hS => ?_)
  obtain ⟨⟩ := u
  have hP : va_P (dC, dI) vwCl [(h, .inr (18, [.int (-3), .ref i])), (i, .inl (kT, 0, .inr (.inr (.inr (.inr (fun _ => none))))))] H := hP
  have hD : va_D A [(h, .inr (18, [.int (-3), .ref i])), (i, .inl (kT, 0, .inr (.inr (.inr (.inr (fun _ => none))))))] := hD
  have hK : va_K (dC, dI) vwCl [(kT, .object "HornbookModel$Tree")] s := by simpa using hK
  have hw_2 : r_1 = 1 := hw_2
  have hw_2 := hw_2.symm
  subst hw_2
  refine lv_if_ne (tgt := 31) hx hb dX16_isClosed_6 (by decide) (fun c_3 => ?_) (fun c_3 => ?_)
  rotate_left
  · exact absurd c_3 (by decide)
  refine lv_iconst (v := 0) hx hb dX16_isClosed_31 (by decide) ?_
  have hP9 := hP.sub (ws' := [(h, .inr (18, [.int (-3), .ref i])), (i, .inl (kT, 0, .inr (.inr (.inr (.inr (fun _ => none))))))]) [0, 1] rfl
  have hD9 := hD.sub (ws' := [(h, .inr (18, [.int (-3), .ref i])), (i, .inl (kT, 0, .inr (.inr (.inr (.inr (fun _ => none))))))]) [0, 1] (by decide) rfl
  have hK9 := hK.sub (tys' := []) [] rfl
  refine W.widen (k := 0) (n := 0) (Nat.le_of_ble_eq_true rfl) (Nat.le_of_ble_eq_true rfl) ?_
  exact W.zret (v := 0) hx hb hr (by first | rfl | decide) (fun t ht hW => ⟨⟨0, (), rfl, rfl, ⟨by rw [ht]; exact hP9, va_K.moved hW.alike hK9, hD9⟩⟩, hS.F ht⟩) hS.2.2 dX16_isClosed_32

def wb_c_T_isSame_self : List Cond := [.fieldLink RX16 14 "HornbookModel$Tree" "head" "I", .fieldLink RX16 18 "HornbookModel$Tree" "inner" "[LHornbookModel$Tree;"] ++ u_ws RX16 TX16 2
def w_c_T_isSame_self : List Cond := .code yX16_isSame cX16_isSame 3 (some .boolean) :: wb_c_T_isSame_self
set_option maxHeartbeats 4000000 in
set_option maxRecDepth 100000 in
theorem c_T_isSame_self (l : Launch) (eD eI : Nat) (ad : Nat → Nat) (dC : Nat → ClassId) (dI : Nat → Nat → Nat) (sz : Nat) (h : Nat) (i : Nat) (kT : ClassId) (hd : Int32) : Met l yX16_isSame w_c_T_isSame_self ({ frames := 0, cells := 0, slots := 0, locals := 0 }) (va_Pc [.ref h, .ref h] (zPre eD eI ad (dC, dI) [(h, .inr (18, [.int hd, .ref i])), (i, .inl (kT, 0, .inr (.inr (.inr (.inr (fun _ => none))))))] [(kT, .object "HornbookModel$Tree")] sz)) (va_Qi (fun (r : Int32) (_ : Unit) => r = 1) (fun (_ : Unit) => zEnd (dC, dI) (va_A [(h, .inr (18, [.int hd, .ref i])), (i, .inl (kT, 0, .inr (.inr (.inr (.inr (fun _ => none))))))] sz) [(h, .inr (18, [.int hd, .ref i])), (i, .inl (kT, 0, .inr (.inr (.inr (.inr (fun _ => none))))))] []) (va_A [(h, .inr (18, [.int hd, .ref i])), (i, .inl (kT, 0, .inr (.inr (.inr (.inr (fun _ => none))))))] sz)) 0 0 (va_A [(h, .inr (18, [.int hd, .ref i])), (i, .inl (kT, 0, .inr (.inr (.inr (.inr (fun _ => none))))))] sz) := by
  refine Met.ofW (cc := cX16_isSame) (maxL := 3) (ret := (some .boolean)) (by decide) rfl ?_
  intro p e s m args below meth c s₁ B hml hv
  obtain ⟨rfl, hsz, hP, hK, hD0, hE⟩ := hv
  have hx := B.exec
  have hb := B.bytes
  have hr := B.returns
  have hts := atoms_spec (ws := w_c_T_isSame_self) B.pre
  have hown : s.vm.findClass RX16 = some m.cls := findClass_of_methodNamed B.named
  have hlocks := B.notSynchronized
  subst hsz
  have hD := hD0.self (sz := s.heap.size)
  generalize hAe : va_A [(h, .inr (18, [.int hd, .ref i])), (i, .inl (kT, 0, .inr (.inr (.inr (.inr (fun _ => none))))))] s.heap.size = A at hD hE ⊢
  have hA : ∀ q : Nat, s.heap.size ≤ q → A q := fun q h => by rw [← hAe]; exact Or.inr h
  have hS : va_S A s.heap s.heap [] := va_S.rf
  have hP : va_P (dC, dI) vwCl [(h, .inr (18, [.int hd, .ref i])), (i, .inl (kT, 0, .inr (.inr (.inr (.inr (fun _ => none))))))] s.heap := hP
  have hl := lv_entry ([.ref h, .ref h]) (n := 3) (Nat.le_of_ble_eq_true rfl)
  rw [lg_entry_eq]
  generalize (lg_sl ([.ref h, .ref h]) ++ List.replicate (3 - (lg_sl ([.ref h, .ref h])).length) Slot.unset).toArray = ls at hl ⊢
  have hl : lv_has ls 3 [(0, .ref h), (1, .ref h)] := hl
  have in_RX16 : ∀ w ∈ u_ws RX16 TX16 2, w ∈ w_c_T_isSame_self := by decide +kernel
  refine lv_aload_n hx hb dX16_isSame_0 rfl (lv_at hl 0 rfl) ?_
  refine va_get (D := (dC, dI)) (ci := 18) (v := .int hd) (C := RX16) (T := TX16) (N := 2) hx hb hts in_RX16 hown hK hP 0 rfl rfl 0 (by decide) (hts (.fieldLink RX16 14 "HornbookModel$Tree" "head" "I") (by decide +kernel)) (fun _ h9 => h9) rfl dX16_isSame_1 ?_
  refine lv_aload_n hx hb dX16_isSame_4 rfl (lv_at hl 1 rfl) ?_
  refine va_get (D := (dC, dI)) (ci := 18) (v := .int hd) (C := RX16) (T := TX16) (N := 2) hx hb hts in_RX16 hown hK hP 0 rfl rfl 0 (by decide) (hts (.fieldLink RX16 14 "HornbookModel$Tree" "head" "I") (by decide +kernel)) (fun _ h9 => h9) rfl dX16_isSame_5 ?_
  refine lv_icmp_eq (tgt := 13) hx hb dX16_isSame_8 (by decide) (fun c_1 => ?_) (fun c_1 => ?_)
  rotate_left
  · exact absurd rfl c_1
  refine lv_iconst (v := 0) hx hb dX16_isSame_13 (by decide) ?_
  refine lv_istore_n (lv' := [(2, .int 0), (0, .ref h), (1, .ref h)]) hx hb dX16_isSame_14 rfl hl (by decide) rfl (fun ls hl => ?_)
  refine lv_iload_n hx hb dX16_isSame_15 rfl (lv_at hl 0 rfl) ?_
  refine lv_aload_n hx hb dX16_isSame_16 rfl (lv_at hl 1 rfl) ?_
  refine va_get (D := (dC, dI)) (ci := 18) (v := .ref i) (C := RX16) (T := TX16) (N := 2) hx hb hts in_RX16 hown hK hP 0 rfl rfl 1 (by decide) (hts (.fieldLink RX16 18 "HornbookModel$Tree" "inner" "[LHornbookModel$Tree;") (by decide +kernel)) (fun _ h9 => h9) rfl dX16_isSame_17 ?_
  refine va_alen (D := (dC, dI)) (v := 0) hx hb hK hP 1 0 rfl rfl rfl dX16_isSame_20 ?_
  refine lv_icmp_ge (tgt := 50) hx hb dX16_isSame_21 (by decide) (fun c_2 => ?_) (fun c_2 => ?_)
  rotate_left
  · exact absurd (by decide) c_2
  refine lv_iconst (v := 1) hx hb dX16_isSame_50 (by decide) ?_
  have hP9 := hP.sub (ws' := [(h, .inr (18, [.int hd, .ref i])), (i, .inl (kT, 0, .inr (.inr (.inr (.inr (fun _ => none))))))]) [0, 1] rfl
  have hD9 := hD.sub (ws' := [(h, .inr (18, [.int hd, .ref i])), (i, .inl (kT, 0, .inr (.inr (.inr (.inr (fun _ => none))))))]) [0, 1] (by decide) rfl
  have hK9 := hK.sub (tys' := []) [] rfl
  refine W.widen (k := 0) (n := 0) (Nat.le_of_ble_eq_true rfl) (Nat.le_of_ble_eq_true rfl) ?_
  exact W.zret (v := 1) hx hb hr (by first | rfl | decide) (fun t ht hW => ⟨⟨1, (), rfl, rfl, ⟨by rw [ht]; exact hP9, va_K.moved hW.alike hK9, hD9⟩⟩, hS.F ht⟩) hS.2.2 dX16_isSame_51

def wb_c_T_isSame_ne : List Cond := [.fieldLink RX16 14 "HornbookModel$Tree" "head" "I"] ++ u_ws RX16 TX16 2
def w_c_T_isSame_ne : List Cond := .code yX16_isSame cX16_isSame 3 (some .boolean) :: wb_c_T_isSame_ne
set_option maxHeartbeats 4000000 in
set_option maxRecDepth 100000 in
theorem c_T_isSame_ne (l : Launch) (eD eI : Nat) (ad : Nat → Nat) (dC : Nat → ClassId) (dI : Nat → Nat → Nat) (sz : Nat) (h : Nat) (hd : Int32) (f1 : Value) (h2 : Nat) (hd2 : Int32) (f2 : Value) (h1 : ¬ hd = hd2) : Met l yX16_isSame w_c_T_isSame_ne ({ frames := 0, cells := 0, slots := 0, locals := 0 }) (va_Pc [.ref h, .ref h2] (zPre eD eI ad (dC, dI) [(h, .inr (18, [.int hd, f1])), (h2, .inr (18, [.int hd2, f2]))] [] sz)) (va_Qi (fun (r : Int32) (_ : Unit) => r = 0) (fun (_ : Unit) => zEnd (dC, dI) (va_A [(h, .inr (18, [.int hd, f1])), (h2, .inr (18, [.int hd2, f2]))] sz) [(h, .inr (18, [.int hd, f1])), (h2, .inr (18, [.int hd2, f2]))] []) (va_A [(h, .inr (18, [.int hd, f1])), (h2, .inr (18, [.int hd2, f2]))] sz)) 0 0 (va_A [(h, .inr (18, [.int hd, f1])), (h2, .inr (18, [.int hd2, f2]))] sz) := by
  refine Met.ofW (cc := cX16_isSame) (maxL := 3) (ret := (some .boolean)) (by decide) rfl ?_
  intro p e s m args below meth c s₁ B hml hv
  obtain ⟨rfl, hsz, hP, hK, hD0, hE⟩ := hv
  have hx := B.exec
  have hb := B.bytes
  have hr := B.returns
  have hts := atoms_spec (ws := w_c_T_isSame_ne) B.pre
  have hown : s.vm.findClass RX16 = some m.cls := findClass_of_methodNamed B.named
  have hlocks := B.notSynchronized
  subst hsz
  have hD := hD0.self (sz := s.heap.size)
  generalize hAe : va_A [(h, .inr (18, [.int hd, f1])), (h2, .inr (18, [.int hd2, f2]))] s.heap.size = A at hD hE ⊢
  have hA : ∀ q : Nat, s.heap.size ≤ q → A q := fun q h => by rw [← hAe]; exact Or.inr h
  have hS : va_S A s.heap s.heap [] := va_S.rf
  have hP : va_P (dC, dI) vwCl [(h, .inr (18, [.int hd, f1])), (h2, .inr (18, [.int hd2, f2]))] s.heap := hP
  have hl := lv_entry ([.ref h, .ref h2]) (n := 3) (Nat.le_of_ble_eq_true rfl)
  rw [lg_entry_eq]
  generalize (lg_sl ([.ref h, .ref h2]) ++ List.replicate (3 - (lg_sl ([.ref h, .ref h2])).length) Slot.unset).toArray = ls at hl ⊢
  have hl : lv_has ls 3 [(0, .ref h), (1, .ref h2)] := hl
  have in_RX16 : ∀ w ∈ u_ws RX16 TX16 2, w ∈ w_c_T_isSame_ne := by decide +kernel
  refine lv_aload_n hx hb dX16_isSame_0 rfl (lv_at hl 0 rfl) ?_
  refine va_get (D := (dC, dI)) (ci := 18) (v := .int hd) (C := RX16) (T := TX16) (N := 2) hx hb hts in_RX16 hown hK hP 0 rfl rfl 0 (by decide) (hts (.fieldLink RX16 14 "HornbookModel$Tree" "head" "I") (by decide +kernel)) (fun _ h9 => h9) rfl dX16_isSame_1 ?_
  refine lv_aload_n hx hb dX16_isSame_4 rfl (lv_at hl 1 rfl) ?_
  refine va_get (D := (dC, dI)) (ci := 18) (v := .int hd2) (C := RX16) (T := TX16) (N := 2) hx hb hts in_RX16 hown hK hP 1 rfl rfl 0 (by decide) (hts (.fieldLink RX16 14 "HornbookModel$Tree" "head" "I") (by decide +kernel)) (fun _ h9 => h9) rfl dX16_isSame_5 ?_
  refine lv_icmp_eq (tgt := 13) hx hb dX16_isSame_8 (by decide) (fun c_1 => ?_) (fun c_1 => ?_)
  · exact absurd c_1 h1
  refine lv_iconst (v := 0) hx hb dX16_isSame_11 (by decide) ?_
  have hP9 := hP.sub (ws' := [(h, .inr (18, [.int hd, f1])), (h2, .inr (18, [.int hd2, f2]))]) [0, 1] rfl
  have hD9 := hD.sub (ws' := [(h, .inr (18, [.int hd, f1])), (h2, .inr (18, [.int hd2, f2]))]) [0, 1] (by decide) rfl
  have hK9 := hK.sub (tys' := []) [] rfl
  refine W.widen (k := 0) (n := 0) (Nat.le_of_ble_eq_true rfl) (Nat.le_of_ble_eq_true rfl) ?_
  exact W.zret (v := 0) hx hb hr (by first | rfl | decide) (fun t ht hW => ⟨⟨0, (), rfl, rfl, ⟨by rw [ht]; exact hP9, va_K.moved hW.alike hK9, hD9⟩⟩, hS.F ht⟩) hS.2.2 dX16_isSame_12

def wb_c_M_type_0 : List Cond := [.fieldLink RX19 16 "HornbookModel" "types" "Ljava/util/ArrayList;", .code yJx4a65c_get_915e3 cJx4a65c_get_915e3 2 (some (.object "java/lang/Object")), .fieldLink RJx4a65c 48 "java/util/ArrayList" "size" "I", .code yJ15_checkIndex_7cf53 cJ15_checkIndex_7cf53 2 (some .int), .code yJ3_checkIndex_8e157 cJ3_checkIndex_8e157 3 (some .int), .methodLink RJ15 105 yJ3_checkIndex_8e157, .static yJ3_checkIndex_8e157, .initialized RJ3, .methodLink RJx4a65c 118 yJ15_checkIndex_7cf53, .static yJ15_checkIndex_7cf53, .initialized RJ15, .code yJx4a65c_elementData_915e3 cJx4a65c_elementData_915e3 2 (some (.object "java/lang/Object")), .fieldLink RJx4a65c 9 "java/util/ArrayList" "elementData" "[Ljava/lang/Object;", .methodLink RJx4a65c 123 yJx4a65c_elementData_915e3, .instanceMethod yJx4a65c_elementData_915e3, .selects RJx4a65c yJx4a65c_elementData_915e3 yJx4a65c_elementData_915e3, .initialized RJx4a65c, .methodLink RX19 59 yJx4a65c_get_915e3, .instanceMethod yJx4a65c_get_915e3, .selects RJx4a65c yJx4a65c_get_915e3 yJx4a65c_get_915e3, .classLink RX19 25 "HornbookModel$Tree"] ++ u_ws RJx4a65c TJx4a65c 3 ++ u_ws RX19 TX19 5
def w_c_M_type_0 : List Cond := .code yX19_type cX19_type 2 (some (.object "HornbookModel$Tree")) :: wb_c_M_type_0
set_option maxRecDepth 100000 in
theorem g_c_M_type_0_0 : GoodIn w_c_M_type_0 (wsV RX19 59 RJx4a65c yJx4a65c_get_915e3 w_c_AL_get) := goodIn_app (goodIn_of _ (by decide +kernel)) (goodIn_p (big := w_c_M_type_0) (.code yJx4a65c_get_915e3 cJx4a65c_get_915e3 2 (some (.object "java/lang/Object")) :: wb_c_AL_get) [2, 4, 5, 12] rfl (by decide +kernel))
set_option maxHeartbeats 4000000 in
set_option maxRecDepth 100000 in
theorem c_M_type_0 (l : Launch) (eD eI : Nat) (ad : Nat → Nat) (dC : Nat → ClassId) (dI : Nat → Nat → Nat) (sz : Nat) (mm : Nat) (ms : Nat) (mt : Nat) (mh : Nat) (me : Nat) (th : Int32) (mo : Int32) (ma : Nat) (kO : ClassId) (t0 : Nat) (t1 : Nat) (t2 : Nat) (f1 : Value) : Met l yX19_type w_c_M_type_0 ({ frames := 3, cells := 0, slots := 0, locals := 64 }) (va_Pc [.ref mm, .int 0] (zPre eD eI ad (dC, dI) [(mm, .inr (21, [.int th, .ref ms, .ref mt, .ref mh, .ref me])), (mt, .inr (1, [.int mo, .ref ma, .int 3])), (ma, .inl (kO, 10, .inr (.inr (.inr (.inr (zfT t0 t1 t2)))))), (t0, .inr (18, [.int (-1), f1]))] [(kO, .object "java/lang/Object")] sz)) (va_Qq (fun (r : Option Nat) (_ : Unit) => r = some t0) (fun (_ : Unit) => zEnd (dC, dI) (va_A [(mm, .inr (21, [.int th, .ref ms, .ref mt, .ref mh, .ref me])), (mt, .inr (1, [.int mo, .ref ma, .int 3])), (ma, .inl (kO, 10, .inr (.inr (.inr (.inr (zfT t0 t1 t2)))))), (t0, .inr (18, [.int (-1), f1]))] sz) [(mm, .inr (21, [.int th, .ref ms, .ref mt, .ref mh, .ref me])), (mt, .inr (1, [.int mo, .ref ma, .int 3])), (ma, .inl (kO, 10, .inr (.inr (.inr (.inr (zfT t0 t1 t2)))))), (t0, .inr (18, [.int (-1), f1]))] []) (va_A [(mm, .inr (21, [.int th, .ref ms, .ref mt, .ref mh, .ref me])), (mt, .inr (1, [.int mo, .ref ma, .int 3])), (ma, .inl (kO, 10, .inr (.inr (.inr (.inr (zfT t0 t1 t2)))))), (t0, .inr (18, [.int (-1), f1]))] sz)) 0 0 (va_A [(mm, .inr (21, [.int th, .ref ms, .ref mt, .ref mh, .ref me])), (mt, .inr (1, [.int mo, .ref ma, .int 3])), (ma, .inl (kO, 10, .inr (.inr (.inr (.inr (zfT t0 t1 t2)))))), (t0, .inr (18, [.int (-1), f1]))] sz) := by
  refine Met.ofW (cc := cX19_type) (maxL := 2) (ret := (some (.object "HornbookModel$Tree"))) (by decide) rfl ?_
  intro p e s m args below meth c s₁ B hml hv
  obtain ⟨rfl, hsz, hP, hK, hD0, hE⟩ := hv
  have hx := B.exec
  have hb := B.bytes
  have hr := B.returns
  have hts := atoms_spec (ws := w_c_M_type_0) B.pre
  have hown : s.vm.findClass RX19 = some m.cls := findClass_of_methodNamed B.named
  have hlocks := B.notSynchronized
  subst hsz
  have hD := hD0.self (sz := s.heap.size)
  generalize hAe : va_A [(mm, .inr (21, [.int th, .ref ms, .ref mt, .ref mh, .ref me])), (mt, .inr (1, [.int mo, .ref ma, .int 3])), (ma, .inl (kO, 10, .inr (.inr (.inr (.inr (zfT t0 t1 t2)))))), (t0, .inr (18, [.int (-1), f1]))] s.heap.size = A at hD hE ⊢
  have hA : ∀ q : Nat, s.heap.size ≤ q → A q := fun q h => by rw [← hAe]; exact Or.inr h
  have hS : va_S A s.heap s.heap [] := va_S.rf
  have hP : va_P (dC, dI) vwCl [(mm, .inr (21, [.int th, .ref ms, .ref mt, .ref mh, .ref me])), (mt, .inr (1, [.int mo, .ref ma, .int 3])), (ma, .inl (kO, 10, .inr (.inr (.inr (.inr (zfT t0 t1 t2)))))), (t0, .inr (18, [.int (-1), f1]))] s.heap := hP
  have hl := lv_entry ([.ref mm, .int 0]) (n := 2) (Nat.le_of_ble_eq_true rfl)
  rw [lg_entry_eq]
  generalize (lg_sl ([.ref mm, .int 0]) ++ List.replicate (2 - (lg_sl ([.ref mm, .int 0])).length) Slot.unset).toArray = ls at hl ⊢
  have hl : lv_has ls 2 [(0, .ref mm), (1, .int 0)] := hl
  have in_RJx4a65c : ∀ w ∈ u_ws RJx4a65c TJx4a65c 3, w ∈ w_c_M_type_0 := by decide +kernel
  have in_RX19 : ∀ w ∈ u_ws RX19 TX19 5, w ∈ w_c_M_type_0 := by decide +kernel
  refine lv_aload_n hx hb dX19_type_0 rfl (lv_at hl 0 rfl) ?_
  refine va_get (D := (dC, dI)) (ci := 21) (v := .ref mt) (C := RX19) (T := TX19) (N := 5) hx hb hts in_RX19 hown hK hP 0 rfl rfl 2 (by decide) (hts (.fieldLink RX19 16 "HornbookModel" "types" "Ljava/util/ArrayList;") (by decide +kernel)) (fun _ h9 => h9) rfl dX19_type_1 ?_
  refine lv_iload_n hx hb dX19_type_4 rfl (lv_at hl 1 rfl) ?_
  refine z_q (wr := [(mm, .inr (21, [.int th, .ref ms, .ref mt, .ref mh, .ref me])), (t0, .inr (18, [.int (-1), f1]))]) (va_runV (As := [.int 0]) (rest := []) ⟨hx, hb, hml, hown, hts⟩ (c_AL_get l eD eI ad dC dI s.heap.size mt ma kO ((.int mo)) 10 ((zfT t0 t1 t2)) 0 3 (by decide) (by decide) ((by unfold vp_in; decide))) (cwV 1 hts g_c_M_type_0_0 rfl rfl rfl (by decide +kernel) ⟨Nat.le_of_ble_eq_true rfl, Nat.le_of_ble_eq_true rfl⟩) (z_preV (wc := [(mt, .inr (1, [.int mo, .ref ma, .int 3])), (ma, .inl (kO, 10, .inr (.inr (.inr (.inr (zfT t0 t1 t2))))))]) hP hD hK hS hA hE [1, 2] [0] rfl (by decide) rfl (ci := 1) (q0 := 0) rfl rfl) rfl rfl hl.1 rfl (lv_room (Nat.le_of_ble_eq_true rfl)) dX19_type_5 ⟨Nat.le_of_ble_eq_true rfl, Nat.le_of_ble_eq_true rfl⟩) hP hD hK hS hA [1, 2] [0, 3] rfl rfl (by decide) (by decide) (fun r_1 u H locs hw_2 hP hD hK hS => ?_)
  obtain ⟨⟩ := u
  have hP : va_P (dC, dI) vwCl [(mm, .inr (21, [.int th, .ref ms, .ref mt, .ref mh, .ref me])), (t0, .inr (18, [.int (-1), f1])), (mt, .inr (1, [.int mo, .ref ma, .int 3])), (ma, .inl (kO, 10, .inr (.inr (.inr (.inr (zfT t0 t1 t2))))))] H := hP
  have hD : va_D A [(mm, .inr (21, [.int th, .ref ms, .ref mt, .ref mh, .ref me])), (t0, .inr (18, [.int (-1), f1])), (mt, .inr (1, [.int mo, .ref ma, .int 3])), (ma, .inl (kO, 10, .inr (.inr (.inr (.inr (zfT t0 t1 t2))))))] := hD
  have hK : va_K (dC, dI) vwCl [(kO, .object "java/lang/Object")] s := by simpa using hK
  have hw_2 : r_1 = ((zfT t0 t1 t2)) (0 : Int32).toNatClampNeg := hw_2
  have hw_2 := hw_2.symm
  subst hw_2
  refine z_top (v' := .ref t0) (by first | rfl | decide | simp [va_up, va_rf]) ?_
  refine W.eq (g2 := F0 m 8 ls (.ref t0 :: [])) rfl ?_
  refine va_castS (nm := RX16) hx hb hown (hts (.classLink RX19 25 "HornbookModel$Tree") (by decide +kernel)) (z_clsAt hK (ci := 18) rfl) (va_recv hK hP (ci := 18) (q0 := 1) rfl rfl) dX19_type_8 ?_
  have hP9 := hP.sub (ws' := [(mm, .inr (21, [.int th, .ref ms, .ref mt, .ref mh, .ref me])), (mt, .inr (1, [.int mo, .ref ma, .int 3])), (ma, .inl (kO, 10, .inr (.inr (.inr (.inr (zfT t0 t1 t2)))))), (t0, .inr (18, [.int (-1), f1]))]) [0, 2, 3, 1] rfl
  have hD9 := hD.sub (ws' := [(mm, .inr (21, [.int th, .ref ms, .ref mt, .ref mh, .ref me])), (mt, .inr (1, [.int mo, .ref ma, .int 3])), (ma, .inl (kO, 10, .inr (.inr (.inr (.inr (zfT t0 t1 t2)))))), (t0, .inr (18, [.int (-1), f1]))]) [0, 2, 3, 1] (by decide) rfl
  have hK9 := hK.sub (tys' := []) [] rfl
  refine W.widen (k := 0) (n := 0) (Nat.le_of_ble_eq_true rfl) (Nat.le_of_ble_eq_true rfl) ?_
  exact W.aret (v := .ref t0) hx hb hr (Or.inl ⟨_, rfl⟩) (Or.inr ⟨_, rfl⟩) (fun t ht hW => ⟨⟨some t0, (), rfl, rfl, ⟨by rw [ht]; exact hP9, va_K.moved hW.alike hK9, hD9⟩⟩, hS.F ht⟩) hS.2.2 dX19_type_11

def wb_c_M_type_1 : List Cond := [.fieldLink RX19 16 "HornbookModel" "types" "Ljava/util/ArrayList;", .code yJx4a65c_get_915e3 cJx4a65c_get_915e3 2 (some (.object "java/lang/Object")), .fieldLink RJx4a65c 48 "java/util/ArrayList" "size" "I", .code yJ15_checkIndex_7cf53 cJ15_checkIndex_7cf53 2 (some .int), .code yJ3_checkIndex_8e157 cJ3_checkIndex_8e157 3 (some .int), .methodLink RJ15 105 yJ3_checkIndex_8e157, .static yJ3_checkIndex_8e157, .initialized RJ3, .methodLink RJx4a65c 118 yJ15_checkIndex_7cf53, .static yJ15_checkIndex_7cf53, .initialized RJ15, .code yJx4a65c_elementData_915e3 cJx4a65c_elementData_915e3 2 (some (.object "java/lang/Object")), .fieldLink RJx4a65c 9 "java/util/ArrayList" "elementData" "[Ljava/lang/Object;", .methodLink RJx4a65c 123 yJx4a65c_elementData_915e3, .instanceMethod yJx4a65c_elementData_915e3, .selects RJx4a65c yJx4a65c_elementData_915e3 yJx4a65c_elementData_915e3, .initialized RJx4a65c, .methodLink RX19 59 yJx4a65c_get_915e3, .instanceMethod yJx4a65c_get_915e3, .selects RJx4a65c yJx4a65c_get_915e3 yJx4a65c_get_915e3, .classLink RX19 25 "HornbookModel$Tree"] ++ u_ws RJx4a65c TJx4a65c 3 ++ u_ws RX19 TX19 5
def w_c_M_type_1 : List Cond := .code yX19_type cX19_type 2 (some (.object "HornbookModel$Tree")) :: wb_c_M_type_1
set_option maxRecDepth 100000 in
theorem g_c_M_type_1_0 : GoodIn w_c_M_type_1 (wsV RX19 59 RJx4a65c yJx4a65c_get_915e3 w_c_AL_get) := goodIn_app (goodIn_of _ (by decide +kernel)) (goodIn_p (big := w_c_M_type_1) (.code yJx4a65c_get_915e3 cJx4a65c_get_915e3 2 (some (.object "java/lang/Object")) :: wb_c_AL_get) [2, 4, 5, 12] rfl (by decide +kernel))
set_option maxHeartbeats 4000000 in
set_option maxRecDepth 100000 in
theorem c_M_type_1 (l : Launch) (eD eI : Nat) (ad : Nat → Nat) (dC : Nat → ClassId) (dI : Nat → Nat → Nat) (sz : Nat) (mm : Nat) (ms : Nat) (mt : Nat) (mh : Nat) (me : Nat) (th : Int32) (mo : Int32) (ma : Nat) (kO : ClassId) (t0 : Nat) (t1 : Nat) (t2 : Nat) (f1 : Value) : Met l yX19_type w_c_M_type_1 ({ frames := 3, cells := 0, slots := 0, locals := 64 }) (va_Pc [.ref mm, .int 1] (zPre eD eI ad (dC, dI) [(mm, .inr (21, [.int th, .ref ms, .ref mt, .ref mh, .ref me])), (mt, .inr (1, [.int mo, .ref ma, .int 3])), (ma, .inl (kO, 10, .inr (.inr (.inr (.inr (zfT t0 t1 t2)))))), (t1, .inr (18, [.int (-2), f1]))] [(kO, .object "java/lang/Object")] sz)) (va_Qq (fun (r : Option Nat) (_ : Unit) => r = some t1) (fun (_ : Unit) => zEnd (dC, dI) (va_A [(mm, .inr (21, [.int th, .ref ms, .ref mt, .ref mh, .ref me])), (mt, .inr (1, [.int mo, .ref ma, .int 3])), (ma, .inl (kO, 10, .inr (.inr (.inr (.inr (zfT t0 t1 t2)))))), (t1, .inr (18, [.int (-2), f1]))] sz) [(mm, .inr (21, [.int th, .ref ms, .ref mt, .ref mh, .ref me])), (mt, .inr (1, [.int mo, .ref ma, .int 3])), (ma, .inl (kO, 10, .inr (.inr (.inr (.inr (zfT t0 t1 t2)))))), (t1, .inr (18, [.int (-2), f1]))] []) (va_A [(mm, .inr (21, [.int th, .ref ms, .ref mt, .ref mh, .ref me])), (mt, .inr (1, [.int mo, .ref ma, .int 3])), (ma, .inl (kO, 10, .inr (.inr (.inr (.inr (zfT t0 t1 t2)))))), (t1, .inr (18, [.int (-2), f1]))] sz)) 0 0 (va_A [(mm, .inr (21, [.int th, .ref ms, .ref mt, .ref mh, .ref me])), (mt, .inr (1, [.int mo, .ref ma, .int 3])), (ma, .inl (kO, 10, .inr (.inr (.inr (.inr (zfT t0 t1 t2)))))), (t1, .inr (18, [.int (-2), f1]))] sz) := by
  refine Met.ofW (cc := cX19_type) (maxL := 2) (ret := (some (.object "HornbookModel$Tree"))) (by decide) rfl ?_
  intro p e s m args below meth c s₁ B hml hv
  obtain ⟨rfl, hsz, hP, hK, hD0, hE⟩ := hv
  have hx := B.exec
  have hb := B.bytes
  have hr := B.returns
  have hts := atoms_spec (ws := w_c_M_type_1) B.pre
  have hown : s.vm.findClass RX19 = some m.cls := findClass_of_methodNamed B.named
  have hlocks := B.notSynchronized
  subst hsz
  have hD := hD0.self (sz := s.heap.size)
  generalize hAe : va_A [(mm, .inr (21, [.int th, .ref ms, .ref mt, .ref mh, .ref me])), (mt, .inr (1, [.int mo, .ref ma, .int 3])), (ma, .inl (kO, 10, .inr (.inr (.inr (.inr (zfT t0 t1 t2)))))), (t1, .inr (18, [.int (-2), f1]))] s.heap.size = A at hD hE ⊢
  have hA : ∀ q : Nat, s.heap.size ≤ q → A q := fun q h => by rw [← hAe]; exact Or.inr h
  have hS : va_S A s.heap s.heap [] := va_S.rf
  have hP : va_P (dC, dI) vwCl [(mm, .inr (21, [.int th, .ref ms, .ref mt, .ref mh, .ref me])), (mt, .inr (1, [.int mo, .ref ma, .int 3])), (ma, .inl (kO, 10, .inr (.inr (.inr (.inr (zfT t0 t1 t2)))))), (t1, .inr (18, [.int (-2), f1]))] s.heap := hP
  have hl := lv_entry ([.ref mm, .int 1]) (n := 2) (Nat.le_of_ble_eq_true rfl)
  rw [lg_entry_eq]
  generalize (lg_sl ([.ref mm, .int 1]) ++ List.replicate (2 - (lg_sl ([.ref mm, .int 1])).length) Slot.unset).toArray = ls at hl ⊢
  have hl : lv_has ls 2 [(0, .ref mm), (1, .int 1)] := hl
  have in_RJx4a65c : ∀ w ∈ u_ws RJx4a65c TJx4a65c 3, w ∈ w_c_M_type_1 := by decide +kernel
  have in_RX19 : ∀ w ∈ u_ws RX19 TX19 5, w ∈ w_c_M_type_1 := by decide +kernel
  refine lv_aload_n hx hb dX19_type_0 rfl (lv_at hl 0 rfl) ?_
  refine va_get (D := (dC, dI)) (ci := 21) (v := .ref mt) (C := RX19) (T := TX19) (N := 5) hx hb hts in_RX19 hown hK hP 0 rfl rfl 2 (by decide) (hts (.fieldLink RX19 16 "HornbookModel" "types" "Ljava/util/ArrayList;") (by decide +kernel)) (fun _ h9 => h9) rfl dX19_type_1 ?_
  refine lv_iload_n hx hb dX19_type_4 rfl (lv_at hl 1 rfl) ?_
  refine z_q (wr := [(mm, .inr (21, [.int th, .ref ms, .ref mt, .ref mh, .ref me])), (t1, .inr (18, [.int (-2), f1]))]) (va_runV (As := [.int 1]) (rest := []) ⟨hx, hb, hml, hown, hts⟩ (c_AL_get l eD eI ad dC dI s.heap.size mt ma kO ((.int mo)) 10 ((zfT t0 t1 t2)) 1 3 (by decide) (by decide) ((by unfold vp_in; decide))) (cwV 1 hts g_c_M_type_1_0 rfl rfl rfl (by decide +kernel) ⟨Nat.le_of_ble_eq_true rfl, Nat.le_of_ble_eq_true rfl⟩) (z_preV (wc := [(mt, .inr (1, [.int mo, .ref ma, .int 3])), (ma, .inl (kO, 10, .inr (.inr (.inr (.inr (zfT t0 t1 t2))))))]) hP hD hK hS hA hE [1, 2] [0] rfl (by decide) rfl (ci := 1) (q0 := 0) rfl rfl) rfl rfl hl.1 rfl (lv_room (Nat.le_of_ble_eq_true rfl)) dX19_type_5 ⟨Nat.le_of_ble_eq_true rfl, Nat.le_of_ble_eq_true rfl⟩) hP hD hK hS hA [1, 2] [0, 3] rfl rfl (by decide) (by decide) (fun r_1 u H locs hw_2 hP hD hK hS => ?_)
  obtain ⟨⟩ := u
  have hP : va_P (dC, dI) vwCl [(mm, .inr (21, [.int th, .ref ms, .ref mt, .ref mh, .ref me])), (t1, .inr (18, [.int (-2), f1])), (mt, .inr (1, [.int mo, .ref ma, .int 3])), (ma, .inl (kO, 10, .inr (.inr (.inr (.inr (zfT t0 t1 t2))))))] H := hP
  have hD : va_D A [(mm, .inr (21, [.int th, .ref ms, .ref mt, .ref mh, .ref me])), (t1, .inr (18, [.int (-2), f1])), (mt, .inr (1, [.int mo, .ref ma, .int 3])), (ma, .inl (kO, 10, .inr (.inr (.inr (.inr (zfT t0 t1 t2))))))] := hD
  have hK : va_K (dC, dI) vwCl [(kO, .object "java/lang/Object")] s := by simpa using hK
  have hw_2 : r_1 = ((zfT t0 t1 t2)) (1 : Int32).toNatClampNeg := hw_2
  have hw_2 := hw_2.symm
  subst hw_2
  refine z_top (v' := .ref t1) (by first | rfl | decide | simp [va_up, va_rf]) ?_
  refine W.eq (g2 := F0 m 8 ls (.ref t1 :: [])) rfl ?_
  refine va_castS (nm := RX16) hx hb hown (hts (.classLink RX19 25 "HornbookModel$Tree") (by decide +kernel)) (z_clsAt hK (ci := 18) rfl) (va_recv hK hP (ci := 18) (q0 := 1) rfl rfl) dX19_type_8 ?_
  have hP9 := hP.sub (ws' := [(mm, .inr (21, [.int th, .ref ms, .ref mt, .ref mh, .ref me])), (mt, .inr (1, [.int mo, .ref ma, .int 3])), (ma, .inl (kO, 10, .inr (.inr (.inr (.inr (zfT t0 t1 t2)))))), (t1, .inr (18, [.int (-2), f1]))]) [0, 2, 3, 1] rfl
  have hD9 := hD.sub (ws' := [(mm, .inr (21, [.int th, .ref ms, .ref mt, .ref mh, .ref me])), (mt, .inr (1, [.int mo, .ref ma, .int 3])), (ma, .inl (kO, 10, .inr (.inr (.inr (.inr (zfT t0 t1 t2)))))), (t1, .inr (18, [.int (-2), f1]))]) [0, 2, 3, 1] (by decide) rfl
  have hK9 := hK.sub (tys' := []) [] rfl
  refine W.widen (k := 0) (n := 0) (Nat.le_of_ble_eq_true rfl) (Nat.le_of_ble_eq_true rfl) ?_
  exact W.aret (v := .ref t1) hx hb hr (Or.inl ⟨_, rfl⟩) (Or.inr ⟨_, rfl⟩) (fun t ht hW => ⟨⟨some t1, (), rfl, rfl, ⟨by rw [ht]; exact hP9, va_K.moved hW.alike hK9, hD9⟩⟩, hS.F ht⟩) hS.2.2 dX19_type_11

def wb_c_M_type_2 : List Cond := [.fieldLink RX19 16 "HornbookModel" "types" "Ljava/util/ArrayList;", .code yJx4a65c_get_915e3 cJx4a65c_get_915e3 2 (some (.object "java/lang/Object")), .fieldLink RJx4a65c 48 "java/util/ArrayList" "size" "I", .code yJ15_checkIndex_7cf53 cJ15_checkIndex_7cf53 2 (some .int), .code yJ3_checkIndex_8e157 cJ3_checkIndex_8e157 3 (some .int), .methodLink RJ15 105 yJ3_checkIndex_8e157, .static yJ3_checkIndex_8e157, .initialized RJ3, .methodLink RJx4a65c 118 yJ15_checkIndex_7cf53, .static yJ15_checkIndex_7cf53, .initialized RJ15, .code yJx4a65c_elementData_915e3 cJx4a65c_elementData_915e3 2 (some (.object "java/lang/Object")), .fieldLink RJx4a65c 9 "java/util/ArrayList" "elementData" "[Ljava/lang/Object;", .methodLink RJx4a65c 123 yJx4a65c_elementData_915e3, .instanceMethod yJx4a65c_elementData_915e3, .selects RJx4a65c yJx4a65c_elementData_915e3 yJx4a65c_elementData_915e3, .initialized RJx4a65c, .methodLink RX19 59 yJx4a65c_get_915e3, .instanceMethod yJx4a65c_get_915e3, .selects RJx4a65c yJx4a65c_get_915e3 yJx4a65c_get_915e3, .classLink RX19 25 "HornbookModel$Tree"] ++ u_ws RJx4a65c TJx4a65c 3 ++ u_ws RX19 TX19 5
def w_c_M_type_2 : List Cond := .code yX19_type cX19_type 2 (some (.object "HornbookModel$Tree")) :: wb_c_M_type_2
set_option maxRecDepth 100000 in
theorem g_c_M_type_2_0 : GoodIn w_c_M_type_2 (wsV RX19 59 RJx4a65c yJx4a65c_get_915e3 w_c_AL_get) := goodIn_app (goodIn_of _ (by decide +kernel)) (goodIn_p (big := w_c_M_type_2) (.code yJx4a65c_get_915e3 cJx4a65c_get_915e3 2 (some (.object "java/lang/Object")) :: wb_c_AL_get) [2, 4, 5, 12] rfl (by decide +kernel))
set_option maxHeartbeats 4000000 in
set_option maxRecDepth 100000 in
theorem c_M_type_2 (l : Launch) (eD eI : Nat) (ad : Nat → Nat) (dC : Nat → ClassId) (dI : Nat → Nat → Nat) (sz : Nat) (mm : Nat) (ms : Nat) (mt : Nat) (mh : Nat) (me : Nat) (th : Int32) (mo : Int32) (ma : Nat) (kO : ClassId) (t0 : Nat) (t1 : Nat) (t2 : Nat) (f1 : Value) : Met l yX19_type w_c_M_type_2 ({ frames := 3, cells := 0, slots := 0, locals := 64 }) (va_Pc [.ref mm, .int 2] (zPre eD eI ad (dC, dI) [(mm, .inr (21, [.int th, .ref ms, .ref mt, .ref mh, .ref me])), (mt, .inr (1, [.int mo, .ref ma, .int 3])), (ma, .inl (kO, 10, .inr (.inr (.inr (.inr (zfT t0 t1 t2)))))), (t2, .inr (18, [.int (-3), f1]))] [(kO, .object "java/lang/Object")] sz)) (va_Qq (fun (r : Option Nat) (_ : Unit) => r = some t2) (fun (_ : Unit) => zEnd (dC, dI) (va_A [(mm, .inr (21, [.int th, .ref ms, .ref mt, .ref mh, .ref me])), (mt, .inr (1, [.int mo, .ref ma, .int 3])), (ma, .inl (kO, 10, .inr (.inr (.inr (.inr (zfT t0 t1 t2)))))), (t2, .inr (18, [.int (-3), f1]))] sz) [(mm, .inr (21, [.int th, .ref ms, .ref mt, .ref mh, .ref me])), (mt, .inr (1, [.int mo, .ref ma, .int 3])), (ma, .inl (kO, 10, .inr (.inr (.inr (.inr (zfT t0 t1 t2)))))), (t2, .inr (18, [.int (-3), f1]))] []) (va_A [(mm, .inr (21, [.int th, .ref ms, .ref mt, .ref mh, .ref me])), (mt, .inr (1, [.int mo, .ref ma, .int 3])), (ma, .inl (kO, 10, .inr (.inr (.inr (.inr (zfT t0 t1 t2)))))), (t2, .inr (18, [.int (-3), f1]))] sz)) 0 0 (va_A [(mm, .inr (21, [.int th, .ref ms, .ref mt, .ref mh, .ref me])), (mt, .inr (1, [.int mo, .ref ma, .int 3])), (ma, .inl (kO, 10, .inr (.inr (.inr (.inr (zfT t0 t1 t2)))))), (t2, .inr (18, [.int (-3), f1]))] sz) := by
  refine Met.ofW (cc := cX19_type) (maxL := 2) (ret := (some (.object "HornbookModel$Tree"))) (by decide) rfl ?_
  intro p e s m args below meth c s₁ B hml hv
  obtain ⟨rfl, hsz, hP, hK, hD0, hE⟩ := hv
  have hx := B.exec
  have hb := B.bytes
  have hr := B.returns
  have hts := atoms_spec (ws := w_c_M_type_2) B.pre
  have hown : s.vm.findClass RX19 = some m.cls := findClass_of_methodNamed B.named
  have hlocks := B.notSynchronized
  subst hsz
  have hD := hD0.self (sz := s.heap.size)
  generalize hAe : va_A [(mm, .inr (21, [.int th, .ref ms, .ref mt, .ref mh, .ref me])), (mt, .inr (1, [.int mo, .ref ma, .int 3])), (ma, .inl (kO, 10, .inr (.inr (.inr (.inr (zfT t0 t1 t2)))))), (t2, .inr (18, [.int (-3), f1]))] s.heap.size = A at hD hE ⊢
  have hA : ∀ q : Nat, s.heap.size ≤ q → A q := fun q h => by rw [← hAe]; exact Or.inr h
  have hS : va_S A s.heap s.heap [] := va_S.rf
  have hP : va_P (dC, dI) vwCl [(mm, .inr (21, [.int th, .ref ms, .ref mt, .ref mh, .ref me])), (mt, .inr (1, [.int mo, .ref ma, .int 3])), (ma, .inl (kO, 10, .inr (.inr (.inr (.inr (zfT t0 t1 t2)))))), (t2, .inr (18, [.int (-3), f1]))] s.heap := hP
  have hl := lv_entry ([.ref mm, .int 2]) (n := 2) (Nat.le_of_ble_eq_true rfl)
  rw [lg_entry_eq]
  generalize (lg_sl ([.ref mm, .int 2]) ++ List.replicate (2 - (lg_sl ([.ref mm, .int 2])).length) Slot.unset).toArray = ls at hl ⊢
  have hl : lv_has ls 2 [(0, .ref mm), (1, .int 2)] := hl
  have in_RJx4a65c : ∀ w ∈ u_ws RJx4a65c TJx4a65c 3, w ∈ w_c_M_type_2 := by decide +kernel
  have in_RX19 : ∀ w ∈ u_ws RX19 TX19 5, w ∈ w_c_M_type_2 := by decide +kernel
  refine lv_aload_n hx hb dX19_type_0 rfl (lv_at hl 0 rfl) ?_
  refine va_get (D := (dC, dI)) (ci := 21) (v := .ref mt) (C := RX19) (T := TX19) (N := 5) hx hb hts in_RX19 hown hK hP 0 rfl rfl 2 (by decide) (hts (.fieldLink RX19 16 "HornbookModel" "types" "Ljava/util/ArrayList;") (by decide +kernel)) (fun _ h9 => h9) rfl dX19_type_1 ?_
  refine lv_iload_n hx hb dX19_type_4 rfl (lv_at hl 1 rfl) ?_
  refine z_q (wr := [(mm, .inr (21, [.int th, .ref ms, .ref mt, .ref mh, .ref me])), (t2, .inr (18, [.int (-3), f1]))]) (va_runV (As := [.int 2]) (rest := []) ⟨hx, hb, hml, hown, hts⟩ (c_AL_get l eD eI ad dC dI s.heap.size mt ma kO ((.int mo)) 10 ((zfT t0 t1 t2)) 2 3 (by decide) (by decide) ((by unfold vp_in; decide))) (cwV 1 hts g_c_M_type_2_0 rfl rfl rfl (by decide +kernel) ⟨Nat.le_of_ble_eq_true rfl, Nat.le_of_ble_eq_true rfl⟩) (z_preV (wc := [(mt, .inr (1, [.int mo, .ref ma, .int 3])), (ma, .inl (kO, 10, .inr (.inr (.inr (.inr (zfT t0 t1 t2))))))]) hP hD hK hS hA hE [1, 2] [0] rfl (by decide) rfl (ci := 1) (q0 := 0) rfl rfl) rfl rfl hl.1 rfl (lv_room (Nat.le_of_ble_eq_true rfl)) dX19_type_5 ⟨Nat.le_of_ble_eq_true rfl, Nat.le_of_ble_eq_true rfl⟩) hP hD hK hS hA [1, 2] [0, 3] rfl rfl (by decide) (by decide) (fun r_1 u H locs hw_2 hP hD hK hS => ?_)
  obtain ⟨⟩ := u
  have hP : va_P (dC, dI) vwCl [(mm, .inr (21, [.int th, .ref ms, .ref mt, .ref mh, .ref me])), (t2, .inr (18, [.int (-3), f1])), (mt, .inr (1, [.int mo, .ref ma, .int 3])), (ma, .inl (kO, 10, .inr (.inr (.inr (.inr (zfT t0 t1 t2))))))] H := hP
  have hD : va_D A [(mm, .inr (21, [.int th, .ref ms, .ref mt, .ref mh, .ref me])), (t2, .inr (18, [.int (-3), f1])), (mt, .inr (1, [.int mo, .ref ma, .int 3])), (ma, .inl (kO, 10, .inr (.inr (.inr (.inr (zfT t0 t1 t2))))))] := hD
  have hK : va_K (dC, dI) vwCl [(kO, .object "java/lang/Object")] s := by simpa using hK
  have hw_2 : r_1 = ((zfT t0 t1 t2)) (2 : Int32).toNatClampNeg := hw_2
  have hw_2 := hw_2.symm
  subst hw_2
  refine z_top (v' := .ref t2) (by first | rfl | decide | simp [va_up, va_rf]) ?_
  refine W.eq (g2 := F0 m 8 ls (.ref t2 :: [])) rfl ?_
  refine va_castS (nm := RX16) hx hb hown (hts (.classLink RX19 25 "HornbookModel$Tree") (by decide +kernel)) (z_clsAt hK (ci := 18) rfl) (va_recv hK hP (ci := 18) (q0 := 1) rfl rfl) dX19_type_8 ?_
  have hP9 := hP.sub (ws' := [(mm, .inr (21, [.int th, .ref ms, .ref mt, .ref mh, .ref me])), (mt, .inr (1, [.int mo, .ref ma, .int 3])), (ma, .inl (kO, 10, .inr (.inr (.inr (.inr (zfT t0 t1 t2)))))), (t2, .inr (18, [.int (-3), f1]))]) [0, 2, 3, 1] rfl
  have hD9 := hD.sub (ws' := [(mm, .inr (21, [.int th, .ref ms, .ref mt, .ref mh, .ref me])), (mt, .inr (1, [.int mo, .ref ma, .int 3])), (ma, .inl (kO, 10, .inr (.inr (.inr (.inr (zfT t0 t1 t2)))))), (t2, .inr (18, [.int (-3), f1]))]) [0, 2, 3, 1] (by decide) rfl
  have hK9 := hK.sub (tys' := []) [] rfl
  refine W.widen (k := 0) (n := 0) (Nat.le_of_ble_eq_true rfl) (Nat.le_of_ble_eq_true rfl) ?_
  exact W.aret (v := .ref t2) hx hb hr (Or.inl ⟨_, rfl⟩) (Or.inr ⟨_, rfl⟩) (fun t ht hW => ⟨⟨some t2, (), rfl, rfl, ⟨by rw [ht]; exact hP9, va_K.moved hW.alike hK9, hD9⟩⟩, hS.F ht⟩) hS.2.2 dX19_type_11

def wb_c_V_init : List Cond := [.fieldLink RX17 3 "HornbookModel$View" "this$0" "LHornbookModel;", .methodLink RX17 9 objectInit, .instanceMethod objectInit, .code objectInit ⟨#[0xb1]⟩ 1 none, .fieldLink RX17 15 "HornbookModel$View" "without" "I", .fieldLink RX17 19 "HornbookModel$View" "sort" "I", .fieldLink RX17 22 "HornbookModel$View" "parameter" "I", .fieldLink RX17 25 "HornbookModel$View" "how" "I"] ++ u_ws RX17 TX17 5
def w_c_V_init : List Cond := .code yX17_init cX17_init 6 none :: wb_c_V_init
set_option maxHeartbeats 4000000 in
set_option maxRecDepth 100000 in
theorem c_V_init (l : Launch) (eD eI : Nat) (ad : Nat → Nat) (dC : Nat → ClassId) (dI : Nat → Nat → Nat) (sz : Nat) (vw : Nat) (mm : Nat) (a1 : Int32) (a2 : Int32) (a3 : Int32) (a4 : Int32) : Met l yX17_init w_c_V_init ({ frames := 1, cells := 0, slots := 0, locals := 12 }) (va_Pc [.ref vw, .ref mm, .int a1, .int a2, .int a3, .int a4] (zPre eD eI ad (dC, dI) [(vw, .inr (19, [.int 0, .int 0, .int 0, .int 0, .null]))] [] sz)) (va_Qv (fun (_ : Unit) => True) (fun (_ : Unit) => zEnd (dC, dI) (va_A [(vw, .inr (19, [.int 0, .int 0, .int 0, .int 0, .null]))] sz) [(vw, .inr (19, [.int a1, .int a2, .int a3, .int a4, .ref mm]))] []) (va_A [(vw, .inr (19, [.int 0, .int 0, .int 0, .int 0, .null]))] sz)) 0 0 (va_A [(vw, .inr (19, [.int 0, .int 0, .int 0, .int 0, .null]))] sz) := by
  refine Met.ofW (cc := cX17_init) (maxL := 6) (ret := none) (by decide) rfl ?_
  intro p e s m args below meth c s₁ B hml hv
  obtain ⟨rfl, hsz, hP, hK, hD0, hE⟩ := hv
  have hx := B.exec
  have hb := B.bytes
  have hr := B.returns
  have hts := atoms_spec (ws := w_c_V_init) B.pre
  have hown : s.vm.findClass RX17 = some m.cls := findClass_of_methodNamed B.named
  have hlocks := B.notSynchronized
  have hin : meth.name = "<init>" := (name_of_methodNamed B.named B.method).1
  subst hsz
  have hD := hD0.self (sz := s.heap.size)
  generalize hAe : va_A [(vw, .inr (19, [.int 0, .int 0, .int 0, .int 0, .null]))] s.heap.size = A at hD hE ⊢
  have hA : ∀ q : Nat, s.heap.size ≤ q → A q := fun q h => by rw [← hAe]; exact Or.inr h
  have hS : va_S A s.heap s.heap [] := va_S.rf
  have hP : va_P (dC, dI) vwCl [(vw, .inr (19, [.int 0, .int 0, .int 0, .int 0, .null]))] s.heap := hP
  have hl := lv_entry ([.ref vw, .ref mm, .int a1, .int a2, .int a3, .int a4]) (n := 6) (Nat.le_of_ble_eq_true rfl)
  rw [lg_entry_eq]
  generalize (lg_sl ([.ref vw, .ref mm, .int a1, .int a2, .int a3, .int a4]) ++ List.replicate (6 - (lg_sl ([.ref vw, .ref mm, .int a1, .int a2, .int a3, .int a4])).length) Slot.unset).toArray = ls at hl ⊢
  have hl : lv_has ls 6 [(0, .ref vw), (1, .ref mm), (2, .int a1), (3, .int a2), (4, .int a3), (5, .int a4)] := hl
  have in_RX17 : ∀ w ∈ u_ws RX17 TX17 5, w ∈ w_c_V_init := by decide +kernel
  refine lv_aload_n hx hb dX17_init_0 rfl (lv_at hl 0 rfl) ?_
  refine lv_aload_n hx hb dX17_init_1 rfl (lv_at hl 1 rfl) ?_
  refine va_putF (D := (dC, dI)) (ci := 19) (v := .ref mm) (ty := .object "HornbookModel") (C := RX17) (T := TX17) (N := 5) hx hb hts in_RX17 tyX17 tyX17_ok nmX17 hown hK hP hD hS 0 rfl rfl 4 (by decide) (hts (.fieldLink RX17 3 "HornbookModel$View" "this$0" "LHornbookModel;") (by decide +kernel)) (fun _ h9 => h9) rfl hin rfl (by decide +kernel) rfl rfl (Nat.le_of_ble_eq_true rfl) dX17_init_2 (fun H locs hP hD hS => ?_)
  have hP : va_P (dC, dI) vwCl [(vw, .inr (19, [.int 0, .int 0, .int 0, .int 0, .ref mm]))] H := hP
  have hD : va_D A [(vw, .inr (19, [.int 0, .int 0, .int 0, .int 0, .ref mm]))] := hD
  refine lv_aload_n hx hb dX17_init_5 rfl (lv_at hl 0 rfl) ?_
  refine W.objInit hx hb hown (hts (.methodLink RX17 9 objectInit) (by decide +kernel)) (hts (.instanceMethod objectInit) (by decide +kernel)) (hts (.code objectInit ⟨#[0xb1]⟩ 1 none) (by decide +kernel)) rfl (by rw [hml]; exact hl.1) rfl dX17_init_6 (Nat.le_of_ble_eq_true rfl) (Nat.le_of_ble_eq_true rfl) ?_
  refine W.eq (g2 := F0 m 9 ls ([])) rfl ?_
  refine lv_aload_n hx hb dX17_init_9 rfl (lv_at hl 0 rfl) ?_
  refine lv_iload_n hx hb dX17_init_10 rfl (lv_at hl 2 rfl) ?_
  refine va_putF (D := (dC, dI)) (ci := 19) (v := .int a1) (ty := .int) (C := RX17) (T := TX17) (N := 5) hx hb hts in_RX17 tyX17 tyX17_ok nmX17 hown hK hP hD hS 0 rfl rfl 0 (by decide) (hts (.fieldLink RX17 15 "HornbookModel$View" "without" "I") (by decide +kernel)) (fun _ h9 => h9) rfl hin rfl (by decide +kernel) rfl rfl (Nat.le_of_ble_eq_true rfl) dX17_init_11 (fun H locs hP hD hS => ?_)
  have hP : va_P (dC, dI) vwCl [(vw, .inr (19, [.int a1, .int 0, .int 0, .int 0, .ref mm]))] H := hP
  have hD : va_D A [(vw, .inr (19, [.int a1, .int 0, .int 0, .int 0, .ref mm]))] := hD
  refine lv_aload_n hx hb dX17_init_14 rfl (lv_at hl 0 rfl) ?_
  refine lv_iload_n hx hb dX17_init_15 rfl (lv_at hl 3 rfl) ?_
  refine va_putF (D := (dC, dI)) (ci := 19) (v := .int a2) (ty := .int) (C := RX17) (T := TX17) (N := 5) hx hb hts in_RX17 tyX17 tyX17_ok nmX17 hown hK hP hD hS 0 rfl rfl 1 (by decide) (hts (.fieldLink RX17 19 "HornbookModel$View" "sort" "I") (by decide +kernel)) (fun _ h9 => h9) rfl hin rfl (by decide +kernel) rfl rfl (Nat.le_of_ble_eq_true rfl) dX17_init_16 (fun H locs hP hD hS => ?_)
  have hP : va_P (dC, dI) vwCl [(vw, .inr (19, [.int a1, .int a2, .int 0, .int 0, .ref mm]))] H := hP
  have hD : va_D A [(vw, .inr (19, [.int a1, .int a2, .int 0, .int 0, .ref mm]))] := hD
  refine lv_aload_n hx hb dX17_init_19 rfl (lv_at hl 0 rfl) ?_
  refine lv_iload hx hb dX17_init_20 (lv_at hl 4 rfl) ?_
  refine va_putF (D := (dC, dI)) (ci := 19) (v := .int a3) (ty := .int) (C := RX17) (T := TX17) (N := 5) hx hb hts in_RX17 tyX17 tyX17_ok nmX17 hown hK hP hD hS 0 rfl rfl 2 (by decide) (hts (.fieldLink RX17 22 "HornbookModel$View" "parameter" "I") (by decide +kernel)) (fun _ h9 => h9) rfl hin rfl (by decide +kernel) rfl rfl (Nat.le_of_ble_eq_true rfl) dX17_init_22 (fun H locs hP hD hS => ?_)
  have hP : va_P (dC, dI) vwCl [(vw, .inr (19, [.int a1, .int a2, .int a3, .int 0, .ref mm]))] H := hP
  have hD : va_D A [(vw, .inr (19, [.int a1, .int a2, .int a3, .int 0, .ref mm]))] := hD
  refine lv_aload_n hx hb dX17_init_25 rfl (lv_at hl 0 rfl) ?_
  refine lv_iload hx hb dX17_init_26 (lv_at hl 5 rfl) ?_
  refine va_putF (D := (dC, dI)) (ci := 19) (v := .int a4) (ty := .int) (C := RX17) (T := TX17) (N := 5) hx hb hts in_RX17 tyX17 tyX17_ok nmX17 hown hK hP hD hS 0 rfl rfl 3 (by decide) (hts (.fieldLink RX17 25 "HornbookModel$View" "how" "I") (by decide +kernel)) (fun _ h9 => h9) rfl hin rfl (by decide +kernel) rfl rfl (Nat.le_of_ble_eq_true rfl) dX17_init_28 (fun H locs hP hD hS => ?_)
  have hP : va_P (dC, dI) vwCl [(vw, .inr (19, [.int a1, .int a2, .int a3, .int a4, .ref mm]))] H := hP
  have hD : va_D A [(vw, .inr (19, [.int a1, .int a2, .int a3, .int a4, .ref mm]))] := hD
  have hP9 := hP.sub (ws' := [(vw, .inr (19, [.int a1, .int a2, .int a3, .int a4, .ref mm]))]) [0] rfl
  have hD9 := hD.sub (ws' := [(vw, .inr (19, [.int a1, .int a2, .int a3, .int a4, .ref mm]))]) [0] (by decide) rfl
  have hK9 := hK.sub (tys' := []) [] rfl
  refine W.widen (k := 0) (n := 0) (Nat.le_of_ble_eq_true rfl) (Nat.le_of_ble_eq_true rfl) ?_
  exact W.vret hx hb hr (fun t ht hW => ⟨⟨(), rfl, trivial, ⟨by rw [ht]; exact hP9, va_K.moved hW.alike hK9, hD9⟩⟩, hS.F ht⟩) hS.2.2 dX17_init_31

def wb_c_M_view : List Cond := [.classLink RX19 42 RX17, .instantiable RX17 5, .initialized RX17, .code yX17_init cX17_init 6 none, .fieldLink RX17 3 "HornbookModel$View" "this$0" "LHornbookModel;", .methodLink RX17 9 objectInit, .instanceMethod objectInit, .code objectInit ⟨#[0xb1]⟩ 1 none, .fieldLink RX17 15 "HornbookModel$View" "without" "I", .fieldLink RX17 19 "HornbookModel$View" "sort" "I", .fieldLink RX17 22 "HornbookModel$View" "parameter" "I", .fieldLink RX17 25 "HornbookModel$View" "how" "I", .methodLink RX19 44 yX17_init, .instanceMethod yX17_init] ++ u_ws RX17 TX17 5
def w_c_M_view : List Cond := .code yX19_view cX19_view 1 (some (.object "HornbookModel$View")) :: wb_c_M_view
set_option maxRecDepth 100000 in
theorem g_c_M_view_0 : GoodIn w_c_M_view (w_c_V_init) := goodIn_p (big := w_c_M_view) (.code yX17_init cX17_init 6 none :: wb_c_V_init) [4, 8] rfl (by decide +kernel)
set_option maxHeartbeats 4000000 in
set_option maxRecDepth 100000 in
theorem c_M_view (l : Launch) (eD eI : Nat) (ad : Nat → Nat) (dC : Nat → ClassId) (dI : Nat → Nat → Nat) (sz : Nat) (mm : Nat) (ms : Nat) (mt : Nat) (mh : Nat) (me : Nat) (th : Int32) : Met l yX19_view w_c_M_view ({ frames := 2, cells := 1, slots := 5, locals := 37 }) (va_Pc [.ref mm] (zPre eD eI ad (dC, dI) [(mm, .inr (21, [.int th, .ref ms, .ref mt, .ref mh, .ref me]))] [] sz)) (va_Qq (fun (r : Option Nat) (vw : Nat) => r = some vw) (fun (vw : Nat) => zEnd (dC, dI) (va_A [(mm, .inr (21, [.int th, .ref ms, .ref mt, .ref mh, .ref me]))] sz) [(mm, .inr (21, [.int th, .ref ms, .ref mt, .ref mh, .ref me])), (vw, .inr (19, [.int (-1), .int (-1), .int (-1), .int (-1), .ref mm]))] []) (va_A [(mm, .inr (21, [.int th, .ref ms, .ref mt, .ref mh, .ref me]))] sz)) 1 5 (va_A [(mm, .inr (21, [.int th, .ref ms, .ref mt, .ref mh, .ref me]))] sz) := by
  refine Met.ofW (cc := cX19_view) (maxL := 1) (ret := (some (.object "HornbookModel$View"))) (by decide) rfl ?_
  intro p e s m args below meth c s₁ B hml hv
  obtain ⟨rfl, hsz, hP, hK, hD0, hE⟩ := hv
  have hx := B.exec
  have hb := B.bytes
  have hr := B.returns
  have hts := atoms_spec (ws := w_c_M_view) B.pre
  have hown : s.vm.findClass RX19 = some m.cls := findClass_of_methodNamed B.named
  have hlocks := B.notSynchronized
  subst hsz
  have hD := hD0.self (sz := s.heap.size)
  generalize hAe : va_A [(mm, .inr (21, [.int th, .ref ms, .ref mt, .ref mh, .ref me]))] s.heap.size = A at hD hE ⊢
  have hA : ∀ q : Nat, s.heap.size ≤ q → A q := fun q h => by rw [← hAe]; exact Or.inr h
  have hS : va_S A s.heap s.heap [] := va_S.rf
  have hP : va_P (dC, dI) vwCl [(mm, .inr (21, [.int th, .ref ms, .ref mt, .ref mh, .ref me]))] s.heap := hP
  have hl := lv_entry ([.ref mm]) (n := 1) (Nat.le_of_ble_eq_true rfl)
  rw [lg_entry_eq]
  generalize (lg_sl ([.ref mm]) ++ List.replicate (1 - (lg_sl ([.ref mm])).length) Slot.unset).toArray = ls at hl ⊢
  have hl : lv_has ls 1 [(0, .ref mm)] := hl
  have in_RX17 : ∀ w ∈ u_ws RX17 TX17 5, w ∈ w_c_M_view := by decide +kernel
  refine va_new (ci := 19) (fs := [.int 0, .int 0, .int 0, .int 0, .null]) (C := RX17) (T := TX17) (N := 5) hx hb hts in_RX17 tyX17 tyX17_ok hown (hts (.classLink RX19 42 RX17) (by decide +kernel)) (hts (.instantiable RX17 5) (by decide +kernel)) (hts (.initialized RX17) (by decide +kernel)) hK hP hD hS hA rfl (fun j hj => by rcases (show j = 0 ∨ j = 1 ∨ j = 2 ∨ j = 3 ∨ j = 4 by omega) with rfl | rfl | rfl | rfl | rfl <;> rfl) (Nat.le_of_ble_eq_true rfl) (Nat.le_of_ble_eq_true rfl) dX19_view_0 (fun q_1 H hP hD hS => ?_)
  have hP : va_P (dC, dI) vwCl [(mm, .inr (21, [.int th, .ref ms, .ref mt, .ref mh, .ref me])), (q_1, .inr (19, [.int 0, .int 0, .int 0, .int 0, .null]))] H := hP
  have hD : va_D A [(mm, .inr (21, [.int th, .ref ms, .ref mt, .ref mh, .ref me])), (q_1, .inr (19, [.int 0, .int 0, .int 0, .int 0, .null]))] := hD
  refine lv_dup hx hb dX19_view_3 rfl ?_
  refine lv_aload_n hx hb dX19_view_4 rfl (lv_at hl 0 rfl) ?_
  refine lv_iconst (v := (-1)) hx hb dX19_view_5 (by decide) ?_
  refine lv_iconst (v := (-1)) hx hb dX19_view_6 (by decide) ?_
  refine lv_iconst (v := (-1)) hx hb dX19_view_7 (by decide) ?_
  refine lv_iconst (v := (-1)) hx hb dX19_view_8 (by decide) ?_
  refine z_v (wr := [(mm, .inr (21, [.int th, .ref ms, .ref mt, .ref mh, .ref me]))]) (va_runI (As := [.ref mm, .int (-1), .int (-1), .int (-1), .int (-1)]) (rest := [.ref q_1]) ⟨hx, hb, hml, hown, hts⟩ (c_V_init l eD eI ad dC dI H.size q_1 mm (-1) (-1) (-1) (-1)) (cwI 5 hts g_c_M_view_0 rfl rfl rfl (hts (.initialized RX17) (by decide +kernel)) (hts (.methodLink RX19 44 yX17_init) (by decide +kernel)) (hts (.instanceMethod yX17_init) (by decide +kernel)) rfl (by decide +kernel) ⟨Nat.le_of_ble_eq_true rfl, Nat.le_of_ble_eq_true rfl⟩) (z_preS (wc := [(q_1, .inr (19, [.int 0, .int 0, .int 0, .int 0, .null]))]) hP hD hK hS hA hE [1] [] rfl (by decide) rfl) rfl rfl hl.1 rfl (lv_room (Nat.le_of_ble_eq_true rfl)) dX19_view_9 ⟨Nat.le_of_ble_eq_true rfl, Nat.le_of_ble_eq_true rfl⟩) hP hD hK hS hA [1] [0] rfl rfl (by decide) (by decide) (fun u H locs hw_3 hP hD hK hS => ?_)
  obtain ⟨⟩ := u
  have hP : va_P (dC, dI) vwCl [(mm, .inr (21, [.int th, .ref ms, .ref mt, .ref mh, .ref me])), (q_1, .inr (19, [.int (-1), .int (-1), .int (-1), .int (-1), .ref mm]))] H := hP
  have hD : va_D A [(mm, .inr (21, [.int th, .ref ms, .ref mt, .ref mh, .ref me])), (q_1, .inr (19, [.int (-1), .int (-1), .int (-1), .int (-1), .ref mm]))] := hD
  have hK : va_K (dC, dI) vwCl [] s := by simpa using hK
  have hP9 := hP.sub (ws' := [(mm, .inr (21, [.int th, .ref ms, .ref mt, .ref mh, .ref me])), (q_1, .inr (19, [.int (-1), .int (-1), .int (-1), .int (-1), .ref mm]))]) [0, 1] rfl
  have hD9 := hD.sub (ws' := [(mm, .inr (21, [.int th, .ref ms, .ref mt, .ref mh, .ref me])), (q_1, .inr (19, [.int (-1), .int (-1), .int (-1), .int (-1), .ref mm]))]) [0, 1] (by decide) rfl
  have hK9 := hK.sub (tys' := []) [] rfl
  refine W.widen (k := 1) (n := 5) (Nat.le_of_ble_eq_true rfl) (Nat.le_of_ble_eq_true rfl) ?_
  exact W.aret (v := .ref q_1) hx hb hr (Or.inl ⟨_, rfl⟩) (Or.inr ⟨_, rfl⟩) (fun t ht hW => ⟨⟨some q_1, q_1, rfl, rfl, ⟨by rw [ht]; exact hP9, va_K.moved hW.alike hK9, hD9⟩⟩, hS.F ht⟩) hS.2.2 dX19_view_12

def wb_c_V_road : List Cond := [.classLink RX17 33 RJx4a65c, .instantiable RJx4a65c 3, .initialized RJx4a65c, .code yJx4a65c_init_da8c8 cJx4a65c_init_da8c8 1 none, .code yJxc12de_init_da8c8 cJxc12de_init_da8c8 1 none, .code yJxa1e45_init_da8c8 cJxa1e45_init_da8c8 1 none, .methodLink RJxa1e45 1 objectInit, .instanceMethod objectInit, .code objectInit ⟨#[0xb1]⟩ 1 none, .initialized RJxa1e45, .methodLink RJxc12de 1 yJxa1e45_init_da8c8, .instanceMethod yJxa1e45_init_da8c8, .fieldLink RJxc12de 7 "java/util/AbstractList" "modCount" "I", .initialized RJxc12de, .methodLink RJx4a65c 1 yJxc12de_init_da8c8, .instanceMethod yJxc12de_init_da8c8, .fieldLink RJx4a65c 39 "java/util/ArrayList" "DEFAULTCAPACITY_EMPTY_ELEMENTDATA" "[Ljava/lang/Object;", .fieldLink RJx4a65c 9 "java/util/ArrayList" "elementData" "[Ljava/lang/Object;", .methodLink RX17 67 yJx4a65c_init_da8c8, .instanceMethod yJx4a65c_init_da8c8, .code yX16_isSort cX16_isSort 1 (some .boolean), .fieldLink RX16 14 "HornbookModel$Tree" "head" "I", .methodLink RX17 68 yX16_isSort, .instanceMethod yX16_isSort, .selects RX16 yX16_isSort yX16_isSort, .initialized RX16] ++ u_ws RJx4a65c TJx4a65c 3 ++ u_ws RX16 TX16 2
def w_c_V_road : List Cond := .code yX17_road cX17_road 3 (some (.object "java/util/ArrayList")) :: wb_c_V_road
set_option maxRecDepth 100000 in
theorem g_c_V_road_0 : GoodIn w_c_V_road (w_c_AL_init) := goodIn_p (big := w_c_V_road) (.code yJx4a65c_init_da8c8 cJx4a65c_init_da8c8 1 none :: wb_c_AL_init) [4, 5, 6, 9] rfl (by decide +kernel)
set_option maxRecDepth 100000 in
theorem g_c_V_road_1 : GoodIn w_c_V_road (wsV RX17 68 RX16 yX16_isSort w_c_T_isSort) := goodIn_app (goodIn_of _ (by decide +kernel)) (goodIn_p (big := w_c_V_road) (.code yX16_isSort cX16_isSort 1 (some .boolean) :: wb_c_T_isSort) [21] rfl (by decide +kernel))
set_option maxHeartbeats 4000000 in
set_option maxRecDepth 100000 in
theorem c_V_road (l : Launch) (eD eI : Nat) (ad : Nat → Nat) (dC : Nat → ClassId) (dI : Nat → Nat → Nat) (sz : Nat) (vw : Nat) (mm : Nat) (h : Nat) (hd : Int32) (f1 : Value) (h1 : hd < 0) : Met l yX17_road w_c_V_road ({ frames := 4, cells := 1, slots := 3, locals := 72 }) (va_Pc [.ref vw, .ref h] (zPre eD eI ad (dC, dI) [(vw, .inr (19, [.int (-1), .int (-1), .int (-1), .int (-1), .ref mm])), (h, .inr (18, [.int hd, f1]))] [] sz)) (va_Qq (fun (r : Option Nat) (rd : Nat) => r = some rd) (fun (rd : Nat) => zEnd (dC, dI) (va_A [(vw, .inr (19, [.int (-1), .int (-1), .int (-1), .int (-1), .ref mm])), (h, .inr (18, [.int hd, f1]))] sz) [(vw, .inr (19, [.int (-1), .int (-1), .int (-1), .int (-1), .ref mm])), (h, .inr (18, [.int hd, f1])), (rd, .inr (1, [.int 0, .ref eD, .int 0]))] []) (va_A [(vw, .inr (19, [.int (-1), .int (-1), .int (-1), .int (-1), .ref mm])), (h, .inr (18, [.int hd, f1]))] sz)) 1 3 (va_A [(vw, .inr (19, [.int (-1), .int (-1), .int (-1), .int (-1), .ref mm])), (h, .inr (18, [.int hd, f1]))] sz) := by
  refine Met.ofW (cc := cX17_road) (maxL := 3) (ret := (some (.object "java/util/ArrayList"))) (by decide) rfl ?_
  intro p e s m args below meth c s₁ B hml hv
  obtain ⟨rfl, hsz, hP, hK, hD0, hE⟩ := hv
  have hx := B.exec
  have hb := B.bytes
  have hr := B.returns
  have hts := atoms_spec (ws := w_c_V_road) B.pre
  have hown : s.vm.findClass RX17 = some m.cls := findClass_of_methodNamed B.named
  have hlocks := B.notSynchronized
  subst hsz
  have hD := hD0.self (sz := s.heap.size)
  generalize hAe : va_A [(vw, .inr (19, [.int (-1), .int (-1), .int (-1), .int (-1), .ref mm])), (h, .inr (18, [.int hd, f1]))] s.heap.size = A at hD hE ⊢
  have hA : ∀ q : Nat, s.heap.size ≤ q → A q := fun q h => by rw [← hAe]; exact Or.inr h
  have hS : va_S A s.heap s.heap [] := va_S.rf
  have hP : va_P (dC, dI) vwCl [(vw, .inr (19, [.int (-1), .int (-1), .int (-1), .int (-1), .ref mm])), (h, .inr (18, [.int hd, f1]))] s.heap := hP
  have hl := lv_entry ([.ref vw, .ref h]) (n := 3) (Nat.le_of_ble_eq_true rfl)
  rw [lg_entry_eq]
  generalize (lg_sl ([.ref vw, .ref h]) ++ List.replicate (3 - (lg_sl ([.ref vw, .ref h])).length) Slot.unset).toArray = ls at hl ⊢
  have hl : lv_has ls 3 [(0, .ref vw), (1, .ref h)] := hl
  have in_RJx4a65c : ∀ w ∈ u_ws RJx4a65c TJx4a65c 3, w ∈ w_c_V_road := by decide +kernel
  have in_RX16 : ∀ w ∈ u_ws RX16 TX16 2, w ∈ w_c_V_road := by decide +kernel
  refine va_new (ci := 1) (fs := [.int 0, .null, .int 0]) (C := RJx4a65c) (T := TJx4a65c) (N := 3) hx hb hts in_RJx4a65c tyJx4a65c tyJx4a65c_ok hown (hts (.classLink RX17 33 RJx4a65c) (by decide +kernel)) (hts (.instantiable RJx4a65c 3) (by decide +kernel)) (hts (.initialized RJx4a65c) (by decide +kernel)) hK hP hD hS hA rfl (fun j hj => by rcases (show j = 0 ∨ j = 1 ∨ j = 2 by omega) with rfl | rfl | rfl <;> rfl) (Nat.le_of_ble_eq_true rfl) (Nat.le_of_ble_eq_true rfl) dX17_road_0 (fun q_1 H hP hD hS => ?_)
  have hP : va_P (dC, dI) vwCl [(vw, .inr (19, [.int (-1), .int (-1), .int (-1), .int (-1), .ref mm])), (h, .inr (18, [.int hd, f1])), (q_1, .inr (1, [.int 0, .null, .int 0]))] H := hP
  have hD : va_D A [(vw, .inr (19, [.int (-1), .int (-1), .int (-1), .int (-1), .ref mm])), (h, .inr (18, [.int hd, f1])), (q_1, .inr (1, [.int 0, .null, .int 0]))] := hD
  refine lv_dup hx hb dX17_road_3 rfl ?_
  refine z_v (wr := [(vw, .inr (19, [.int (-1), .int (-1), .int (-1), .int (-1), .ref mm])), (h, .inr (18, [.int hd, f1]))]) (va_runI (As := []) (rest := [.ref q_1]) ⟨hx, hb, hml, hown, hts⟩ (c_AL_init l eD eI ad dC dI H.size q_1) (cwI 0 hts g_c_V_road_0 rfl rfl rfl (hts (.initialized RJx4a65c) (by decide +kernel)) (hts (.methodLink RX17 67 yJx4a65c_init_da8c8) (by decide +kernel)) (hts (.instanceMethod yJx4a65c_init_da8c8) (by decide +kernel)) rfl (by decide +kernel) ⟨Nat.le_of_ble_eq_true rfl, Nat.le_of_ble_eq_true rfl⟩) (z_preS (wc := [(q_1, .inr (1, [.int 0, .null, .int 0]))]) hP hD hK hS hA hE [2] [] rfl (by decide) rfl) rfl rfl hl.1 rfl (lv_room (Nat.le_of_ble_eq_true rfl)) dX17_road_4 ⟨Nat.le_of_ble_eq_true rfl, Nat.le_of_ble_eq_true rfl⟩) hP hD hK hS hA [2] [0, 1] rfl rfl (by decide) (by decide) (fun u H locs hw_3 hP hD hK hS => ?_)
  obtain ⟨⟩ := u
  have hP : va_P (dC, dI) vwCl [(vw, .inr (19, [.int (-1), .int (-1), .int (-1), .int (-1), .ref mm])), (h, .inr (18, [.int hd, f1])), (q_1, .inr (1, [.int 0, .ref eD, .int 0]))] H := hP
  have hD : va_D A [(vw, .inr (19, [.int (-1), .int (-1), .int (-1), .int (-1), .ref mm])), (h, .inr (18, [.int hd, f1])), (q_1, .inr (1, [.int 0, .ref eD, .int 0]))] := hD
  have hK : va_K (dC, dI) vwCl [] s := by simpa using hK
  refine lv_astore_n (lv' := [(2, .ref q_1), (0, .ref vw), (1, .ref h)]) hx hb dX17_road_7 rfl hl (by decide) rfl (fun ls hl => ?_)
  refine lv_aload_n hx hb dX17_road_8 rfl (lv_at hl 2 rfl) ?_
  refine z_i (wr := [(vw, .inr (19, [.int (-1), .int (-1), .int (-1), .int (-1), .ref mm])), (q_1, .inr (1, [.int 0, .ref eD, .int 0]))]) (va_runV (As := []) (rest := []) ⟨hx, hb, hml, hown, hts⟩ (c_T_isSort l eD eI ad dC dI H.size h hd f1 (h1)) (cwV 0 hts g_c_V_road_1 rfl rfl rfl (by decide +kernel) ⟨Nat.le_of_ble_eq_true rfl, Nat.le_of_ble_eq_true rfl⟩) (z_preV (wc := [(h, .inr (18, [.int hd, f1]))]) hP hD hK hS hA hE [1] [] rfl (by decide) rfl (ci := 18) (q0 := 0) rfl rfl) rfl rfl hl.1 rfl (lv_room (Nat.le_of_ble_eq_true rfl)) dX17_road_9 ⟨Nat.le_of_ble_eq_true rfl, Nat.le_of_ble_eq_true rfl⟩) hP hD hK hS hA [1] [0, 2] rfl rfl (by decide) (by decide) (fun r_4 u H locs hw_5 hP hD hK hS => ?_)
  obtain ⟨⟩ := u
  have hP : va_P (dC, dI) vwCl [(vw, .inr (19, [.int (-1), .int (-1), .int (-1), .int (-1), .ref mm])), (q_1, .inr (1, [.int 0, .ref eD, .int 0])), (h, .inr (18, [.int hd, f1]))] H := hP
  have hD : va_D A [(vw, .inr (19, [.int (-1), .int (-1), .int (-1), .int (-1), .ref mm])), (q_1, .inr (1, [.int 0, .ref eD, .int 0])), (h, .inr (18, [.int hd, f1]))] := hD
  have hK : va_K (dC, dI) vwCl [] s := by simpa using hK
  have hw_5 : r_4 = 0 := hw_5
  have hw_5 := hw_5.symm
  subst hw_5
  refine lv_if_eq (tgt := 22) hx hb dX17_road_12 (by decide) (fun c_6 => ?_) (fun c_6 => ?_)
  rotate_left
  · exact absurd (by decide) c_6
  refine lv_aload_n hx hb dX17_road_22 rfl (lv_at hl 0 rfl) ?_
  have hP9 := hP.sub (ws' := [(vw, .inr (19, [.int (-1), .int (-1), .int (-1), .int (-1), .ref mm])), (h, .inr (18, [.int hd, f1])), (q_1, .inr (1, [.int 0, .ref eD, .int 0]))]) [0, 2, 1] rfl
  have hD9 := hD.sub (ws' := [(vw, .inr (19, [.int (-1), .int (-1), .int (-1), .int (-1), .ref mm])), (h, .inr (18, [.int hd, f1])), (q_1, .inr (1, [.int 0, .ref eD, .int 0]))]) [0, 2, 1] (by decide) rfl
  have hK9 := hK.sub (tys' := []) [] rfl
  refine W.widen (k := 1) (n := 3) (Nat.le_of_ble_eq_true rfl) (Nat.le_of_ble_eq_true rfl) ?_
  exact W.aret (v := .ref q_1) hx hb hr (Or.inl ⟨_, rfl⟩) (Or.inr ⟨_, rfl⟩) (fun t ht hW => ⟨⟨some q_1, q_1, rfl, rfl, ⟨by rw [ht]; exact hP9, va_K.moved hW.alike hK9, hD9⟩⟩, hS.F ht⟩) hS.2.2 dX17_road_23

def wb_c_V_isUnder_00 : List Cond := [.fieldLink RX17 49 "HornbookModel$Tree" "head" "I"] ++ u_ws RX16 TX16 2
def w_c_V_isUnder_00 : List Cond := .code yX17_isUnder cX17_isUnder 6 (some .boolean) :: wb_c_V_isUnder_00
set_option maxHeartbeats 4000000 in
set_option maxRecDepth 100000 in
theorem c_V_isUnder_00 (l : Launch) (eD eI : Nat) (ad : Nat → Nat) (dC : Nat → ClassId) (dI : Nat → Nat → Nat) (sz : Nat) (vw : Nat) (mm : Nat) (t0 : Nat) (i0 : Nat) (kT : ClassId) : Met l yX17_isUnder w_c_V_isUnder_00 ({ frames := 0, cells := 0, slots := 0, locals := 0 }) (va_Pc [.ref vw, .ref t0, .ref t0] (zPre eD eI ad (dC, dI) [(vw, .inr (19, [.int (-1), .int (-1), .int (-1), .int (-1), .ref mm])), (t0, .inr (18, [.int (-1), .ref i0])), (i0, .inl (kT, 0, .inr (.inr (.inr (.inr (fun _ => none))))))] [(kT, .object "HornbookModel$Tree")] sz)) (va_Qi (fun (r : Int32) (_ : Unit) => r = 1) (fun (_ : Unit) => zEnd (dC, dI) (va_A [(vw, .inr (19, [.int (-1), .int (-1), .int (-1), .int (-1), .ref mm])), (t0, .inr (18, [.int (-1), .ref i0])), (i0, .inl (kT, 0, .inr (.inr (.inr (.inr (fun _ => none))))))] sz) [(vw, .inr (19, [.int (-1), .int (-1), .int (-1), .int (-1), .ref mm])), (t0, .inr (18, [.int (-1), .ref i0])), (i0, .inl (kT, 0, .inr (.inr (.inr (.inr (fun _ => none))))))] []) (va_A [(vw, .inr (19, [.int (-1), .int (-1), .int (-1), .int (-1), .ref mm])), (t0, .inr (18, [.int (-1), .ref i0])), (i0, .inl (kT, 0, .inr (.inr (.inr (.inr (fun _ => none))))))] sz)) 0 0 (va_A [(vw, .inr (19, [.int (-1), .int (-1), .int (-1), .int (-1), .ref mm])), (t0, .inr (18, [.int (-1), .ref i0])), (i0, .inl (kT, 0, .inr (.inr (.inr (.inr (fun _ => none))))))] sz) := by
  refine Met.ofW (cc := cX17_isUnder) (maxL := 6) (ret := (some .boolean)) (by decide) rfl ?_
  intro p e s m args below meth c s₁ B hml hv
  obtain ⟨rfl, hsz, hP, hK, hD0, hE⟩ := hv
  have hx := B.exec
  have hb := B.bytes
  have hr := B.returns
  have hts := atoms_spec (ws := w_c_V_isUnder_00) B.pre
  have hown : s.vm.findClass RX17 = some m.cls := findClass_of_methodNamed B.named
  have hlocks := B.notSynchronized
  subst hsz
  have hD := hD0.self (sz := s.heap.size)
  generalize hAe : va_A [(vw, .inr (19, [.int (-1), .int (-1), .int (-1), .int (-1), .ref mm])), (t0, .inr (18, [.int (-1), .ref i0])), (i0, .inl (kT, 0, .inr (.inr (.inr (.inr (fun _ => none))))))] s.heap.size = A at hD hE ⊢
  have hA : ∀ q : Nat, s.heap.size ≤ q → A q := fun q h => by rw [← hAe]; exact Or.inr h
  have hS : va_S A s.heap s.heap [] := va_S.rf
  have hP : va_P (dC, dI) vwCl [(vw, .inr (19, [.int (-1), .int (-1), .int (-1), .int (-1), .ref mm])), (t0, .inr (18, [.int (-1), .ref i0])), (i0, .inl (kT, 0, .inr (.inr (.inr (.inr (fun _ => none))))))] s.heap := hP
  have hl := lv_entry ([.ref vw, .ref t0, .ref t0]) (n := 6) (Nat.le_of_ble_eq_true rfl)
  rw [lg_entry_eq]
  generalize (lg_sl ([.ref vw, .ref t0, .ref t0]) ++ List.replicate (6 - (lg_sl ([.ref vw, .ref t0, .ref t0])).length) Slot.unset).toArray = ls at hl ⊢
  have hl : lv_has ls 6 [(0, .ref vw), (1, .ref t0), (2, .ref t0)] := hl
  have in_RX16 : ∀ w ∈ u_ws RX16 TX16 2, w ∈ w_c_V_isUnder_00 := by decide +kernel
  refine lv_aload_n hx hb dX17_isUnder_0 rfl (lv_at hl 1 rfl) ?_
  refine va_get (D := (dC, dI)) (ci := 18) (v := .int (-1)) (C := RX16) (T := TX16) (N := 2) hx hb hts in_RX16 hown hK hP 1 rfl rfl 0 (by decide) (hts (.fieldLink RX17 49 "HornbookModel$Tree" "head" "I") (by decide +kernel)) (fun _ h9 => h9) rfl dX17_isUnder_1 ?_
  refine lv_bipush (v := (-2)) hx hb dX17_isUnder_4 (by decide) ?_
  refine lv_icmp_eq (tgt := 25) hx hb dX17_isUnder_6 (by decide) (fun c_1 => ?_) (fun c_1 => ?_)
  · exact absurd c_1 (by decide)
  refine lv_aload_n hx hb dX17_isUnder_9 rfl (lv_at hl 2 rfl) ?_
  refine va_get (D := (dC, dI)) (ci := 18) (v := .int (-1)) (C := RX16) (T := TX16) (N := 2) hx hb hts in_RX16 hown hK hP 1 rfl rfl 0 (by decide) (hts (.fieldLink RX17 49 "HornbookModel$Tree" "head" "I") (by decide +kernel)) (fun _ h9 => h9) rfl dX17_isUnder_10 ?_
  refine lv_iconst (v := (-1)) hx hb dX17_isUnder_13 (by decide) ?_
  refine lv_icmp_eq (tgt := 25) hx hb dX17_isUnder_14 (by decide) (fun c_2 => ?_) (fun c_2 => ?_)
  rotate_left
  · exact absurd (by decide) c_2
  refine lv_iconst (v := 1) hx hb dX17_isUnder_25 (by decide) ?_
  have hP9 := hP.sub (ws' := [(vw, .inr (19, [.int (-1), .int (-1), .int (-1), .int (-1), .ref mm])), (t0, .inr (18, [.int (-1), .ref i0])), (i0, .inl (kT, 0, .inr (.inr (.inr (.inr (fun _ => none))))))]) [0, 1, 2] rfl
  have hD9 := hD.sub (ws' := [(vw, .inr (19, [.int (-1), .int (-1), .int (-1), .int (-1), .ref mm])), (t0, .inr (18, [.int (-1), .ref i0])), (i0, .inl (kT, 0, .inr (.inr (.inr (.inr (fun _ => none))))))]) [0, 1, 2] (by decide) rfl
  have hK9 := hK.sub (tys' := []) [] rfl
  refine W.widen (k := 0) (n := 0) (Nat.le_of_ble_eq_true rfl) (Nat.le_of_ble_eq_true rfl) ?_
  exact W.zret (v := 1) hx hb hr (by first | rfl | decide) (fun t ht hW => ⟨⟨1, (), rfl, rfl, ⟨by rw [ht]; exact hP9, va_K.moved hW.alike hK9, hD9⟩⟩, hS.F ht⟩) hS.2.2 dX17_isUnder_26

def wb_c_V_isUnder_01 : List Cond := [.fieldLink RX17 49 "HornbookModel$Tree" "head" "I", .code yX16_isSame cX16_isSame 3 (some .boolean), .fieldLink RX16 14 "HornbookModel$Tree" "head" "I", .methodLink RX17 76 yX16_isSame, .instanceMethod yX16_isSame, .selects RX16 yX16_isSame yX16_isSame, .initialized RX16, .code yX16_isSort cX16_isSort 1 (some .boolean), .methodLink RX17 68 yX16_isSort, .instanceMethod yX16_isSort, .selects RX16 yX16_isSort yX16_isSort] ++ u_ws RX16 TX16 2
def w_c_V_isUnder_01 : List Cond := .code yX17_isUnder cX17_isUnder 6 (some .boolean) :: wb_c_V_isUnder_01
set_option maxRecDepth 100000 in
theorem g_c_V_isUnder_01_0 : GoodIn w_c_V_isUnder_01 (wsV RX17 76 RX16 yX16_isSame w_c_T_isSame_ne) := goodIn_app (goodIn_of _ (by decide +kernel)) (goodIn_p (big := w_c_V_isUnder_01) (.code yX16_isSame cX16_isSame 3 (some .boolean) :: wb_c_T_isSame_ne) [2] rfl (by decide +kernel))
set_option maxRecDepth 100000 in
theorem g_c_V_isUnder_01_1 : GoodIn w_c_V_isUnder_01 (wsV RX17 68 RX16 yX16_isSort w_c_T_isSort) := goodIn_app (goodIn_of _ (by decide +kernel)) (goodIn_p (big := w_c_V_isUnder_01) (.code yX16_isSort cX16_isSort 1 (some .boolean) :: wb_c_T_isSort) [8] rfl (by decide +kernel))
set_option maxHeartbeats 4000000 in
set_option maxRecDepth 100000 in
theorem c_V_isUnder_01 (l : Launch) (eD eI : Nat) (ad : Nat → Nat) (dC : Nat → ClassId) (dI : Nat → Nat → Nat) (sz : Nat) (vw : Nat) (mm : Nat) (t0 : Nat) (t1 : Nat) (i0 : Nat) (i1 : Nat) (kT : ClassId) : Met l yX17_isUnder w_c_V_isUnder_01 ({ frames := 1, cells := 0, slots := 0, locals := 22 }) (va_Pc [.ref vw, .ref t0, .ref t1] (zPre eD eI ad (dC, dI) [(vw, .inr (19, [.int (-1), .int (-1), .int (-1), .int (-1), .ref mm])), (t0, .inr (18, [.int (-1), .ref i0])), (t1, .inr (18, [.int (-2), .ref i1])), (i0, .inl (kT, 0, .inr (.inr (.inr (.inr (fun _ => none)))))), (i1, .inl (kT, 0, .inr (.inr (.inr (.inr (fun _ => none))))))] [(kT, .object "HornbookModel$Tree")] sz)) (va_Qi (fun (r : Int32) (_ : Unit) => r = 0) (fun (_ : Unit) => zEnd (dC, dI) (va_A [(vw, .inr (19, [.int (-1), .int (-1), .int (-1), .int (-1), .ref mm])), (t0, .inr (18, [.int (-1), .ref i0])), (t1, .inr (18, [.int (-2), .ref i1])), (i0, .inl (kT, 0, .inr (.inr (.inr (.inr (fun _ => none)))))), (i1, .inl (kT, 0, .inr (.inr (.inr (.inr (fun _ => none))))))] sz) [(vw, .inr (19, [.int (-1), .int (-1), .int (-1), .int (-1), .ref mm])), (t0, .inr (18, [.int (-1), .ref i0])), (t1, .inr (18, [.int (-2), .ref i1])), (i0, .inl (kT, 0, .inr (.inr (.inr (.inr (fun _ => none)))))), (i1, .inl (kT, 0, .inr (.inr (.inr (.inr (fun _ => none))))))] []) (va_A [(vw, .inr (19, [.int (-1), .int (-1), .int (-1), .int (-1), .ref mm])), (t0, .inr (18, [.int (-1), .ref i0])), (t1, .inr (18, [.int (-2), .ref i1])), (i0, .inl (kT, 0, .inr (.inr (.inr (.inr (fun _ => none)))))), (i1, .inl (kT, 0, .inr (.inr (.inr (.inr (fun _ => none))))))] sz)) 0 0 (va_A [(vw, .inr (19, [.int (-1), .int (-1), .int (-1), .int (-1), .ref mm])), (t0, .inr (18, [.int (-1), .ref i0])), (t1, .inr (18, [.int (-2), .ref i1])), (i0, .inl (kT, 0, .inr (.inr (.inr (.inr (fun _ => none)))))), (i1, .inl (kT, 0, .inr (.inr (.inr (.inr (fun _ => none))))))] sz) := by
  refine Met.ofW (cc := cX17_isUnder) (maxL := 6) (ret := (some .boolean)) (by decide) rfl ?_
  intro p e s m args below meth c s₁ B hml hv
  obtain ⟨rfl, hsz, hP, hK, hD0, hE⟩ := hv
  have hx := B.exec
  have hb := B.bytes
  have hr := B.returns
  have hts := atoms_spec (ws := w_c_V_isUnder_01) B.pre
  have hown : s.vm.findClass RX17 = some m.cls := findClass_of_methodNamed B.named
  have hlocks := B.notSynchronized
  subst hsz
  have hD := hD0.self (sz := s.heap.size)
  generalize hAe : va_A [(vw, .inr (19, [.int (-1), .int (-1), .int (-1), .int (-1), .ref mm])), (t0, .inr (18, [.int (-1), .ref i0])), (t1, .inr (18, [.int (-2), .ref i1])), (i0, .inl (kT, 0, .inr (.inr (.inr (.inr (fun _ => none)))))), (i1, .inl (kT, 0, .inr (.inr (.inr (.inr (fun _ => none))))))] s.heap.size = A at hD hE ⊢
  have hA : ∀ q : Nat, s.heap.size ≤ q → A q := fun q h => by rw [← hAe]; exact Or.inr h
  have hS : va_S A s.heap s.heap [] := va_S.rf
  have hP : va_P (dC, dI) vwCl [(vw, .inr (19, [.int (-1), .int (-1), .int (-1), .int (-1), .ref mm])), (t0, .inr (18, [.int (-1), .ref i0])), (t1, .inr (18, [.int (-2), .ref i1])), (i0, .inl (kT, 0, .inr (.inr (.inr (.inr (fun _ => none)))))), (i1, .inl (kT, 0, .inr (.inr (.inr (.inr (fun _ => none))))))] s.heap := hP
  have hl := lv_entry ([.ref vw, .ref t0, .ref t1]) (n := 6) (Nat.le_of_ble_eq_true rfl)
  rw [lg_entry_eq]
  generalize (lg_sl ([.ref vw, .ref t0, .ref t1]) ++ List.replicate (6 - (lg_sl ([.ref vw, .ref t0, .ref t1])).length) Slot.unset).toArray = ls at hl ⊢
  have hl : lv_has ls 6 [(0, .ref vw), (1, .ref t0), (2, .ref t1)] := hl
  have in_RX16 : ∀ w ∈ u_ws RX16 TX16 2, w ∈ w_c_V_isUnder_01 := by decide +kernel
  refine lv_aload_n hx hb dX17_isUnder_0 rfl (lv_at hl 1 rfl) ?_
  refine va_get (D := (dC, dI)) (ci := 18) (v := .int (-1)) (C := RX16) (T := TX16) (N := 2) hx hb hts in_RX16 hown hK hP 1 rfl rfl 0 (by decide) (hts (.fieldLink RX17 49 "HornbookModel$Tree" "head" "I") (by decide +kernel)) (fun _ h9 => h9) rfl dX17_isUnder_1 ?_
  refine lv_bipush (v := (-2)) hx hb dX17_isUnder_4 (by decide) ?_
  refine lv_icmp_eq (tgt := 25) hx hb dX17_isUnder_6 (by decide) (fun c_1 => ?_) (fun c_1 => ?_)
  · exact absurd c_1 (by decide)
  refine lv_aload_n hx hb dX17_isUnder_9 rfl (lv_at hl 2 rfl) ?_
  refine va_get (D := (dC, dI)) (ci := 18) (v := .int (-2)) (C := RX16) (T := TX16) (N := 2) hx hb hts in_RX16 hown hK hP 2 rfl rfl 0 (by decide) (hts (.fieldLink RX17 49 "HornbookModel$Tree" "head" "I") (by decide +kernel)) (fun _ h9 => h9) rfl dX17_isUnder_10 ?_
  refine lv_iconst (v := (-1)) hx hb dX17_isUnder_13 (by decide) ?_
  refine lv_icmp_eq (tgt := 25) hx hb dX17_isUnder_14 (by decide) (fun c_2 => ?_) (fun c_2 => ?_)
  · exact absurd c_2 (by decide)
  refine lv_aload_n hx hb dX17_isUnder_17 rfl (lv_at hl 1 rfl) ?_
  refine lv_aload_n hx hb dX17_isUnder_18 rfl (lv_at hl 2 rfl) ?_
  refine z_i (wr := [(vw, .inr (19, [.int (-1), .int (-1), .int (-1), .int (-1), .ref mm])), (i0, .inl (kT, 0, .inr (.inr (.inr (.inr (fun _ => none)))))), (i1, .inl (kT, 0, .inr (.inr (.inr (.inr (fun _ => none))))))]) (va_runV (As := [.ref t1]) (rest := []) ⟨hx, hb, hml, hown, hts⟩ (c_T_isSame_ne l eD eI ad dC dI s.heap.size t0 (-1) ((.ref i0)) t1 (-2) ((.ref i1)) (by decide)) (cwV 1 hts g_c_V_isUnder_01_0 rfl rfl rfl (by decide +kernel) ⟨Nat.le_of_ble_eq_true rfl, Nat.le_of_ble_eq_true rfl⟩) (z_preV (wc := [(t0, .inr (18, [.int (-1), .ref i0])), (t1, .inr (18, [.int (-2), .ref i1]))]) hP hD hK hS hA hE [1, 2] [] rfl (by decide) rfl (ci := 18) (q0 := 0) rfl rfl) rfl rfl hl.1 rfl (lv_room (Nat.le_of_ble_eq_true rfl)) dX17_isUnder_19 ⟨Nat.le_of_ble_eq_true rfl, Nat.le_of_ble_eq_true rfl⟩) hP hD hK hS hA [1, 2] [0, 3, 4] rfl rfl (by decide) (by decide) (fun r_3 u H locs hw_4 hP hD hK hS => ?_)
  obtain ⟨⟩ := u
  have hP : va_P (dC, dI) vwCl [(vw, .inr (19, [.int (-1), .int (-1), .int (-1), .int (-1), .ref mm])), (i0, .inl (kT, 0, .inr (.inr (.inr (.inr (fun _ => none)))))), (i1, .inl (kT, 0, .inr (.inr (.inr (.inr (fun _ => none)))))), (t0, .inr (18, [.int (-1), .ref i0])), (t1, .inr (18, [.int (-2), .ref i1]))] H := hP
  have hD : va_D A [(vw, .inr (19, [.int (-1), .int (-1), .int (-1), .int (-1), .ref mm])), (i0, .inl (kT, 0, .inr (.inr (.inr (.inr (fun _ => none)))))), (i1, .inl (kT, 0, .inr (.inr (.inr (.inr (fun _ => none)))))), (t0, .inr (18, [.int (-1), .ref i0])), (t1, .inr (18, [.int (-2), .ref i1]))] := hD
  have hK : va_K (dC, dI) vwCl [(kT, .object "HornbookModel$Tree")] s := by simpa using hK
  have hw_4 : r_3 = 0 := hw_4
  have hw_4 := hw_4.symm
  subst hw_4
  refine lv_if_eq (tgt := 27) hx hb dX17_isUnder_22 (by decide) (fun c_5 => ?_) (fun c_5 => ?_)
  rotate_left
  · exact absurd (by decide) c_5
  refine lv_aload_n hx hb dX17_isUnder_27 rfl (lv_at hl 2 rfl) ?_
  refine z_i (wr := [(vw, .inr (19, [.int (-1), .int (-1), .int (-1), .int (-1), .ref mm])), (i0, .inl (kT, 0, .inr (.inr (.inr (.inr (fun _ => none)))))), (i1, .inl (kT, 0, .inr (.inr (.inr (.inr (fun _ => none)))))), (t0, .inr (18, [.int (-1), .ref i0]))]) (va_runV (As := []) (rest := []) ⟨hx, hb, hml, hown, hts⟩ (c_T_isSort l eD eI ad dC dI H.size t1 (-2) ((.ref i1)) (by decide)) (cwV 0 hts g_c_V_isUnder_01_1 rfl rfl rfl (by decide +kernel) ⟨Nat.le_of_ble_eq_true rfl, Nat.le_of_ble_eq_true rfl⟩) (z_preV (wc := [(t1, .inr (18, [.int (-2), .ref i1]))]) hP hD hK hS hA hE [4] [] rfl (by decide) rfl (ci := 18) (q0 := 0) rfl rfl) rfl rfl hl.1 rfl (lv_room (Nat.le_of_ble_eq_true rfl)) dX17_isUnder_28 ⟨Nat.le_of_ble_eq_true rfl, Nat.le_of_ble_eq_true rfl⟩) hP hD hK hS hA [4] [0, 1, 2, 3] rfl rfl (by decide) (by decide) (fun r_6 u H locs hw_7 hP hD hK hS => ?_)
  obtain ⟨⟩ := u
  have hP : va_P (dC, dI) vwCl [(vw, .inr (19, [.int (-1), .int (-1), .int (-1), .int (-1), .ref mm])), (i0, .inl (kT, 0, .inr (.inr (.inr (.inr (fun _ => none)))))), (i1, .inl (kT, 0, .inr (.inr (.inr (.inr (fun _ => none)))))), (t0, .inr (18, [.int (-1), .ref i0])), (t1, .inr (18, [.int (-2), .ref i1]))] H := hP
  have hD : va_D A [(vw, .inr (19, [.int (-1), .int (-1), .int (-1), .int (-1), .ref mm])), (i0, .inl (kT, 0, .inr (.inr (.inr (.inr (fun _ => none)))))), (i1, .inl (kT, 0, .inr (.inr (.inr (.inr (fun _ => none)))))), (t0, .inr (18, [.int (-1), .ref i0])), (t1, .inr (18, [.int (-2), .ref i1]))] := hD
  have hK : va_K (dC, dI) vwCl [(kT, .object "HornbookModel$Tree")] s := by simpa using hK
  have hw_7 : r_6 = 0 := hw_7
  have hw_7 := hw_7.symm
  subst hw_7
  refine lv_if_eq (tgt := 46) hx hb dX17_isUnder_31 (by decide) (fun c_8 => ?_) (fun c_8 => ?_)
  rotate_left
  · exact absurd (by decide) c_8
  refine lv_null hx hb dX17_isUnder_46 ?_
  refine lv_astore_nN (lv' := [(3, .null), (0, .ref vw), (1, .ref t0), (2, .ref t1)]) hx hb dX17_isUnder_47 rfl hl (by decide) rfl (fun ls hl => ?_)
  refine lv_aload_nN hx hb dX17_isUnder_48 rfl (lv_at hl 0 rfl) ?_
  refine lv_ifnonnullN hx hb dX17_isUnder_49 ?_
  refine lv_iconst (v := 0) hx hb dX17_isUnder_52 (by decide) ?_
  have hP9 := hP.sub (ws' := [(vw, .inr (19, [.int (-1), .int (-1), .int (-1), .int (-1), .ref mm])), (t0, .inr (18, [.int (-1), .ref i0])), (t1, .inr (18, [.int (-2), .ref i1])), (i0, .inl (kT, 0, .inr (.inr (.inr (.inr (fun _ => none)))))), (i1, .inl (kT, 0, .inr (.inr (.inr (.inr (fun _ => none))))))]) [0, 3, 4, 1, 2] rfl
  have hD9 := hD.sub (ws' := [(vw, .inr (19, [.int (-1), .int (-1), .int (-1), .int (-1), .ref mm])), (t0, .inr (18, [.int (-1), .ref i0])), (t1, .inr (18, [.int (-2), .ref i1])), (i0, .inl (kT, 0, .inr (.inr (.inr (.inr (fun _ => none)))))), (i1, .inl (kT, 0, .inr (.inr (.inr (.inr (fun _ => none))))))]) [0, 3, 4, 1, 2] (by decide) rfl
  have hK9 := hK.sub (tys' := []) [] rfl
  refine W.widen (k := 0) (n := 0) (Nat.le_of_ble_eq_true rfl) (Nat.le_of_ble_eq_true rfl) ?_
  exact W.zret (v := 0) hx hb hr (by first | rfl | decide) (fun t ht hW => ⟨⟨0, (), rfl, rfl, ⟨by rw [ht]; exact hP9, va_K.moved hW.alike hK9, hD9⟩⟩, hS.F ht⟩) hS.2.2 dX17_isUnder_53

def wb_c_V_isUnder_02 : List Cond := [.fieldLink RX17 49 "HornbookModel$Tree" "head" "I", .code yX16_isSame cX16_isSame 3 (some .boolean), .fieldLink RX16 14 "HornbookModel$Tree" "head" "I", .methodLink RX17 76 yX16_isSame, .instanceMethod yX16_isSame, .selects RX16 yX16_isSame yX16_isSame, .initialized RX16, .code yX16_isSort cX16_isSort 1 (some .boolean), .methodLink RX17 68 yX16_isSort, .instanceMethod yX16_isSort, .selects RX16 yX16_isSort yX16_isSort] ++ u_ws RX16 TX16 2
def w_c_V_isUnder_02 : List Cond := .code yX17_isUnder cX17_isUnder 6 (some .boolean) :: wb_c_V_isUnder_02
set_option maxRecDepth 100000 in
theorem g_c_V_isUnder_02_0 : GoodIn w_c_V_isUnder_02 (wsV RX17 76 RX16 yX16_isSame w_c_T_isSame_ne) := goodIn_app (goodIn_of _ (by decide +kernel)) (goodIn_p (big := w_c_V_isUnder_02) (.code yX16_isSame cX16_isSame 3 (some .boolean) :: wb_c_T_isSame_ne) [2] rfl (by decide +kernel))
set_option maxRecDepth 100000 in
theorem g_c_V_isUnder_02_1 : GoodIn w_c_V_isUnder_02 (wsV RX17 68 RX16 yX16_isSort w_c_T_isSort) := goodIn_app (goodIn_of _ (by decide +kernel)) (goodIn_p (big := w_c_V_isUnder_02) (.code yX16_isSort cX16_isSort 1 (some .boolean) :: wb_c_T_isSort) [8] rfl (by decide +kernel))
set_option maxHeartbeats 4000000 in
set_option maxRecDepth 100000 in
theorem c_V_isUnder_02 (l : Launch) (eD eI : Nat) (ad : Nat → Nat) (dC : Nat → ClassId) (dI : Nat → Nat → Nat) (sz : Nat) (vw : Nat) (mm : Nat) (t0 : Nat) (t2 : Nat) (i0 : Nat) (i2 : Nat) (kT : ClassId) : Met l yX17_isUnder w_c_V_isUnder_02 ({ frames := 1, cells := 0, slots := 0, locals := 22 }) (va_Pc [.ref vw, .ref t0, .ref t2] (zPre eD eI ad (dC, dI) [(vw, .inr (19, [.int (-1), .int (-1), .int (-1), .int (-1), .ref mm])), (t0, .inr (18, [.int (-1), .ref i0])), (t2, .inr (18, [.int (-3), .ref i2])), (i0, .inl (kT, 0, .inr (.inr (.inr (.inr (fun _ => none)))))), (i2, .inl (kT, 0, .inr (.inr (.inr (.inr (fun _ => none))))))] [(kT, .object "HornbookModel$Tree")] sz)) (va_Qi (fun (r : Int32) (_ : Unit) => r = 0) (fun (_ : Unit) => zEnd (dC, dI) (va_A [(vw, .inr (19, [.int (-1), .int (-1), .int (-1), .int (-1), .ref mm])), (t0, .inr (18, [.int (-1), .ref i0])), (t2, .inr (18, [.int (-3), .ref i2])), (i0, .inl (kT, 0, .inr (.inr (.inr (.inr (fun _ => none)))))), (i2, .inl (kT, 0, .inr (.inr (.inr (.inr (fun _ => none))))))] sz) [(vw, .inr (19, [.int (-1), .int (-1), .int (-1), .int (-1), .ref mm])), (t0, .inr (18, [.int (-1), .ref i0])), (t2, .inr (18, [.int (-3), .ref i2])), (i0, .inl (kT, 0, .inr (.inr (.inr (.inr (fun _ => none)))))), (i2, .inl (kT, 0, .inr (.inr (.inr (.inr (fun _ => none))))))] []) (va_A [(vw, .inr (19, [.int (-1), .int (-1), .int (-1), .int (-1), .ref mm])), (t0, .inr (18, [.int (-1), .ref i0])), (t2, .inr (18, [.int (-3), .ref i2])), (i0, .inl (kT, 0, .inr (.inr (.inr (.inr (fun _ => none)))))), (i2, .inl (kT, 0, .inr (.inr (.inr (.inr (fun _ => none))))))] sz)) 0 0 (va_A [(vw, .inr (19, [.int (-1), .int (-1), .int (-1), .int (-1), .ref mm])), (t0, .inr (18, [.int (-1), .ref i0])), (t2, .inr (18, [.int (-3), .ref i2])), (i0, .inl (kT, 0, .inr (.inr (.inr (.inr (fun _ => none)))))), (i2, .inl (kT, 0, .inr (.inr (.inr (.inr (fun _ => none))))))] sz) := by
  refine Met.ofW (cc := cX17_isUnder) (maxL := 6) (ret := (some .boolean)) (by decide) rfl ?_
  intro p e s m args below meth c s₁ B hml hv
  obtain ⟨rfl, hsz, hP, hK, hD0, hE⟩ := hv
  have hx := B.exec
  have hb := B.bytes
  have hr := B.returns
  have hts := atoms_spec (ws := w_c_V_isUnder_02) B.pre
  have hown : s.vm.findClass RX17 = some m.cls := findClass_of_methodNamed B.named
  have hlocks := B.notSynchronized
  subst hsz
  have hD := hD0.self (sz := s.heap.size)
  generalize hAe : va_A [(vw, .inr (19, [.int (-1), .int (-1), .int (-1), .int (-1), .ref mm])), (t0, .inr (18, [.int (-1), .ref i0])), (t2, .inr (18, [.int (-3), .ref i2])), (i0, .inl (kT, 0, .inr (.inr (.inr (.inr (fun _ => none)))))), (i2, .inl (kT, 0, .inr (.inr (.inr (.inr (fun _ => none))))))] s.heap.size = A at hD hE ⊢
  have hA : ∀ q : Nat, s.heap.size ≤ q → A q := fun q h => by rw [← hAe]; exact Or.inr h
  have hS : va_S A s.heap s.heap [] := va_S.rf
  have hP : va_P (dC, dI) vwCl [(vw, .inr (19, [.int (-1), .int (-1), .int (-1), .int (-1), .ref mm])), (t0, .inr (18, [.int (-1), .ref i0])), (t2, .inr (18, [.int (-3), .ref i2])), (i0, .inl (kT, 0, .inr (.inr (.inr (.inr (fun _ => none)))))), (i2, .inl (kT, 0, .inr (.inr (.inr (.inr (fun _ => none))))))] s.heap := hP
  have hl := lv_entry ([.ref vw, .ref t0, .ref t2]) (n := 6) (Nat.le_of_ble_eq_true rfl)
  rw [lg_entry_eq]
  generalize (lg_sl ([.ref vw, .ref t0, .ref t2]) ++ List.replicate (6 - (lg_sl ([.ref vw, .ref t0, .ref t2])).length) Slot.unset).toArray = ls at hl ⊢
  have hl : lv_has ls 6 [(0, .ref vw), (1, .ref t0), (2, .ref t2)] := hl
  have in_RX16 : ∀ w ∈ u_ws RX16 TX16 2, w ∈ w_c_V_isUnder_02 := by decide +kernel
  refine lv_aload_n hx hb dX17_isUnder_0 rfl (lv_at hl 1 rfl) ?_
  refine va_get (D := (dC, dI)) (ci := 18) (v := .int (-1)) (C := RX16) (T := TX16) (N := 2) hx hb hts in_RX16 hown hK hP 1 rfl rfl 0 (by decide) (hts (.fieldLink RX17 49 "HornbookModel$Tree" "head" "I") (by decide +kernel)) (fun _ h9 => h9) rfl dX17_isUnder_1 ?_
  refine lv_bipush (v := (-2)) hx hb dX17_isUnder_4 (by decide) ?_
  refine lv_icmp_eq (tgt := 25) hx hb dX17_isUnder_6 (by decide) (fun c_1 => ?_) (fun c_1 => ?_)
  · exact absurd c_1 (by decide)
  refine lv_aload_n hx hb dX17_isUnder_9 rfl (lv_at hl 2 rfl) ?_
  refine va_get (D := (dC, dI)) (ci := 18) (v := .int (-3)) (C := RX16) (T := TX16) (N := 2) hx hb hts in_RX16 hown hK hP 2 rfl rfl 0 (by decide) (hts (.fieldLink RX17 49 "HornbookModel$Tree" "head" "I") (by decide +kernel)) (fun _ h9 => h9) rfl dX17_isUnder_10 ?_
  refine lv_iconst (v := (-1)) hx hb dX17_isUnder_13 (by decide) ?_
  refine lv_icmp_eq (tgt := 25) hx hb dX17_isUnder_14 (by decide) (fun c_2 => ?_) (fun c_2 => ?_)
  · exact absurd c_2 (by decide)
  refine lv_aload_n hx hb dX17_isUnder_17 rfl (lv_at hl 1 rfl) ?_
  refine lv_aload_n hx hb dX17_isUnder_18 rfl (lv_at hl 2 rfl) ?_
  refine z_i (wr := [(vw, .inr (19, [.int (-1), .int (-1), .int (-1), .int (-1), .ref mm])), (i0, .inl (kT, 0, .inr (.inr (.inr (.inr (fun _ => none)))))), (i2, .inl (kT, 0, .inr (.inr (.inr (.inr (fun _ => none))))))]) (va_runV (As := [.ref t2]) (rest := []) ⟨hx, hb, hml, hown, hts⟩ (c_T_isSame_ne l eD eI ad dC dI s.heap.size t0 (-1) ((.ref i0)) t2 (-3) ((.ref i2)) (by decide)) (cwV 1 hts g_c_V_isUnder_02_0 rfl rfl rfl (by decide +kernel) ⟨Nat.le_of_ble_eq_true rfl, Nat.le_of_ble_eq_true rfl⟩) (z_preV (wc := [(t0, .inr (18, [.int (-1), .ref i0])), (t2, .inr (18, [.int (-3), .ref i2]))]) hP hD hK hS hA hE [1, 2] [] rfl (by decide) rfl (ci := 18) (q0 := 0) rfl rfl) rfl rfl hl.1 rfl (lv_room (Nat.le_of_ble_eq_true rfl)) dX17_isUnder_19 ⟨Nat.le_of_ble_eq_true rfl, Nat.le_of_ble_eq_true rfl⟩) hP hD hK hS hA [1, 2] [0, 3, 4] rfl rfl (by decide) (by decide) (fun r_3 u H locs hw_4 hP hD hK hS => ?_)
  obtain ⟨⟩ := u
  have hP : va_P (dC, dI) vwCl [(vw, .inr (19, [.int (-1), .int (-1), .int (-1), .int (-1), .ref mm])), (i0, .inl (kT, 0, .inr (.inr (.inr (.inr (fun _ => none)))))), (i2, .inl (kT, 0, .inr (.inr (.inr (.inr (fun _ => none)))))), (t0, .inr (18, [.int (-1), .ref i0])), (t2, .inr (18, [.int (-3), .ref i2]))] H := hP
  have hD : va_D A [(vw, .inr (19, [.int (-1), .int (-1), .int (-1), .int (-1), .ref mm])), (i0, .inl (kT, 0, .inr (.inr (.inr (.inr (fun _ => none)))))), (i2, .inl (kT, 0, .inr (.inr (.inr (.inr (fun _ => none)))))), (t0, .inr (18, [.int (-1), .ref i0])), (t2, .inr (18, [.int (-3), .ref i2]))] := hD
  have hK : va_K (dC, dI) vwCl [(kT, .object "HornbookModel$Tree")] s := by simpa using hK
  have hw_4 : r_3 = 0 := hw_4
  have hw_4 := hw_4.symm
  subst hw_4
  refine lv_if_eq (tgt := 27) hx hb dX17_isUnder_22 (by decide) (fun c_5 => ?_) (fun c_5 => ?_)
  rotate_left
  · exact absurd (by decide) c_5
  refine lv_aload_n hx hb dX17_isUnder_27 rfl (lv_at hl 2 rfl) ?_
  refine z_i (wr := [(vw, .inr (19, [.int (-1), .int (-1), .int (-1), .int (-1), .ref mm])), (i0, .inl (kT, 0, .inr (.inr (.inr (.inr (fun _ => none)))))), (i2, .inl (kT, 0, .inr (.inr (.inr (.inr (fun _ => none)))))), (t0, .inr (18, [.int (-1), .ref i0]))]) (va_runV (As := []) (rest := []) ⟨hx, hb, hml, hown, hts⟩ (c_T_isSort l eD eI ad dC dI H.size t2 (-3) ((.ref i2)) (by decide)) (cwV 0 hts g_c_V_isUnder_02_1 rfl rfl rfl (by decide +kernel) ⟨Nat.le_of_ble_eq_true rfl, Nat.le_of_ble_eq_true rfl⟩) (z_preV (wc := [(t2, .inr (18, [.int (-3), .ref i2]))]) hP hD hK hS hA hE [4] [] rfl (by decide) rfl (ci := 18) (q0 := 0) rfl rfl) rfl rfl hl.1 rfl (lv_room (Nat.le_of_ble_eq_true rfl)) dX17_isUnder_28 ⟨Nat.le_of_ble_eq_true rfl, Nat.le_of_ble_eq_true rfl⟩) hP hD hK hS hA [4] [0, 1, 2, 3] rfl rfl (by decide) (by decide) (fun r_6 u H locs hw_7 hP hD hK hS => ?_)
  obtain ⟨⟩ := u
  have hP : va_P (dC, dI) vwCl [(vw, .inr (19, [.int (-1), .int (-1), .int (-1), .int (-1), .ref mm])), (i0, .inl (kT, 0, .inr (.inr (.inr (.inr (fun _ => none)))))), (i2, .inl (kT, 0, .inr (.inr (.inr (.inr (fun _ => none)))))), (t0, .inr (18, [.int (-1), .ref i0])), (t2, .inr (18, [.int (-3), .ref i2]))] H := hP
  have hD : va_D A [(vw, .inr (19, [.int (-1), .int (-1), .int (-1), .int (-1), .ref mm])), (i0, .inl (kT, 0, .inr (.inr (.inr (.inr (fun _ => none)))))), (i2, .inl (kT, 0, .inr (.inr (.inr (.inr (fun _ => none)))))), (t0, .inr (18, [.int (-1), .ref i0])), (t2, .inr (18, [.int (-3), .ref i2]))] := hD
  have hK : va_K (dC, dI) vwCl [(kT, .object "HornbookModel$Tree")] s := by simpa using hK
  have hw_7 : r_6 = 0 := hw_7
  have hw_7 := hw_7.symm
  subst hw_7
  refine lv_if_eq (tgt := 46) hx hb dX17_isUnder_31 (by decide) (fun c_8 => ?_) (fun c_8 => ?_)
  rotate_left
  · exact absurd (by decide) c_8
  refine lv_null hx hb dX17_isUnder_46 ?_
  refine lv_astore_nN (lv' := [(3, .null), (0, .ref vw), (1, .ref t0), (2, .ref t2)]) hx hb dX17_isUnder_47 rfl hl (by decide) rfl (fun ls hl => ?_)
  refine lv_aload_nN hx hb dX17_isUnder_48 rfl (lv_at hl 0 rfl) ?_
  refine lv_ifnonnullN hx hb dX17_isUnder_49 ?_
  refine lv_iconst (v := 0) hx hb dX17_isUnder_52 (by decide) ?_
  have hP9 := hP.sub (ws' := [(vw, .inr (19, [.int (-1), .int (-1), .int (-1), .int (-1), .ref mm])), (t0, .inr (18, [.int (-1), .ref i0])), (t2, .inr (18, [.int (-3), .ref i2])), (i0, .inl (kT, 0, .inr (.inr (.inr (.inr (fun _ => none)))))), (i2, .inl (kT, 0, .inr (.inr (.inr (.inr (fun _ => none))))))]) [0, 3, 4, 1, 2] rfl
  have hD9 := hD.sub (ws' := [(vw, .inr (19, [.int (-1), .int (-1), .int (-1), .int (-1), .ref mm])), (t0, .inr (18, [.int (-1), .ref i0])), (t2, .inr (18, [.int (-3), .ref i2])), (i0, .inl (kT, 0, .inr (.inr (.inr (.inr (fun _ => none)))))), (i2, .inl (kT, 0, .inr (.inr (.inr (.inr (fun _ => none))))))]) [0, 3, 4, 1, 2] (by decide) rfl
  have hK9 := hK.sub (tys' := []) [] rfl
  refine W.widen (k := 0) (n := 0) (Nat.le_of_ble_eq_true rfl) (Nat.le_of_ble_eq_true rfl) ?_
  exact W.zret (v := 0) hx hb hr (by first | rfl | decide) (fun t ht hW => ⟨⟨0, (), rfl, rfl, ⟨by rw [ht]; exact hP9, va_K.moved hW.alike hK9, hD9⟩⟩, hS.F ht⟩) hS.2.2 dX17_isUnder_53

def wb_c_V_isUnder_10 : List Cond := [.fieldLink RX17 49 "HornbookModel$Tree" "head" "I"] ++ u_ws RX16 TX16 2
def w_c_V_isUnder_10 : List Cond := .code yX17_isUnder cX17_isUnder 6 (some .boolean) :: wb_c_V_isUnder_10
set_option maxHeartbeats 4000000 in
set_option maxRecDepth 100000 in
theorem c_V_isUnder_10 (l : Launch) (eD eI : Nat) (ad : Nat → Nat) (dC : Nat → ClassId) (dI : Nat → Nat → Nat) (sz : Nat) (vw : Nat) (mm : Nat) (t0 : Nat) (t1 : Nat) (i0 : Nat) (i1 : Nat) (kT : ClassId) : Met l yX17_isUnder w_c_V_isUnder_10 ({ frames := 0, cells := 0, slots := 0, locals := 0 }) (va_Pc [.ref vw, .ref t1, .ref t0] (zPre eD eI ad (dC, dI) [(vw, .inr (19, [.int (-1), .int (-1), .int (-1), .int (-1), .ref mm])), (t0, .inr (18, [.int (-1), .ref i0])), (t1, .inr (18, [.int (-2), .ref i1])), (i0, .inl (kT, 0, .inr (.inr (.inr (.inr (fun _ => none)))))), (i1, .inl (kT, 0, .inr (.inr (.inr (.inr (fun _ => none))))))] [(kT, .object "HornbookModel$Tree")] sz)) (va_Qi (fun (r : Int32) (_ : Unit) => r = 1) (fun (_ : Unit) => zEnd (dC, dI) (va_A [(vw, .inr (19, [.int (-1), .int (-1), .int (-1), .int (-1), .ref mm])), (t0, .inr (18, [.int (-1), .ref i0])), (t1, .inr (18, [.int (-2), .ref i1])), (i0, .inl (kT, 0, .inr (.inr (.inr (.inr (fun _ => none)))))), (i1, .inl (kT, 0, .inr (.inr (.inr (.inr (fun _ => none))))))] sz) [(vw, .inr (19, [.int (-1), .int (-1), .int (-1), .int (-1), .ref mm])), (t0, .inr (18, [.int (-1), .ref i0])), (t1, .inr (18, [.int (-2), .ref i1])), (i0, .inl (kT, 0, .inr (.inr (.inr (.inr (fun _ => none)))))), (i1, .inl (kT, 0, .inr (.inr (.inr (.inr (fun _ => none))))))] []) (va_A [(vw, .inr (19, [.int (-1), .int (-1), .int (-1), .int (-1), .ref mm])), (t0, .inr (18, [.int (-1), .ref i0])), (t1, .inr (18, [.int (-2), .ref i1])), (i0, .inl (kT, 0, .inr (.inr (.inr (.inr (fun _ => none)))))), (i1, .inl (kT, 0, .inr (.inr (.inr (.inr (fun _ => none))))))] sz)) 0 0 (va_A [(vw, .inr (19, [.int (-1), .int (-1), .int (-1), .int (-1), .ref mm])), (t0, .inr (18, [.int (-1), .ref i0])), (t1, .inr (18, [.int (-2), .ref i1])), (i0, .inl (kT, 0, .inr (.inr (.inr (.inr (fun _ => none)))))), (i1, .inl (kT, 0, .inr (.inr (.inr (.inr (fun _ => none))))))] sz) := by
  refine Met.ofW (cc := cX17_isUnder) (maxL := 6) (ret := (some .boolean)) (by decide) rfl ?_
  intro p e s m args below meth c s₁ B hml hv
  obtain ⟨rfl, hsz, hP, hK, hD0, hE⟩ := hv
  have hx := B.exec
  have hb := B.bytes
  have hr := B.returns
  have hts := atoms_spec (ws := w_c_V_isUnder_10) B.pre
  have hown : s.vm.findClass RX17 = some m.cls := findClass_of_methodNamed B.named
  have hlocks := B.notSynchronized
  subst hsz
  have hD := hD0.self (sz := s.heap.size)
  generalize hAe : va_A [(vw, .inr (19, [.int (-1), .int (-1), .int (-1), .int (-1), .ref mm])), (t0, .inr (18, [.int (-1), .ref i0])), (t1, .inr (18, [.int (-2), .ref i1])), (i0, .inl (kT, 0, .inr (.inr (.inr (.inr (fun _ => none)))))), (i1, .inl (kT, 0, .inr (.inr (.inr (.inr (fun _ => none))))))] s.heap.size = A at hD hE ⊢
  have hA : ∀ q : Nat, s.heap.size ≤ q → A q := fun q h => by rw [← hAe]; exact Or.inr h
  have hS : va_S A s.heap s.heap [] := va_S.rf
  have hP : va_P (dC, dI) vwCl [(vw, .inr (19, [.int (-1), .int (-1), .int (-1), .int (-1), .ref mm])), (t0, .inr (18, [.int (-1), .ref i0])), (t1, .inr (18, [.int (-2), .ref i1])), (i0, .inl (kT, 0, .inr (.inr (.inr (.inr (fun _ => none)))))), (i1, .inl (kT, 0, .inr (.inr (.inr (.inr (fun _ => none))))))] s.heap := hP
  have hl := lv_entry ([.ref vw, .ref t1, .ref t0]) (n := 6) (Nat.le_of_ble_eq_true rfl)
  rw [lg_entry_eq]
  generalize (lg_sl ([.ref vw, .ref t1, .ref t0]) ++ List.replicate (6 - (lg_sl ([.ref vw, .ref t1, .ref t0])).length) Slot.unset).toArray = ls at hl ⊢
  have hl : lv_has ls 6 [(0, .ref vw), (1, .ref t1), (2, .ref t0)] := hl
  have in_RX16 : ∀ w ∈ u_ws RX16 TX16 2, w ∈ w_c_V_isUnder_10 := by decide +kernel
  refine lv_aload_n hx hb dX17_isUnder_0 rfl (lv_at hl 1 rfl) ?_
  refine va_get (D := (dC, dI)) (ci := 18) (v := .int (-2)) (C := RX16) (T := TX16) (N := 2) hx hb hts in_RX16 hown hK hP 2 rfl rfl 0 (by decide) (hts (.fieldLink RX17 49 "HornbookModel$Tree" "head" "I") (by decide +kernel)) (fun _ h9 => h9) rfl dX17_isUnder_1 ?_
  refine lv_bipush (v := (-2)) hx hb dX17_isUnder_4 (by decide) ?_
  refine lv_icmp_eq (tgt := 25) hx hb dX17_isUnder_6 (by decide) (fun c_1 => ?_) (fun c_1 => ?_)
  rotate_left
  · exact absurd (by decide) c_1
  refine lv_iconst (v := 1) hx hb dX17_isUnder_25 (by decide) ?_
  have hP9 := hP.sub (ws' := [(vw, .inr (19, [.int (-1), .int (-1), .int (-1), .int (-1), .ref mm])), (t0, .inr (18, [.int (-1), .ref i0])), (t1, .inr (18, [.int (-2), .ref i1])), (i0, .inl (kT, 0, .inr (.inr (.inr (.inr (fun _ => none)))))), (i1, .inl (kT, 0, .inr (.inr (.inr (.inr (fun _ => none))))))]) [0, 1, 2, 3, 4] rfl
  have hD9 := hD.sub (ws' := [(vw, .inr (19, [.int (-1), .int (-1), .int (-1), .int (-1), .ref mm])), (t0, .inr (18, [.int (-1), .ref i0])), (t1, .inr (18, [.int (-2), .ref i1])), (i0, .inl (kT, 0, .inr (.inr (.inr (.inr (fun _ => none)))))), (i1, .inl (kT, 0, .inr (.inr (.inr (.inr (fun _ => none))))))]) [0, 1, 2, 3, 4] (by decide) rfl
  have hK9 := hK.sub (tys' := []) [] rfl
  refine W.widen (k := 0) (n := 0) (Nat.le_of_ble_eq_true rfl) (Nat.le_of_ble_eq_true rfl) ?_
  exact W.zret (v := 1) hx hb hr (by first | rfl | decide) (fun t ht hW => ⟨⟨1, (), rfl, rfl, ⟨by rw [ht]; exact hP9, va_K.moved hW.alike hK9, hD9⟩⟩, hS.F ht⟩) hS.2.2 dX17_isUnder_26

def wb_c_V_isUnder_11 : List Cond := [.fieldLink RX17 49 "HornbookModel$Tree" "head" "I"] ++ u_ws RX16 TX16 2
def w_c_V_isUnder_11 : List Cond := .code yX17_isUnder cX17_isUnder 6 (some .boolean) :: wb_c_V_isUnder_11
set_option maxHeartbeats 4000000 in
set_option maxRecDepth 100000 in
theorem c_V_isUnder_11 (l : Launch) (eD eI : Nat) (ad : Nat → Nat) (dC : Nat → ClassId) (dI : Nat → Nat → Nat) (sz : Nat) (vw : Nat) (mm : Nat) (t1 : Nat) (i1 : Nat) (kT : ClassId) : Met l yX17_isUnder w_c_V_isUnder_11 ({ frames := 0, cells := 0, slots := 0, locals := 0 }) (va_Pc [.ref vw, .ref t1, .ref t1] (zPre eD eI ad (dC, dI) [(vw, .inr (19, [.int (-1), .int (-1), .int (-1), .int (-1), .ref mm])), (t1, .inr (18, [.int (-2), .ref i1])), (i1, .inl (kT, 0, .inr (.inr (.inr (.inr (fun _ => none))))))] [(kT, .object "HornbookModel$Tree")] sz)) (va_Qi (fun (r : Int32) (_ : Unit) => r = 1) (fun (_ : Unit) => zEnd (dC, dI) (va_A [(vw, .inr (19, [.int (-1), .int (-1), .int (-1), .int (-1), .ref mm])), (t1, .inr (18, [.int (-2), .ref i1])), (i1, .inl (kT, 0, .inr (.inr (.inr (.inr (fun _ => none))))))] sz) [(vw, .inr (19, [.int (-1), .int (-1), .int (-1), .int (-1), .ref mm])), (t1, .inr (18, [.int (-2), .ref i1])), (i1, .inl (kT, 0, .inr (.inr (.inr (.inr (fun _ => none))))))] []) (va_A [(vw, .inr (19, [.int (-1), .int (-1), .int (-1), .int (-1), .ref mm])), (t1, .inr (18, [.int (-2), .ref i1])), (i1, .inl (kT, 0, .inr (.inr (.inr (.inr (fun _ => none))))))] sz)) 0 0 (va_A [(vw, .inr (19, [.int (-1), .int (-1), .int (-1), .int (-1), .ref mm])), (t1, .inr (18, [.int (-2), .ref i1])), (i1, .inl (kT, 0, .inr (.inr (.inr (.inr (fun _ => none))))))] sz) := by
  refine Met.ofW (cc := cX17_isUnder) (maxL := 6) (ret := (some .boolean)) (by decide) rfl ?_
  intro p e s m args below meth c s₁ B hml hv
  obtain ⟨rfl, hsz, hP, hK, hD0, hE⟩ := hv
  have hx := B.exec
  have hb := B.bytes
  have hr := B.returns
  have hts := atoms_spec (ws := w_c_V_isUnder_11) B.pre
  have hown : s.vm.findClass RX17 = some m.cls := findClass_of_methodNamed B.named
  have hlocks := B.notSynchronized
  subst hsz
  have hD := hD0.self (sz := s.heap.size)
  generalize hAe : va_A [(vw, .inr (19, [.int (-1), .int (-1), .int (-1), .int (-1), .ref mm])), (t1, .inr (18, [.int (-2), .ref i1])), (i1, .inl (kT, 0, .inr (.inr (.inr (.inr (fun _ => none))))))] s.heap.size = A at hD hE ⊢
  have hA : ∀ q : Nat, s.heap.size ≤ q → A q := fun q h => by rw [← hAe]; exact Or.inr h
  have hS : va_S A s.heap s.heap [] := va_S.rf
  have hP : va_P (dC, dI) vwCl [(vw, .inr (19, [.int (-1), .int (-1), .int (-1), .int (-1), .ref mm])), (t1, .inr (18, [.int (-2), .ref i1])), (i1, .inl (kT, 0, .inr (.inr (.inr (.inr (fun _ => none))))))] s.heap := hP
  have hl := lv_entry ([.ref vw, .ref t1, .ref t1]) (n := 6) (Nat.le_of_ble_eq_true rfl)
  rw [lg_entry_eq]
  generalize (lg_sl ([.ref vw, .ref t1, .ref t1]) ++ List.replicate (6 - (lg_sl ([.ref vw, .ref t1, .ref t1])).length) Slot.unset).toArray = ls at hl ⊢
  have hl : lv_has ls 6 [(0, .ref vw), (1, .ref t1), (2, .ref t1)] := hl
  have in_RX16 : ∀ w ∈ u_ws RX16 TX16 2, w ∈ w_c_V_isUnder_11 := by decide +kernel
  refine lv_aload_n hx hb dX17_isUnder_0 rfl (lv_at hl 1 rfl) ?_
  refine va_get (D := (dC, dI)) (ci := 18) (v := .int (-2)) (C := RX16) (T := TX16) (N := 2) hx hb hts in_RX16 hown hK hP 1 rfl rfl 0 (by decide) (hts (.fieldLink RX17 49 "HornbookModel$Tree" "head" "I") (by decide +kernel)) (fun _ h9 => h9) rfl dX17_isUnder_1 ?_
  refine lv_bipush (v := (-2)) hx hb dX17_isUnder_4 (by decide) ?_
  refine lv_icmp_eq (tgt := 25) hx hb dX17_isUnder_6 (by decide) (fun c_1 => ?_) (fun c_1 => ?_)
  rotate_left
  · exact absurd (by decide) c_1
  refine lv_iconst (v := 1) hx hb dX17_isUnder_25 (by decide) ?_
  have hP9 := hP.sub (ws' := [(vw, .inr (19, [.int (-1), .int (-1), .int (-1), .int (-1), .ref mm])), (t1, .inr (18, [.int (-2), .ref i1])), (i1, .inl (kT, 0, .inr (.inr (.inr (.inr (fun _ => none))))))]) [0, 1, 2] rfl
  have hD9 := hD.sub (ws' := [(vw, .inr (19, [.int (-1), .int (-1), .int (-1), .int (-1), .ref mm])), (t1, .inr (18, [.int (-2), .ref i1])), (i1, .inl (kT, 0, .inr (.inr (.inr (.inr (fun _ => none))))))]) [0, 1, 2] (by decide) rfl
  have hK9 := hK.sub (tys' := []) [] rfl
  refine W.widen (k := 0) (n := 0) (Nat.le_of_ble_eq_true rfl) (Nat.le_of_ble_eq_true rfl) ?_
  exact W.zret (v := 1) hx hb hr (by first | rfl | decide) (fun t ht hW => ⟨⟨1, (), rfl, rfl, ⟨by rw [ht]; exact hP9, va_K.moved hW.alike hK9, hD9⟩⟩, hS.F ht⟩) hS.2.2 dX17_isUnder_26

def wb_c_V_isUnder_12 : List Cond := [.fieldLink RX17 49 "HornbookModel$Tree" "head" "I"] ++ u_ws RX16 TX16 2
def w_c_V_isUnder_12 : List Cond := .code yX17_isUnder cX17_isUnder 6 (some .boolean) :: wb_c_V_isUnder_12
set_option maxHeartbeats 4000000 in
set_option maxRecDepth 100000 in
theorem c_V_isUnder_12 (l : Launch) (eD eI : Nat) (ad : Nat → Nat) (dC : Nat → ClassId) (dI : Nat → Nat → Nat) (sz : Nat) (vw : Nat) (mm : Nat) (t1 : Nat) (t2 : Nat) (i1 : Nat) (i2 : Nat) (kT : ClassId) : Met l yX17_isUnder w_c_V_isUnder_12 ({ frames := 0, cells := 0, slots := 0, locals := 0 }) (va_Pc [.ref vw, .ref t1, .ref t2] (zPre eD eI ad (dC, dI) [(vw, .inr (19, [.int (-1), .int (-1), .int (-1), .int (-1), .ref mm])), (t1, .inr (18, [.int (-2), .ref i1])), (t2, .inr (18, [.int (-3), .ref i2])), (i1, .inl (kT, 0, .inr (.inr (.inr (.inr (fun _ => none)))))), (i2, .inl (kT, 0, .inr (.inr (.inr (.inr (fun _ => none))))))] [(kT, .object "HornbookModel$Tree")] sz)) (va_Qi (fun (r : Int32) (_ : Unit) => r = 1) (fun (_ : Unit) => zEnd (dC, dI) (va_A [(vw, .inr (19, [.int (-1), .int (-1), .int (-1), .int (-1), .ref mm])), (t1, .inr (18, [.int (-2), .ref i1])), (t2, .inr (18, [.int (-3), .ref i2])), (i1, .inl (kT, 0, .inr (.inr (.inr (.inr (fun _ => none)))))), (i2, .inl (kT, 0, .inr (.inr (.inr (.inr (fun _ => none))))))] sz) [(vw, .inr (19, [.int (-1), .int (-1), .int (-1), .int (-1), .ref mm])), (t1, .inr (18, [.int (-2), .ref i1])), (t2, .inr (18, [.int (-3), .ref i2])), (i1, .inl (kT, 0, .inr (.inr (.inr (.inr (fun _ => none)))))), (i2, .inl (kT, 0, .inr (.inr (.inr (.inr (fun _ => none))))))] []) (va_A [(vw, .inr (19, [.int (-1), .int (-1), .int (-1), .int (-1), .ref mm])), (t1, .inr (18, [.int (-2), .ref i1])), (t2, .inr (18, [.int (-3), .ref i2])), (i1, .inl (kT, 0, .inr (.inr (.inr (.inr (fun _ => none)))))), (i2, .inl (kT, 0, .inr (.inr (.inr (.inr (fun _ => none))))))] sz)) 0 0 (va_A [(vw, .inr (19, [.int (-1), .int (-1), .int (-1), .int (-1), .ref mm])), (t1, .inr (18, [.int (-2), .ref i1])), (t2, .inr (18, [.int (-3), .ref i2])), (i1, .inl (kT, 0, .inr (.inr (.inr (.inr (fun _ => none)))))), (i2, .inl (kT, 0, .inr (.inr (.inr (.inr (fun _ => none))))))] sz) := by
  refine Met.ofW (cc := cX17_isUnder) (maxL := 6) (ret := (some .boolean)) (by decide) rfl ?_
  intro p e s m args below meth c s₁ B hml hv
  obtain ⟨rfl, hsz, hP, hK, hD0, hE⟩ := hv
  have hx := B.exec
  have hb := B.bytes
  have hr := B.returns
  have hts := atoms_spec (ws := w_c_V_isUnder_12) B.pre
  have hown : s.vm.findClass RX17 = some m.cls := findClass_of_methodNamed B.named
  have hlocks := B.notSynchronized
  subst hsz
  have hD := hD0.self (sz := s.heap.size)
  generalize hAe : va_A [(vw, .inr (19, [.int (-1), .int (-1), .int (-1), .int (-1), .ref mm])), (t1, .inr (18, [.int (-2), .ref i1])), (t2, .inr (18, [.int (-3), .ref i2])), (i1, .inl (kT, 0, .inr (.inr (.inr (.inr (fun _ => none)))))), (i2, .inl (kT, 0, .inr (.inr (.inr (.inr (fun _ => none))))))] s.heap.size = A at hD hE ⊢
  have hA : ∀ q : Nat, s.heap.size ≤ q → A q := fun q h => by rw [← hAe]; exact Or.inr h
  have hS : va_S A s.heap s.heap [] := va_S.rf
  have hP : va_P (dC, dI) vwCl [(vw, .inr (19, [.int (-1), .int (-1), .int (-1), .int (-1), .ref mm])), (t1, .inr (18, [.int (-2), .ref i1])), (t2, .inr (18, [.int (-3), .ref i2])), (i1, .inl (kT, 0, .inr (.inr (.inr (.inr (fun _ => none)))))), (i2, .inl (kT, 0, .inr (.inr (.inr (.inr (fun _ => none))))))] s.heap := hP
  have hl := lv_entry ([.ref vw, .ref t1, .ref t2]) (n := 6) (Nat.le_of_ble_eq_true rfl)
  rw [lg_entry_eq]
  generalize (lg_sl ([.ref vw, .ref t1, .ref t2]) ++ List.replicate (6 - (lg_sl ([.ref vw, .ref t1, .ref t2])).length) Slot.unset).toArray = ls at hl ⊢
  have hl : lv_has ls 6 [(0, .ref vw), (1, .ref t1), (2, .ref t2)] := hl
  have in_RX16 : ∀ w ∈ u_ws RX16 TX16 2, w ∈ w_c_V_isUnder_12 := by decide +kernel
  refine lv_aload_n hx hb dX17_isUnder_0 rfl (lv_at hl 1 rfl) ?_
  refine va_get (D := (dC, dI)) (ci := 18) (v := .int (-2)) (C := RX16) (T := TX16) (N := 2) hx hb hts in_RX16 hown hK hP 1 rfl rfl 0 (by decide) (hts (.fieldLink RX17 49 "HornbookModel$Tree" "head" "I") (by decide +kernel)) (fun _ h9 => h9) rfl dX17_isUnder_1 ?_
  refine lv_bipush (v := (-2)) hx hb dX17_isUnder_4 (by decide) ?_
  refine lv_icmp_eq (tgt := 25) hx hb dX17_isUnder_6 (by decide) (fun c_1 => ?_) (fun c_1 => ?_)
  rotate_left
  · exact absurd (by decide) c_1
  refine lv_iconst (v := 1) hx hb dX17_isUnder_25 (by decide) ?_
  have hP9 := hP.sub (ws' := [(vw, .inr (19, [.int (-1), .int (-1), .int (-1), .int (-1), .ref mm])), (t1, .inr (18, [.int (-2), .ref i1])), (t2, .inr (18, [.int (-3), .ref i2])), (i1, .inl (kT, 0, .inr (.inr (.inr (.inr (fun _ => none)))))), (i2, .inl (kT, 0, .inr (.inr (.inr (.inr (fun _ => none))))))]) [0, 1, 2, 3, 4] rfl
  have hD9 := hD.sub (ws' := [(vw, .inr (19, [.int (-1), .int (-1), .int (-1), .int (-1), .ref mm])), (t1, .inr (18, [.int (-2), .ref i1])), (t2, .inr (18, [.int (-3), .ref i2])), (i1, .inl (kT, 0, .inr (.inr (.inr (.inr (fun _ => none)))))), (i2, .inl (kT, 0, .inr (.inr (.inr (.inr (fun _ => none))))))]) [0, 1, 2, 3, 4] (by decide) rfl
  have hK9 := hK.sub (tys' := []) [] rfl
  refine W.widen (k := 0) (n := 0) (Nat.le_of_ble_eq_true rfl) (Nat.le_of_ble_eq_true rfl) ?_
  exact W.zret (v := 1) hx hb hr (by first | rfl | decide) (fun t ht hW => ⟨⟨1, (), rfl, rfl, ⟨by rw [ht]; exact hP9, va_K.moved hW.alike hK9, hD9⟩⟩, hS.F ht⟩) hS.2.2 dX17_isUnder_26

def wb_c_V_isUnder_20 : List Cond := [.fieldLink RX17 49 "HornbookModel$Tree" "head" "I"] ++ u_ws RX16 TX16 2
def w_c_V_isUnder_20 : List Cond := .code yX17_isUnder cX17_isUnder 6 (some .boolean) :: wb_c_V_isUnder_20
set_option maxHeartbeats 4000000 in
set_option maxRecDepth 100000 in
theorem c_V_isUnder_20 (l : Launch) (eD eI : Nat) (ad : Nat → Nat) (dC : Nat → ClassId) (dI : Nat → Nat → Nat) (sz : Nat) (vw : Nat) (mm : Nat) (t0 : Nat) (t2 : Nat) (i0 : Nat) (i2 : Nat) (kT : ClassId) : Met l yX17_isUnder w_c_V_isUnder_20 ({ frames := 0, cells := 0, slots := 0, locals := 0 }) (va_Pc [.ref vw, .ref t2, .ref t0] (zPre eD eI ad (dC, dI) [(vw, .inr (19, [.int (-1), .int (-1), .int (-1), .int (-1), .ref mm])), (t0, .inr (18, [.int (-1), .ref i0])), (t2, .inr (18, [.int (-3), .ref i2])), (i0, .inl (kT, 0, .inr (.inr (.inr (.inr (fun _ => none)))))), (i2, .inl (kT, 0, .inr (.inr (.inr (.inr (fun _ => none))))))] [(kT, .object "HornbookModel$Tree")] sz)) (va_Qi (fun (r : Int32) (_ : Unit) => r = 1) (fun (_ : Unit) => zEnd (dC, dI) (va_A [(vw, .inr (19, [.int (-1), .int (-1), .int (-1), .int (-1), .ref mm])), (t0, .inr (18, [.int (-1), .ref i0])), (t2, .inr (18, [.int (-3), .ref i2])), (i0, .inl (kT, 0, .inr (.inr (.inr (.inr (fun _ => none)))))), (i2, .inl (kT, 0, .inr (.inr (.inr (.inr (fun _ => none))))))] sz) [(vw, .inr (19, [.int (-1), .int (-1), .int (-1), .int (-1), .ref mm])), (t0, .inr (18, [.int (-1), .ref i0])), (t2, .inr (18, [.int (-3), .ref i2])), (i0, .inl (kT, 0, .inr (.inr (.inr (.inr (fun _ => none)))))), (i2, .inl (kT, 0, .inr (.inr (.inr (.inr (fun _ => none))))))] []) (va_A [(vw, .inr (19, [.int (-1), .int (-1), .int (-1), .int (-1), .ref mm])), (t0, .inr (18, [.int (-1), .ref i0])), (t2, .inr (18, [.int (-3), .ref i2])), (i0, .inl (kT, 0, .inr (.inr (.inr (.inr (fun _ => none)))))), (i2, .inl (kT, 0, .inr (.inr (.inr (.inr (fun _ => none))))))] sz)) 0 0 (va_A [(vw, .inr (19, [.int (-1), .int (-1), .int (-1), .int (-1), .ref mm])), (t0, .inr (18, [.int (-1), .ref i0])), (t2, .inr (18, [.int (-3), .ref i2])), (i0, .inl (kT, 0, .inr (.inr (.inr (.inr (fun _ => none)))))), (i2, .inl (kT, 0, .inr (.inr (.inr (.inr (fun _ => none))))))] sz) := by
  refine Met.ofW (cc := cX17_isUnder) (maxL := 6) (ret := (some .boolean)) (by decide) rfl ?_
  intro p e s m args below meth c s₁ B hml hv
  obtain ⟨rfl, hsz, hP, hK, hD0, hE⟩ := hv
  have hx := B.exec
  have hb := B.bytes
  have hr := B.returns
  have hts := atoms_spec (ws := w_c_V_isUnder_20) B.pre
  have hown : s.vm.findClass RX17 = some m.cls := findClass_of_methodNamed B.named
  have hlocks := B.notSynchronized
  subst hsz
  have hD := hD0.self (sz := s.heap.size)
  generalize hAe : va_A [(vw, .inr (19, [.int (-1), .int (-1), .int (-1), .int (-1), .ref mm])), (t0, .inr (18, [.int (-1), .ref i0])), (t2, .inr (18, [.int (-3), .ref i2])), (i0, .inl (kT, 0, .inr (.inr (.inr (.inr (fun _ => none)))))), (i2, .inl (kT, 0, .inr (.inr (.inr (.inr (fun _ => none))))))] s.heap.size = A at hD hE ⊢
  have hA : ∀ q : Nat, s.heap.size ≤ q → A q := fun q h => by rw [← hAe]; exact Or.inr h
  have hS : va_S A s.heap s.heap [] := va_S.rf
  have hP : va_P (dC, dI) vwCl [(vw, .inr (19, [.int (-1), .int (-1), .int (-1), .int (-1), .ref mm])), (t0, .inr (18, [.int (-1), .ref i0])), (t2, .inr (18, [.int (-3), .ref i2])), (i0, .inl (kT, 0, .inr (.inr (.inr (.inr (fun _ => none)))))), (i2, .inl (kT, 0, .inr (.inr (.inr (.inr (fun _ => none))))))] s.heap := hP
  have hl := lv_entry ([.ref vw, .ref t2, .ref t0]) (n := 6) (Nat.le_of_ble_eq_true rfl)
  rw [lg_entry_eq]
  generalize (lg_sl ([.ref vw, .ref t2, .ref t0]) ++ List.replicate (6 - (lg_sl ([.ref vw, .ref t2, .ref t0])).length) Slot.unset).toArray = ls at hl ⊢
  have hl : lv_has ls 6 [(0, .ref vw), (1, .ref t2), (2, .ref t0)] := hl
  have in_RX16 : ∀ w ∈ u_ws RX16 TX16 2, w ∈ w_c_V_isUnder_20 := by decide +kernel
  refine lv_aload_n hx hb dX17_isUnder_0 rfl (lv_at hl 1 rfl) ?_
  refine va_get (D := (dC, dI)) (ci := 18) (v := .int (-3)) (C := RX16) (T := TX16) (N := 2) hx hb hts in_RX16 hown hK hP 2 rfl rfl 0 (by decide) (hts (.fieldLink RX17 49 "HornbookModel$Tree" "head" "I") (by decide +kernel)) (fun _ h9 => h9) rfl dX17_isUnder_1 ?_
  refine lv_bipush (v := (-2)) hx hb dX17_isUnder_4 (by decide) ?_
  refine lv_icmp_eq (tgt := 25) hx hb dX17_isUnder_6 (by decide) (fun c_1 => ?_) (fun c_1 => ?_)
  · exact absurd c_1 (by decide)
  refine lv_aload_n hx hb dX17_isUnder_9 rfl (lv_at hl 2 rfl) ?_
  refine va_get (D := (dC, dI)) (ci := 18) (v := .int (-1)) (C := RX16) (T := TX16) (N := 2) hx hb hts in_RX16 hown hK hP 1 rfl rfl 0 (by decide) (hts (.fieldLink RX17 49 "HornbookModel$Tree" "head" "I") (by decide +kernel)) (fun _ h9 => h9) rfl dX17_isUnder_10 ?_
  refine lv_iconst (v := (-1)) hx hb dX17_isUnder_13 (by decide) ?_
  refine lv_icmp_eq (tgt := 25) hx hb dX17_isUnder_14 (by decide) (fun c_2 => ?_) (fun c_2 => ?_)
  rotate_left
  · exact absurd (by decide) c_2
  refine lv_iconst (v := 1) hx hb dX17_isUnder_25 (by decide) ?_
  have hP9 := hP.sub (ws' := [(vw, .inr (19, [.int (-1), .int (-1), .int (-1), .int (-1), .ref mm])), (t0, .inr (18, [.int (-1), .ref i0])), (t2, .inr (18, [.int (-3), .ref i2])), (i0, .inl (kT, 0, .inr (.inr (.inr (.inr (fun _ => none)))))), (i2, .inl (kT, 0, .inr (.inr (.inr (.inr (fun _ => none))))))]) [0, 1, 2, 3, 4] rfl
  have hD9 := hD.sub (ws' := [(vw, .inr (19, [.int (-1), .int (-1), .int (-1), .int (-1), .ref mm])), (t0, .inr (18, [.int (-1), .ref i0])), (t2, .inr (18, [.int (-3), .ref i2])), (i0, .inl (kT, 0, .inr (.inr (.inr (.inr (fun _ => none)))))), (i2, .inl (kT, 0, .inr (.inr (.inr (.inr (fun _ => none))))))]) [0, 1, 2, 3, 4] (by decide) rfl
  have hK9 := hK.sub (tys' := []) [] rfl
  refine W.widen (k := 0) (n := 0) (Nat.le_of_ble_eq_true rfl) (Nat.le_of_ble_eq_true rfl) ?_
  exact W.zret (v := 1) hx hb hr (by first | rfl | decide) (fun t ht hW => ⟨⟨1, (), rfl, rfl, ⟨by rw [ht]; exact hP9, va_K.moved hW.alike hK9, hD9⟩⟩, hS.F ht⟩) hS.2.2 dX17_isUnder_26

def wb_c_V_isUnder_21 : List Cond := [.fieldLink RX17 49 "HornbookModel$Tree" "head" "I", .code yX16_isSame cX16_isSame 3 (some .boolean), .fieldLink RX16 14 "HornbookModel$Tree" "head" "I", .methodLink RX17 76 yX16_isSame, .instanceMethod yX16_isSame, .selects RX16 yX16_isSame yX16_isSame, .initialized RX16, .code yX16_isSort cX16_isSort 1 (some .boolean), .methodLink RX17 68 yX16_isSort, .instanceMethod yX16_isSort, .selects RX16 yX16_isSort yX16_isSort] ++ u_ws RX16 TX16 2
def w_c_V_isUnder_21 : List Cond := .code yX17_isUnder cX17_isUnder 6 (some .boolean) :: wb_c_V_isUnder_21
set_option maxRecDepth 100000 in
theorem g_c_V_isUnder_21_0 : GoodIn w_c_V_isUnder_21 (wsV RX17 76 RX16 yX16_isSame w_c_T_isSame_ne) := goodIn_app (goodIn_of _ (by decide +kernel)) (goodIn_p (big := w_c_V_isUnder_21) (.code yX16_isSame cX16_isSame 3 (some .boolean) :: wb_c_T_isSame_ne) [2] rfl (by decide +kernel))
set_option maxRecDepth 100000 in
theorem g_c_V_isUnder_21_1 : GoodIn w_c_V_isUnder_21 (wsV RX17 68 RX16 yX16_isSort w_c_T_isSort) := goodIn_app (goodIn_of _ (by decide +kernel)) (goodIn_p (big := w_c_V_isUnder_21) (.code yX16_isSort cX16_isSort 1 (some .boolean) :: wb_c_T_isSort) [8] rfl (by decide +kernel))
set_option maxHeartbeats 4000000 in
set_option maxRecDepth 100000 in
theorem c_V_isUnder_21 (l : Launch) (eD eI : Nat) (ad : Nat → Nat) (dC : Nat → ClassId) (dI : Nat → Nat → Nat) (sz : Nat) (vw : Nat) (mm : Nat) (t1 : Nat) (t2 : Nat) (i1 : Nat) (i2 : Nat) (kT : ClassId) : Met l yX17_isUnder w_c_V_isUnder_21 ({ frames := 1, cells := 0, slots := 0, locals := 22 }) (va_Pc [.ref vw, .ref t2, .ref t1] (zPre eD eI ad (dC, dI) [(vw, .inr (19, [.int (-1), .int (-1), .int (-1), .int (-1), .ref mm])), (t1, .inr (18, [.int (-2), .ref i1])), (t2, .inr (18, [.int (-3), .ref i2])), (i1, .inl (kT, 0, .inr (.inr (.inr (.inr (fun _ => none)))))), (i2, .inl (kT, 0, .inr (.inr (.inr (.inr (fun _ => none))))))] [(kT, .object "HornbookModel$Tree")] sz)) (va_Qi (fun (r : Int32) (_ : Unit) => r = 0) (fun (_ : Unit) => zEnd (dC, dI) (va_A [(vw, .inr (19, [.int (-1), .int (-1), .int (-1), .int (-1), .ref mm])), (t1, .inr (18, [.int (-2), .ref i1])), (t2, .inr (18, [.int (-3), .ref i2])), (i1, .inl (kT, 0, .inr (.inr (.inr (.inr (fun _ => none)))))), (i2, .inl (kT, 0, .inr (.inr (.inr (.inr (fun _ => none))))))] sz) [(vw, .inr (19, [.int (-1), .int (-1), .int (-1), .int (-1), .ref mm])), (t1, .inr (18, [.int (-2), .ref i1])), (t2, .inr (18, [.int (-3), .ref i2])), (i1, .inl (kT, 0, .inr (.inr (.inr (.inr (fun _ => none)))))), (i2, .inl (kT, 0, .inr (.inr (.inr (.inr (fun _ => none))))))] []) (va_A [(vw, .inr (19, [.int (-1), .int (-1), .int (-1), .int (-1), .ref mm])), (t1, .inr (18, [.int (-2), .ref i1])), (t2, .inr (18, [.int (-3), .ref i2])), (i1, .inl (kT, 0, .inr (.inr (.inr (.inr (fun _ => none)))))), (i2, .inl (kT, 0, .inr (.inr (.inr (.inr (fun _ => none))))))] sz)) 0 0 (va_A [(vw, .inr (19, [.int (-1), .int (-1), .int (-1), .int (-1), .ref mm])), (t1, .inr (18, [.int (-2), .ref i1])), (t2, .inr (18, [.int (-3), .ref i2])), (i1, .inl (kT, 0, .inr (.inr (.inr (.inr (fun _ => none)))))), (i2, .inl (kT, 0, .inr (.inr (.inr (.inr (fun _ => none))))))] sz) := by
  refine Met.ofW (cc := cX17_isUnder) (maxL := 6) (ret := (some .boolean)) (by decide) rfl ?_
  intro p e s m args below meth c s₁ B hml hv
  obtain ⟨rfl, hsz, hP, hK, hD0, hE⟩ := hv
  have hx := B.exec
  have hb := B.bytes
  have hr := B.returns
  have hts := atoms_spec (ws := w_c_V_isUnder_21) B.pre
  have hown : s.vm.findClass RX17 = some m.cls := findClass_of_methodNamed B.named
  have hlocks := B.notSynchronized
  subst hsz
  have hD := hD0.self (sz := s.heap.size)
  generalize hAe : va_A [(vw, .inr (19, [.int (-1), .int (-1), .int (-1), .int (-1), .ref mm])), (t1, .inr (18, [.int (-2), .ref i1])), (t2, .inr (18, [.int (-3), .ref i2])), (i1, .inl (kT, 0, .inr (.inr (.inr (.inr (fun _ => none)))))), (i2, .inl (kT, 0, .inr (.inr (.inr (.inr (fun _ => none))))))] s.heap.size = A at hD hE ⊢
  have hA : ∀ q : Nat, s.heap.size ≤ q → A q := fun q h => by rw [← hAe]; exact Or.inr h
  have hS : va_S A s.heap s.heap [] := va_S.rf
  have hP : va_P (dC, dI) vwCl [(vw, .inr (19, [.int (-1), .int (-1), .int (-1), .int (-1), .ref mm])), (t1, .inr (18, [.int (-2), .ref i1])), (t2, .inr (18, [.int (-3), .ref i2])), (i1, .inl (kT, 0, .inr (.inr (.inr (.inr (fun _ => none)))))), (i2, .inl (kT, 0, .inr (.inr (.inr (.inr (fun _ => none))))))] s.heap := hP
  have hl := lv_entry ([.ref vw, .ref t2, .ref t1]) (n := 6) (Nat.le_of_ble_eq_true rfl)
  rw [lg_entry_eq]
  generalize (lg_sl ([.ref vw, .ref t2, .ref t1]) ++ List.replicate (6 - (lg_sl ([.ref vw, .ref t2, .ref t1])).length) Slot.unset).toArray = ls at hl ⊢
  have hl : lv_has ls 6 [(0, .ref vw), (1, .ref t2), (2, .ref t1)] := hl
  have in_RX16 : ∀ w ∈ u_ws RX16 TX16 2, w ∈ w_c_V_isUnder_21 := by decide +kernel
  refine lv_aload_n hx hb dX17_isUnder_0 rfl (lv_at hl 1 rfl) ?_
  refine va_get (D := (dC, dI)) (ci := 18) (v := .int (-3)) (C := RX16) (T := TX16) (N := 2) hx hb hts in_RX16 hown hK hP 2 rfl rfl 0 (by decide) (hts (.fieldLink RX17 49 "HornbookModel$Tree" "head" "I") (by decide +kernel)) (fun _ h9 => h9) rfl dX17_isUnder_1 ?_
  refine lv_bipush (v := (-2)) hx hb dX17_isUnder_4 (by decide) ?_
  refine lv_icmp_eq (tgt := 25) hx hb dX17_isUnder_6 (by decide) (fun c_1 => ?_) (fun c_1 => ?_)
  · exact absurd c_1 (by decide)
  refine lv_aload_n hx hb dX17_isUnder_9 rfl (lv_at hl 2 rfl) ?_
  refine va_get (D := (dC, dI)) (ci := 18) (v := .int (-2)) (C := RX16) (T := TX16) (N := 2) hx hb hts in_RX16 hown hK hP 1 rfl rfl 0 (by decide) (hts (.fieldLink RX17 49 "HornbookModel$Tree" "head" "I") (by decide +kernel)) (fun _ h9 => h9) rfl dX17_isUnder_10 ?_
  refine lv_iconst (v := (-1)) hx hb dX17_isUnder_13 (by decide) ?_
  refine lv_icmp_eq (tgt := 25) hx hb dX17_isUnder_14 (by decide) (fun c_2 => ?_) (fun c_2 => ?_)
  · exact absurd c_2 (by decide)
  refine lv_aload_n hx hb dX17_isUnder_17 rfl (lv_at hl 1 rfl) ?_
  refine lv_aload_n hx hb dX17_isUnder_18 rfl (lv_at hl 2 rfl) ?_
  refine z_i (wr := [(vw, .inr (19, [.int (-1), .int (-1), .int (-1), .int (-1), .ref mm])), (i1, .inl (kT, 0, .inr (.inr (.inr (.inr (fun _ => none)))))), (i2, .inl (kT, 0, .inr (.inr (.inr (.inr (fun _ => none))))))]) (va_runV (As := [.ref t1]) (rest := []) ⟨hx, hb, hml, hown, hts⟩ (c_T_isSame_ne l eD eI ad dC dI s.heap.size t2 (-3) ((.ref i2)) t1 (-2) ((.ref i1)) (by decide)) (cwV 1 hts g_c_V_isUnder_21_0 rfl rfl rfl (by decide +kernel) ⟨Nat.le_of_ble_eq_true rfl, Nat.le_of_ble_eq_true rfl⟩) (z_preV (wc := [(t2, .inr (18, [.int (-3), .ref i2])), (t1, .inr (18, [.int (-2), .ref i1]))]) hP hD hK hS hA hE [2, 1] [] rfl (by decide) rfl (ci := 18) (q0 := 0) rfl rfl) rfl rfl hl.1 rfl (lv_room (Nat.le_of_ble_eq_true rfl)) dX17_isUnder_19 ⟨Nat.le_of_ble_eq_true rfl, Nat.le_of_ble_eq_true rfl⟩) hP hD hK hS hA [2, 1] [0, 3, 4] rfl rfl (by decide) (by decide) (fun r_3 u H locs hw_4 hP hD hK hS => ?_)
  obtain ⟨⟩ := u
  have hP : va_P (dC, dI) vwCl [(vw, .inr (19, [.int (-1), .int (-1), .int (-1), .int (-1), .ref mm])), (i1, .inl (kT, 0, .inr (.inr (.inr (.inr (fun _ => none)))))), (i2, .inl (kT, 0, .inr (.inr (.inr (.inr (fun _ => none)))))), (t2, .inr (18, [.int (-3), .ref i2])), (t1, .inr (18, [.int (-2), .ref i1]))] H := hP
  have hD : va_D A [(vw, .inr (19, [.int (-1), .int (-1), .int (-1), .int (-1), .ref mm])), (i1, .inl (kT, 0, .inr (.inr (.inr (.inr (fun _ => none)))))), (i2, .inl (kT, 0, .inr (.inr (.inr (.inr (fun _ => none)))))), (t2, .inr (18, [.int (-3), .ref i2])), (t1, .inr (18, [.int (-2), .ref i1]))] := hD
  have hK : va_K (dC, dI) vwCl [(kT, .object "HornbookModel$Tree")] s := by simpa using hK
  have hw_4 : r_3 = 0 := hw_4
  have hw_4 := hw_4.symm
  subst hw_4
  refine lv_if_eq (tgt := 27) hx hb dX17_isUnder_22 (by decide) (fun c_5 => ?_) (fun c_5 => ?_)
  rotate_left
  · exact absurd (by decide) c_5
  refine lv_aload_n hx hb dX17_isUnder_27 rfl (lv_at hl 2 rfl) ?_
  refine z_i (wr := [(vw, .inr (19, [.int (-1), .int (-1), .int (-1), .int (-1), .ref mm])), (i1, .inl (kT, 0, .inr (.inr (.inr (.inr (fun _ => none)))))), (i2, .inl (kT, 0, .inr (.inr (.inr (.inr (fun _ => none)))))), (t2, .inr (18, [.int (-3), .ref i2]))]) (va_runV (As := []) (rest := []) ⟨hx, hb, hml, hown, hts⟩ (c_T_isSort l eD eI ad dC dI H.size t1 (-2) ((.ref i1)) (by decide)) (cwV 0 hts g_c_V_isUnder_21_1 rfl rfl rfl (by decide +kernel) ⟨Nat.le_of_ble_eq_true rfl, Nat.le_of_ble_eq_true rfl⟩) (z_preV (wc := [(t1, .inr (18, [.int (-2), .ref i1]))]) hP hD hK hS hA hE [4] [] rfl (by decide) rfl (ci := 18) (q0 := 0) rfl rfl) rfl rfl hl.1 rfl (lv_room (Nat.le_of_ble_eq_true rfl)) dX17_isUnder_28 ⟨Nat.le_of_ble_eq_true rfl, Nat.le_of_ble_eq_true rfl⟩) hP hD hK hS hA [4] [0, 1, 2, 3] rfl rfl (by decide) (by decide) (fun r_6 u H locs hw_7 hP hD hK hS => ?_)
  obtain ⟨⟩ := u
  have hP : va_P (dC, dI) vwCl [(vw, .inr (19, [.int (-1), .int (-1), .int (-1), .int (-1), .ref mm])), (i1, .inl (kT, 0, .inr (.inr (.inr (.inr (fun _ => none)))))), (i2, .inl (kT, 0, .inr (.inr (.inr (.inr (fun _ => none)))))), (t2, .inr (18, [.int (-3), .ref i2])), (t1, .inr (18, [.int (-2), .ref i1]))] H := hP
  have hD : va_D A [(vw, .inr (19, [.int (-1), .int (-1), .int (-1), .int (-1), .ref mm])), (i1, .inl (kT, 0, .inr (.inr (.inr (.inr (fun _ => none)))))), (i2, .inl (kT, 0, .inr (.inr (.inr (.inr (fun _ => none)))))), (t2, .inr (18, [.int (-3), .ref i2])), (t1, .inr (18, [.int (-2), .ref i1]))] := hD
  have hK : va_K (dC, dI) vwCl [(kT, .object "HornbookModel$Tree")] s := by simpa using hK
  have hw_7 : r_6 = 0 := hw_7
  have hw_7 := hw_7.symm
  subst hw_7
  refine lv_if_eq (tgt := 46) hx hb dX17_isUnder_31 (by decide) (fun c_8 => ?_) (fun c_8 => ?_)
  rotate_left
  · exact absurd (by decide) c_8
  refine lv_null hx hb dX17_isUnder_46 ?_
  refine lv_astore_nN (lv' := [(3, .null), (0, .ref vw), (1, .ref t2), (2, .ref t1)]) hx hb dX17_isUnder_47 rfl hl (by decide) rfl (fun ls hl => ?_)
  refine lv_aload_nN hx hb dX17_isUnder_48 rfl (lv_at hl 0 rfl) ?_
  refine lv_ifnonnullN hx hb dX17_isUnder_49 ?_
  refine lv_iconst (v := 0) hx hb dX17_isUnder_52 (by decide) ?_
  have hP9 := hP.sub (ws' := [(vw, .inr (19, [.int (-1), .int (-1), .int (-1), .int (-1), .ref mm])), (t1, .inr (18, [.int (-2), .ref i1])), (t2, .inr (18, [.int (-3), .ref i2])), (i1, .inl (kT, 0, .inr (.inr (.inr (.inr (fun _ => none)))))), (i2, .inl (kT, 0, .inr (.inr (.inr (.inr (fun _ => none))))))]) [0, 4, 3, 1, 2] rfl
  have hD9 := hD.sub (ws' := [(vw, .inr (19, [.int (-1), .int (-1), .int (-1), .int (-1), .ref mm])), (t1, .inr (18, [.int (-2), .ref i1])), (t2, .inr (18, [.int (-3), .ref i2])), (i1, .inl (kT, 0, .inr (.inr (.inr (.inr (fun _ => none)))))), (i2, .inl (kT, 0, .inr (.inr (.inr (.inr (fun _ => none))))))]) [0, 4, 3, 1, 2] (by decide) rfl
  have hK9 := hK.sub (tys' := []) [] rfl
  refine W.widen (k := 0) (n := 0) (Nat.le_of_ble_eq_true rfl) (Nat.le_of_ble_eq_true rfl) ?_
  exact W.zret (v := 0) hx hb hr (by first | rfl | decide) (fun t ht hW => ⟨⟨0, (), rfl, rfl, ⟨by rw [ht]; exact hP9, va_K.moved hW.alike hK9, hD9⟩⟩, hS.F ht⟩) hS.2.2 dX17_isUnder_53

def wb_c_V_isUnder_22 : List Cond := [.fieldLink RX17 49 "HornbookModel$Tree" "head" "I", .code yX16_isSame cX16_isSame 3 (some .boolean), .fieldLink RX16 14 "HornbookModel$Tree" "head" "I", .fieldLink RX16 18 "HornbookModel$Tree" "inner" "[LHornbookModel$Tree;", .methodLink RX17 76 yX16_isSame, .instanceMethod yX16_isSame, .selects RX16 yX16_isSame yX16_isSame, .initialized RX16] ++ u_ws RX16 TX16 2
def w_c_V_isUnder_22 : List Cond := .code yX17_isUnder cX17_isUnder 6 (some .boolean) :: wb_c_V_isUnder_22
set_option maxRecDepth 100000 in
theorem g_c_V_isUnder_22_0 : GoodIn w_c_V_isUnder_22 (wsV RX17 76 RX16 yX16_isSame w_c_T_isSame_self) := goodIn_app (goodIn_of _ (by decide +kernel)) (goodIn_p (big := w_c_V_isUnder_22) (.code yX16_isSame cX16_isSame 3 (some .boolean) :: wb_c_T_isSame_self) [2] rfl (by decide +kernel))
set_option maxHeartbeats 4000000 in
set_option maxRecDepth 100000 in
theorem c_V_isUnder_22 (l : Launch) (eD eI : Nat) (ad : Nat → Nat) (dC : Nat → ClassId) (dI : Nat → Nat → Nat) (sz : Nat) (vw : Nat) (mm : Nat) (t2 : Nat) (i2 : Nat) (kT : ClassId) : Met l yX17_isUnder w_c_V_isUnder_22 ({ frames := 1, cells := 0, slots := 0, locals := 22 }) (va_Pc [.ref vw, .ref t2, .ref t2] (zPre eD eI ad (dC, dI) [(vw, .inr (19, [.int (-1), .int (-1), .int (-1), .int (-1), .ref mm])), (t2, .inr (18, [.int (-3), .ref i2])), (i2, .inl (kT, 0, .inr (.inr (.inr (.inr (fun _ => none))))))] [(kT, .object "HornbookModel$Tree")] sz)) (va_Qi (fun (r : Int32) (_ : Unit) => r = 1) (fun (_ : Unit) => zEnd (dC, dI) (va_A [(vw, .inr (19, [.int (-1), .int (-1), .int (-1), .int (-1), .ref mm])), (t2, .inr (18, [.int (-3), .ref i2])), (i2, .inl (kT, 0, .inr (.inr (.inr (.inr (fun _ => none))))))] sz) [(vw, .inr (19, [.int (-1), .int (-1), .int (-1), .int (-1), .ref mm])), (t2, .inr (18, [.int (-3), .ref i2])), (i2, .inl (kT, 0, .inr (.inr (.inr (.inr (fun _ => none))))))] []) (va_A [(vw, .inr (19, [.int (-1), .int (-1), .int (-1), .int (-1), .ref mm])), (t2, .inr (18, [.int (-3), .ref i2])), (i2, .inl (kT, 0, .inr (.inr (.inr (.inr (fun _ => none))))))] sz)) 0 0 (va_A [(vw, .inr (19, [.int (-1), .int (-1), .int (-1), .int (-1), .ref mm])), (t2, .inr (18, [.int (-3), .ref i2])), (i2, .inl (kT, 0, .inr (.inr (.inr (.inr (fun _ => none))))))] sz) := by
  refine Met.ofW (cc := cX17_isUnder) (maxL := 6) (ret := (some .boolean)) (by decide) rfl ?_
  intro p e s m args below meth c s₁ B hml hv
  obtain ⟨rfl, hsz, hP, hK, hD0, hE⟩ := hv
  have hx := B.exec
  have hb := B.bytes
  have hr := B.returns
  have hts := atoms_spec (ws := w_c_V_isUnder_22) B.pre
  have hown : s.vm.findClass RX17 = some m.cls := findClass_of_methodNamed B.named
  have hlocks := B.notSynchronized
  subst hsz
  have hD := hD0.self (sz := s.heap.size)
  generalize hAe : va_A [(vw, .inr (19, [.int (-1), .int (-1), .int (-1), .int (-1), .ref mm])), (t2, .inr (18, [.int (-3), .ref i2])), (i2, .inl (kT, 0, .inr (.inr (.inr (.inr (fun _ => none))))))] s.heap.size = A at hD hE ⊢
  have hA : ∀ q : Nat, s.heap.size ≤ q → A q := fun q h => by rw [← hAe]; exact Or.inr h
  have hS : va_S A s.heap s.heap [] := va_S.rf
  have hP : va_P (dC, dI) vwCl [(vw, .inr (19, [.int (-1), .int (-1), .int (-1), .int (-1), .ref mm])), (t2, .inr (18, [.int (-3), .ref i2])), (i2, .inl (kT, 0, .inr (.inr (.inr (.inr (fun _ => none))))))] s.heap := hP
  have hl := lv_entry ([.ref vw, .ref t2, .ref t2]) (n := 6) (Nat.le_of_ble_eq_true rfl)
  rw [lg_entry_eq]
  generalize (lg_sl ([.ref vw, .ref t2, .ref t2]) ++ List.replicate (6 - (lg_sl ([.ref vw, .ref t2, .ref t2])).length) Slot.unset).toArray = ls at hl ⊢
  have hl : lv_has ls 6 [(0, .ref vw), (1, .ref t2), (2, .ref t2)] := hl
  have in_RX16 : ∀ w ∈ u_ws RX16 TX16 2, w ∈ w_c_V_isUnder_22 := by decide +kernel
  refine lv_aload_n hx hb dX17_isUnder_0 rfl (lv_at hl 1 rfl) ?_
  refine va_get (D := (dC, dI)) (ci := 18) (v := .int (-3)) (C := RX16) (T := TX16) (N := 2) hx hb hts in_RX16 hown hK hP 1 rfl rfl 0 (by decide) (hts (.fieldLink RX17 49 "HornbookModel$Tree" "head" "I") (by decide +kernel)) (fun _ h9 => h9) rfl dX17_isUnder_1 ?_
  refine lv_bipush (v := (-2)) hx hb dX17_isUnder_4 (by decide) ?_
  refine lv_icmp_eq (tgt := 25) hx hb dX17_isUnder_6 (by decide) (fun c_1 => ?_) (fun c_1 => ?_)
  · exact absurd c_1 (by decide)
  refine lv_aload_n hx hb dX17_isUnder_9 rfl (lv_at hl 2 rfl) ?_
  refine va_get (D := (dC, dI)) (ci := 18) (v := .int (-3)) (C := RX16) (T := TX16) (N := 2) hx hb hts in_RX16 hown hK hP 1 rfl rfl 0 (by decide) (hts (.fieldLink RX17 49 "HornbookModel$Tree" "head" "I") (by decide +kernel)) (fun _ h9 => h9) rfl dX17_isUnder_10 ?_
  refine lv_iconst (v := (-1)) hx hb dX17_isUnder_13 (by decide) ?_
  refine lv_icmp_eq (tgt := 25) hx hb dX17_isUnder_14 (by decide) (fun c_2 => ?_) (fun c_2 => ?_)
  · exact absurd c_2 (by decide)
  refine lv_aload_n hx hb dX17_isUnder_17 rfl (lv_at hl 1 rfl) ?_
  refine lv_aload_n hx hb dX17_isUnder_18 rfl (lv_at hl 2 rfl) ?_
  refine z_i (wr := [(vw, .inr (19, [.int (-1), .int (-1), .int (-1), .int (-1), .ref mm]))]) (va_runV (As := [.ref t2]) (rest := []) ⟨hx, hb, hml, hown, hts⟩ (c_T_isSame_self l eD eI ad dC dI s.heap.size t2 i2 kT (-3)) (cwV 1 hts g_c_V_isUnder_22_0 rfl rfl rfl (by decide +kernel) ⟨Nat.le_of_ble_eq_true rfl, Nat.le_of_ble_eq_true rfl⟩) (z_preV (wc := [(t2, .inr (18, [.int (-3), .ref i2])), (i2, .inl (kT, 0, .inr (.inr (.inr (.inr (fun _ => none))))))]) hP hD hK hS hA hE [1, 2] [0] rfl (by decide) rfl (ci := 18) (q0 := 0) rfl rfl) rfl rfl hl.1 rfl (lv_room (Nat.le_of_ble_eq_true rfl)) dX17_isUnder_19 ⟨Nat.le_of_ble_eq_true rfl, Nat.le_of_ble_eq_true rfl⟩) hP hD hK hS hA [1, 2] [0] rfl rfl (by decide) (by decide) (fun r_3 u H locs hw_4 hP hD hK hS => ?_)
  obtain ⟨⟩ := u
  have hP : va_P (dC, dI) vwCl [(vw, .inr (19, [.int (-1), .int (-1), .int (-1), .int (-1), .ref mm])), (t2, .inr (18, [.int (-3), .ref i2])), (i2, .inl (kT, 0, .inr (.inr (.inr (.inr (fun _ => none))))))] H := hP
  have hD : va_D A [(vw, .inr (19, [.int (-1), .int (-1), .int (-1), .int (-1), .ref mm])), (t2, .inr (18, [.int (-3), .ref i2])), (i2, .inl (kT, 0, .inr (.inr (.inr (.inr (fun _ => none))))))] := hD
  have hK : va_K (dC, dI) vwCl [(kT, .object "HornbookModel$Tree")] s := by simpa using hK
  have hw_4 : r_3 = 1 := hw_4
  have hw_4 := hw_4.symm
  subst hw_4
  refine lv_if_eq (tgt := 27) hx hb dX17_isUnder_22 (by decide) (fun c_5 => ?_) (fun c_5 => ?_)
  · exact absurd c_5 (by decide)
  refine lv_iconst (v := 1) hx hb dX17_isUnder_25 (by decide) ?_
  have hP9 := hP.sub (ws' := [(vw, .inr (19, [.int (-1), .int (-1), .int (-1), .int (-1), .ref mm])), (t2, .inr (18, [.int (-3), .ref i2])), (i2, .inl (kT, 0, .inr (.inr (.inr (.inr (fun _ => none))))))]) [0, 1, 2] rfl
  have hD9 := hD.sub (ws' := [(vw, .inr (19, [.int (-1), .int (-1), .int (-1), .int (-1), .ref mm])), (t2, .inr (18, [.int (-3), .ref i2])), (i2, .inl (kT, 0, .inr (.inr (.inr (.inr (fun _ => none))))))]) [0, 1, 2] (by decide) rfl
  have hK9 := hK.sub (tys' := []) [] rfl
  refine W.widen (k := 0) (n := 0) (Nat.le_of_ble_eq_true rfl) (Nat.le_of_ble_eq_true rfl) ?_
  exact W.zret (v := 1) hx hb hr (by first | rfl | decide) (fun t ht hW => ⟨⟨1, (), rfl, rfl, ⟨by rw [ht]; exact hP9, va_K.moved hW.alike hK9, hD9⟩⟩, hS.F ht⟩) hS.2.2 dX17_isUnder_26

def wb_c_V_join_00 : List Cond := [.code yX17_isUnder cX17_isUnder 6 (some .boolean), .fieldLink RX17 49 "HornbookModel$Tree" "head" "I", .methodLink RX17 91 yX17_isUnder, .instanceMethod yX17_isUnder, .selects RX17 yX17_isUnder yX17_isUnder, .initialized RX17] ++ u_ws RX16 TX16 2
def w_c_V_join_00 : List Cond := .code yX17_join cX17_join 7 (some (.object "HornbookModel$Tree")) :: wb_c_V_join_00
set_option maxRecDepth 100000 in
theorem g_c_V_join_00_0 : GoodIn w_c_V_join_00 (wsV RX17 91 RX17 yX17_isUnder w_c_V_isUnder_00) := goodIn_app (goodIn_of _ (by decide +kernel)) (goodIn_p (big := w_c_V_join_00) (.code yX17_isUnder cX17_isUnder 6 (some .boolean) :: wb_c_V_isUnder_00) [1] rfl (by decide +kernel))
set_option maxHeartbeats 4000000 in
set_option maxRecDepth 100000 in
theorem c_V_join_00 (l : Launch) (eD eI : Nat) (ad : Nat → Nat) (dC : Nat → ClassId) (dI : Nat → Nat → Nat) (sz : Nat) (vw : Nat) (mm : Nat) (t0 : Nat) (i0 : Nat) (kT : ClassId) : Met l yX17_join w_c_V_join_00 ({ frames := 1, cells := 0, slots := 0, locals := 25 }) (va_Pc [.ref vw, .ref t0, .ref t0] (zPre eD eI ad (dC, dI) [(vw, .inr (19, [.int (-1), .int (-1), .int (-1), .int (-1), .ref mm])), (t0, .inr (18, [.int (-1), .ref i0])), (i0, .inl (kT, 0, .inr (.inr (.inr (.inr (fun _ => none))))))] [(kT, .object "HornbookModel$Tree")] sz)) (va_Qq (fun (r : Option Nat) (_ : Unit) => r = some t0) (fun (_ : Unit) => zEnd (dC, dI) (va_A [(vw, .inr (19, [.int (-1), .int (-1), .int (-1), .int (-1), .ref mm])), (t0, .inr (18, [.int (-1), .ref i0])), (i0, .inl (kT, 0, .inr (.inr (.inr (.inr (fun _ => none))))))] sz) [(vw, .inr (19, [.int (-1), .int (-1), .int (-1), .int (-1), .ref mm])), (t0, .inr (18, [.int (-1), .ref i0])), (i0, .inl (kT, 0, .inr (.inr (.inr (.inr (fun _ => none))))))] []) (va_A [(vw, .inr (19, [.int (-1), .int (-1), .int (-1), .int (-1), .ref mm])), (t0, .inr (18, [.int (-1), .ref i0])), (i0, .inl (kT, 0, .inr (.inr (.inr (.inr (fun _ => none))))))] sz)) 0 0 (va_A [(vw, .inr (19, [.int (-1), .int (-1), .int (-1), .int (-1), .ref mm])), (t0, .inr (18, [.int (-1), .ref i0])), (i0, .inl (kT, 0, .inr (.inr (.inr (.inr (fun _ => none))))))] sz) := by
  refine Met.ofW (cc := cX17_join) (maxL := 7) (ret := (some (.object "HornbookModel$Tree"))) (by decide) rfl ?_
  intro p e s m args below meth c s₁ B hml hv
  obtain ⟨rfl, hsz, hP, hK, hD0, hE⟩ := hv
  have hx := B.exec
  have hb := B.bytes
  have hr := B.returns
  have hts := atoms_spec (ws := w_c_V_join_00) B.pre
  have hown : s.vm.findClass RX17 = some m.cls := findClass_of_methodNamed B.named
  have hlocks := B.notSynchronized
  subst hsz
  have hD := hD0.self (sz := s.heap.size)
  generalize hAe : va_A [(vw, .inr (19, [.int (-1), .int (-1), .int (-1), .int (-1), .ref mm])), (t0, .inr (18, [.int (-1), .ref i0])), (i0, .inl (kT, 0, .inr (.inr (.inr (.inr (fun _ => none))))))] s.heap.size = A at hD hE ⊢
  have hA : ∀ q : Nat, s.heap.size ≤ q → A q := fun q h => by rw [← hAe]; exact Or.inr h
  have hS : va_S A s.heap s.heap [] := va_S.rf
  have hP : va_P (dC, dI) vwCl [(vw, .inr (19, [.int (-1), .int (-1), .int (-1), .int (-1), .ref mm])), (t0, .inr (18, [.int (-1), .ref i0])), (i0, .inl (kT, 0, .inr (.inr (.inr (.inr (fun _ => none))))))] s.heap := hP
  have hl := lv_entry ([.ref vw, .ref t0, .ref t0]) (n := 7) (Nat.le_of_ble_eq_true rfl)
  rw [lg_entry_eq]
  generalize (lg_sl ([.ref vw, .ref t0, .ref t0]) ++ List.replicate (7 - (lg_sl ([.ref vw, .ref t0, .ref t0])).length) Slot.unset).toArray = ls at hl ⊢
  have hl : lv_has ls 7 [(0, .ref vw), (1, .ref t0), (2, .ref t0)] := hl
  have in_RX16 : ∀ w ∈ u_ws RX16 TX16 2, w ∈ w_c_V_join_00 := by decide +kernel
  refine lv_aload_n hx hb dX17_join_0 rfl (lv_at hl 0 rfl) ?_
  refine lv_aload_n hx hb dX17_join_1 rfl (lv_at hl 1 rfl) ?_
  refine lv_aload_n hx hb dX17_join_2 rfl (lv_at hl 2 rfl) ?_
  refine z_i (wr := []) (va_runV (As := [.ref t0, .ref t0]) (rest := []) ⟨hx, hb, hml, hown, hts⟩ (c_V_isUnder_00 l eD eI ad dC dI s.heap.size vw mm t0 i0 kT) (cwV 2 hts g_c_V_join_00_0 rfl rfl rfl (by decide +kernel) ⟨Nat.le_of_ble_eq_true rfl, Nat.le_of_ble_eq_true rfl⟩) (z_preV (wc := [(vw, .inr (19, [.int (-1), .int (-1), .int (-1), .int (-1), .ref mm])), (t0, .inr (18, [.int (-1), .ref i0])), (i0, .inl (kT, 0, .inr (.inr (.inr (.inr (fun _ => none))))))]) hP hD hK hS hA hE [0, 1, 2] [0] rfl (by decide) rfl (ci := 19) (q0 := 0) rfl rfl) rfl rfl hl.1 rfl (lv_room (Nat.le_of_ble_eq_true rfl)) dX17_join_3 ⟨Nat.le_of_ble_eq_true rfl, Nat.le_of_ble_eq_true rfl⟩) hP hD hK hS hA [0, 1, 2] [] rfl rfl (by decide) (by decide) (fun r_1 u H locs hw_2 hP hD hK hS => ?_)
  obtain ⟨⟩ := u
  have hP : va_P (dC, dI) vwCl [(vw, .inr (19, [.int (-1), .int (-1), .int (-1), .int (-1), .ref mm])), (t0, .inr (18, [.int (-1), .ref i0])), (i0, .inl (kT, 0, .inr (.inr (.inr (.inr (fun _ => none))))))] H := hP
  have hD : va_D A [(vw, .inr (19, [.int (-1), .int (-1), .int (-1), .int (-1), .ref mm])), (t0, .inr (18, [.int (-1), .ref i0])), (i0, .inl (kT, 0, .inr (.inr (.inr (.inr (fun _ => none))))))] := hD
  have hK : va_K (dC, dI) vwCl [(kT, .object "HornbookModel$Tree")] s := by simpa using hK
  have hw_2 : r_1 = 1 := hw_2
  have hw_2 := hw_2.symm
  subst hw_2
  refine lv_if_eq (tgt := 11) hx hb dX17_join_6 (by decide) (fun c_3 => ?_) (fun c_3 => ?_)
  · exact absurd c_3 (by decide)
  refine lv_aload_n hx hb dX17_join_9 rfl (lv_at hl 2 rfl) ?_
  have hP9 := hP.sub (ws' := [(vw, .inr (19, [.int (-1), .int (-1), .int (-1), .int (-1), .ref mm])), (t0, .inr (18, [.int (-1), .ref i0])), (i0, .inl (kT, 0, .inr (.inr (.inr (.inr (fun _ => none))))))]) [0, 1, 2] rfl
  have hD9 := hD.sub (ws' := [(vw, .inr (19, [.int (-1), .int (-1), .int (-1), .int (-1), .ref mm])), (t0, .inr (18, [.int (-1), .ref i0])), (i0, .inl (kT, 0, .inr (.inr (.inr (.inr (fun _ => none))))))]) [0, 1, 2] (by decide) rfl
  have hK9 := hK.sub (tys' := []) [] rfl
  refine W.widen (k := 0) (n := 0) (Nat.le_of_ble_eq_true rfl) (Nat.le_of_ble_eq_true rfl) ?_
  exact W.aret (v := .ref t0) hx hb hr (Or.inl ⟨_, rfl⟩) (Or.inr ⟨_, rfl⟩) (fun t ht hW => ⟨⟨some t0, (), rfl, rfl, ⟨by rw [ht]; exact hP9, va_K.moved hW.alike hK9, hD9⟩⟩, hS.F ht⟩) hS.2.2 dX17_join_10

def wb_c_V_join_01 : List Cond := [.code yX17_isUnder cX17_isUnder 6 (some .boolean), .fieldLink RX17 49 "HornbookModel$Tree" "head" "I", .code yX16_isSame cX16_isSame 3 (some .boolean), .fieldLink RX16 14 "HornbookModel$Tree" "head" "I", .methodLink RX17 76 yX16_isSame, .instanceMethod yX16_isSame, .selects RX16 yX16_isSame yX16_isSame, .initialized RX16, .code yX16_isSort cX16_isSort 1 (some .boolean), .methodLink RX17 68 yX16_isSort, .instanceMethod yX16_isSort, .selects RX16 yX16_isSort yX16_isSort, .methodLink RX17 91 yX17_isUnder, .instanceMethod yX17_isUnder, .selects RX17 yX17_isUnder yX17_isUnder, .initialized RX17] ++ u_ws RX16 TX16 2
def w_c_V_join_01 : List Cond := .code yX17_join cX17_join 7 (some (.object "HornbookModel$Tree")) :: wb_c_V_join_01
set_option maxRecDepth 100000 in
theorem g_c_V_join_01_0 : GoodIn w_c_V_join_01 (wsV RX17 91 RX17 yX17_isUnder w_c_V_isUnder_01) := goodIn_app (goodIn_of _ (by decide +kernel)) (goodIn_p (big := w_c_V_join_01) (.code yX17_isUnder cX17_isUnder 6 (some .boolean) :: wb_c_V_isUnder_01) [1, 3, 9] rfl (by decide +kernel))
set_option maxRecDepth 100000 in
theorem g_c_V_join_01_1 : GoodIn w_c_V_join_01 (wsV RX17 91 RX17 yX17_isUnder w_c_V_isUnder_10) := goodIn_app (goodIn_of _ (by decide +kernel)) (goodIn_p (big := w_c_V_join_01) (.code yX17_isUnder cX17_isUnder 6 (some .boolean) :: wb_c_V_isUnder_10) [1] rfl (by decide +kernel))
set_option maxHeartbeats 4000000 in
set_option maxRecDepth 100000 in
theorem c_V_join_01 (l : Launch) (eD eI : Nat) (ad : Nat → Nat) (dC : Nat → ClassId) (dI : Nat → Nat → Nat) (sz : Nat) (vw : Nat) (mm : Nat) (t0 : Nat) (t1 : Nat) (i0 : Nat) (i1 : Nat) (kT : ClassId) : Met l yX17_join w_c_V_join_01 ({ frames := 2, cells := 0, slots := 0, locals := 47 }) (va_Pc [.ref vw, .ref t0, .ref t1] (zPre eD eI ad (dC, dI) [(vw, .inr (19, [.int (-1), .int (-1), .int (-1), .int (-1), .ref mm])), (t0, .inr (18, [.int (-1), .ref i0])), (t1, .inr (18, [.int (-2), .ref i1])), (i0, .inl (kT, 0, .inr (.inr (.inr (.inr (fun _ => none)))))), (i1, .inl (kT, 0, .inr (.inr (.inr (.inr (fun _ => none))))))] [(kT, .object "HornbookModel$Tree")] sz)) (va_Qq (fun (r : Option Nat) (_ : Unit) => r = some t0) (fun (_ : Unit) => zEnd (dC, dI) (va_A [(vw, .inr (19, [.int (-1), .int (-1), .int (-1), .int (-1), .ref mm])), (t0, .inr (18, [.int (-1), .ref i0])), (t1, .inr (18, [.int (-2), .ref i1])), (i0, .inl (kT, 0, .inr (.inr (.inr (.inr (fun _ => none)))))), (i1, .inl (kT, 0, .inr (.inr (.inr (.inr (fun _ => none))))))] sz) [(vw, .inr (19, [.int (-1), .int (-1), .int (-1), .int (-1), .ref mm])), (t0, .inr (18, [.int (-1), .ref i0])), (t1, .inr (18, [.int (-2), .ref i1])), (i0, .inl (kT, 0, .inr (.inr (.inr (.inr (fun _ => none)))))), (i1, .inl (kT, 0, .inr (.inr (.inr (.inr (fun _ => none))))))] []) (va_A [(vw, .inr (19, [.int (-1), .int (-1), .int (-1), .int (-1), .ref mm])), (t0, .inr (18, [.int (-1), .ref i0])), (t1, .inr (18, [.int (-2), .ref i1])), (i0, .inl (kT, 0, .inr (.inr (.inr (.inr (fun _ => none)))))), (i1, .inl (kT, 0, .inr (.inr (.inr (.inr (fun _ => none))))))] sz)) 0 0 (va_A [(vw, .inr (19, [.int (-1), .int (-1), .int (-1), .int (-1), .ref mm])), (t0, .inr (18, [.int (-1), .ref i0])), (t1, .inr (18, [.int (-2), .ref i1])), (i0, .inl (kT, 0, .inr (.inr (.inr (.inr (fun _ => none)))))), (i1, .inl (kT, 0, .inr (.inr (.inr (.inr (fun _ => none))))))] sz) := by
  refine Met.ofW (cc := cX17_join) (maxL := 7) (ret := (some (.object "HornbookModel$Tree"))) (by decide) rfl ?_
  intro p e s m args below meth c s₁ B hml hv
  obtain ⟨rfl, hsz, hP, hK, hD0, hE⟩ := hv
  have hx := B.exec
  have hb := B.bytes
  have hr := B.returns
  have hts := atoms_spec (ws := w_c_V_join_01) B.pre
  have hown : s.vm.findClass RX17 = some m.cls := findClass_of_methodNamed B.named
  have hlocks := B.notSynchronized
  subst hsz
  have hD := hD0.self (sz := s.heap.size)
  generalize hAe : va_A [(vw, .inr (19, [.int (-1), .int (-1), .int (-1), .int (-1), .ref mm])), (t0, .inr (18, [.int (-1), .ref i0])), (t1, .inr (18, [.int (-2), .ref i1])), (i0, .inl (kT, 0, .inr (.inr (.inr (.inr (fun _ => none)))))), (i1, .inl (kT, 0, .inr (.inr (.inr (.inr (fun _ => none))))))] s.heap.size = A at hD hE ⊢
  have hA : ∀ q : Nat, s.heap.size ≤ q → A q := fun q h => by rw [← hAe]; exact Or.inr h
  have hS : va_S A s.heap s.heap [] := va_S.rf
  have hP : va_P (dC, dI) vwCl [(vw, .inr (19, [.int (-1), .int (-1), .int (-1), .int (-1), .ref mm])), (t0, .inr (18, [.int (-1), .ref i0])), (t1, .inr (18, [.int (-2), .ref i1])), (i0, .inl (kT, 0, .inr (.inr (.inr (.inr (fun _ => none)))))), (i1, .inl (kT, 0, .inr (.inr (.inr (.inr (fun _ => none))))))] s.heap := hP
  have hl := lv_entry ([.ref vw, .ref t0, .ref t1]) (n := 7) (Nat.le_of_ble_eq_true rfl)
  rw [lg_entry_eq]
  generalize (lg_sl ([.ref vw, .ref t0, .ref t1]) ++ List.replicate (7 - (lg_sl ([.ref vw, .ref t0, .ref t1])).length) Slot.unset).toArray = ls at hl ⊢
  have hl : lv_has ls 7 [(0, .ref vw), (1, .ref t0), (2, .ref t1)] := hl
  have in_RX16 : ∀ w ∈ u_ws RX16 TX16 2, w ∈ w_c_V_join_01 := by decide +kernel
  refine lv_aload_n hx hb dX17_join_0 rfl (lv_at hl 0 rfl) ?_
  refine lv_aload_n hx hb dX17_join_1 rfl (lv_at hl 1 rfl) ?_
  refine lv_aload_n hx hb dX17_join_2 rfl (lv_at hl 2 rfl) ?_
  refine z_i (wr := []) (va_runV (As := [.ref t0, .ref t1]) (rest := []) ⟨hx, hb, hml, hown, hts⟩ (c_V_isUnder_01 l eD eI ad dC dI s.heap.size vw mm t0 t1 i0 i1 kT) (cwV 2 hts g_c_V_join_01_0 rfl rfl rfl (by decide +kernel) ⟨Nat.le_of_ble_eq_true rfl, Nat.le_of_ble_eq_true rfl⟩) (z_preV (wc := [(vw, .inr (19, [.int (-1), .int (-1), .int (-1), .int (-1), .ref mm])), (t0, .inr (18, [.int (-1), .ref i0])), (t1, .inr (18, [.int (-2), .ref i1])), (i0, .inl (kT, 0, .inr (.inr (.inr (.inr (fun _ => none)))))), (i1, .inl (kT, 0, .inr (.inr (.inr (.inr (fun _ => none))))))]) hP hD hK hS hA hE [0, 1, 2, 3, 4] [0] rfl (by decide) rfl (ci := 19) (q0 := 0) rfl rfl) rfl rfl hl.1 rfl (lv_room (Nat.le_of_ble_eq_true rfl)) dX17_join_3 ⟨Nat.le_of_ble_eq_true rfl, Nat.le_of_ble_eq_true rfl⟩) hP hD hK hS hA [0, 1, 2, 3, 4] [] rfl rfl (by decide) (by decide) (fun r_1 u H locs hw_2 hP hD hK hS => ?_)
  obtain ⟨⟩ := u
  have hP : va_P (dC, dI) vwCl [(vw, .inr (19, [.int (-1), .int (-1), .int (-1), .int (-1), .ref mm])), (t0, .inr (18, [.int (-1), .ref i0])), (t1, .inr (18, [.int (-2), .ref i1])), (i0, .inl (kT, 0, .inr (.inr (.inr (.inr (fun _ => none)))))), (i1, .inl (kT, 0, .inr (.inr (.inr (.inr (fun _ => none))))))] H := hP
  have hD : va_D A [(vw, .inr (19, [.int (-1), .int (-1), .int (-1), .int (-1), .ref mm])), (t0, .inr (18, [.int (-1), .ref i0])), (t1, .inr (18, [.int (-2), .ref i1])), (i0, .inl (kT, 0, .inr (.inr (.inr (.inr (fun _ => none)))))), (i1, .inl (kT, 0, .inr (.inr (.inr (.inr (fun _ => none))))))] := hD
  have hK : va_K (dC, dI) vwCl [(kT, .object "HornbookModel$Tree")] s := by simpa using hK
  have hw_2 : r_1 = 0 := hw_2
  have hw_2 := hw_2.symm
  subst hw_2
  refine lv_if_eq (tgt := 11) hx hb dX17_join_6 (by decide) (fun c_3 => ?_) (fun c_3 => ?_)
  rotate_left
  · exact absurd (by decide) c_3
  refine lv_aload_n hx hb dX17_join_11 rfl (lv_at hl 0 rfl) ?_
  refine lv_aload_n hx hb dX17_join_12 rfl (lv_at hl 2 rfl) ?_
  refine lv_aload_n hx hb dX17_join_13 rfl (lv_at hl 1 rfl) ?_
  refine z_i (wr := []) (va_runV (As := [.ref t1, .ref t0]) (rest := []) ⟨hx, hb, hml, hown, hts⟩ (c_V_isUnder_10 l eD eI ad dC dI H.size vw mm t0 t1 i0 i1 kT) (cwV 2 hts g_c_V_join_01_1 rfl rfl rfl (by decide +kernel) ⟨Nat.le_of_ble_eq_true rfl, Nat.le_of_ble_eq_true rfl⟩) (z_preV (wc := [(vw, .inr (19, [.int (-1), .int (-1), .int (-1), .int (-1), .ref mm])), (t0, .inr (18, [.int (-1), .ref i0])), (t1, .inr (18, [.int (-2), .ref i1])), (i0, .inl (kT, 0, .inr (.inr (.inr (.inr (fun _ => none)))))), (i1, .inl (kT, 0, .inr (.inr (.inr (.inr (fun _ => none))))))]) hP hD hK hS hA hE [0, 1, 2, 3, 4] [0] rfl (by decide) rfl (ci := 19) (q0 := 0) rfl rfl) rfl rfl hl.1 rfl (lv_room (Nat.le_of_ble_eq_true rfl)) dX17_join_14 ⟨Nat.le_of_ble_eq_true rfl, Nat.le_of_ble_eq_true rfl⟩) hP hD hK hS hA [0, 1, 2, 3, 4] [] rfl rfl (by decide) (by decide) (fun r_4 u H locs hw_5 hP hD hK hS => ?_)
  obtain ⟨⟩ := u
  have hP : va_P (dC, dI) vwCl [(vw, .inr (19, [.int (-1), .int (-1), .int (-1), .int (-1), .ref mm])), (t0, .inr (18, [.int (-1), .ref i0])), (t1, .inr (18, [.int (-2), .ref i1])), (i0, .inl (kT, 0, .inr (.inr (.inr (.inr (fun _ => none)))))), (i1, .inl (kT, 0, .inr (.inr (.inr (.inr (fun _ => none))))))] H := hP
  have hD : va_D A [(vw, .inr (19, [.int (-1), .int (-1), .int (-1), .int (-1), .ref mm])), (t0, .inr (18, [.int (-1), .ref i0])), (t1, .inr (18, [.int (-2), .ref i1])), (i0, .inl (kT, 0, .inr (.inr (.inr (.inr (fun _ => none)))))), (i1, .inl (kT, 0, .inr (.inr (.inr (.inr (fun _ => none))))))] := hD
  have hK : va_K (dC, dI) vwCl [(kT, .object "HornbookModel$Tree")] s := by simpa using hK
  have hw_5 : r_4 = 1 := hw_5
  have hw_5 := hw_5.symm
  subst hw_5
  refine lv_if_eq (tgt := 22) hx hb dX17_join_17 (by decide) (fun c_6 => ?_) (fun c_6 => ?_)
  · exact absurd c_6 (by decide)
  refine lv_aload_n hx hb dX17_join_20 rfl (lv_at hl 1 rfl) ?_
  have hP9 := hP.sub (ws' := [(vw, .inr (19, [.int (-1), .int (-1), .int (-1), .int (-1), .ref mm])), (t0, .inr (18, [.int (-1), .ref i0])), (t1, .inr (18, [.int (-2), .ref i1])), (i0, .inl (kT, 0, .inr (.inr (.inr (.inr (fun _ => none)))))), (i1, .inl (kT, 0, .inr (.inr (.inr (.inr (fun _ => none))))))]) [0, 1, 2, 3, 4] rfl
  have hD9 := hD.sub (ws' := [(vw, .inr (19, [.int (-1), .int (-1), .int (-1), .int (-1), .ref mm])), (t0, .inr (18, [.int (-1), .ref i0])), (t1, .inr (18, [.int (-2), .ref i1])), (i0, .inl (kT, 0, .inr (.inr (.inr (.inr (fun _ => none)))))), (i1, .inl (kT, 0, .inr (.inr (.inr (.inr (fun _ => none))))))]) [0, 1, 2, 3, 4] (by decide) rfl
  have hK9 := hK.sub (tys' := []) [] rfl
  refine W.widen (k := 0) (n := 0) (Nat.le_of_ble_eq_true rfl) (Nat.le_of_ble_eq_true rfl) ?_
  exact W.aret (v := .ref t0) hx hb hr (Or.inl ⟨_, rfl⟩) (Or.inr ⟨_, rfl⟩) (fun t ht hW => ⟨⟨some t0, (), rfl, rfl, ⟨by rw [ht]; exact hP9, va_K.moved hW.alike hK9, hD9⟩⟩, hS.F ht⟩) hS.2.2 dX17_join_21

def wb_c_V_join_02 : List Cond := [.code yX17_isUnder cX17_isUnder 6 (some .boolean), .fieldLink RX17 49 "HornbookModel$Tree" "head" "I", .code yX16_isSame cX16_isSame 3 (some .boolean), .fieldLink RX16 14 "HornbookModel$Tree" "head" "I", .methodLink RX17 76 yX16_isSame, .instanceMethod yX16_isSame, .selects RX16 yX16_isSame yX16_isSame, .initialized RX16, .code yX16_isSort cX16_isSort 1 (some .boolean), .methodLink RX17 68 yX16_isSort, .instanceMethod yX16_isSort, .selects RX16 yX16_isSort yX16_isSort, .methodLink RX17 91 yX17_isUnder, .instanceMethod yX17_isUnder, .selects RX17 yX17_isUnder yX17_isUnder, .initialized RX17] ++ u_ws RX16 TX16 2
def w_c_V_join_02 : List Cond := .code yX17_join cX17_join 7 (some (.object "HornbookModel$Tree")) :: wb_c_V_join_02
set_option maxRecDepth 100000 in
theorem g_c_V_join_02_0 : GoodIn w_c_V_join_02 (wsV RX17 91 RX17 yX17_isUnder w_c_V_isUnder_02) := goodIn_app (goodIn_of _ (by decide +kernel)) (goodIn_p (big := w_c_V_join_02) (.code yX17_isUnder cX17_isUnder 6 (some .boolean) :: wb_c_V_isUnder_02) [1, 3, 9] rfl (by decide +kernel))
set_option maxRecDepth 100000 in
theorem g_c_V_join_02_1 : GoodIn w_c_V_join_02 (wsV RX17 91 RX17 yX17_isUnder w_c_V_isUnder_20) := goodIn_app (goodIn_of _ (by decide +kernel)) (goodIn_p (big := w_c_V_join_02) (.code yX17_isUnder cX17_isUnder 6 (some .boolean) :: wb_c_V_isUnder_20) [1] rfl (by decide +kernel))
set_option maxHeartbeats 4000000 in
set_option maxRecDepth 100000 in
theorem c_V_join_02 (l : Launch) (eD eI : Nat) (ad : Nat → Nat) (dC : Nat → ClassId) (dI : Nat → Nat → Nat) (sz : Nat) (vw : Nat) (mm : Nat) (t0 : Nat) (t2 : Nat) (i0 : Nat) (i2 : Nat) (kT : ClassId) : Met l yX17_join w_c_V_join_02 ({ frames := 2, cells := 0, slots := 0, locals := 47 }) (va_Pc [.ref vw, .ref t0, .ref t2] (zPre eD eI ad (dC, dI) [(vw, .inr (19, [.int (-1), .int (-1), .int (-1), .int (-1), .ref mm])), (t0, .inr (18, [.int (-1), .ref i0])), (t2, .inr (18, [.int (-3), .ref i2])), (i0, .inl (kT, 0, .inr (.inr (.inr (.inr (fun _ => none)))))), (i2, .inl (kT, 0, .inr (.inr (.inr (.inr (fun _ => none))))))] [(kT, .object "HornbookModel$Tree")] sz)) (va_Qq (fun (r : Option Nat) (_ : Unit) => r = some t0) (fun (_ : Unit) => zEnd (dC, dI) (va_A [(vw, .inr (19, [.int (-1), .int (-1), .int (-1), .int (-1), .ref mm])), (t0, .inr (18, [.int (-1), .ref i0])), (t2, .inr (18, [.int (-3), .ref i2])), (i0, .inl (kT, 0, .inr (.inr (.inr (.inr (fun _ => none)))))), (i2, .inl (kT, 0, .inr (.inr (.inr (.inr (fun _ => none))))))] sz) [(vw, .inr (19, [.int (-1), .int (-1), .int (-1), .int (-1), .ref mm])), (t0, .inr (18, [.int (-1), .ref i0])), (t2, .inr (18, [.int (-3), .ref i2])), (i0, .inl (kT, 0, .inr (.inr (.inr (.inr (fun _ => none)))))), (i2, .inl (kT, 0, .inr (.inr (.inr (.inr (fun _ => none))))))] []) (va_A [(vw, .inr (19, [.int (-1), .int (-1), .int (-1), .int (-1), .ref mm])), (t0, .inr (18, [.int (-1), .ref i0])), (t2, .inr (18, [.int (-3), .ref i2])), (i0, .inl (kT, 0, .inr (.inr (.inr (.inr (fun _ => none)))))), (i2, .inl (kT, 0, .inr (.inr (.inr (.inr (fun _ => none))))))] sz)) 0 0 (va_A [(vw, .inr (19, [.int (-1), .int (-1), .int (-1), .int (-1), .ref mm])), (t0, .inr (18, [.int (-1), .ref i0])), (t2, .inr (18, [.int (-3), .ref i2])), (i0, .inl (kT, 0, .inr (.inr (.inr (.inr (fun _ => none)))))), (i2, .inl (kT, 0, .inr (.inr (.inr (.inr (fun _ => none))))))] sz) := by
  refine Met.ofW (cc := cX17_join) (maxL := 7) (ret := (some (.object "HornbookModel$Tree"))) (by decide) rfl ?_
  intro p e s m args below meth c s₁ B hml hv
  obtain ⟨rfl, hsz, hP, hK, hD0, hE⟩ := hv
  have hx := B.exec
  have hb := B.bytes
  have hr := B.returns
  have hts := atoms_spec (ws := w_c_V_join_02) B.pre
  have hown : s.vm.findClass RX17 = some m.cls := findClass_of_methodNamed B.named
  have hlocks := B.notSynchronized
  subst hsz
  have hD := hD0.self (sz := s.heap.size)
  generalize hAe : va_A [(vw, .inr (19, [.int (-1), .int (-1), .int (-1), .int (-1), .ref mm])), (t0, .inr (18, [.int (-1), .ref i0])), (t2, .inr (18, [.int (-3), .ref i2])), (i0, .inl (kT, 0, .inr (.inr (.inr (.inr (fun _ => none)))))), (i2, .inl (kT, 0, .inr (.inr (.inr (.inr (fun _ => none))))))] s.heap.size = A at hD hE ⊢
  have hA : ∀ q : Nat, s.heap.size ≤ q → A q := fun q h => by rw [← hAe]; exact Or.inr h
  have hS : va_S A s.heap s.heap [] := va_S.rf
  have hP : va_P (dC, dI) vwCl [(vw, .inr (19, [.int (-1), .int (-1), .int (-1), .int (-1), .ref mm])), (t0, .inr (18, [.int (-1), .ref i0])), (t2, .inr (18, [.int (-3), .ref i2])), (i0, .inl (kT, 0, .inr (.inr (.inr (.inr (fun _ => none)))))), (i2, .inl (kT, 0, .inr (.inr (.inr (.inr (fun _ => none))))))] s.heap := hP
  have hl := lv_entry ([.ref vw, .ref t0, .ref t2]) (n := 7) (Nat.le_of_ble_eq_true rfl)
  rw [lg_entry_eq]
  generalize (lg_sl ([.ref vw, .ref t0, .ref t2]) ++ List.replicate (7 - (lg_sl ([.ref vw, .ref t0, .ref t2])).length) Slot.unset).toArray = ls at hl ⊢
  have hl : lv_has ls 7 [(0, .ref vw), (1, .ref t0), (2, .ref t2)] := hl
  have in_RX16 : ∀ w ∈ u_ws RX16 TX16 2, w ∈ w_c_V_join_02 := by decide +kernel
  refine lv_aload_n hx hb dX17_join_0 rfl (lv_at hl 0 rfl) ?_
  refine lv_aload_n hx hb dX17_join_1 rfl (lv_at hl 1 rfl) ?_
  refine lv_aload_n hx hb dX17_join_2 rfl (lv_at hl 2 rfl) ?_
  refine z_i (wr := []) (va_runV (As := [.ref t0, .ref t2]) (rest := []) ⟨hx, hb, hml, hown, hts⟩ (c_V_isUnder_02 l eD eI ad dC dI s.heap.size vw mm t0 t2 i0 i2 kT) (cwV 2 hts g_c_V_join_02_0 rfl rfl rfl (by decide +kernel) ⟨Nat.le_of_ble_eq_true rfl, Nat.le_of_ble_eq_true rfl⟩) (z_preV (wc := [(vw, .inr (19, [.int (-1), .int (-1), .int (-1), .int (-1), .ref mm])), (t0, .inr (18, [.int (-1), .ref i0])), (t2, .inr (18, [.int (-3), .ref i2])), (i0, .inl (kT, 0, .inr (.inr (.inr (.inr (fun _ => none)))))), (i2, .inl (kT, 0, .inr (.inr (.inr (.inr (fun _ => none))))))]) hP hD hK hS hA hE [0, 1, 2, 3, 4] [0] rfl (by decide) rfl (ci := 19) (q0 := 0) rfl rfl) rfl rfl hl.1 rfl (lv_room (Nat.le_of_ble_eq_true rfl)) dX17_join_3 ⟨Nat.le_of_ble_eq_true rfl, Nat.le_of_ble_eq_true rfl⟩) hP hD hK hS hA [0, 1, 2, 3, 4] [] rfl rfl (by decide) (by decide) (fun r_1 u H locs hw_2 hP hD hK hS => ?_)
  obtain ⟨⟩ := u
  have hP : va_P (dC, dI) vwCl [(vw, .inr (19, [.int (-1), .int (-1), .int (-1), .int (-1), .ref mm])), (t0, .inr (18, [.int (-1), .ref i0])), (t2, .inr (18, [.int (-3), .ref i2])), (i0, .inl (kT, 0, .inr (.inr (.inr (.inr (fun _ => none)))))), (i2, .inl (kT, 0, .inr (.inr (.inr (.inr (fun _ => none))))))] H := hP
  have hD : va_D A [(vw, .inr (19, [.int (-1), .int (-1), .int (-1), .int (-1), .ref mm])), (t0, .inr (18, [.int (-1), .ref i0])), (t2, .inr (18, [.int (-3), .ref i2])), (i0, .inl (kT, 0, .inr (.inr (.inr (.inr (fun _ => none)))))), (i2, .inl (kT, 0, .inr (.inr (.inr (.inr (fun _ => none))))))] := hD
  have hK : va_K (dC, dI) vwCl [(kT, .object "HornbookModel$Tree")] s := by simpa using hK
  have hw_2 : r_1 = 0 := hw_2
  have hw_2 := hw_2.symm
  subst hw_2
  refine lv_if_eq (tgt := 11) hx hb dX17_join_6 (by decide) (fun c_3 => ?_) (fun c_3 => ?_)
  rotate_left
  · exact absurd (by decide) c_3
  refine lv_aload_n hx hb dX17_join_11 rfl (lv_at hl 0 rfl) ?_
  refine lv_aload_n hx hb dX17_join_12 rfl (lv_at hl 2 rfl) ?_
  refine lv_aload_n hx hb dX17_join_13 rfl (lv_at hl 1 rfl) ?_
  refine z_i (wr := []) (va_runV (As := [.ref t2, .ref t0]) (rest := []) ⟨hx, hb, hml, hown, hts⟩ (c_V_isUnder_20 l eD eI ad dC dI H.size vw mm t0 t2 i0 i2 kT) (cwV 2 hts g_c_V_join_02_1 rfl rfl rfl (by decide +kernel) ⟨Nat.le_of_ble_eq_true rfl, Nat.le_of_ble_eq_true rfl⟩) (z_preV (wc := [(vw, .inr (19, [.int (-1), .int (-1), .int (-1), .int (-1), .ref mm])), (t0, .inr (18, [.int (-1), .ref i0])), (t2, .inr (18, [.int (-3), .ref i2])), (i0, .inl (kT, 0, .inr (.inr (.inr (.inr (fun _ => none)))))), (i2, .inl (kT, 0, .inr (.inr (.inr (.inr (fun _ => none))))))]) hP hD hK hS hA hE [0, 1, 2, 3, 4] [0] rfl (by decide) rfl (ci := 19) (q0 := 0) rfl rfl) rfl rfl hl.1 rfl (lv_room (Nat.le_of_ble_eq_true rfl)) dX17_join_14 ⟨Nat.le_of_ble_eq_true rfl, Nat.le_of_ble_eq_true rfl⟩) hP hD hK hS hA [0, 1, 2, 3, 4] [] rfl rfl (by decide) (by decide) (fun r_4 u H locs hw_5 hP hD hK hS => ?_)
  obtain ⟨⟩ := u
  have hP : va_P (dC, dI) vwCl [(vw, .inr (19, [.int (-1), .int (-1), .int (-1), .int (-1), .ref mm])), (t0, .inr (18, [.int (-1), .ref i0])), (t2, .inr (18, [.int (-3), .ref i2])), (i0, .inl (kT, 0, .inr (.inr (.inr (.inr (fun _ => none)))))), (i2, .inl (kT, 0, .inr (.inr (.inr (.inr (fun _ => none))))))] H := hP
  have hD : va_D A [(vw, .inr (19, [.int (-1), .int (-1), .int (-1), .int (-1), .ref mm])), (t0, .inr (18, [.int (-1), .ref i0])), (t2, .inr (18, [.int (-3), .ref i2])), (i0, .inl (kT, 0, .inr (.inr (.inr (.inr (fun _ => none)))))), (i2, .inl (kT, 0, .inr (.inr (.inr (.inr (fun _ => none))))))] := hD
  have hK : va_K (dC, dI) vwCl [(kT, .object "HornbookModel$Tree")] s := by simpa using hK
  have hw_5 : r_4 = 1 := hw_5
  have hw_5 := hw_5.symm
  subst hw_5
  refine lv_if_eq (tgt := 22) hx hb dX17_join_17 (by decide) (fun c_6 => ?_) (fun c_6 => ?_)
  · exact absurd c_6 (by decide)
  refine lv_aload_n hx hb dX17_join_20 rfl (lv_at hl 1 rfl) ?_
  have hP9 := hP.sub (ws' := [(vw, .inr (19, [.int (-1), .int (-1), .int (-1), .int (-1), .ref mm])), (t0, .inr (18, [.int (-1), .ref i0])), (t2, .inr (18, [.int (-3), .ref i2])), (i0, .inl (kT, 0, .inr (.inr (.inr (.inr (fun _ => none)))))), (i2, .inl (kT, 0, .inr (.inr (.inr (.inr (fun _ => none))))))]) [0, 1, 2, 3, 4] rfl
  have hD9 := hD.sub (ws' := [(vw, .inr (19, [.int (-1), .int (-1), .int (-1), .int (-1), .ref mm])), (t0, .inr (18, [.int (-1), .ref i0])), (t2, .inr (18, [.int (-3), .ref i2])), (i0, .inl (kT, 0, .inr (.inr (.inr (.inr (fun _ => none)))))), (i2, .inl (kT, 0, .inr (.inr (.inr (.inr (fun _ => none))))))]) [0, 1, 2, 3, 4] (by decide) rfl
  have hK9 := hK.sub (tys' := []) [] rfl
  refine W.widen (k := 0) (n := 0) (Nat.le_of_ble_eq_true rfl) (Nat.le_of_ble_eq_true rfl) ?_
  exact W.aret (v := .ref t0) hx hb hr (Or.inl ⟨_, rfl⟩) (Or.inr ⟨_, rfl⟩) (fun t ht hW => ⟨⟨some t0, (), rfl, rfl, ⟨by rw [ht]; exact hP9, va_K.moved hW.alike hK9, hD9⟩⟩, hS.F ht⟩) hS.2.2 dX17_join_21

def wb_c_V_join_10 : List Cond := [.code yX17_isUnder cX17_isUnder 6 (some .boolean), .fieldLink RX17 49 "HornbookModel$Tree" "head" "I", .methodLink RX17 91 yX17_isUnder, .instanceMethod yX17_isUnder, .selects RX17 yX17_isUnder yX17_isUnder, .initialized RX17] ++ u_ws RX16 TX16 2
def w_c_V_join_10 : List Cond := .code yX17_join cX17_join 7 (some (.object "HornbookModel$Tree")) :: wb_c_V_join_10
set_option maxRecDepth 100000 in
theorem g_c_V_join_10_0 : GoodIn w_c_V_join_10 (wsV RX17 91 RX17 yX17_isUnder w_c_V_isUnder_10) := goodIn_app (goodIn_of _ (by decide +kernel)) (goodIn_p (big := w_c_V_join_10) (.code yX17_isUnder cX17_isUnder 6 (some .boolean) :: wb_c_V_isUnder_10) [1] rfl (by decide +kernel))
set_option maxHeartbeats 4000000 in
set_option maxRecDepth 100000 in
theorem c_V_join_10 (l : Launch) (eD eI : Nat) (ad : Nat → Nat) (dC : Nat → ClassId) (dI : Nat → Nat → Nat) (sz : Nat) (vw : Nat) (mm : Nat) (t0 : Nat) (t1 : Nat) (i0 : Nat) (i1 : Nat) (kT : ClassId) : Met l yX17_join w_c_V_join_10 ({ frames := 1, cells := 0, slots := 0, locals := 25 }) (va_Pc [.ref vw, .ref t1, .ref t0] (zPre eD eI ad (dC, dI) [(vw, .inr (19, [.int (-1), .int (-1), .int (-1), .int (-1), .ref mm])), (t0, .inr (18, [.int (-1), .ref i0])), (t1, .inr (18, [.int (-2), .ref i1])), (i0, .inl (kT, 0, .inr (.inr (.inr (.inr (fun _ => none)))))), (i1, .inl (kT, 0, .inr (.inr (.inr (.inr (fun _ => none))))))] [(kT, .object "HornbookModel$Tree")] sz)) (va_Qq (fun (r : Option Nat) (_ : Unit) => r = some t0) (fun (_ : Unit) => zEnd (dC, dI) (va_A [(vw, .inr (19, [.int (-1), .int (-1), .int (-1), .int (-1), .ref mm])), (t0, .inr (18, [.int (-1), .ref i0])), (t1, .inr (18, [.int (-2), .ref i1])), (i0, .inl (kT, 0, .inr (.inr (.inr (.inr (fun _ => none)))))), (i1, .inl (kT, 0, .inr (.inr (.inr (.inr (fun _ => none))))))] sz) [(vw, .inr (19, [.int (-1), .int (-1), .int (-1), .int (-1), .ref mm])), (t0, .inr (18, [.int (-1), .ref i0])), (t1, .inr (18, [.int (-2), .ref i1])), (i0, .inl (kT, 0, .inr (.inr (.inr (.inr (fun _ => none)))))), (i1, .inl (kT, 0, .inr (.inr (.inr (.inr (fun _ => none))))))] []) (va_A [(vw, .inr (19, [.int (-1), .int (-1), .int (-1), .int (-1), .ref mm])), (t0, .inr (18, [.int (-1), .ref i0])), (t1, .inr (18, [.int (-2), .ref i1])), (i0, .inl (kT, 0, .inr (.inr (.inr (.inr (fun _ => none)))))), (i1, .inl (kT, 0, .inr (.inr (.inr (.inr (fun _ => none))))))] sz)) 0 0 (va_A [(vw, .inr (19, [.int (-1), .int (-1), .int (-1), .int (-1), .ref mm])), (t0, .inr (18, [.int (-1), .ref i0])), (t1, .inr (18, [.int (-2), .ref i1])), (i0, .inl (kT, 0, .inr (.inr (.inr (.inr (fun _ => none)))))), (i1, .inl (kT, 0, .inr (.inr (.inr (.inr (fun _ => none))))))] sz) := by
  refine Met.ofW (cc := cX17_join) (maxL := 7) (ret := (some (.object "HornbookModel$Tree"))) (by decide) rfl ?_
  intro p e s m args below meth c s₁ B hml hv
  obtain ⟨rfl, hsz, hP, hK, hD0, hE⟩ := hv
  have hx := B.exec
  have hb := B.bytes
  have hr := B.returns
  have hts := atoms_spec (ws := w_c_V_join_10) B.pre
  have hown : s.vm.findClass RX17 = some m.cls := findClass_of_methodNamed B.named
  have hlocks := B.notSynchronized
  subst hsz
  have hD := hD0.self (sz := s.heap.size)
  generalize hAe : va_A [(vw, .inr (19, [.int (-1), .int (-1), .int (-1), .int (-1), .ref mm])), (t0, .inr (18, [.int (-1), .ref i0])), (t1, .inr (18, [.int (-2), .ref i1])), (i0, .inl (kT, 0, .inr (.inr (.inr (.inr (fun _ => none)))))), (i1, .inl (kT, 0, .inr (.inr (.inr (.inr (fun _ => none))))))] s.heap.size = A at hD hE ⊢
  have hA : ∀ q : Nat, s.heap.size ≤ q → A q := fun q h => by rw [← hAe]; exact Or.inr h
  have hS : va_S A s.heap s.heap [] := va_S.rf
  have hP : va_P (dC, dI) vwCl [(vw, .inr (19, [.int (-1), .int (-1), .int (-1), .int (-1), .ref mm])), (t0, .inr (18, [.int (-1), .ref i0])), (t1, .inr (18, [.int (-2), .ref i1])), (i0, .inl (kT, 0, .inr (.inr (.inr (.inr (fun _ => none)))))), (i1, .inl (kT, 0, .inr (.inr (.inr (.inr (fun _ => none))))))] s.heap := hP
  have hl := lv_entry ([.ref vw, .ref t1, .ref t0]) (n := 7) (Nat.le_of_ble_eq_true rfl)
  rw [lg_entry_eq]
  generalize (lg_sl ([.ref vw, .ref t1, .ref t0]) ++ List.replicate (7 - (lg_sl ([.ref vw, .ref t1, .ref t0])).length) Slot.unset).toArray = ls at hl ⊢
  have hl : lv_has ls 7 [(0, .ref vw), (1, .ref t1), (2, .ref t0)] := hl
  have in_RX16 : ∀ w ∈ u_ws RX16 TX16 2, w ∈ w_c_V_join_10 := by decide +kernel
  refine lv_aload_n hx hb dX17_join_0 rfl (lv_at hl 0 rfl) ?_
  refine lv_aload_n hx hb dX17_join_1 rfl (lv_at hl 1 rfl) ?_
  refine lv_aload_n hx hb dX17_join_2 rfl (lv_at hl 2 rfl) ?_
  refine z_i (wr := []) (va_runV (As := [.ref t1, .ref t0]) (rest := []) ⟨hx, hb, hml, hown, hts⟩ (c_V_isUnder_10 l eD eI ad dC dI s.heap.size vw mm t0 t1 i0 i1 kT) (cwV 2 hts g_c_V_join_10_0 rfl rfl rfl (by decide +kernel) ⟨Nat.le_of_ble_eq_true rfl, Nat.le_of_ble_eq_true rfl⟩) (z_preV (wc := [(vw, .inr (19, [.int (-1), .int (-1), .int (-1), .int (-1), .ref mm])), (t0, .inr (18, [.int (-1), .ref i0])), (t1, .inr (18, [.int (-2), .ref i1])), (i0, .inl (kT, 0, .inr (.inr (.inr (.inr (fun _ => none)))))), (i1, .inl (kT, 0, .inr (.inr (.inr (.inr (fun _ => none))))))]) hP hD hK hS hA hE [0, 1, 2, 3, 4] [0] rfl (by decide) rfl (ci := 19) (q0 := 0) rfl rfl) rfl rfl hl.1 rfl (lv_room (Nat.le_of_ble_eq_true rfl)) dX17_join_3 ⟨Nat.le_of_ble_eq_true rfl, Nat.le_of_ble_eq_true rfl⟩) hP hD hK hS hA [0, 1, 2, 3, 4] [] rfl rfl (by decide) (by decide) (fun r_1 u H locs hw_2 hP hD hK hS => ?_)
  obtain ⟨⟩ := u
  have hP : va_P (dC, dI) vwCl [(vw, .inr (19, [.int (-1), .int (-1), .int (-1), .int (-1), .ref mm])), (t0, .inr (18, [.int (-1), .ref i0])), (t1, .inr (18, [.int (-2), .ref i1])), (i0, .inl (kT, 0, .inr (.inr (.inr (.inr (fun _ => none)))))), (i1, .inl (kT, 0, .inr (.inr (.inr (.inr (fun _ => none))))))] H := hP
  have hD : va_D A [(vw, .inr (19, [.int (-1), .int (-1), .int (-1), .int (-1), .ref mm])), (t0, .inr (18, [.int (-1), .ref i0])), (t1, .inr (18, [.int (-2), .ref i1])), (i0, .inl (kT, 0, .inr (.inr (.inr (.inr (fun _ => none)))))), (i1, .inl (kT, 0, .inr (.inr (.inr (.inr (fun _ => none))))))] := hD
  have hK : va_K (dC, dI) vwCl [(kT, .object "HornbookModel$Tree")] s := by simpa using hK
  have hw_2 : r_1 = 1 := hw_2
  have hw_2 := hw_2.symm
  subst hw_2
  refine lv_if_eq (tgt := 11) hx hb dX17_join_6 (by decide) (fun c_3 => ?_) (fun c_3 => ?_)
  · exact absurd c_3 (by decide)
  refine lv_aload_n hx hb dX17_join_9 rfl (lv_at hl 2 rfl) ?_
  have hP9 := hP.sub (ws' := [(vw, .inr (19, [.int (-1), .int (-1), .int (-1), .int (-1), .ref mm])), (t0, .inr (18, [.int (-1), .ref i0])), (t1, .inr (18, [.int (-2), .ref i1])), (i0, .inl (kT, 0, .inr (.inr (.inr (.inr (fun _ => none)))))), (i1, .inl (kT, 0, .inr (.inr (.inr (.inr (fun _ => none))))))]) [0, 1, 2, 3, 4] rfl
  have hD9 := hD.sub (ws' := [(vw, .inr (19, [.int (-1), .int (-1), .int (-1), .int (-1), .ref mm])), (t0, .inr (18, [.int (-1), .ref i0])), (t1, .inr (18, [.int (-2), .ref i1])), (i0, .inl (kT, 0, .inr (.inr (.inr (.inr (fun _ => none)))))), (i1, .inl (kT, 0, .inr (.inr (.inr (.inr (fun _ => none))))))]) [0, 1, 2, 3, 4] (by decide) rfl
  have hK9 := hK.sub (tys' := []) [] rfl
  refine W.widen (k := 0) (n := 0) (Nat.le_of_ble_eq_true rfl) (Nat.le_of_ble_eq_true rfl) ?_
  exact W.aret (v := .ref t0) hx hb hr (Or.inl ⟨_, rfl⟩) (Or.inr ⟨_, rfl⟩) (fun t ht hW => ⟨⟨some t0, (), rfl, rfl, ⟨by rw [ht]; exact hP9, va_K.moved hW.alike hK9, hD9⟩⟩, hS.F ht⟩) hS.2.2 dX17_join_10

def wb_c_V_join_11 : List Cond := [.code yX17_isUnder cX17_isUnder 6 (some .boolean), .fieldLink RX17 49 "HornbookModel$Tree" "head" "I", .methodLink RX17 91 yX17_isUnder, .instanceMethod yX17_isUnder, .selects RX17 yX17_isUnder yX17_isUnder, .initialized RX17] ++ u_ws RX16 TX16 2
def w_c_V_join_11 : List Cond := .code yX17_join cX17_join 7 (some (.object "HornbookModel$Tree")) :: wb_c_V_join_11
set_option maxRecDepth 100000 in
theorem g_c_V_join_11_0 : GoodIn w_c_V_join_11 (wsV RX17 91 RX17 yX17_isUnder w_c_V_isUnder_11) := goodIn_app (goodIn_of _ (by decide +kernel)) (goodIn_p (big := w_c_V_join_11) (.code yX17_isUnder cX17_isUnder 6 (some .boolean) :: wb_c_V_isUnder_11) [1] rfl (by decide +kernel))
set_option maxHeartbeats 4000000 in
set_option maxRecDepth 100000 in
theorem c_V_join_11 (l : Launch) (eD eI : Nat) (ad : Nat → Nat) (dC : Nat → ClassId) (dI : Nat → Nat → Nat) (sz : Nat) (vw : Nat) (mm : Nat) (t1 : Nat) (i1 : Nat) (kT : ClassId) : Met l yX17_join w_c_V_join_11 ({ frames := 1, cells := 0, slots := 0, locals := 25 }) (va_Pc [.ref vw, .ref t1, .ref t1] (zPre eD eI ad (dC, dI) [(vw, .inr (19, [.int (-1), .int (-1), .int (-1), .int (-1), .ref mm])), (t1, .inr (18, [.int (-2), .ref i1])), (i1, .inl (kT, 0, .inr (.inr (.inr (.inr (fun _ => none))))))] [(kT, .object "HornbookModel$Tree")] sz)) (va_Qq (fun (r : Option Nat) (_ : Unit) => r = some t1) (fun (_ : Unit) => zEnd (dC, dI) (va_A [(vw, .inr (19, [.int (-1), .int (-1), .int (-1), .int (-1), .ref mm])), (t1, .inr (18, [.int (-2), .ref i1])), (i1, .inl (kT, 0, .inr (.inr (.inr (.inr (fun _ => none))))))] sz) [(vw, .inr (19, [.int (-1), .int (-1), .int (-1), .int (-1), .ref mm])), (t1, .inr (18, [.int (-2), .ref i1])), (i1, .inl (kT, 0, .inr (.inr (.inr (.inr (fun _ => none))))))] []) (va_A [(vw, .inr (19, [.int (-1), .int (-1), .int (-1), .int (-1), .ref mm])), (t1, .inr (18, [.int (-2), .ref i1])), (i1, .inl (kT, 0, .inr (.inr (.inr (.inr (fun _ => none))))))] sz)) 0 0 (va_A [(vw, .inr (19, [.int (-1), .int (-1), .int (-1), .int (-1), .ref mm])), (t1, .inr (18, [.int (-2), .ref i1])), (i1, .inl (kT, 0, .inr (.inr (.inr (.inr (fun _ => none))))))] sz) := by
  refine Met.ofW (cc := cX17_join) (maxL := 7) (ret := (some (.object "HornbookModel$Tree"))) (by decide) rfl ?_
  intro p e s m args below meth c s₁ B hml hv
  obtain ⟨rfl, hsz, hP, hK, hD0, hE⟩ := hv
  have hx := B.exec
  have hb := B.bytes
  have hr := B.returns
  have hts := atoms_spec (ws := w_c_V_join_11) B.pre
  have hown : s.vm.findClass RX17 = some m.cls := findClass_of_methodNamed B.named
  have hlocks := B.notSynchronized
  subst hsz
  have hD := hD0.self (sz := s.heap.size)
  generalize hAe : va_A [(vw, .inr (19, [.int (-1), .int (-1), .int (-1), .int (-1), .ref mm])), (t1, .inr (18, [.int (-2), .ref i1])), (i1, .inl (kT, 0, .inr (.inr (.inr (.inr (fun _ => none))))))] s.heap.size = A at hD hE ⊢
  have hA : ∀ q : Nat, s.heap.size ≤ q → A q := fun q h => by rw [← hAe]; exact Or.inr h
  have hS : va_S A s.heap s.heap [] := va_S.rf
  have hP : va_P (dC, dI) vwCl [(vw, .inr (19, [.int (-1), .int (-1), .int (-1), .int (-1), .ref mm])), (t1, .inr (18, [.int (-2), .ref i1])), (i1, .inl (kT, 0, .inr (.inr (.inr (.inr (fun _ => none))))))] s.heap := hP
  have hl := lv_entry ([.ref vw, .ref t1, .ref t1]) (n := 7) (Nat.le_of_ble_eq_true rfl)
  rw [lg_entry_eq]
  generalize (lg_sl ([.ref vw, .ref t1, .ref t1]) ++ List.replicate (7 - (lg_sl ([.ref vw, .ref t1, .ref t1])).length) Slot.unset).toArray = ls at hl ⊢
  have hl : lv_has ls 7 [(0, .ref vw), (1, .ref t1), (2, .ref t1)] := hl
  have in_RX16 : ∀ w ∈ u_ws RX16 TX16 2, w ∈ w_c_V_join_11 := by decide +kernel
  refine lv_aload_n hx hb dX17_join_0 rfl (lv_at hl 0 rfl) ?_
  refine lv_aload_n hx hb dX17_join_1 rfl (lv_at hl 1 rfl) ?_
  refine lv_aload_n hx hb dX17_join_2 rfl (lv_at hl 2 rfl) ?_
  refine z_i (wr := []) (va_runV (As := [.ref t1, .ref t1]) (rest := []) ⟨hx, hb, hml, hown, hts⟩ (c_V_isUnder_11 l eD eI ad dC dI s.heap.size vw mm t1 i1 kT) (cwV 2 hts g_c_V_join_11_0 rfl rfl rfl (by decide +kernel) ⟨Nat.le_of_ble_eq_true rfl, Nat.le_of_ble_eq_true rfl⟩) (z_preV (wc := [(vw, .inr (19, [.int (-1), .int (-1), .int (-1), .int (-1), .ref mm])), (t1, .inr (18, [.int (-2), .ref i1])), (i1, .inl (kT, 0, .inr (.inr (.inr (.inr (fun _ => none))))))]) hP hD hK hS hA hE [0, 1, 2] [0] rfl (by decide) rfl (ci := 19) (q0 := 0) rfl rfl) rfl rfl hl.1 rfl (lv_room (Nat.le_of_ble_eq_true rfl)) dX17_join_3 ⟨Nat.le_of_ble_eq_true rfl, Nat.le_of_ble_eq_true rfl⟩) hP hD hK hS hA [0, 1, 2] [] rfl rfl (by decide) (by decide) (fun r_1 u H locs hw_2 hP hD hK hS => ?_)
  obtain ⟨⟩ := u
  have hP : va_P (dC, dI) vwCl [(vw, .inr (19, [.int (-1), .int (-1), .int (-1), .int (-1), .ref mm])), (t1, .inr (18, [.int (-2), .ref i1])), (i1, .inl (kT, 0, .inr (.inr (.inr (.inr (fun _ => none))))))] H := hP
  have hD : va_D A [(vw, .inr (19, [.int (-1), .int (-1), .int (-1), .int (-1), .ref mm])), (t1, .inr (18, [.int (-2), .ref i1])), (i1, .inl (kT, 0, .inr (.inr (.inr (.inr (fun _ => none))))))] := hD
  have hK : va_K (dC, dI) vwCl [(kT, .object "HornbookModel$Tree")] s := by simpa using hK
  have hw_2 : r_1 = 1 := hw_2
  have hw_2 := hw_2.symm
  subst hw_2
  refine lv_if_eq (tgt := 11) hx hb dX17_join_6 (by decide) (fun c_3 => ?_) (fun c_3 => ?_)
  · exact absurd c_3 (by decide)
  refine lv_aload_n hx hb dX17_join_9 rfl (lv_at hl 2 rfl) ?_
  have hP9 := hP.sub (ws' := [(vw, .inr (19, [.int (-1), .int (-1), .int (-1), .int (-1), .ref mm])), (t1, .inr (18, [.int (-2), .ref i1])), (i1, .inl (kT, 0, .inr (.inr (.inr (.inr (fun _ => none))))))]) [0, 1, 2] rfl
  have hD9 := hD.sub (ws' := [(vw, .inr (19, [.int (-1), .int (-1), .int (-1), .int (-1), .ref mm])), (t1, .inr (18, [.int (-2), .ref i1])), (i1, .inl (kT, 0, .inr (.inr (.inr (.inr (fun _ => none))))))]) [0, 1, 2] (by decide) rfl
  have hK9 := hK.sub (tys' := []) [] rfl
  refine W.widen (k := 0) (n := 0) (Nat.le_of_ble_eq_true rfl) (Nat.le_of_ble_eq_true rfl) ?_
  exact W.aret (v := .ref t1) hx hb hr (Or.inl ⟨_, rfl⟩) (Or.inr ⟨_, rfl⟩) (fun t ht hW => ⟨⟨some t1, (), rfl, rfl, ⟨by rw [ht]; exact hP9, va_K.moved hW.alike hK9, hD9⟩⟩, hS.F ht⟩) hS.2.2 dX17_join_10

def wb_c_V_join_12 : List Cond := [.code yX17_isUnder cX17_isUnder 6 (some .boolean), .fieldLink RX17 49 "HornbookModel$Tree" "head" "I", .methodLink RX17 91 yX17_isUnder, .instanceMethod yX17_isUnder, .selects RX17 yX17_isUnder yX17_isUnder, .initialized RX17] ++ u_ws RX16 TX16 2
def w_c_V_join_12 : List Cond := .code yX17_join cX17_join 7 (some (.object "HornbookModel$Tree")) :: wb_c_V_join_12
set_option maxRecDepth 100000 in
theorem g_c_V_join_12_0 : GoodIn w_c_V_join_12 (wsV RX17 91 RX17 yX17_isUnder w_c_V_isUnder_12) := goodIn_app (goodIn_of _ (by decide +kernel)) (goodIn_p (big := w_c_V_join_12) (.code yX17_isUnder cX17_isUnder 6 (some .boolean) :: wb_c_V_isUnder_12) [1] rfl (by decide +kernel))
set_option maxHeartbeats 4000000 in
set_option maxRecDepth 100000 in
theorem c_V_join_12 (l : Launch) (eD eI : Nat) (ad : Nat → Nat) (dC : Nat → ClassId) (dI : Nat → Nat → Nat) (sz : Nat) (vw : Nat) (mm : Nat) (t1 : Nat) (t2 : Nat) (i1 : Nat) (i2 : Nat) (kT : ClassId) : Met l yX17_join w_c_V_join_12 ({ frames := 1, cells := 0, slots := 0, locals := 25 }) (va_Pc [.ref vw, .ref t1, .ref t2] (zPre eD eI ad (dC, dI) [(vw, .inr (19, [.int (-1), .int (-1), .int (-1), .int (-1), .ref mm])), (t1, .inr (18, [.int (-2), .ref i1])), (t2, .inr (18, [.int (-3), .ref i2])), (i1, .inl (kT, 0, .inr (.inr (.inr (.inr (fun _ => none)))))), (i2, .inl (kT, 0, .inr (.inr (.inr (.inr (fun _ => none))))))] [(kT, .object "HornbookModel$Tree")] sz)) (va_Qq (fun (r : Option Nat) (_ : Unit) => r = some t2) (fun (_ : Unit) => zEnd (dC, dI) (va_A [(vw, .inr (19, [.int (-1), .int (-1), .int (-1), .int (-1), .ref mm])), (t1, .inr (18, [.int (-2), .ref i1])), (t2, .inr (18, [.int (-3), .ref i2])), (i1, .inl (kT, 0, .inr (.inr (.inr (.inr (fun _ => none)))))), (i2, .inl (kT, 0, .inr (.inr (.inr (.inr (fun _ => none))))))] sz) [(vw, .inr (19, [.int (-1), .int (-1), .int (-1), .int (-1), .ref mm])), (t1, .inr (18, [.int (-2), .ref i1])), (t2, .inr (18, [.int (-3), .ref i2])), (i1, .inl (kT, 0, .inr (.inr (.inr (.inr (fun _ => none)))))), (i2, .inl (kT, 0, .inr (.inr (.inr (.inr (fun _ => none))))))] []) (va_A [(vw, .inr (19, [.int (-1), .int (-1), .int (-1), .int (-1), .ref mm])), (t1, .inr (18, [.int (-2), .ref i1])), (t2, .inr (18, [.int (-3), .ref i2])), (i1, .inl (kT, 0, .inr (.inr (.inr (.inr (fun _ => none)))))), (i2, .inl (kT, 0, .inr (.inr (.inr (.inr (fun _ => none))))))] sz)) 0 0 (va_A [(vw, .inr (19, [.int (-1), .int (-1), .int (-1), .int (-1), .ref mm])), (t1, .inr (18, [.int (-2), .ref i1])), (t2, .inr (18, [.int (-3), .ref i2])), (i1, .inl (kT, 0, .inr (.inr (.inr (.inr (fun _ => none)))))), (i2, .inl (kT, 0, .inr (.inr (.inr (.inr (fun _ => none))))))] sz) := by
  refine Met.ofW (cc := cX17_join) (maxL := 7) (ret := (some (.object "HornbookModel$Tree"))) (by decide) rfl ?_
  intro p e s m args below meth c s₁ B hml hv
  obtain ⟨rfl, hsz, hP, hK, hD0, hE⟩ := hv
  have hx := B.exec
  have hb := B.bytes
  have hr := B.returns
  have hts := atoms_spec (ws := w_c_V_join_12) B.pre
  have hown : s.vm.findClass RX17 = some m.cls := findClass_of_methodNamed B.named
  have hlocks := B.notSynchronized
  subst hsz
  have hD := hD0.self (sz := s.heap.size)
  generalize hAe : va_A [(vw, .inr (19, [.int (-1), .int (-1), .int (-1), .int (-1), .ref mm])), (t1, .inr (18, [.int (-2), .ref i1])), (t2, .inr (18, [.int (-3), .ref i2])), (i1, .inl (kT, 0, .inr (.inr (.inr (.inr (fun _ => none)))))), (i2, .inl (kT, 0, .inr (.inr (.inr (.inr (fun _ => none))))))] s.heap.size = A at hD hE ⊢
  have hA : ∀ q : Nat, s.heap.size ≤ q → A q := fun q h => by rw [← hAe]; exact Or.inr h
  have hS : va_S A s.heap s.heap [] := va_S.rf
  have hP : va_P (dC, dI) vwCl [(vw, .inr (19, [.int (-1), .int (-1), .int (-1), .int (-1), .ref mm])), (t1, .inr (18, [.int (-2), .ref i1])), (t2, .inr (18, [.int (-3), .ref i2])), (i1, .inl (kT, 0, .inr (.inr (.inr (.inr (fun _ => none)))))), (i2, .inl (kT, 0, .inr (.inr (.inr (.inr (fun _ => none))))))] s.heap := hP
  have hl := lv_entry ([.ref vw, .ref t1, .ref t2]) (n := 7) (Nat.le_of_ble_eq_true rfl)
  rw [lg_entry_eq]
  generalize (lg_sl ([.ref vw, .ref t1, .ref t2]) ++ List.replicate (7 - (lg_sl ([.ref vw, .ref t1, .ref t2])).length) Slot.unset).toArray = ls at hl ⊢
  have hl : lv_has ls 7 [(0, .ref vw), (1, .ref t1), (2, .ref t2)] := hl
  have in_RX16 : ∀ w ∈ u_ws RX16 TX16 2, w ∈ w_c_V_join_12 := by decide +kernel
  refine lv_aload_n hx hb dX17_join_0 rfl (lv_at hl 0 rfl) ?_
  refine lv_aload_n hx hb dX17_join_1 rfl (lv_at hl 1 rfl) ?_
  refine lv_aload_n hx hb dX17_join_2 rfl (lv_at hl 2 rfl) ?_
  refine z_i (wr := []) (va_runV (As := [.ref t1, .ref t2]) (rest := []) ⟨hx, hb, hml, hown, hts⟩ (c_V_isUnder_12 l eD eI ad dC dI s.heap.size vw mm t1 t2 i1 i2 kT) (cwV 2 hts g_c_V_join_12_0 rfl rfl rfl (by decide +kernel) ⟨Nat.le_of_ble_eq_true rfl, Nat.le_of_ble_eq_true rfl⟩) (z_preV (wc := [(vw, .inr (19, [.int (-1), .int (-1), .int (-1), .int (-1), .ref mm])), (t1, .inr (18, [.int (-2), .ref i1])), (t2, .inr (18, [.int (-3), .ref i2])), (i1, .inl (kT, 0, .inr (.inr (.inr (.inr (fun _ => none)))))), (i2, .inl (kT, 0, .inr (.inr (.inr (.inr (fun _ => none))))))]) hP hD hK hS hA hE [0, 1, 2, 3, 4] [0] rfl (by decide) rfl (ci := 19) (q0 := 0) rfl rfl) rfl rfl hl.1 rfl (lv_room (Nat.le_of_ble_eq_true rfl)) dX17_join_3 ⟨Nat.le_of_ble_eq_true rfl, Nat.le_of_ble_eq_true rfl⟩) hP hD hK hS hA [0, 1, 2, 3, 4] [] rfl rfl (by decide) (by decide) (fun r_1 u H locs hw_2 hP hD hK hS => ?_)
  obtain ⟨⟩ := u
  have hP : va_P (dC, dI) vwCl [(vw, .inr (19, [.int (-1), .int (-1), .int (-1), .int (-1), .ref mm])), (t1, .inr (18, [.int (-2), .ref i1])), (t2, .inr (18, [.int (-3), .ref i2])), (i1, .inl (kT, 0, .inr (.inr (.inr (.inr (fun _ => none)))))), (i2, .inl (kT, 0, .inr (.inr (.inr (.inr (fun _ => none))))))] H := hP
  have hD : va_D A [(vw, .inr (19, [.int (-1), .int (-1), .int (-1), .int (-1), .ref mm])), (t1, .inr (18, [.int (-2), .ref i1])), (t2, .inr (18, [.int (-3), .ref i2])), (i1, .inl (kT, 0, .inr (.inr (.inr (.inr (fun _ => none)))))), (i2, .inl (kT, 0, .inr (.inr (.inr (.inr (fun _ => none))))))] := hD
  have hK : va_K (dC, dI) vwCl [(kT, .object "HornbookModel$Tree")] s := by simpa using hK
  have hw_2 : r_1 = 1 := hw_2
  have hw_2 := hw_2.symm
  subst hw_2
  refine lv_if_eq (tgt := 11) hx hb dX17_join_6 (by decide) (fun c_3 => ?_) (fun c_3 => ?_)
  · exact absurd c_3 (by decide)
  refine lv_aload_n hx hb dX17_join_9 rfl (lv_at hl 2 rfl) ?_
  have hP9 := hP.sub (ws' := [(vw, .inr (19, [.int (-1), .int (-1), .int (-1), .int (-1), .ref mm])), (t1, .inr (18, [.int (-2), .ref i1])), (t2, .inr (18, [.int (-3), .ref i2])), (i1, .inl (kT, 0, .inr (.inr (.inr (.inr (fun _ => none)))))), (i2, .inl (kT, 0, .inr (.inr (.inr (.inr (fun _ => none))))))]) [0, 1, 2, 3, 4] rfl
  have hD9 := hD.sub (ws' := [(vw, .inr (19, [.int (-1), .int (-1), .int (-1), .int (-1), .ref mm])), (t1, .inr (18, [.int (-2), .ref i1])), (t2, .inr (18, [.int (-3), .ref i2])), (i1, .inl (kT, 0, .inr (.inr (.inr (.inr (fun _ => none)))))), (i2, .inl (kT, 0, .inr (.inr (.inr (.inr (fun _ => none))))))]) [0, 1, 2, 3, 4] (by decide) rfl
  have hK9 := hK.sub (tys' := []) [] rfl
  refine W.widen (k := 0) (n := 0) (Nat.le_of_ble_eq_true rfl) (Nat.le_of_ble_eq_true rfl) ?_
  exact W.aret (v := .ref t2) hx hb hr (Or.inl ⟨_, rfl⟩) (Or.inr ⟨_, rfl⟩) (fun t ht hW => ⟨⟨some t2, (), rfl, rfl, ⟨by rw [ht]; exact hP9, va_K.moved hW.alike hK9, hD9⟩⟩, hS.F ht⟩) hS.2.2 dX17_join_10

def wb_c_V_join_20 : List Cond := [.code yX17_isUnder cX17_isUnder 6 (some .boolean), .fieldLink RX17 49 "HornbookModel$Tree" "head" "I", .methodLink RX17 91 yX17_isUnder, .instanceMethod yX17_isUnder, .selects RX17 yX17_isUnder yX17_isUnder, .initialized RX17] ++ u_ws RX16 TX16 2
def w_c_V_join_20 : List Cond := .code yX17_join cX17_join 7 (some (.object "HornbookModel$Tree")) :: wb_c_V_join_20
set_option maxRecDepth 100000 in
theorem g_c_V_join_20_0 : GoodIn w_c_V_join_20 (wsV RX17 91 RX17 yX17_isUnder w_c_V_isUnder_20) := goodIn_app (goodIn_of _ (by decide +kernel)) (goodIn_p (big := w_c_V_join_20) (.code yX17_isUnder cX17_isUnder 6 (some .boolean) :: wb_c_V_isUnder_20) [1] rfl (by decide +kernel))
set_option maxHeartbeats 4000000 in
set_option maxRecDepth 100000 in
theorem c_V_join_20 (l : Launch) (eD eI : Nat) (ad : Nat → Nat) (dC : Nat → ClassId) (dI : Nat → Nat → Nat) (sz : Nat) (vw : Nat) (mm : Nat) (t0 : Nat) (t2 : Nat) (i0 : Nat) (i2 : Nat) (kT : ClassId) : Met l yX17_join w_c_V_join_20 ({ frames := 1, cells := 0, slots := 0, locals := 25 }) (va_Pc [.ref vw, .ref t2, .ref t0] (zPre eD eI ad (dC, dI) [(vw, .inr (19, [.int (-1), .int (-1), .int (-1), .int (-1), .ref mm])), (t0, .inr (18, [.int (-1), .ref i0])), (t2, .inr (18, [.int (-3), .ref i2])), (i0, .inl (kT, 0, .inr (.inr (.inr (.inr (fun _ => none)))))), (i2, .inl (kT, 0, .inr (.inr (.inr (.inr (fun _ => none))))))] [(kT, .object "HornbookModel$Tree")] sz)) (va_Qq (fun (r : Option Nat) (_ : Unit) => r = some t0) (fun (_ : Unit) => zEnd (dC, dI) (va_A [(vw, .inr (19, [.int (-1), .int (-1), .int (-1), .int (-1), .ref mm])), (t0, .inr (18, [.int (-1), .ref i0])), (t2, .inr (18, [.int (-3), .ref i2])), (i0, .inl (kT, 0, .inr (.inr (.inr (.inr (fun _ => none)))))), (i2, .inl (kT, 0, .inr (.inr (.inr (.inr (fun _ => none))))))] sz) [(vw, .inr (19, [.int (-1), .int (-1), .int (-1), .int (-1), .ref mm])), (t0, .inr (18, [.int (-1), .ref i0])), (t2, .inr (18, [.int (-3), .ref i2])), (i0, .inl (kT, 0, .inr (.inr (.inr (.inr (fun _ => none)))))), (i2, .inl (kT, 0, .inr (.inr (.inr (.inr (fun _ => none))))))] []) (va_A [(vw, .inr (19, [.int (-1), .int (-1), .int (-1), .int (-1), .ref mm])), (t0, .inr (18, [.int (-1), .ref i0])), (t2, .inr (18, [.int (-3), .ref i2])), (i0, .inl (kT, 0, .inr (.inr (.inr (.inr (fun _ => none)))))), (i2, .inl (kT, 0, .inr (.inr (.inr (.inr (fun _ => none))))))] sz)) 0 0 (va_A [(vw, .inr (19, [.int (-1), .int (-1), .int (-1), .int (-1), .ref mm])), (t0, .inr (18, [.int (-1), .ref i0])), (t2, .inr (18, [.int (-3), .ref i2])), (i0, .inl (kT, 0, .inr (.inr (.inr (.inr (fun _ => none)))))), (i2, .inl (kT, 0, .inr (.inr (.inr (.inr (fun _ => none))))))] sz) := by
  refine Met.ofW (cc := cX17_join) (maxL := 7) (ret := (some (.object "HornbookModel$Tree"))) (by decide) rfl ?_
  intro p e s m args below meth c s₁ B hml hv
  obtain ⟨rfl, hsz, hP, hK, hD0, hE⟩ := hv
  have hx := B.exec
  have hb := B.bytes
  have hr := B.returns
  have hts := atoms_spec (ws := w_c_V_join_20) B.pre
  have hown : s.vm.findClass RX17 = some m.cls := findClass_of_methodNamed B.named
  have hlocks := B.notSynchronized
  subst hsz
  have hD := hD0.self (sz := s.heap.size)
  generalize hAe : va_A [(vw, .inr (19, [.int (-1), .int (-1), .int (-1), .int (-1), .ref mm])), (t0, .inr (18, [.int (-1), .ref i0])), (t2, .inr (18, [.int (-3), .ref i2])), (i0, .inl (kT, 0, .inr (.inr (.inr (.inr (fun _ => none)))))), (i2, .inl (kT, 0, .inr (.inr (.inr (.inr (fun _ => none))))))] s.heap.size = A at hD hE ⊢
  have hA : ∀ q : Nat, s.heap.size ≤ q → A q := fun q h => by rw [← hAe]; exact Or.inr h
  have hS : va_S A s.heap s.heap [] := va_S.rf
  have hP : va_P (dC, dI) vwCl [(vw, .inr (19, [.int (-1), .int (-1), .int (-1), .int (-1), .ref mm])), (t0, .inr (18, [.int (-1), .ref i0])), (t2, .inr (18, [.int (-3), .ref i2])), (i0, .inl (kT, 0, .inr (.inr (.inr (.inr (fun _ => none)))))), (i2, .inl (kT, 0, .inr (.inr (.inr (.inr (fun _ => none))))))] s.heap := hP
  have hl := lv_entry ([.ref vw, .ref t2, .ref t0]) (n := 7) (Nat.le_of_ble_eq_true rfl)
  rw [lg_entry_eq]
  generalize (lg_sl ([.ref vw, .ref t2, .ref t0]) ++ List.replicate (7 - (lg_sl ([.ref vw, .ref t2, .ref t0])).length) Slot.unset).toArray = ls at hl ⊢
  have hl : lv_has ls 7 [(0, .ref vw), (1, .ref t2), (2, .ref t0)] := hl
  have in_RX16 : ∀ w ∈ u_ws RX16 TX16 2, w ∈ w_c_V_join_20 := by decide +kernel
  refine lv_aload_n hx hb dX17_join_0 rfl (lv_at hl 0 rfl) ?_
  refine lv_aload_n hx hb dX17_join_1 rfl (lv_at hl 1 rfl) ?_
  refine lv_aload_n hx hb dX17_join_2 rfl (lv_at hl 2 rfl) ?_
  refine z_i (wr := []) (va_runV (As := [.ref t2, .ref t0]) (rest := []) ⟨hx, hb, hml, hown, hts⟩ (c_V_isUnder_20 l eD eI ad dC dI s.heap.size vw mm t0 t2 i0 i2 kT) (cwV 2 hts g_c_V_join_20_0 rfl rfl rfl (by decide +kernel) ⟨Nat.le_of_ble_eq_true rfl, Nat.le_of_ble_eq_true rfl⟩) (z_preV (wc := [(vw, .inr (19, [.int (-1), .int (-1), .int (-1), .int (-1), .ref mm])), (t0, .inr (18, [.int (-1), .ref i0])), (t2, .inr (18, [.int (-3), .ref i2])), (i0, .inl (kT, 0, .inr (.inr (.inr (.inr (fun _ => none)))))), (i2, .inl (kT, 0, .inr (.inr (.inr (.inr (fun _ => none))))))]) hP hD hK hS hA hE [0, 1, 2, 3, 4] [0] rfl (by decide) rfl (ci := 19) (q0 := 0) rfl rfl) rfl rfl hl.1 rfl (lv_room (Nat.le_of_ble_eq_true rfl)) dX17_join_3 ⟨Nat.le_of_ble_eq_true rfl, Nat.le_of_ble_eq_true rfl⟩) hP hD hK hS hA [0, 1, 2, 3, 4] [] rfl rfl (by decide) (by decide) (fun r_1 u H locs hw_2 hP hD hK hS => ?_)
  obtain ⟨⟩ := u
  have hP : va_P (dC, dI) vwCl [(vw, .inr (19, [.int (-1), .int (-1), .int (-1), .int (-1), .ref mm])), (t0, .inr (18, [.int (-1), .ref i0])), (t2, .inr (18, [.int (-3), .ref i2])), (i0, .inl (kT, 0, .inr (.inr (.inr (.inr (fun _ => none)))))), (i2, .inl (kT, 0, .inr (.inr (.inr (.inr (fun _ => none))))))] H := hP
  have hD : va_D A [(vw, .inr (19, [.int (-1), .int (-1), .int (-1), .int (-1), .ref mm])), (t0, .inr (18, [.int (-1), .ref i0])), (t2, .inr (18, [.int (-3), .ref i2])), (i0, .inl (kT, 0, .inr (.inr (.inr (.inr (fun _ => none)))))), (i2, .inl (kT, 0, .inr (.inr (.inr (.inr (fun _ => none))))))] := hD
  have hK : va_K (dC, dI) vwCl [(kT, .object "HornbookModel$Tree")] s := by simpa using hK
  have hw_2 : r_1 = 1 := hw_2
  have hw_2 := hw_2.symm
  subst hw_2
  refine lv_if_eq (tgt := 11) hx hb dX17_join_6 (by decide) (fun c_3 => ?_) (fun c_3 => ?_)
  · exact absurd c_3 (by decide)
  refine lv_aload_n hx hb dX17_join_9 rfl (lv_at hl 2 rfl) ?_
  have hP9 := hP.sub (ws' := [(vw, .inr (19, [.int (-1), .int (-1), .int (-1), .int (-1), .ref mm])), (t0, .inr (18, [.int (-1), .ref i0])), (t2, .inr (18, [.int (-3), .ref i2])), (i0, .inl (kT, 0, .inr (.inr (.inr (.inr (fun _ => none)))))), (i2, .inl (kT, 0, .inr (.inr (.inr (.inr (fun _ => none))))))]) [0, 1, 2, 3, 4] rfl
  have hD9 := hD.sub (ws' := [(vw, .inr (19, [.int (-1), .int (-1), .int (-1), .int (-1), .ref mm])), (t0, .inr (18, [.int (-1), .ref i0])), (t2, .inr (18, [.int (-3), .ref i2])), (i0, .inl (kT, 0, .inr (.inr (.inr (.inr (fun _ => none)))))), (i2, .inl (kT, 0, .inr (.inr (.inr (.inr (fun _ => none))))))]) [0, 1, 2, 3, 4] (by decide) rfl
  have hK9 := hK.sub (tys' := []) [] rfl
  refine W.widen (k := 0) (n := 0) (Nat.le_of_ble_eq_true rfl) (Nat.le_of_ble_eq_true rfl) ?_
  exact W.aret (v := .ref t0) hx hb hr (Or.inl ⟨_, rfl⟩) (Or.inr ⟨_, rfl⟩) (fun t ht hW => ⟨⟨some t0, (), rfl, rfl, ⟨by rw [ht]; exact hP9, va_K.moved hW.alike hK9, hD9⟩⟩, hS.F ht⟩) hS.2.2 dX17_join_10

def wb_c_V_join_21 : List Cond := [.code yX17_isUnder cX17_isUnder 6 (some .boolean), .fieldLink RX17 49 "HornbookModel$Tree" "head" "I", .code yX16_isSame cX16_isSame 3 (some .boolean), .fieldLink RX16 14 "HornbookModel$Tree" "head" "I", .methodLink RX17 76 yX16_isSame, .instanceMethod yX16_isSame, .selects RX16 yX16_isSame yX16_isSame, .initialized RX16, .code yX16_isSort cX16_isSort 1 (some .boolean), .methodLink RX17 68 yX16_isSort, .instanceMethod yX16_isSort, .selects RX16 yX16_isSort yX16_isSort, .methodLink RX17 91 yX17_isUnder, .instanceMethod yX17_isUnder, .selects RX17 yX17_isUnder yX17_isUnder, .initialized RX17] ++ u_ws RX16 TX16 2
def w_c_V_join_21 : List Cond := .code yX17_join cX17_join 7 (some (.object "HornbookModel$Tree")) :: wb_c_V_join_21
set_option maxRecDepth 100000 in
theorem g_c_V_join_21_0 : GoodIn w_c_V_join_21 (wsV RX17 91 RX17 yX17_isUnder w_c_V_isUnder_21) := goodIn_app (goodIn_of _ (by decide +kernel)) (goodIn_p (big := w_c_V_join_21) (.code yX17_isUnder cX17_isUnder 6 (some .boolean) :: wb_c_V_isUnder_21) [1, 3, 9] rfl (by decide +kernel))
set_option maxRecDepth 100000 in
theorem g_c_V_join_21_1 : GoodIn w_c_V_join_21 (wsV RX17 91 RX17 yX17_isUnder w_c_V_isUnder_12) := goodIn_app (goodIn_of _ (by decide +kernel)) (goodIn_p (big := w_c_V_join_21) (.code yX17_isUnder cX17_isUnder 6 (some .boolean) :: wb_c_V_isUnder_12) [1] rfl (by decide +kernel))
set_option maxHeartbeats 4000000 in
set_option maxRecDepth 100000 in
theorem c_V_join_21 (l : Launch) (eD eI : Nat) (ad : Nat → Nat) (dC : Nat → ClassId) (dI : Nat → Nat → Nat) (sz : Nat) (vw : Nat) (mm : Nat) (t1 : Nat) (t2 : Nat) (i1 : Nat) (i2 : Nat) (kT : ClassId) : Met l yX17_join w_c_V_join_21 ({ frames := 2, cells := 0, slots := 0, locals := 47 }) (va_Pc [.ref vw, .ref t2, .ref t1] (zPre eD eI ad (dC, dI) [(vw, .inr (19, [.int (-1), .int (-1), .int (-1), .int (-1), .ref mm])), (t1, .inr (18, [.int (-2), .ref i1])), (t2, .inr (18, [.int (-3), .ref i2])), (i1, .inl (kT, 0, .inr (.inr (.inr (.inr (fun _ => none)))))), (i2, .inl (kT, 0, .inr (.inr (.inr (.inr (fun _ => none))))))] [(kT, .object "HornbookModel$Tree")] sz)) (va_Qq (fun (r : Option Nat) (_ : Unit) => r = some t2) (fun (_ : Unit) => zEnd (dC, dI) (va_A [(vw, .inr (19, [.int (-1), .int (-1), .int (-1), .int (-1), .ref mm])), (t1, .inr (18, [.int (-2), .ref i1])), (t2, .inr (18, [.int (-3), .ref i2])), (i1, .inl (kT, 0, .inr (.inr (.inr (.inr (fun _ => none)))))), (i2, .inl (kT, 0, .inr (.inr (.inr (.inr (fun _ => none))))))] sz) [(vw, .inr (19, [.int (-1), .int (-1), .int (-1), .int (-1), .ref mm])), (t1, .inr (18, [.int (-2), .ref i1])), (t2, .inr (18, [.int (-3), .ref i2])), (i1, .inl (kT, 0, .inr (.inr (.inr (.inr (fun _ => none)))))), (i2, .inl (kT, 0, .inr (.inr (.inr (.inr (fun _ => none))))))] []) (va_A [(vw, .inr (19, [.int (-1), .int (-1), .int (-1), .int (-1), .ref mm])), (t1, .inr (18, [.int (-2), .ref i1])), (t2, .inr (18, [.int (-3), .ref i2])), (i1, .inl (kT, 0, .inr (.inr (.inr (.inr (fun _ => none)))))), (i2, .inl (kT, 0, .inr (.inr (.inr (.inr (fun _ => none))))))] sz)) 0 0 (va_A [(vw, .inr (19, [.int (-1), .int (-1), .int (-1), .int (-1), .ref mm])), (t1, .inr (18, [.int (-2), .ref i1])), (t2, .inr (18, [.int (-3), .ref i2])), (i1, .inl (kT, 0, .inr (.inr (.inr (.inr (fun _ => none)))))), (i2, .inl (kT, 0, .inr (.inr (.inr (.inr (fun _ => none))))))] sz) := by
  refine Met.ofW (cc := cX17_join) (maxL := 7) (ret := (some (.object "HornbookModel$Tree"))) (by decide) rfl ?_
  intro p e s m args below meth c s₁ B hml hv
  obtain ⟨rfl, hsz, hP, hK, hD0, hE⟩ := hv
  have hx := B.exec
  have hb := B.bytes
  have hr := B.returns
  have hts := atoms_spec (ws := w_c_V_join_21) B.pre
  have hown : s.vm.findClass RX17 = some m.cls := findClass_of_methodNamed B.named
  have hlocks := B.notSynchronized
  subst hsz
  have hD := hD0.self (sz := s.heap.size)
  generalize hAe : va_A [(vw, .inr (19, [.int (-1), .int (-1), .int (-1), .int (-1), .ref mm])), (t1, .inr (18, [.int (-2), .ref i1])), (t2, .inr (18, [.int (-3), .ref i2])), (i1, .inl (kT, 0, .inr (.inr (.inr (.inr (fun _ => none)))))), (i2, .inl (kT, 0, .inr (.inr (.inr (.inr (fun _ => none))))))] s.heap.size = A at hD hE ⊢
  have hA : ∀ q : Nat, s.heap.size ≤ q → A q := fun q h => by rw [← hAe]; exact Or.inr h
  have hS : va_S A s.heap s.heap [] := va_S.rf
  have hP : va_P (dC, dI) vwCl [(vw, .inr (19, [.int (-1), .int (-1), .int (-1), .int (-1), .ref mm])), (t1, .inr (18, [.int (-2), .ref i1])), (t2, .inr (18, [.int (-3), .ref i2])), (i1, .inl (kT, 0, .inr (.inr (.inr (.inr (fun _ => none)))))), (i2, .inl (kT, 0, .inr (.inr (.inr (.inr (fun _ => none))))))] s.heap := hP
  have hl := lv_entry ([.ref vw, .ref t2, .ref t1]) (n := 7) (Nat.le_of_ble_eq_true rfl)
  rw [lg_entry_eq]
  generalize (lg_sl ([.ref vw, .ref t2, .ref t1]) ++ List.replicate (7 - (lg_sl ([.ref vw, .ref t2, .ref t1])).length) Slot.unset).toArray = ls at hl ⊢
  have hl : lv_has ls 7 [(0, .ref vw), (1, .ref t2), (2, .ref t1)] := hl
  have in_RX16 : ∀ w ∈ u_ws RX16 TX16 2, w ∈ w_c_V_join_21 := by decide +kernel
  refine lv_aload_n hx hb dX17_join_0 rfl (lv_at hl 0 rfl) ?_
  refine lv_aload_n hx hb dX17_join_1 rfl (lv_at hl 1 rfl) ?_
  refine lv_aload_n hx hb dX17_join_2 rfl (lv_at hl 2 rfl) ?_
  refine z_i (wr := []) (va_runV (As := [.ref t2, .ref t1]) (rest := []) ⟨hx, hb, hml, hown, hts⟩ (c_V_isUnder_21 l eD eI ad dC dI s.heap.size vw mm t1 t2 i1 i2 kT) (cwV 2 hts g_c_V_join_21_0 rfl rfl rfl (by decide +kernel) ⟨Nat.le_of_ble_eq_true rfl, Nat.le_of_ble_eq_true rfl⟩) (z_preV (wc := [(vw, .inr (19, [.int (-1), .int (-1), .int (-1), .int (-1), .ref mm])), (t1, .inr (18, [.int (-2), .ref i1])), (t2, .inr (18, [.int (-3), .ref i2])), (i1, .inl (kT, 0, .inr (.inr (.inr (.inr (fun _ => none)))))), (i2, .inl (kT, 0, .inr (.inr (.inr (.inr (fun _ => none))))))]) hP hD hK hS hA hE [0, 1, 2, 3, 4] [0] rfl (by decide) rfl (ci := 19) (q0 := 0) rfl rfl) rfl rfl hl.1 rfl (lv_room (Nat.le_of_ble_eq_true rfl)) dX17_join_3 ⟨Nat.le_of_ble_eq_true rfl, Nat.le_of_ble_eq_true rfl⟩) hP hD hK hS hA [0, 1, 2, 3, 4] [] rfl rfl (by decide) (by decide) (fun r_1 u H locs hw_2 hP hD hK hS => ?_)
  obtain ⟨⟩ := u
  have hP : va_P (dC, dI) vwCl [(vw, .inr (19, [.int (-1), .int (-1), .int (-1), .int (-1), .ref mm])), (t1, .inr (18, [.int (-2), .ref i1])), (t2, .inr (18, [.int (-3), .ref i2])), (i1, .inl (kT, 0, .inr (.inr (.inr (.inr (fun _ => none)))))), (i2, .inl (kT, 0, .inr (.inr (.inr (.inr (fun _ => none))))))] H := hP
  have hD : va_D A [(vw, .inr (19, [.int (-1), .int (-1), .int (-1), .int (-1), .ref mm])), (t1, .inr (18, [.int (-2), .ref i1])), (t2, .inr (18, [.int (-3), .ref i2])), (i1, .inl (kT, 0, .inr (.inr (.inr (.inr (fun _ => none)))))), (i2, .inl (kT, 0, .inr (.inr (.inr (.inr (fun _ => none))))))] := hD
  have hK : va_K (dC, dI) vwCl [(kT, .object "HornbookModel$Tree")] s := by simpa using hK
  have hw_2 : r_1 = 0 := hw_2
  have hw_2 := hw_2.symm
  subst hw_2
  refine lv_if_eq (tgt := 11) hx hb dX17_join_6 (by decide) (fun c_3 => ?_) (fun c_3 => ?_)
  rotate_left
  · exact absurd (by decide) c_3
  refine lv_aload_n hx hb dX17_join_11 rfl (lv_at hl 0 rfl) ?_
  refine lv_aload_n hx hb dX17_join_12 rfl (lv_at hl 2 rfl) ?_
  refine lv_aload_n hx hb dX17_join_13 rfl (lv_at hl 1 rfl) ?_
  refine z_i (wr := []) (va_runV (As := [.ref t1, .ref t2]) (rest := []) ⟨hx, hb, hml, hown, hts⟩ (c_V_isUnder_12 l eD eI ad dC dI H.size vw mm t1 t2 i1 i2 kT) (cwV 2 hts g_c_V_join_21_1 rfl rfl rfl (by decide +kernel) ⟨Nat.le_of_ble_eq_true rfl, Nat.le_of_ble_eq_true rfl⟩) (z_preV (wc := [(vw, .inr (19, [.int (-1), .int (-1), .int (-1), .int (-1), .ref mm])), (t1, .inr (18, [.int (-2), .ref i1])), (t2, .inr (18, [.int (-3), .ref i2])), (i1, .inl (kT, 0, .inr (.inr (.inr (.inr (fun _ => none)))))), (i2, .inl (kT, 0, .inr (.inr (.inr (.inr (fun _ => none))))))]) hP hD hK hS hA hE [0, 1, 2, 3, 4] [0] rfl (by decide) rfl (ci := 19) (q0 := 0) rfl rfl) rfl rfl hl.1 rfl (lv_room (Nat.le_of_ble_eq_true rfl)) dX17_join_14 ⟨Nat.le_of_ble_eq_true rfl, Nat.le_of_ble_eq_true rfl⟩) hP hD hK hS hA [0, 1, 2, 3, 4] [] rfl rfl (by decide) (by decide) (fun r_4 u H locs hw_5 hP hD hK hS => ?_)
  obtain ⟨⟩ := u
  have hP : va_P (dC, dI) vwCl [(vw, .inr (19, [.int (-1), .int (-1), .int (-1), .int (-1), .ref mm])), (t1, .inr (18, [.int (-2), .ref i1])), (t2, .inr (18, [.int (-3), .ref i2])), (i1, .inl (kT, 0, .inr (.inr (.inr (.inr (fun _ => none)))))), (i2, .inl (kT, 0, .inr (.inr (.inr (.inr (fun _ => none))))))] H := hP
  have hD : va_D A [(vw, .inr (19, [.int (-1), .int (-1), .int (-1), .int (-1), .ref mm])), (t1, .inr (18, [.int (-2), .ref i1])), (t2, .inr (18, [.int (-3), .ref i2])), (i1, .inl (kT, 0, .inr (.inr (.inr (.inr (fun _ => none)))))), (i2, .inl (kT, 0, .inr (.inr (.inr (.inr (fun _ => none))))))] := hD
  have hK : va_K (dC, dI) vwCl [(kT, .object "HornbookModel$Tree")] s := by simpa using hK
  have hw_5 : r_4 = 1 := hw_5
  have hw_5 := hw_5.symm
  subst hw_5
  refine lv_if_eq (tgt := 22) hx hb dX17_join_17 (by decide) (fun c_6 => ?_) (fun c_6 => ?_)
  · exact absurd c_6 (by decide)
  refine lv_aload_n hx hb dX17_join_20 rfl (lv_at hl 1 rfl) ?_
  have hP9 := hP.sub (ws' := [(vw, .inr (19, [.int (-1), .int (-1), .int (-1), .int (-1), .ref mm])), (t1, .inr (18, [.int (-2), .ref i1])), (t2, .inr (18, [.int (-3), .ref i2])), (i1, .inl (kT, 0, .inr (.inr (.inr (.inr (fun _ => none)))))), (i2, .inl (kT, 0, .inr (.inr (.inr (.inr (fun _ => none))))))]) [0, 1, 2, 3, 4] rfl
  have hD9 := hD.sub (ws' := [(vw, .inr (19, [.int (-1), .int (-1), .int (-1), .int (-1), .ref mm])), (t1, .inr (18, [.int (-2), .ref i1])), (t2, .inr (18, [.int (-3), .ref i2])), (i1, .inl (kT, 0, .inr (.inr (.inr (.inr (fun _ => none)))))), (i2, .inl (kT, 0, .inr (.inr (.inr (.inr (fun _ => none))))))]) [0, 1, 2, 3, 4] (by decide) rfl
  have hK9 := hK.sub (tys' := []) [] rfl
  refine W.widen (k := 0) (n := 0) (Nat.le_of_ble_eq_true rfl) (Nat.le_of_ble_eq_true rfl) ?_
  exact W.aret (v := .ref t2) hx hb hr (Or.inl ⟨_, rfl⟩) (Or.inr ⟨_, rfl⟩) (fun t ht hW => ⟨⟨some t2, (), rfl, rfl, ⟨by rw [ht]; exact hP9, va_K.moved hW.alike hK9, hD9⟩⟩, hS.F ht⟩) hS.2.2 dX17_join_21

def wb_c_V_join_22 : List Cond := [.code yX17_isUnder cX17_isUnder 6 (some .boolean), .fieldLink RX17 49 "HornbookModel$Tree" "head" "I", .code yX16_isSame cX16_isSame 3 (some .boolean), .fieldLink RX16 14 "HornbookModel$Tree" "head" "I", .fieldLink RX16 18 "HornbookModel$Tree" "inner" "[LHornbookModel$Tree;", .methodLink RX17 76 yX16_isSame, .instanceMethod yX16_isSame, .selects RX16 yX16_isSame yX16_isSame, .initialized RX16, .methodLink RX17 91 yX17_isUnder, .instanceMethod yX17_isUnder, .selects RX17 yX17_isUnder yX17_isUnder, .initialized RX17] ++ u_ws RX16 TX16 2
def w_c_V_join_22 : List Cond := .code yX17_join cX17_join 7 (some (.object "HornbookModel$Tree")) :: wb_c_V_join_22
set_option maxRecDepth 100000 in
theorem g_c_V_join_22_0 : GoodIn w_c_V_join_22 (wsV RX17 91 RX17 yX17_isUnder w_c_V_isUnder_22) := goodIn_app (goodIn_of _ (by decide +kernel)) (goodIn_p (big := w_c_V_join_22) (.code yX17_isUnder cX17_isUnder 6 (some .boolean) :: wb_c_V_isUnder_22) [1, 3] rfl (by decide +kernel))
set_option maxHeartbeats 4000000 in
set_option maxRecDepth 100000 in
theorem c_V_join_22 (l : Launch) (eD eI : Nat) (ad : Nat → Nat) (dC : Nat → ClassId) (dI : Nat → Nat → Nat) (sz : Nat) (vw : Nat) (mm : Nat) (t2 : Nat) (i2 : Nat) (kT : ClassId) : Met l yX17_join w_c_V_join_22 ({ frames := 2, cells := 0, slots := 0, locals := 47 }) (va_Pc [.ref vw, .ref t2, .ref t2] (zPre eD eI ad (dC, dI) [(vw, .inr (19, [.int (-1), .int (-1), .int (-1), .int (-1), .ref mm])), (t2, .inr (18, [.int (-3), .ref i2])), (i2, .inl (kT, 0, .inr (.inr (.inr (.inr (fun _ => none))))))] [(kT, .object "HornbookModel$Tree")] sz)) (va_Qq (fun (r : Option Nat) (_ : Unit) => r = some t2) (fun (_ : Unit) => zEnd (dC, dI) (va_A [(vw, .inr (19, [.int (-1), .int (-1), .int (-1), .int (-1), .ref mm])), (t2, .inr (18, [.int (-3), .ref i2])), (i2, .inl (kT, 0, .inr (.inr (.inr (.inr (fun _ => none))))))] sz) [(vw, .inr (19, [.int (-1), .int (-1), .int (-1), .int (-1), .ref mm])), (t2, .inr (18, [.int (-3), .ref i2])), (i2, .inl (kT, 0, .inr (.inr (.inr (.inr (fun _ => none))))))] []) (va_A [(vw, .inr (19, [.int (-1), .int (-1), .int (-1), .int (-1), .ref mm])), (t2, .inr (18, [.int (-3), .ref i2])), (i2, .inl (kT, 0, .inr (.inr (.inr (.inr (fun _ => none))))))] sz)) 0 0 (va_A [(vw, .inr (19, [.int (-1), .int (-1), .int (-1), .int (-1), .ref mm])), (t2, .inr (18, [.int (-3), .ref i2])), (i2, .inl (kT, 0, .inr (.inr (.inr (.inr (fun _ => none))))))] sz) := by
  refine Met.ofW (cc := cX17_join) (maxL := 7) (ret := (some (.object "HornbookModel$Tree"))) (by decide) rfl ?_
  intro p e s m args below meth c s₁ B hml hv
  obtain ⟨rfl, hsz, hP, hK, hD0, hE⟩ := hv
  have hx := B.exec
  have hb := B.bytes
  have hr := B.returns
  have hts := atoms_spec (ws := w_c_V_join_22) B.pre
  have hown : s.vm.findClass RX17 = some m.cls := findClass_of_methodNamed B.named
  have hlocks := B.notSynchronized
  subst hsz
  have hD := hD0.self (sz := s.heap.size)
  generalize hAe : va_A [(vw, .inr (19, [.int (-1), .int (-1), .int (-1), .int (-1), .ref mm])), (t2, .inr (18, [.int (-3), .ref i2])), (i2, .inl (kT, 0, .inr (.inr (.inr (.inr (fun _ => none))))))] s.heap.size = A at hD hE ⊢
  have hA : ∀ q : Nat, s.heap.size ≤ q → A q := fun q h => by rw [← hAe]; exact Or.inr h
  have hS : va_S A s.heap s.heap [] := va_S.rf
  have hP : va_P (dC, dI) vwCl [(vw, .inr (19, [.int (-1), .int (-1), .int (-1), .int (-1), .ref mm])), (t2, .inr (18, [.int (-3), .ref i2])), (i2, .inl (kT, 0, .inr (.inr (.inr (.inr (fun _ => none))))))] s.heap := hP
  have hl := lv_entry ([.ref vw, .ref t2, .ref t2]) (n := 7) (Nat.le_of_ble_eq_true rfl)
  rw [lg_entry_eq]
  generalize (lg_sl ([.ref vw, .ref t2, .ref t2]) ++ List.replicate (7 - (lg_sl ([.ref vw, .ref t2, .ref t2])).length) Slot.unset).toArray = ls at hl ⊢
  have hl : lv_has ls 7 [(0, .ref vw), (1, .ref t2), (2, .ref t2)] := hl
  have in_RX16 : ∀ w ∈ u_ws RX16 TX16 2, w ∈ w_c_V_join_22 := by decide +kernel
  refine lv_aload_n hx hb dX17_join_0 rfl (lv_at hl 0 rfl) ?_
  refine lv_aload_n hx hb dX17_join_1 rfl (lv_at hl 1 rfl) ?_
  refine lv_aload_n hx hb dX17_join_2 rfl (lv_at hl 2 rfl) ?_
  refine z_i (wr := []) (va_runV (As := [.ref t2, .ref t2]) (rest := []) ⟨hx, hb, hml, hown, hts⟩ (c_V_isUnder_22 l eD eI ad dC dI s.heap.size vw mm t2 i2 kT) (cwV 2 hts g_c_V_join_22_0 rfl rfl rfl (by decide +kernel) ⟨Nat.le_of_ble_eq_true rfl, Nat.le_of_ble_eq_true rfl⟩) (z_preV (wc := [(vw, .inr (19, [.int (-1), .int (-1), .int (-1), .int (-1), .ref mm])), (t2, .inr (18, [.int (-3), .ref i2])), (i2, .inl (kT, 0, .inr (.inr (.inr (.inr (fun _ => none))))))]) hP hD hK hS hA hE [0, 1, 2] [0] rfl (by decide) rfl (ci := 19) (q0 := 0) rfl rfl) rfl rfl hl.1 rfl (lv_room (Nat.le_of_ble_eq_true rfl)) dX17_join_3 ⟨Nat.le_of_ble_eq_true rfl, Nat.le_of_ble_eq_true rfl⟩) hP hD hK hS hA [0, 1, 2] [] rfl rfl (by decide) (by decide) (fun r_1 u H locs hw_2 hP hD hK hS => ?_)
  obtain ⟨⟩ := u
  have hP : va_P (dC, dI) vwCl [(vw, .inr (19, [.int (-1), .int (-1), .int (-1), .int (-1), .ref mm])), (t2, .inr (18, [.int (-3), .ref i2])), (i2, .inl (kT, 0, .inr (.inr (.inr (.inr (fun _ => none))))))] H := hP
  have hD : va_D A [(vw, .inr (19, [.int (-1), .int (-1), .int (-1), .int (-1), .ref mm])), (t2, .inr (18, [.int (-3), .ref i2])), (i2, .inl (kT, 0, .inr (.inr (.inr (.inr (fun _ => none))))))] := hD
  have hK : va_K (dC, dI) vwCl [(kT, .object "HornbookModel$Tree")] s := by simpa using hK
  have hw_2 : r_1 = 1 := hw_2
  have hw_2 := hw_2.symm
  subst hw_2
  refine lv_if_eq (tgt := 11) hx hb dX17_join_6 (by decide) (fun c_3 => ?_) (fun c_3 => ?_)
  · exact absurd c_3 (by decide)
  refine lv_aload_n hx hb dX17_join_9 rfl (lv_at hl 2 rfl) ?_
  have hP9 := hP.sub (ws' := [(vw, .inr (19, [.int (-1), .int (-1), .int (-1), .int (-1), .ref mm])), (t2, .inr (18, [.int (-3), .ref i2])), (i2, .inl (kT, 0, .inr (.inr (.inr (.inr (fun _ => none))))))]) [0, 1, 2] rfl
  have hD9 := hD.sub (ws' := [(vw, .inr (19, [.int (-1), .int (-1), .int (-1), .int (-1), .ref mm])), (t2, .inr (18, [.int (-3), .ref i2])), (i2, .inl (kT, 0, .inr (.inr (.inr (.inr (fun _ => none))))))]) [0, 1, 2] (by decide) rfl
  have hK9 := hK.sub (tys' := []) [] rfl
  refine W.widen (k := 0) (n := 0) (Nat.le_of_ble_eq_true rfl) (Nat.le_of_ble_eq_true rfl) ?_
  exact W.aret (v := .ref t2) hx hb hr (Or.inl ⟨_, rfl⟩) (Or.inr ⟨_, rfl⟩) (fun t ht hW => ⟨⟨some t2, (), rfl, rfl, ⟨by rw [ht]; exact hP9, va_K.moved hW.alike hK9, hD9⟩⟩, hS.F ht⟩) hS.2.2 dX17_join_10
