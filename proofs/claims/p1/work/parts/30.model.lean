theorem dX19_isIn_0 : decode cX19_isIn 0 = .ok (.iload_n 0, 1) := by decide +kernel
theorem dX19_isIn_1 : decode cX19_isIn 1 = .ok (.iload_n 1, 1) := by decide +kernel
theorem dX19_isIn_2 : decode cX19_isIn 2 = .ok (.if_icmp .lt 12, 3) := by decide +kernel
theorem dX19_isIn_14 : decode cX19_isIn 14 = .ok (.iconst 0, 1) := by decide +kernel
theorem dX19_isIn_15 : decode cX19_isIn 15 = .ok (.ireturn, 1) := by decide +kernel
theorem dX19_isIn_5 : decode cX19_isIn 5 = .ok (.iload_n 0, 1) := by decide +kernel
theorem dX19_isIn_6 : decode cX19_isIn 6 = .ok (.iload_n 2, 1) := by decide +kernel
theorem dX19_isIn_7 : decode cX19_isIn 7 = .ok (.if_icmp .gt 7, 3) := by decide +kernel
theorem dX19_isIn_10 : decode cX19_isIn 10 = .ok (.iconst 1, 1) := by decide +kernel
theorem dX19_isIn_11 : decode cX19_isIn 11 = .ok (.goto 4, 3) := by decide +kernel
theorem dX19_refuse_0 : decode cX19_refuse 0 = .ok (.iload_n 1, 1) := by decide +kernel
theorem dX19_refuse_1 : decode cX19_refuse 1 = .ok (.ifCond .eq 15, 3) := by decide +kernel
theorem dX19_refuse_16 : decode cX19_refuse 16 = .ok (.aload_n 0, 1) := by decide +kernel
theorem dX19_refuse_17 : decode cX19_refuse 17 = .ok (.getfield 34, 3) := by decide +kernel
theorem dX19_refuse_20 : decode cX19_refuse 20 = .ok (.ifCond .le 7, 3) := by decide +kernel
theorem dX19_refuse_27 : decode cX19_refuse 27 = .ok (.iconst 0, 1) := by decide +kernel
theorem dX19_refuse_28 : decode cX19_refuse 28 = .ok (.ireturn, 1) := by decide +kernel
theorem dX19_refuse_4 : decode cX19_refuse 4 = .ok (.aload_n 0, 1) := by decide +kernel
theorem dX19_refuse_5 : decode cX19_refuse 5 = .ok (.getfield 34, 3) := by decide +kernel
theorem dX19_refuse_8 : decode cX19_refuse 8 = .ok (.ifCond .ne 8, 3) := by decide +kernel
theorem dX19_refuse_11 : decode cX19_refuse 11 = .ok (.aload_n 0, 1) := by decide +kernel
theorem dX19_refuse_12 : decode cX19_refuse 12 = .ok (.iload_n 2, 1) := by decide +kernel
theorem dX19_refuse_13 : decode cX19_refuse 13 = .ok (.putfield 34, 3) := by decide +kernel
theorem dX19_refuse_23 : decode cX19_refuse 23 = .ok (.iconst 1, 1) := by decide +kernel
theorem dX19_refuse_24 : decode cX19_refuse 24 = .ok (.goto 4, 3) := by decide +kernel
theorem dX19_start_0 : decode cX19_start 0 = .ok (.aload_n 0, 1) := by decide +kernel
theorem dX19_start_1 : decode cX19_start 1 = .ok (.iconst 0, 1) := by decide +kernel
theorem dX19_start_2 : decode cX19_start 2 = .ok (.putfield 34, 3) := by decide +kernel
theorem dX19_start_5 : decode cX19_start 5 = .ok (.aload_n 0, 1) := by decide +kernel
theorem dX19_start_6 : decode cX19_start 6 = .ok (.iload_n 1, 1) := by decide +kernel
theorem dX19_start_7 : decode cX19_start 7 = .ok (.iload_n 2, 1) := by decide +kernel
theorem dX19_start_8 : decode cX19_start 8 = .ok (.invokevirtual 38, 3) := by decide +kernel
theorem dX19_start_11 : decode cX19_start 11 = .ok (.ireturn, 1) := by decide +kernel
theorem dX19_plain_0 : decode cX19_plain 0 = .ok (.aload_n 0, 1) := by decide +kernel
theorem dX19_plain_1 : decode cX19_plain 1 = .ok (.iconst 0, 1) := by decide +kernel
theorem dX19_plain_2 : decode cX19_plain 2 = .ok (.putfield 34, 3) := by decide +kernel
theorem dX19_plain_5 : decode cX19_plain 5 = .ok (.iload_n 1, 1) := by decide +kernel
theorem dX19_plain_6 : decode cX19_plain 6 = .ok (.ireturn, 1) := by decide +kernel
theorem dX19_thrown_0 : decode cX19_thrown 0 = .ok (.aload_n 0, 1) := by decide +kernel
theorem dX19_thrown_1 : decode cX19_thrown 1 = .ok (.getfield 34, 3) := by decide +kernel
theorem dX19_thrown_4 : decode cX19_thrown 4 = .ok (.ireturn, 1) := by decide +kernel
theorem dX19_isNoType_0 : decode cX19_isNoType 0 = .ok (.iload_n 1, 1) := by decide +kernel
theorem dX19_isNoType_1 : decode cX19_isNoType 1 = .ok (.iconst 0, 1) := by decide +kernel
theorem dX19_isNoType_2 : decode cX19_isNoType 2 = .ok (.aload_n 0, 1) := by decide +kernel
theorem dX19_isNoType_3 : decode cX19_isNoType 3 = .ok (.getfield 16, 3) := by decide +kernel
theorem dX19_isNoType_6 : decode cX19_isNoType 6 = .ok (.invokevirtual 47, 3) := by decide +kernel
theorem dX19_isNoType_9 : decode cX19_isNoType 9 = .ok (.iconst 1, 1) := by decide +kernel
theorem dX19_isNoType_10 : decode cX19_isNoType 10 = .ok (.isub, 1) := by decide +kernel
theorem dX19_isNoType_11 : decode cX19_isNoType 11 = .ok (.invokestatic 51, 3) := by decide +kernel
theorem dX19_isNoType_14 : decode cX19_isNoType 14 = .ok (.ifCond .ne 7, 3) := by decide +kernel
theorem dX19_isNoType_17 : decode cX19_isNoType 17 = .ok (.iconst 1, 1) := by decide +kernel
theorem dX19_isNoType_18 : decode cX19_isNoType 18 = .ok (.goto 4, 3) := by decide +kernel
theorem dX19_isNoType_22 : decode cX19_isNoType 22 = .ok (.ireturn, 1) := by decide +kernel
theorem dX19_isNoType_21 : decode cX19_isNoType 21 = .ok (.iconst 0, 1) := by decide +kernel
theorem dX19_isNoTypeOrNone_0 : decode cX19_isNoTypeOrNone 0 = .ok (.iload_n 1, 1) := by decide +kernel
theorem dX19_isNoTypeOrNone_1 : decode cX19_isNoTypeOrNone 1 = .ok (.iconst (-1), 1) := by decide +kernel
theorem dX19_isNoTypeOrNone_2 : decode cX19_isNoTypeOrNone 2 = .ok (.if_icmp .eq 15, 3) := by decide +kernel
theorem dX19_isNoTypeOrNone_17 : decode cX19_isNoTypeOrNone 17 = .ok (.iconst 0, 1) := by decide +kernel
theorem dX19_isNoTypeOrNone_18 : decode cX19_isNoTypeOrNone 18 = .ok (.ireturn, 1) := by decide +kernel
theorem dX19_isNoTypeOrNone_5 : decode cX19_isNoTypeOrNone 5 = .ok (.aload_n 0, 1) := by decide +kernel
theorem dX19_isNoTypeOrNone_6 : decode cX19_isNoTypeOrNone 6 = .ok (.iload_n 1, 1) := by decide +kernel
theorem dX19_isNoTypeOrNone_7 : decode cX19_isNoTypeOrNone 7 = .ok (.invokevirtual 55, 3) := by decide +kernel
theorem dX19_isNoTypeOrNone_10 : decode cX19_isNoTypeOrNone 10 = .ok (.ifCond .eq 7, 3) := by decide +kernel
theorem dX19_isNoTypeOrNone_13 : decode cX19_isNoTypeOrNone 13 = .ok (.iconst 1, 1) := by decide +kernel
theorem dX19_isNoTypeOrNone_14 : decode cX19_isNoTypeOrNone 14 = .ok (.goto 4, 3) := by decide +kernel
theorem dX19_isNoSort_0 : decode cX19_isNoSort 0 = .ok (.iload_n 1, 1) := by decide +kernel
theorem dX19_isNoSort_1 : decode cX19_isNoSort 1 = .ok (.iconst 0, 1) := by decide +kernel
theorem dX19_isNoSort_2 : decode cX19_isNoSort 2 = .ok (.aload_n 0, 1) := by decide +kernel
theorem dX19_isNoSort_3 : decode cX19_isNoSort 3 = .ok (.getfield 10, 3) := by decide +kernel
theorem dX19_isNoSort_6 : decode cX19_isNoSort 6 = .ok (.invokevirtual 47, 3) := by decide +kernel
theorem dX19_isNoSort_9 : decode cX19_isNoSort 9 = .ok (.iconst 1, 1) := by decide +kernel
theorem dX19_isNoSort_10 : decode cX19_isNoSort 10 = .ok (.isub, 1) := by decide +kernel
theorem dX19_isNoSort_11 : decode cX19_isNoSort 11 = .ok (.invokestatic 51, 3) := by decide +kernel
theorem dX19_isNoSort_14 : decode cX19_isNoSort 14 = .ok (.ifCond .ne 7, 3) := by decide +kernel
theorem dX19_isNoSort_17 : decode cX19_isNoSort 17 = .ok (.iconst 1, 1) := by decide +kernel
theorem dX19_isNoSort_18 : decode cX19_isNoSort 18 = .ok (.goto 4, 3) := by decide +kernel
theorem dX19_isNoSort_22 : decode cX19_isNoSort 22 = .ok (.ireturn, 1) := by decide +kernel
theorem dX19_isNoExpression_0 : decode cX19_isNoExpression 0 = .ok (.iload_n 1, 1) := by decide +kernel
theorem dX19_isNoExpression_1 : decode cX19_isNoExpression 1 = .ok (.iconst 0, 1) := by decide +kernel
theorem dX19_isNoExpression_2 : decode cX19_isNoExpression 2 = .ok (.aload_n 0, 1) := by decide +kernel
theorem dX19_isNoExpression_3 : decode cX19_isNoExpression 3 = .ok (.getfield 22, 3) := by decide +kernel
theorem dX19_isNoExpression_6 : decode cX19_isNoExpression 6 = .ok (.invokevirtual 47, 3) := by decide +kernel
theorem dX19_isNoExpression_9 : decode cX19_isNoExpression 9 = .ok (.iconst 1, 1) := by decide +kernel
theorem dX19_isNoExpression_10 : decode cX19_isNoExpression 10 = .ok (.isub, 1) := by decide +kernel
theorem dX19_isNoExpression_11 : decode cX19_isNoExpression 11 = .ok (.invokestatic 51, 3) := by decide +kernel
theorem dX19_isNoExpression_14 : decode cX19_isNoExpression 14 = .ok (.ifCond .ne 7, 3) := by decide +kernel
theorem dX19_isNoExpression_17 : decode cX19_isNoExpression 17 = .ok (.iconst 1, 1) := by decide +kernel
theorem dX19_isNoExpression_18 : decode cX19_isNoExpression 18 = .ok (.goto 4, 3) := by decide +kernel
theorem dX19_isNoExpression_22 : decode cX19_isNoExpression 22 = .ok (.ireturn, 1) := by decide +kernel
def zfT (a b c : Nat) : Nat → Option Nat := va_up (va_up (va_up (fun _ => none) (0 : Int32).toNatClampNeg (some a)) (1 : Int32).toNatClampNeg (some b)) (2 : Int32).toNatClampNeg (some c)

def wb_c_M_isIn_lo : List Cond := []
def w_c_M_isIn_lo : List Cond := .code yX19_isIn cX19_isIn 3 (some .boolean) :: wb_c_M_isIn_lo
set_option maxHeartbeats 4000000 in
set_option maxRecDepth 100000 in
theorem c_M_isIn_lo (l : Launch) (eD eI : Nat) (ad : Nat → Nat) (dC : Nat → ClassId) (dI : Nat → Nat → Nat) (sz : Nat) (v : Int32) (a : Int32) (b : Int32) (h1 : v < a) : Met l yX19_isIn w_c_M_isIn_lo ({ frames := 0, cells := 0, slots := 0, locals := 0 }) (va_Pc [.int v, .int a, .int b] (zPre eD eI ad (dC, dI) [] [] sz)) (va_Qi (fun (r : Int32) (_ : Unit) => r = 0) (fun (_ : Unit) => zEnd (dC, dI) (va_A [] sz) [] []) (va_A [] sz)) 0 0 (va_A [] sz) := by
  refine Met.ofW (cc := cX19_isIn) (maxL := 3) (ret := (some .boolean)) (by decide) rfl ?_
  intro p e s m args below meth c s₁ B hml hv
  obtain ⟨rfl, hsz, hP, hK, hD0, hE⟩ := hv
  have hx := B.exec
  have hb := B.bytes
  have hr := B.returns
  have hts := atoms_spec (ws := w_c_M_isIn_lo) B.pre
  have hown : s.vm.findClass RX19 = some m.cls := findClass_of_methodNamed B.named
  have hlocks := B.notSynchronized
  subst hsz
  have hD := hD0.self (sz := s.heap.size)
  generalize hAe : va_A [] s.heap.size = A at hD hE ⊢
  have hA : ∀ q : Nat, s.heap.size ≤ q → A q := fun q h => by rw [← hAe]; exact Or.inr h
  have hS : va_S A s.heap s.heap [] := va_S.rf
  have hP : va_P (dC, dI) vwCl [] s.heap := hP
  have hl := lv_entry ([.int v, .int a, .int b]) (n := 3) (Nat.le_of_ble_eq_true rfl)
  rw [lg_entry_eq]
  generalize (lg_sl ([.int v, .int a, .int b]) ++ List.replicate (3 - (lg_sl ([.int v, .int a, .int b])).length) Slot.unset).toArray = ls at hl ⊢
  have hl : lv_has ls 3 [(0, .int v), (1, .int a), (2, .int b)] := hl
  refine lv_iload_n hx hb dX19_isIn_0 rfl (lv_at hl 0 rfl) ?_
  refine lv_iload_n hx hb dX19_isIn_1 rfl (lv_at hl 1 rfl) ?_
  refine lv_icmp_lt (tgt := 14) hx hb dX19_isIn_2 (by decide) (fun c_1 => ?_) (fun c_1 => ?_)
  rotate_left
  · exact absurd h1 c_1
  refine lv_iconst (v := 0) hx hb dX19_isIn_14 (by decide) ?_
  have hP9 := hP.sub (ws' := []) [] rfl
  have hD9 := hD.sub (ws' := []) [] (by decide) rfl
  have hK9 := hK.sub (tys' := []) [] rfl
  refine W.widen (k := 0) (n := 0) (Nat.le_of_ble_eq_true rfl) (Nat.le_of_ble_eq_true rfl) ?_
  exact W.zret (v := 0) hx hb hr (by first | rfl | decide) (fun t ht hW => ⟨⟨0, (), rfl, rfl, ⟨by rw [ht]; exact hP9, va_K.moved hW.alike hK9, hD9⟩⟩, hS.F ht⟩) hS.2.2 dX19_isIn_15

def wb_c_M_isIn_hi : List Cond := []
def w_c_M_isIn_hi : List Cond := .code yX19_isIn cX19_isIn 3 (some .boolean) :: wb_c_M_isIn_hi
set_option maxHeartbeats 4000000 in
set_option maxRecDepth 100000 in
theorem c_M_isIn_hi (l : Launch) (eD eI : Nat) (ad : Nat → Nat) (dC : Nat → ClassId) (dI : Nat → Nat → Nat) (sz : Nat) (v : Int32) (a : Int32) (b : Int32) (h0 : ¬ v < a) (h1 : b < v) : Met l yX19_isIn w_c_M_isIn_hi ({ frames := 0, cells := 0, slots := 0, locals := 0 }) (va_Pc [.int v, .int a, .int b] (zPre eD eI ad (dC, dI) [] [] sz)) (va_Qi (fun (r : Int32) (_ : Unit) => r = 0) (fun (_ : Unit) => zEnd (dC, dI) (va_A [] sz) [] []) (va_A [] sz)) 0 0 (va_A [] sz) := by
  refine Met.ofW (cc := cX19_isIn) (maxL := 3) (ret := (some .boolean)) (by decide) rfl ?_
  intro p e s m args below meth c s₁ B hml hv
  obtain ⟨rfl, hsz, hP, hK, hD0, hE⟩ := hv
  have hx := B.exec
  have hb := B.bytes
  have hr := B.returns
  have hts := atoms_spec (ws := w_c_M_isIn_hi) B.pre
  have hown : s.vm.findClass RX19 = some m.cls := findClass_of_methodNamed B.named
  have hlocks := B.notSynchronized
  subst hsz
  have hD := hD0.self (sz := s.heap.size)
  generalize hAe : va_A [] s.heap.size = A at hD hE ⊢
  have hA : ∀ q : Nat, s.heap.size ≤ q → A q := fun q h => by rw [← hAe]; exact Or.inr h
  have hS : va_S A s.heap s.heap [] := va_S.rf
  have hP : va_P (dC, dI) vwCl [] s.heap := hP
  have hl := lv_entry ([.int v, .int a, .int b]) (n := 3) (Nat.le_of_ble_eq_true rfl)
  rw [lg_entry_eq]
  generalize (lg_sl ([.int v, .int a, .int b]) ++ List.replicate (3 - (lg_sl ([.int v, .int a, .int b])).length) Slot.unset).toArray = ls at hl ⊢
  have hl : lv_has ls 3 [(0, .int v), (1, .int a), (2, .int b)] := hl
  refine lv_iload_n hx hb dX19_isIn_0 rfl (lv_at hl 0 rfl) ?_
  refine lv_iload_n hx hb dX19_isIn_1 rfl (lv_at hl 1 rfl) ?_
  refine lv_icmp_lt (tgt := 14) hx hb dX19_isIn_2 (by decide) (fun c_1 => ?_) (fun c_1 => ?_)
  · exact absurd c_1 h0
  refine lv_iload_n hx hb dX19_isIn_5 rfl (lv_at hl 0 rfl) ?_
  refine lv_iload_n hx hb dX19_isIn_6 rfl (lv_at hl 2 rfl) ?_
  refine lv_icmp_gt (tgt := 14) hx hb dX19_isIn_7 (by decide) (fun c_2 => ?_) (fun c_2 => ?_)
  rotate_left
  · exact absurd h1 c_2
  refine lv_iconst (v := 0) hx hb dX19_isIn_14 (by decide) ?_
  have hP9 := hP.sub (ws' := []) [] rfl
  have hD9 := hD.sub (ws' := []) [] (by decide) rfl
  have hK9 := hK.sub (tys' := []) [] rfl
  refine W.widen (k := 0) (n := 0) (Nat.le_of_ble_eq_true rfl) (Nat.le_of_ble_eq_true rfl) ?_
  exact W.zret (v := 0) hx hb hr (by first | rfl | decide) (fun t ht hW => ⟨⟨0, (), rfl, rfl, ⟨by rw [ht]; exact hP9, va_K.moved hW.alike hK9, hD9⟩⟩, hS.F ht⟩) hS.2.2 dX19_isIn_15

def wb_c_M_isIn_ok : List Cond := []
def w_c_M_isIn_ok : List Cond := .code yX19_isIn cX19_isIn 3 (some .boolean) :: wb_c_M_isIn_ok
set_option maxHeartbeats 4000000 in
set_option maxRecDepth 100000 in
theorem c_M_isIn_ok (l : Launch) (eD eI : Nat) (ad : Nat → Nat) (dC : Nat → ClassId) (dI : Nat → Nat → Nat) (sz : Nat) (v : Int32) (a : Int32) (b : Int32) (h0 : ¬ v < a) (h1 : ¬ b < v) : Met l yX19_isIn w_c_M_isIn_ok ({ frames := 0, cells := 0, slots := 0, locals := 0 }) (va_Pc [.int v, .int a, .int b] (zPre eD eI ad (dC, dI) [] [] sz)) (va_Qi (fun (r : Int32) (_ : Unit) => r = 1) (fun (_ : Unit) => zEnd (dC, dI) (va_A [] sz) [] []) (va_A [] sz)) 0 0 (va_A [] sz) := by
  refine Met.ofW (cc := cX19_isIn) (maxL := 3) (ret := (some .boolean)) (by decide) rfl ?_
  intro p e s m args below meth c s₁ B hml hv
  obtain ⟨rfl, hsz, hP, hK, hD0, hE⟩ := hv
  have hx := B.exec
  have hb := B.bytes
  have hr := B.returns
  have hts := atoms_spec (ws := w_c_M_isIn_ok) B.pre
  have hown : s.vm.findClass RX19 = some m.cls := findClass_of_methodNamed B.named
  have hlocks := B.notSynchronized
  subst hsz
  have hD := hD0.self (sz := s.heap.size)
  generalize hAe : va_A [] s.heap.size = A at hD hE ⊢
  have hA : ∀ q : Nat, s.heap.size ≤ q → A q := fun q h => by rw [← hAe]; exact Or.inr h
  have hS : va_S A s.heap s.heap [] := va_S.rf
  have hP : va_P (dC, dI) vwCl [] s.heap := hP
  have hl := lv_entry ([.int v, .int a, .int b]) (n := 3) (Nat.le_of_ble_eq_true rfl)
  rw [lg_entry_eq]
  generalize (lg_sl ([.int v, .int a, .int b]) ++ List.replicate (3 - (lg_sl ([.int v, .int a, .int b])).length) Slot.unset).toArray = ls at hl ⊢
  have hl : lv_has ls 3 [(0, .int v), (1, .int a), (2, .int b)] := hl
  refine lv_iload_n hx hb dX19_isIn_0 rfl (lv_at hl 0 rfl) ?_
  refine lv_iload_n hx hb dX19_isIn_1 rfl (lv_at hl 1 rfl) ?_
  refine lv_icmp_lt (tgt := 14) hx hb dX19_isIn_2 (by decide) (fun c_1 => ?_) (fun c_1 => ?_)
  · exact absurd c_1 h0
  refine lv_iload_n hx hb dX19_isIn_5 rfl (lv_at hl 0 rfl) ?_
  refine lv_iload_n hx hb dX19_isIn_6 rfl (lv_at hl 2 rfl) ?_
  refine lv_icmp_gt (tgt := 14) hx hb dX19_isIn_7 (by decide) (fun c_2 => ?_) (fun c_2 => ?_)
  · exact absurd c_2 h1
  refine lv_iconst (v := 1) hx hb dX19_isIn_10 (by decide) ?_
  refine lv_goto (tgt := 15) hx hb dX19_isIn_11 (by decide) ?_
  have hP9 := hP.sub (ws' := []) [] rfl
  have hD9 := hD.sub (ws' := []) [] (by decide) rfl
  have hK9 := hK.sub (tys' := []) [] rfl
  refine W.widen (k := 0) (n := 0) (Nat.le_of_ble_eq_true rfl) (Nat.le_of_ble_eq_true rfl) ?_
  exact W.zret (v := 1) hx hb hr (by first | rfl | decide) (fun t ht hW => ⟨⟨1, (), rfl, rfl, ⟨by rw [ht]; exact hP9, va_K.moved hW.alike hK9, hD9⟩⟩, hS.F ht⟩) hS.2.2 dX19_isIn_15

def wb_c_M_refuse_no : List Cond := [.fieldLink RX19 34 "HornbookModel" "thrown" "I"] ++ u_ws RX19 TX19 5
def w_c_M_refuse_no : List Cond := .code yX19_refuse cX19_refuse 3 (some .boolean) :: wb_c_M_refuse_no
set_option maxHeartbeats 4000000 in
set_option maxRecDepth 100000 in
theorem c_M_refuse_no (l : Launch) (eD eI : Nat) (ad : Nat → Nat) (dC : Nat → ClassId) (dI : Nat → Nat → Nat) (sz : Nat) (mm : Nat) (g1 : Value) (g2 : Value) (g3 : Value) (g4 : Value) (w : Int32) : Met l yX19_refuse w_c_M_refuse_no ({ frames := 0, cells := 0, slots := 0, locals := 0 }) (va_Pc [.ref mm, .int 0, .int w] (zPre eD eI ad (dC, dI) [(mm, .inr (21, [.int 0, g1, g2, g3, g4]))] [] sz)) (va_Qi (fun (r : Int32) (_ : Unit) => r = 0) (fun (_ : Unit) => zEnd (dC, dI) (va_A [(mm, .inr (21, [.int 0, g1, g2, g3, g4]))] sz) [(mm, .inr (21, [.int 0, g1, g2, g3, g4]))] []) (va_A [(mm, .inr (21, [.int 0, g1, g2, g3, g4]))] sz)) 0 0 (va_A [(mm, .inr (21, [.int 0, g1, g2, g3, g4]))] sz) := by
  refine Met.ofW (cc := cX19_refuse) (maxL := 3) (ret := (some .boolean)) (by decide) rfl ?_
  intro p e s m args below meth c s₁ B hml hv
  obtain ⟨rfl, hsz, hP, hK, hD0, hE⟩ := hv
  have hx := B.exec
  have hb := B.bytes
  have hr := B.returns
  have hts := atoms_spec (ws := w_c_M_refuse_no) B.pre
  have hown : s.vm.findClass RX19 = some m.cls := findClass_of_methodNamed B.named
  have hlocks := B.notSynchronized
  subst hsz
  have hD := hD0.self (sz := s.heap.size)
  generalize hAe : va_A [(mm, .inr (21, [.int 0, g1, g2, g3, g4]))] s.heap.size = A at hD hE ⊢
  have hA : ∀ q : Nat, s.heap.size ≤ q → A q := fun q h => by rw [← hAe]; exact Or.inr h
  have hS : va_S A s.heap s.heap [] := va_S.rf
  have hP : va_P (dC, dI) vwCl [(mm, .inr (21, [.int 0, g1, g2, g3, g4]))] s.heap := hP
  have hl := lv_entry ([.ref mm, .int 0, .int w]) (n := 3) (Nat.le_of_ble_eq_true rfl)
  rw [lg_entry_eq]
  generalize (lg_sl ([.ref mm, .int 0, .int w]) ++ List.replicate (3 - (lg_sl ([.ref mm, .int 0, .int w])).length) Slot.unset).toArray = ls at hl ⊢
  have hl : lv_has ls 3 [(0, .ref mm), (1, .int 0), (2, .int w)] := hl
  have in_RX19 : ∀ w ∈ u_ws RX19 TX19 5, w ∈ w_c_M_refuse_no := by decide +kernel
  refine lv_iload_n hx hb dX19_refuse_0 rfl (lv_at hl 1 rfl) ?_
  refine lv_if_eq (tgt := 16) hx hb dX19_refuse_1 (by decide) (fun c_1 => ?_) (fun c_1 => ?_)
  rotate_left
  · exact absurd (by decide) c_1
  refine lv_aload_n hx hb dX19_refuse_16 rfl (lv_at hl 0 rfl) ?_
  refine va_get (D := (dC, dI)) (ci := 21) (v := .int 0) (C := RX19) (T := TX19) (N := 5) hx hb hts in_RX19 hown hK hP 0 rfl rfl 0 (by decide) (hts (.fieldLink RX19 34 "HornbookModel" "thrown" "I") (by decide +kernel)) (fun _ h9 => h9) rfl dX19_refuse_17 ?_
  refine lv_if_le (tgt := 27) hx hb dX19_refuse_20 (by decide) (fun c_2 => ?_) (fun c_2 => ?_)
  rotate_left
  · exact absurd (by decide) c_2
  refine lv_iconst (v := 0) hx hb dX19_refuse_27 (by decide) ?_
  have hP9 := hP.sub (ws' := [(mm, .inr (21, [.int 0, g1, g2, g3, g4]))]) [0] rfl
  have hD9 := hD.sub (ws' := [(mm, .inr (21, [.int 0, g1, g2, g3, g4]))]) [0] (by decide) rfl
  have hK9 := hK.sub (tys' := []) [] rfl
  refine W.widen (k := 0) (n := 0) (Nat.le_of_ble_eq_true rfl) (Nat.le_of_ble_eq_true rfl) ?_
  exact W.zret (v := 0) hx hb hr (by first | rfl | decide) (fun t ht hW => ⟨⟨0, (), rfl, rfl, ⟨by rw [ht]; exact hP9, va_K.moved hW.alike hK9, hD9⟩⟩, hS.F ht⟩) hS.2.2 dX19_refuse_28

def wb_c_M_refuse_yes : List Cond := [.fieldLink RX19 34 "HornbookModel" "thrown" "I"] ++ u_ws RX19 TX19 5
def w_c_M_refuse_yes : List Cond := .code yX19_refuse cX19_refuse 3 (some .boolean) :: wb_c_M_refuse_yes
set_option maxHeartbeats 4000000 in
set_option maxRecDepth 100000 in
theorem c_M_refuse_yes (l : Launch) (eD eI : Nat) (ad : Nat → Nat) (dC : Nat → ClassId) (dI : Nat → Nat → Nat) (sz : Nat) (mm : Nat) (g1 : Value) (g2 : Value) (g3 : Value) (g4 : Value) (w : Int32) (h1 : 0 < w) : Met l yX19_refuse w_c_M_refuse_yes ({ frames := 0, cells := 0, slots := 0, locals := 0 }) (va_Pc [.ref mm, .int 1, .int w] (zPre eD eI ad (dC, dI) [(mm, .inr (21, [.int 0, g1, g2, g3, g4]))] [] sz)) (va_Qi (fun (r : Int32) (_ : Unit) => r = 1) (fun (_ : Unit) => zEnd (dC, dI) (va_A [(mm, .inr (21, [.int 0, g1, g2, g3, g4]))] sz) [(mm, .inr (21, [.int w, g1, g2, g3, g4]))] []) (va_A [(mm, .inr (21, [.int 0, g1, g2, g3, g4]))] sz)) 0 0 (va_A [(mm, .inr (21, [.int 0, g1, g2, g3, g4]))] sz) := by
  refine Met.ofW (cc := cX19_refuse) (maxL := 3) (ret := (some .boolean)) (by decide) rfl ?_
  intro p e s m args below meth c s₁ B hml hv
  obtain ⟨rfl, hsz, hP, hK, hD0, hE⟩ := hv
  have hx := B.exec
  have hb := B.bytes
  have hr := B.returns
  have hts := atoms_spec (ws := w_c_M_refuse_yes) B.pre
  have hown : s.vm.findClass RX19 = some m.cls := findClass_of_methodNamed B.named
  have hlocks := B.notSynchronized
  subst hsz
  have hD := hD0.self (sz := s.heap.size)
  generalize hAe : va_A [(mm, .inr (21, [.int 0, g1, g2, g3, g4]))] s.heap.size = A at hD hE ⊢
  have hA : ∀ q : Nat, s.heap.size ≤ q → A q := fun q h => by rw [← hAe]; exact Or.inr h
  have hS : va_S A s.heap s.heap [] := va_S.rf
  have hP : va_P (dC, dI) vwCl [(mm, .inr (21, [.int 0, g1, g2, g3, g4]))] s.heap := hP
  have hl := lv_entry ([.ref mm, .int 1, .int w]) (n := 3) (Nat.le_of_ble_eq_true rfl)
  rw [lg_entry_eq]
  generalize (lg_sl ([.ref mm, .int 1, .int w]) ++ List.replicate (3 - (lg_sl ([.ref mm, .int 1, .int w])).length) Slot.unset).toArray = ls at hl ⊢
  have hl : lv_has ls 3 [(0, .ref mm), (1, .int 1), (2, .int w)] := hl
  have in_RX19 : ∀ w ∈ u_ws RX19 TX19 5, w ∈ w_c_M_refuse_yes := by decide +kernel
  refine lv_iload_n hx hb dX19_refuse_0 rfl (lv_at hl 1 rfl) ?_
  refine lv_if_eq (tgt := 16) hx hb dX19_refuse_1 (by decide) (fun c_1 => ?_) (fun c_1 => ?_)
  · exact absurd c_1 (by decide)
  refine lv_aload_n hx hb dX19_refuse_4 rfl (lv_at hl 0 rfl) ?_
  refine va_get (D := (dC, dI)) (ci := 21) (v := .int 0) (C := RX19) (T := TX19) (N := 5) hx hb hts in_RX19 hown hK hP 0 rfl rfl 0 (by decide) (hts (.fieldLink RX19 34 "HornbookModel" "thrown" "I") (by decide +kernel)) (fun _ h9 => h9) rfl dX19_refuse_5 ?_
  refine lv_if_ne (tgt := 16) hx hb dX19_refuse_8 (by decide) (fun c_2 => ?_) (fun c_2 => ?_)
  · exact absurd (by decide) c_2
  refine lv_aload_n hx hb dX19_refuse_11 rfl (lv_at hl 0 rfl) ?_
  refine lv_iload_n hx hb dX19_refuse_12 rfl (lv_at hl 2 rfl) ?_
  refine va_put (D := (dC, dI)) (ci := 21) (v := .int w) (ty := .int) (C := RX19) (T := TX19) (N := 5) hx hb hts in_RX19 tyX19 tyX19_ok nmX19 hown hK hP hD hS 0 rfl rfl 0 (by decide) (hts (.fieldLink RX19 34 "HornbookModel" "thrown" "I") (by decide +kernel)) (fun _ h9 => h9) rfl (by decide +kernel) rfl rfl (Nat.le_of_ble_eq_true rfl) dX19_refuse_13 (fun H locs hP hD hS => ?_)
  have hP : va_P (dC, dI) vwCl [(mm, .inr (21, [.int w, g1, g2, g3, g4]))] H := hP
  have hD : va_D A [(mm, .inr (21, [.int w, g1, g2, g3, g4]))] := hD
  refine lv_aload_n hx hb dX19_refuse_16 rfl (lv_at hl 0 rfl) ?_
  refine va_get (D := (dC, dI)) (ci := 21) (v := .int w) (C := RX19) (T := TX19) (N := 5) hx hb hts in_RX19 hown hK hP 0 rfl rfl 0 (by decide) (hts (.fieldLink RX19 34 "HornbookModel" "thrown" "I") (by decide +kernel)) (fun _ h9 => h9) rfl dX19_refuse_17 ?_
  refine lv_if_le (tgt := 27) hx hb dX19_refuse_20 (by decide) (fun c_3 => ?_) (fun c_3 => ?_)
  · exact absurd c_3 ((Int32.not_le.mpr h1))
  refine lv_iconst (v := 1) hx hb dX19_refuse_23 (by decide) ?_
  refine lv_goto (tgt := 28) hx hb dX19_refuse_24 (by decide) ?_
  have hP9 := hP.sub (ws' := [(mm, .inr (21, [.int w, g1, g2, g3, g4]))]) [0] rfl
  have hD9 := hD.sub (ws' := [(mm, .inr (21, [.int w, g1, g2, g3, g4]))]) [0] (by decide) rfl
  have hK9 := hK.sub (tys' := []) [] rfl
  refine W.widen (k := 0) (n := 0) (Nat.le_of_ble_eq_true rfl) (Nat.le_of_ble_eq_true rfl) ?_
  exact W.zret (v := 1) hx hb hr (by first | rfl | decide) (fun t ht hW => ⟨⟨1, (), rfl, rfl, ⟨by rw [ht]; exact hP9, va_K.moved hW.alike hK9, hD9⟩⟩, hS.F ht⟩) hS.2.2 dX19_refuse_28

def wb_c_M_start_no : List Cond := [.fieldLink RX19 34 "HornbookModel" "thrown" "I", .code yX19_refuse cX19_refuse 3 (some .boolean), .methodLink RX19 38 yX19_refuse, .instanceMethod yX19_refuse, .selects RX19 yX19_refuse yX19_refuse, .initialized RX19] ++ u_ws RX19 TX19 5
def w_c_M_start_no : List Cond := .code yX19_start cX19_start 3 (some .boolean) :: wb_c_M_start_no
set_option maxRecDepth 100000 in
theorem g_c_M_start_no_0 : GoodIn w_c_M_start_no (wsV RX19 38 RX19 yX19_refuse w_c_M_refuse_no) := goodIn_app (goodIn_of _ (by decide +kernel)) (goodIn_p (big := w_c_M_start_no) (.code yX19_refuse cX19_refuse 3 (some .boolean) :: wb_c_M_refuse_no) [2] rfl (by decide +kernel))
set_option maxHeartbeats 4000000 in
set_option maxRecDepth 100000 in
theorem c_M_start_no (l : Launch) (eD eI : Nat) (ad : Nat → Nat) (dC : Nat → ClassId) (dI : Nat → Nat → Nat) (sz : Nat) (mm : Nat) (g1 : Value) (g2 : Value) (g3 : Value) (g4 : Value) (w : Int32) (th : Int32) : Met l yX19_start w_c_M_start_no ({ frames := 1, cells := 0, slots := 0, locals := 22 }) (va_Pc [.ref mm, .int 0, .int w] (zPre eD eI ad (dC, dI) [(mm, .inr (21, [.int th, g1, g2, g3, g4]))] [] sz)) (va_Qi (fun (r : Int32) (_ : Unit) => r = 0) (fun (_ : Unit) => zEnd (dC, dI) (va_A [(mm, .inr (21, [.int th, g1, g2, g3, g4]))] sz) [(mm, .inr (21, [.int 0, g1, g2, g3, g4]))] []) (va_A [(mm, .inr (21, [.int th, g1, g2, g3, g4]))] sz)) 0 0 (va_A [(mm, .inr (21, [.int th, g1, g2, g3, g4]))] sz) := by
  refine Met.ofW (cc := cX19_start) (maxL := 3) (ret := (some .boolean)) (by decide) rfl ?_
  intro p e s m args below meth c s₁ B hml hv
  obtain ⟨rfl, hsz, hP, hK, hD0, hE⟩ := hv
  have hx := B.exec
  have hb := B.bytes
  have hr := B.returns
  have hts := atoms_spec (ws := w_c_M_start_no) B.pre
  have hown : s.vm.findClass RX19 = some m.cls := findClass_of_methodNamed B.named
  have hlocks := B.notSynchronized
  subst hsz
  have hD := hD0.self (sz := s.heap.size)
  generalize hAe : va_A [(mm, .inr (21, [.int th, g1, g2, g3, g4]))] s.heap.size = A at hD hE ⊢
  have hA : ∀ q : Nat, s.heap.size ≤ q → A q := fun q h => by rw [← hAe]; exact Or.inr h
  have hS : va_S A s.heap s.heap [] := va_S.rf
  have hP : va_P (dC, dI) vwCl [(mm, .inr (21, [.int th, g1, g2, g3, g4]))] s.heap := hP
  have hl := lv_entry ([.ref mm, .int 0, .int w]) (n := 3) (Nat.le_of_ble_eq_true rfl)
  rw [lg_entry_eq]
  generalize (lg_sl ([.ref mm, .int 0, .int w]) ++ List.replicate (3 - (lg_sl ([.ref mm, .int 0, .int w])).length) Slot.unset).toArray = ls at hl ⊢
  have hl : lv_has ls 3 [(0, .ref mm), (1, .int 0), (2, .int w)] := hl
  have in_RX19 : ∀ w ∈ u_ws RX19 TX19 5, w ∈ w_c_M_start_no := by decide +kernel
  refine lv_aload_n hx hb dX19_start_0 rfl (lv_at hl 0 rfl) ?_
  refine lv_iconst (v := 0) hx hb dX19_start_1 (by decide) ?_
  refine va_put (D := (dC, dI)) (ci := 21) (v := .int 0) (ty := .int) (C := RX19) (T := TX19) (N := 5) hx hb hts in_RX19 tyX19 tyX19_ok nmX19 hown hK hP hD hS 0 rfl rfl 0 (by decide) (hts (.fieldLink RX19 34 "HornbookModel" "thrown" "I") (by decide +kernel)) (fun _ h9 => h9) rfl (by decide +kernel) rfl rfl (Nat.le_of_ble_eq_true rfl) dX19_start_2 (fun H locs hP hD hS => ?_)
  have hP : va_P (dC, dI) vwCl [(mm, .inr (21, [.int 0, g1, g2, g3, g4]))] H := hP
  have hD : va_D A [(mm, .inr (21, [.int 0, g1, g2, g3, g4]))] := hD
  refine lv_aload_n hx hb dX19_start_5 rfl (lv_at hl 0 rfl) ?_
  refine lv_iload_n hx hb dX19_start_6 rfl (lv_at hl 1 rfl) ?_
  refine lv_iload_n hx hb dX19_start_7 rfl (lv_at hl 2 rfl) ?_
  refine z_i (wr := []) (va_runV (As := [.int 0, .int w]) (rest := []) ⟨hx, hb, hml, hown, hts⟩ (c_M_refuse_no l eD eI ad dC dI H.size mm g1 g2 g3 g4 w) (cwV 2 hts g_c_M_start_no_0 rfl rfl rfl (by decide +kernel) ⟨Nat.le_of_ble_eq_true rfl, Nat.le_of_ble_eq_true rfl⟩) (z_preV (wc := [(mm, .inr (21, [.int 0, g1, g2, g3, g4]))]) hP hD hK hS hA hE [0] [] rfl (by decide) rfl (ci := 21) (q0 := 0) rfl rfl) rfl rfl hl.1 rfl (lv_room (Nat.le_of_ble_eq_true rfl)) dX19_start_8 ⟨Nat.le_of_ble_eq_true rfl, Nat.le_of_ble_eq_true rfl⟩) hP hD hK hS hA [0] [] rfl rfl (by decide) (by decide) (fun r_1 u H locs hw_2 hP hD hK hS => ?_)
  obtain ⟨⟩ := u
  have hP : va_P (dC, dI) vwCl [(mm, .inr (21, [.int 0, g1, g2, g3, g4]))] H := hP
  have hD : va_D A [(mm, .inr (21, [.int 0, g1, g2, g3, g4]))] := hD
  have hK : va_K (dC, dI) vwCl [] s := by simpa using hK
  have hw_2 : r_1 = 0 := hw_2
  have hw_2 := hw_2.symm
  subst hw_2
  have hP9 := hP.sub (ws' := [(mm, .inr (21, [.int 0, g1, g2, g3, g4]))]) [0] rfl
  have hD9 := hD.sub (ws' := [(mm, .inr (21, [.int 0, g1, g2, g3, g4]))]) [0] (by decide) rfl
  have hK9 := hK.sub (tys' := []) [] rfl
  refine W.widen (k := 0) (n := 0) (Nat.le_of_ble_eq_true rfl) (Nat.le_of_ble_eq_true rfl) ?_
  exact W.zret (v := 0) hx hb hr (by first | rfl | decide) (fun t ht hW => ⟨⟨0, (), rfl, rfl, ⟨by rw [ht]; exact hP9, va_K.moved hW.alike hK9, hD9⟩⟩, hS.F ht⟩) hS.2.2 dX19_start_11

def wb_c_M_start_yes : List Cond := [.fieldLink RX19 34 "HornbookModel" "thrown" "I", .code yX19_refuse cX19_refuse 3 (some .boolean), .methodLink RX19 38 yX19_refuse, .instanceMethod yX19_refuse, .selects RX19 yX19_refuse yX19_refuse, .initialized RX19] ++ u_ws RX19 TX19 5
def w_c_M_start_yes : List Cond := .code yX19_start cX19_start 3 (some .boolean) :: wb_c_M_start_yes
set_option maxRecDepth 100000 in
theorem g_c_M_start_yes_0 : GoodIn w_c_M_start_yes (wsV RX19 38 RX19 yX19_refuse w_c_M_refuse_yes) := goodIn_app (goodIn_of _ (by decide +kernel)) (goodIn_p (big := w_c_M_start_yes) (.code yX19_refuse cX19_refuse 3 (some .boolean) :: wb_c_M_refuse_yes) [2] rfl (by decide +kernel))
set_option maxHeartbeats 4000000 in
set_option maxRecDepth 100000 in
theorem c_M_start_yes (l : Launch) (eD eI : Nat) (ad : Nat → Nat) (dC : Nat → ClassId) (dI : Nat → Nat → Nat) (sz : Nat) (mm : Nat) (g1 : Value) (g2 : Value) (g3 : Value) (g4 : Value) (w : Int32) (th : Int32) (h1 : 0 < w) : Met l yX19_start w_c_M_start_yes ({ frames := 1, cells := 0, slots := 0, locals := 22 }) (va_Pc [.ref mm, .int 1, .int w] (zPre eD eI ad (dC, dI) [(mm, .inr (21, [.int th, g1, g2, g3, g4]))] [] sz)) (va_Qi (fun (r : Int32) (_ : Unit) => r = 1) (fun (_ : Unit) => zEnd (dC, dI) (va_A [(mm, .inr (21, [.int th, g1, g2, g3, g4]))] sz) [(mm, .inr (21, [.int w, g1, g2, g3, g4]))] []) (va_A [(mm, .inr (21, [.int th, g1, g2, g3, g4]))] sz)) 0 0 (va_A [(mm, .inr (21, [.int th, g1, g2, g3, g4]))] sz) := by
  refine Met.ofW (cc := cX19_start) (maxL := 3) (ret := (some .boolean)) (by decide) rfl ?_
  intro p e s m args below meth c s₁ B hml hv
  obtain ⟨rfl, hsz, hP, hK, hD0, hE⟩ := hv
  have hx := B.exec
  have hb := B.bytes
  have hr := B.returns
  have hts := atoms_spec (ws := w_c_M_start_yes) B.pre
  have hown : s.vm.findClass RX19 = some m.cls := findClass_of_methodNamed B.named
  have hlocks := B.notSynchronized
  subst hsz
  have hD := hD0.self (sz := s.heap.size)
  generalize hAe : va_A [(mm, .inr (21, [.int th, g1, g2, g3, g4]))] s.heap.size = A at hD hE ⊢
  have hA : ∀ q : Nat, s.heap.size ≤ q → A q := fun q h => by rw [← hAe]; exact Or.inr h
  have hS : va_S A s.heap s.heap [] := va_S.rf
  have hP : va_P (dC, dI) vwCl [(mm, .inr (21, [.int th, g1, g2, g3, g4]))] s.heap := hP
  have hl := lv_entry ([.ref mm, .int 1, .int w]) (n := 3) (Nat.le_of_ble_eq_true rfl)
  rw [lg_entry_eq]
  generalize (lg_sl ([.ref mm, .int 1, .int w]) ++ List.replicate (3 - (lg_sl ([.ref mm, .int 1, .int w])).length) Slot.unset).toArray = ls at hl ⊢
  have hl : lv_has ls 3 [(0, .ref mm), (1, .int 1), (2, .int w)] := hl
  have in_RX19 : ∀ w ∈ u_ws RX19 TX19 5, w ∈ w_c_M_start_yes := by decide +kernel
  refine lv_aload_n hx hb dX19_start_0 rfl (lv_at hl 0 rfl) ?_
  refine lv_iconst (v := 0) hx hb dX19_start_1 (by decide) ?_
  refine va_put (D := (dC, dI)) (ci := 21) (v := .int 0) (ty := .int) (C := RX19) (T := TX19) (N := 5) hx hb hts in_RX19 tyX19 tyX19_ok nmX19 hown hK hP hD hS 0 rfl rfl 0 (by decide) (hts (.fieldLink RX19 34 "HornbookModel" "thrown" "I") (by decide +kernel)) (fun _ h9 => h9) rfl (by decide +kernel) rfl rfl (Nat.le_of_ble_eq_true rfl) dX19_start_2 (fun H locs hP hD hS => ?_)
  have hP : va_P (dC, dI) vwCl [(mm, .inr (21, [.int 0, g1, g2, g3, g4]))] H := hP
  have hD : va_D A [(mm, .inr (21, [.int 0, g1, g2, g3, g4]))] := hD
  refine lv_aload_n hx hb dX19_start_5 rfl (lv_at hl 0 rfl) ?_
  refine lv_iload_n hx hb dX19_start_6 rfl (lv_at hl 1 rfl) ?_
  refine lv_iload_n hx hb dX19_start_7 rfl (lv_at hl 2 rfl) ?_
  refine z_i (wr := []) (va_runV (As := [.int 1, .int w]) (rest := []) ⟨hx, hb, hml, hown, hts⟩ (c_M_refuse_yes l eD eI ad dC dI H.size mm g1 g2 g3 g4 w (h1)) (cwV 2 hts g_c_M_start_yes_0 rfl rfl rfl (by decide +kernel) ⟨Nat.le_of_ble_eq_true rfl, Nat.le_of_ble_eq_true rfl⟩) (z_preV (wc := [(mm, .inr (21, [.int 0, g1, g2, g3, g4]))]) hP hD hK hS hA hE [0] [] rfl (by decide) rfl (ci := 21) (q0 := 0) rfl rfl) rfl rfl hl.1 rfl (lv_room (Nat.le_of_ble_eq_true rfl)) dX19_start_8 ⟨Nat.le_of_ble_eq_true rfl, Nat.le_of_ble_eq_true rfl⟩) hP hD hK hS hA [0] [] rfl rfl (by decide) (by decide) (fun r_1 u H locs hw_2 hP hD hK hS => ?_)
  obtain ⟨⟩ := u
  have hP : va_P (dC, dI) vwCl [(mm, .inr (21, [.int w, g1, g2, g3, g4]))] H := hP
  have hD : va_D A [(mm, .inr (21, [.int w, g1, g2, g3, g4]))] := hD
  have hK : va_K (dC, dI) vwCl [] s := by simpa using hK
  have hw_2 : r_1 = 1 := hw_2
  have hw_2 := hw_2.symm
  subst hw_2
  have hP9 := hP.sub (ws' := [(mm, .inr (21, [.int w, g1, g2, g3, g4]))]) [0] rfl
  have hD9 := hD.sub (ws' := [(mm, .inr (21, [.int w, g1, g2, g3, g4]))]) [0] (by decide) rfl
  have hK9 := hK.sub (tys' := []) [] rfl
  refine W.widen (k := 0) (n := 0) (Nat.le_of_ble_eq_true rfl) (Nat.le_of_ble_eq_true rfl) ?_
  exact W.zret (v := 1) hx hb hr (by first | rfl | decide) (fun t ht hW => ⟨⟨1, (), rfl, rfl, ⟨by rw [ht]; exact hP9, va_K.moved hW.alike hK9, hD9⟩⟩, hS.F ht⟩) hS.2.2 dX19_start_11

def wb_c_M_plain : List Cond := [.fieldLink RX19 34 "HornbookModel" "thrown" "I"] ++ u_ws RX19 TX19 5
def w_c_M_plain : List Cond := .code yX19_plain cX19_plain 2 (some .int) :: wb_c_M_plain
set_option maxHeartbeats 4000000 in
set_option maxRecDepth 100000 in
theorem c_M_plain (l : Launch) (eD eI : Nat) (ad : Nat → Nat) (dC : Nat → ClassId) (dI : Nat → Nat → Nat) (sz : Nat) (mm : Nat) (g1 : Value) (g2 : Value) (g3 : Value) (g4 : Value) (w : Int32) (th : Int32) : Met l yX19_plain w_c_M_plain ({ frames := 0, cells := 0, slots := 0, locals := 0 }) (va_Pc [.ref mm, .int w] (zPre eD eI ad (dC, dI) [(mm, .inr (21, [.int th, g1, g2, g3, g4]))] [] sz)) (va_Qi (fun (r : Int32) (_ : Unit) => r = w) (fun (_ : Unit) => zEnd (dC, dI) (va_A [(mm, .inr (21, [.int th, g1, g2, g3, g4]))] sz) [(mm, .inr (21, [.int 0, g1, g2, g3, g4]))] []) (va_A [(mm, .inr (21, [.int th, g1, g2, g3, g4]))] sz)) 0 0 (va_A [(mm, .inr (21, [.int th, g1, g2, g3, g4]))] sz) := by
  refine Met.ofW (cc := cX19_plain) (maxL := 2) (ret := (some .int)) (by decide) rfl ?_
  intro p e s m args below meth c s₁ B hml hv
  obtain ⟨rfl, hsz, hP, hK, hD0, hE⟩ := hv
  have hx := B.exec
  have hb := B.bytes
  have hr := B.returns
  have hts := atoms_spec (ws := w_c_M_plain) B.pre
  have hown : s.vm.findClass RX19 = some m.cls := findClass_of_methodNamed B.named
  have hlocks := B.notSynchronized
  subst hsz
  have hD := hD0.self (sz := s.heap.size)
  generalize hAe : va_A [(mm, .inr (21, [.int th, g1, g2, g3, g4]))] s.heap.size = A at hD hE ⊢
  have hA : ∀ q : Nat, s.heap.size ≤ q → A q := fun q h => by rw [← hAe]; exact Or.inr h
  have hS : va_S A s.heap s.heap [] := va_S.rf
  have hP : va_P (dC, dI) vwCl [(mm, .inr (21, [.int th, g1, g2, g3, g4]))] s.heap := hP
  have hl := lv_entry ([.ref mm, .int w]) (n := 2) (Nat.le_of_ble_eq_true rfl)
  rw [lg_entry_eq]
  generalize (lg_sl ([.ref mm, .int w]) ++ List.replicate (2 - (lg_sl ([.ref mm, .int w])).length) Slot.unset).toArray = ls at hl ⊢
  have hl : lv_has ls 2 [(0, .ref mm), (1, .int w)] := hl
  have in_RX19 : ∀ w ∈ u_ws RX19 TX19 5, w ∈ w_c_M_plain := by decide +kernel
  refine lv_aload_n hx hb dX19_plain_0 rfl (lv_at hl 0 rfl) ?_
  refine lv_iconst (v := 0) hx hb dX19_plain_1 (by decide) ?_
  refine va_put (D := (dC, dI)) (ci := 21) (v := .int 0) (ty := .int) (C := RX19) (T := TX19) (N := 5) hx hb hts in_RX19 tyX19 tyX19_ok nmX19 hown hK hP hD hS 0 rfl rfl 0 (by decide) (hts (.fieldLink RX19 34 "HornbookModel" "thrown" "I") (by decide +kernel)) (fun _ h9 => h9) rfl (by decide +kernel) rfl rfl (Nat.le_of_ble_eq_true rfl) dX19_plain_2 (fun H locs hP hD hS => ?_)
  have hP : va_P (dC, dI) vwCl [(mm, .inr (21, [.int 0, g1, g2, g3, g4]))] H := hP
  have hD : va_D A [(mm, .inr (21, [.int 0, g1, g2, g3, g4]))] := hD
  refine lv_iload_n hx hb dX19_plain_5 rfl (lv_at hl 1 rfl) ?_
  have hP9 := hP.sub (ws' := [(mm, .inr (21, [.int 0, g1, g2, g3, g4]))]) [0] rfl
  have hD9 := hD.sub (ws' := [(mm, .inr (21, [.int 0, g1, g2, g3, g4]))]) [0] (by decide) rfl
  have hK9 := hK.sub (tys' := []) [] rfl
  refine W.widen (k := 0) (n := 0) (Nat.le_of_ble_eq_true rfl) (Nat.le_of_ble_eq_true rfl) ?_
  exact W.iret (v := w) hx hb hr (fun t ht hW => ⟨⟨w, (), rfl, rfl, ⟨by rw [ht]; exact hP9, va_K.moved hW.alike hK9, hD9⟩⟩, hS.F ht⟩) hS.2.2 dX19_plain_6

def wb_c_M_thrown : List Cond := [.fieldLink RX19 34 "HornbookModel" "thrown" "I"] ++ u_ws RX19 TX19 5
def w_c_M_thrown : List Cond := .code yX19_thrown cX19_thrown 1 (some .int) :: wb_c_M_thrown
set_option maxHeartbeats 4000000 in
set_option maxRecDepth 100000 in
theorem c_M_thrown (l : Launch) (eD eI : Nat) (ad : Nat → Nat) (dC : Nat → ClassId) (dI : Nat → Nat → Nat) (sz : Nat) (mm : Nat) (g1 : Value) (g2 : Value) (g3 : Value) (g4 : Value) (th : Int32) : Met l yX19_thrown w_c_M_thrown ({ frames := 0, cells := 0, slots := 0, locals := 0 }) (va_Pc [.ref mm] (zPre eD eI ad (dC, dI) [(mm, .inr (21, [.int th, g1, g2, g3, g4]))] [] sz)) (va_Qi (fun (r : Int32) (_ : Unit) => r = th) (fun (_ : Unit) => zEnd (dC, dI) (va_A [(mm, .inr (21, [.int th, g1, g2, g3, g4]))] sz) [(mm, .inr (21, [.int th, g1, g2, g3, g4]))] []) (va_A [(mm, .inr (21, [.int th, g1, g2, g3, g4]))] sz)) 0 0 (va_A [(mm, .inr (21, [.int th, g1, g2, g3, g4]))] sz) := by
  refine Met.ofW (cc := cX19_thrown) (maxL := 1) (ret := (some .int)) (by decide) rfl ?_
  intro p e s m args below meth c s₁ B hml hv
  obtain ⟨rfl, hsz, hP, hK, hD0, hE⟩ := hv
  have hx := B.exec
  have hb := B.bytes
  have hr := B.returns
  have hts := atoms_spec (ws := w_c_M_thrown) B.pre
  have hown : s.vm.findClass RX19 = some m.cls := findClass_of_methodNamed B.named
  have hlocks := B.notSynchronized
  subst hsz
  have hD := hD0.self (sz := s.heap.size)
  generalize hAe : va_A [(mm, .inr (21, [.int th, g1, g2, g3, g4]))] s.heap.size = A at hD hE ⊢
  have hA : ∀ q : Nat, s.heap.size ≤ q → A q := fun q h => by rw [← hAe]; exact Or.inr h
  have hS : va_S A s.heap s.heap [] := va_S.rf
  have hP : va_P (dC, dI) vwCl [(mm, .inr (21, [.int th, g1, g2, g3, g4]))] s.heap := hP
  have hl := lv_entry ([.ref mm]) (n := 1) (Nat.le_of_ble_eq_true rfl)
  rw [lg_entry_eq]
  generalize (lg_sl ([.ref mm]) ++ List.replicate (1 - (lg_sl ([.ref mm])).length) Slot.unset).toArray = ls at hl ⊢
  have hl : lv_has ls 1 [(0, .ref mm)] := hl
  have in_RX19 : ∀ w ∈ u_ws RX19 TX19 5, w ∈ w_c_M_thrown := by decide +kernel
  refine lv_aload_n hx hb dX19_thrown_0 rfl (lv_at hl 0 rfl) ?_
  refine va_get (D := (dC, dI)) (ci := 21) (v := .int th) (C := RX19) (T := TX19) (N := 5) hx hb hts in_RX19 hown hK hP 0 rfl rfl 0 (by decide) (hts (.fieldLink RX19 34 "HornbookModel" "thrown" "I") (by decide +kernel)) (fun _ h9 => h9) rfl dX19_thrown_1 ?_
  have hP9 := hP.sub (ws' := [(mm, .inr (21, [.int th, g1, g2, g3, g4]))]) [0] rfl
  have hD9 := hD.sub (ws' := [(mm, .inr (21, [.int th, g1, g2, g3, g4]))]) [0] (by decide) rfl
  have hK9 := hK.sub (tys' := []) [] rfl
  refine W.widen (k := 0) (n := 0) (Nat.le_of_ble_eq_true rfl) (Nat.le_of_ble_eq_true rfl) ?_
  exact W.iret (v := th) hx hb hr (fun t ht hW => ⟨⟨th, (), rfl, rfl, ⟨by rw [ht]; exact hP9, va_K.moved hW.alike hK9, hD9⟩⟩, hS.F ht⟩) hS.2.2 dX19_thrown_4

def wb_c_M_isNoType_lo : List Cond := [.fieldLink RX19 16 "HornbookModel" "types" "Ljava/util/ArrayList;", .code yJx4a65c_size_8abf5 cJx4a65c_size_8abf5 1 (some .int), .fieldLink RJx4a65c 48 "java/util/ArrayList" "size" "I", .methodLink RX19 47 yJx4a65c_size_8abf5, .instanceMethod yJx4a65c_size_8abf5, .selects RJx4a65c yJx4a65c_size_8abf5 yJx4a65c_size_8abf5, .initialized RJx4a65c, .code yX19_isIn cX19_isIn 3 (some .boolean), .methodLink RX19 51 yX19_isIn, .static yX19_isIn, .initialized RX19] ++ u_ws RJx4a65c TJx4a65c 3 ++ u_ws RX19 TX19 5
def w_c_M_isNoType_lo : List Cond := .code yX19_isNoType cX19_isNoType 2 (some .boolean) :: wb_c_M_isNoType_lo
set_option maxRecDepth 100000 in
theorem g_c_M_isNoType_lo_0 : GoodIn w_c_M_isNoType_lo (wsV RX19 47 RJx4a65c yJx4a65c_size_8abf5 w_c_AL_size) := goodIn_app (goodIn_of _ (by decide +kernel)) (goodIn_p (big := w_c_M_isNoType_lo) (.code yJx4a65c_size_8abf5 cJx4a65c_size_8abf5 1 (some .int) :: wb_c_AL_size) [2] rfl (by decide +kernel))
set_option maxRecDepth 100000 in
theorem g_c_M_isNoType_lo_1 : GoodIn w_c_M_isNoType_lo (va_wsS RX19 51 yX19_isIn w_c_M_isIn_lo) := goodIn_app (goodIn_of _ (by decide +kernel)) (goodIn_p (big := w_c_M_isNoType_lo) (.code yX19_isIn cX19_isIn 3 (some .boolean) :: wb_c_M_isIn_lo) [8] rfl (by decide +kernel))
set_option maxHeartbeats 4000000 in
set_option maxRecDepth 100000 in
theorem c_M_isNoType_lo (l : Launch) (eD eI : Nat) (ad : Nat → Nat) (dC : Nat → ClassId) (dI : Nat → Nat → Nat) (sz : Nat) (mm : Nat) (ms : Nat) (mt : Nat) (mh : Nat) (me : Nat) (th : Int32) (f0 : Value) (f1 : Value) (tt : Int32) (htt1 : tt < 0) : Met l yX19_isNoType w_c_M_isNoType_lo ({ frames := 1, cells := 0, slots := 0, locals := 22 }) (va_Pc [.ref mm, .int tt] (zPre eD eI ad (dC, dI) [(mm, .inr (21, [.int th, .ref ms, .ref mt, .ref mh, .ref me])), (mt, .inr (1, [f0, f1, .int 3]))] [] sz)) (va_Qi (fun (r : Int32) (_ : Unit) => r = 1) (fun (_ : Unit) => zEnd (dC, dI) (va_A [(mm, .inr (21, [.int th, .ref ms, .ref mt, .ref mh, .ref me])), (mt, .inr (1, [f0, f1, .int 3]))] sz) [(mm, .inr (21, [.int th, .ref ms, .ref mt, .ref mh, .ref me])), (mt, .inr (1, [f0, f1, .int 3]))] []) (va_A [(mm, .inr (21, [.int th, .ref ms, .ref mt, .ref mh, .ref me])), (mt, .inr (1, [f0, f1, .int 3]))] sz)) 0 0 (va_A [(mm, .inr (21, [.int th, .ref ms, .ref mt, .ref mh, .ref me])), (mt, .inr (1, [f0, f1, .int 3]))] sz) := by
  refine Met.ofW (cc := cX19_isNoType) (maxL := 2) (ret := (some .boolean)) (by decide) rfl ?_
  intro p e s m args below meth c s₁ B hml hv
  obtain ⟨rfl, hsz, hP, hK, hD0, hE⟩ := hv
  have hx := B.exec
  have hb := B.bytes
  have hr := B.returns
  have hts := atoms_spec (ws := w_c_M_isNoType_lo) B.pre
  have hown : s.vm.findClass RX19 = some m.cls := findClass_of_methodNamed B.named
  have hlocks := B.notSynchronized
  subst hsz
  have hD := hD0.self (sz := s.heap.size)
  generalize hAe : va_A [(mm, .inr (21, [.int th, .ref ms, .ref mt, .ref mh, .ref me])), (mt, .inr (1, [f0, f1, .int 3]))] s.heap.size = A at hD hE ⊢
  have hA : ∀ q : Nat, s.heap.size ≤ q → A q := fun q h => by rw [← hAe]; exact Or.inr h
  have hS : va_S A s.heap s.heap [] := va_S.rf
  have hP : va_P (dC, dI) vwCl [(mm, .inr (21, [.int th, .ref ms, .ref mt, .ref mh, .ref me])), (mt, .inr (1, [f0, f1, .int 3]))] s.heap := hP
  have hl := lv_entry ([.ref mm, .int tt]) (n := 2) (Nat.le_of_ble_eq_true rfl)
  rw [lg_entry_eq]
  generalize (lg_sl ([.ref mm, .int tt]) ++ List.replicate (2 - (lg_sl ([.ref mm, .int tt])).length) Slot.unset).toArray = ls at hl ⊢
  have hl : lv_has ls 2 [(0, .ref mm), (1, .int tt)] := hl
  have in_RJx4a65c : ∀ w ∈ u_ws RJx4a65c TJx4a65c 3, w ∈ w_c_M_isNoType_lo := by decide +kernel
  have in_RX19 : ∀ w ∈ u_ws RX19 TX19 5, w ∈ w_c_M_isNoType_lo := by decide +kernel
  refine lv_iload_n hx hb dX19_isNoType_0 rfl (lv_at hl 1 rfl) ?_
  refine lv_iconst (v := 0) hx hb dX19_isNoType_1 (by decide) ?_
  refine lv_aload_n hx hb dX19_isNoType_2 rfl (lv_at hl 0 rfl) ?_
  refine va_get (D := (dC, dI)) (ci := 21) (v := .ref mt) (C := RX19) (T := TX19) (N := 5) hx hb hts in_RX19 hown hK hP 0 rfl rfl 2 (by decide) (hts (.fieldLink RX19 16 "HornbookModel" "types" "Ljava/util/ArrayList;") (by decide +kernel)) (fun _ h9 => h9) rfl dX19_isNoType_3 ?_
  refine z_i (wr := [(mm, .inr (21, [.int th, .ref ms, .ref mt, .ref mh, .ref me]))]) (va_runV (As := []) (rest := [.int 0, .int tt]) ⟨hx, hb, hml, hown, hts⟩ (c_AL_size l eD eI ad dC dI s.heap.size mt f0 f1 3) (cwV 0 hts g_c_M_isNoType_lo_0 rfl rfl rfl (by decide +kernel) ⟨Nat.le_of_ble_eq_true rfl, Nat.le_of_ble_eq_true rfl⟩) (z_preV (wc := [(mt, .inr (1, [f0, f1, .int 3]))]) hP hD hK hS hA hE [1] [] rfl (by decide) rfl (ci := 1) (q0 := 0) rfl rfl) rfl rfl hl.1 rfl (lv_room (Nat.le_of_ble_eq_true rfl)) dX19_isNoType_6 ⟨Nat.le_of_ble_eq_true rfl, Nat.le_of_ble_eq_true rfl⟩) hP hD hK hS hA [1] [0] rfl rfl (by decide) (by decide) (fun r_1 u H locs hw_2 hP hD hK hS => ?_)
  obtain ⟨⟩ := u
  have hP : va_P (dC, dI) vwCl [(mm, .inr (21, [.int th, .ref ms, .ref mt, .ref mh, .ref me])), (mt, .inr (1, [f0, f1, .int 3]))] H := hP
  have hD : va_D A [(mm, .inr (21, [.int th, .ref ms, .ref mt, .ref mh, .ref me])), (mt, .inr (1, [f0, f1, .int 3]))] := hD
  have hK : va_K (dC, dI) vwCl [] s := by simpa using hK
  have hw_2 : r_1 = 3 := hw_2
  have hw_2 := hw_2.symm
  subst hw_2
  refine lv_iconst (v := 1) hx hb dX19_isNoType_9 (by decide) ?_
  refine lv_isub hx hb dX19_isNoType_10 ?_
  refine z_top (v' := .int 2) (congrArg Value.int (by decide)) ?_
  refine z_i (wr := [(mm, .inr (21, [.int th, .ref ms, .ref mt, .ref mh, .ref me])), (mt, .inr (1, [f0, f1, .int 3]))]) (va_runS (As := [.int tt, .int 0, .int 2]) (rest := []) ⟨hx, hb, hml, hown, hts⟩ (c_M_isIn_lo l eD eI ad dC dI H.size tt 0 2 (htt1)) (va_cwS 3 hts g_c_M_isNoType_lo_1 rfl rfl rfl (by decide +kernel) ⟨Nat.le_of_ble_eq_true rfl, Nat.le_of_ble_eq_true rfl⟩) (z_preS (wc := []) hP hD hK hS hA hE [] [] rfl (by decide) rfl) rfl rfl hl.1 rfl (lv_room (Nat.le_of_ble_eq_true rfl)) dX19_isNoType_11 ⟨Nat.le_of_ble_eq_true rfl, Nat.le_of_ble_eq_true rfl⟩) hP hD hK hS hA [] [0, 1] rfl rfl (by decide) (by decide) (fun r_3 u H locs hw_4 hP hD hK hS => ?_)
  obtain ⟨⟩ := u
  have hP : va_P (dC, dI) vwCl [(mm, .inr (21, [.int th, .ref ms, .ref mt, .ref mh, .ref me])), (mt, .inr (1, [f0, f1, .int 3]))] H := hP
  have hD : va_D A [(mm, .inr (21, [.int th, .ref ms, .ref mt, .ref mh, .ref me])), (mt, .inr (1, [f0, f1, .int 3]))] := hD
  have hK : va_K (dC, dI) vwCl [] s := by simpa using hK
  have hw_4 : r_3 = 0 := hw_4
  have hw_4 := hw_4.symm
  subst hw_4
  refine lv_if_ne (tgt := 21) hx hb dX19_isNoType_14 (by decide) (fun c_5 => ?_) (fun c_5 => ?_)
  · exact absurd (by decide) c_5
  refine lv_iconst (v := 1) hx hb dX19_isNoType_17 (by decide) ?_
  refine lv_goto (tgt := 22) hx hb dX19_isNoType_18 (by decide) ?_
  have hP9 := hP.sub (ws' := [(mm, .inr (21, [.int th, .ref ms, .ref mt, .ref mh, .ref me])), (mt, .inr (1, [f0, f1, .int 3]))]) [0, 1] rfl
  have hD9 := hD.sub (ws' := [(mm, .inr (21, [.int th, .ref ms, .ref mt, .ref mh, .ref me])), (mt, .inr (1, [f0, f1, .int 3]))]) [0, 1] (by decide) rfl
  have hK9 := hK.sub (tys' := []) [] rfl
  refine W.widen (k := 0) (n := 0) (Nat.le_of_ble_eq_true rfl) (Nat.le_of_ble_eq_true rfl) ?_
  exact W.zret (v := 1) hx hb hr (by first | rfl | decide) (fun t ht hW => ⟨⟨1, (), rfl, rfl, ⟨by rw [ht]; exact hP9, va_K.moved hW.alike hK9, hD9⟩⟩, hS.F ht⟩) hS.2.2 dX19_isNoType_22

def wb_c_M_isNoType_hi : List Cond := [.fieldLink RX19 16 "HornbookModel" "types" "Ljava/util/ArrayList;", .code yJx4a65c_size_8abf5 cJx4a65c_size_8abf5 1 (some .int), .fieldLink RJx4a65c 48 "java/util/ArrayList" "size" "I", .methodLink RX19 47 yJx4a65c_size_8abf5, .instanceMethod yJx4a65c_size_8abf5, .selects RJx4a65c yJx4a65c_size_8abf5 yJx4a65c_size_8abf5, .initialized RJx4a65c, .code yX19_isIn cX19_isIn 3 (some .boolean), .methodLink RX19 51 yX19_isIn, .static yX19_isIn, .initialized RX19] ++ u_ws RJx4a65c TJx4a65c 3 ++ u_ws RX19 TX19 5
def w_c_M_isNoType_hi : List Cond := .code yX19_isNoType cX19_isNoType 2 (some .boolean) :: wb_c_M_isNoType_hi
set_option maxRecDepth 100000 in
theorem g_c_M_isNoType_hi_0 : GoodIn w_c_M_isNoType_hi (wsV RX19 47 RJx4a65c yJx4a65c_size_8abf5 w_c_AL_size) := goodIn_app (goodIn_of _ (by decide +kernel)) (goodIn_p (big := w_c_M_isNoType_hi) (.code yJx4a65c_size_8abf5 cJx4a65c_size_8abf5 1 (some .int) :: wb_c_AL_size) [2] rfl (by decide +kernel))
set_option maxRecDepth 100000 in
theorem g_c_M_isNoType_hi_1 : GoodIn w_c_M_isNoType_hi (va_wsS RX19 51 yX19_isIn w_c_M_isIn_hi) := goodIn_app (goodIn_of _ (by decide +kernel)) (goodIn_p (big := w_c_M_isNoType_hi) (.code yX19_isIn cX19_isIn 3 (some .boolean) :: wb_c_M_isIn_hi) [8] rfl (by decide +kernel))
set_option maxHeartbeats 4000000 in
set_option maxRecDepth 100000 in
theorem c_M_isNoType_hi (l : Launch) (eD eI : Nat) (ad : Nat → Nat) (dC : Nat → ClassId) (dI : Nat → Nat → Nat) (sz : Nat) (mm : Nat) (ms : Nat) (mt : Nat) (mh : Nat) (me : Nat) (th : Int32) (f0 : Value) (f1 : Value) (tt : Int32) (htt0 : ¬ tt < 0) (htt1 : 2 < tt) : Met l yX19_isNoType w_c_M_isNoType_hi ({ frames := 1, cells := 0, slots := 0, locals := 22 }) (va_Pc [.ref mm, .int tt] (zPre eD eI ad (dC, dI) [(mm, .inr (21, [.int th, .ref ms, .ref mt, .ref mh, .ref me])), (mt, .inr (1, [f0, f1, .int 3]))] [] sz)) (va_Qi (fun (r : Int32) (_ : Unit) => r = 1) (fun (_ : Unit) => zEnd (dC, dI) (va_A [(mm, .inr (21, [.int th, .ref ms, .ref mt, .ref mh, .ref me])), (mt, .inr (1, [f0, f1, .int 3]))] sz) [(mm, .inr (21, [.int th, .ref ms, .ref mt, .ref mh, .ref me])), (mt, .inr (1, [f0, f1, .int 3]))] []) (va_A [(mm, .inr (21, [.int th, .ref ms, .ref mt, .ref mh, .ref me])), (mt, .inr (1, [f0, f1, .int 3]))] sz)) 0 0 (va_A [(mm, .inr (21, [.int th, .ref ms, .ref mt, .ref mh, .ref me])), (mt, .inr (1, [f0, f1, .int 3]))] sz) := by
  refine Met.ofW (cc := cX19_isNoType) (maxL := 2) (ret := (some .boolean)) (by decide) rfl ?_
  intro p e s m args below meth c s₁ B hml hv
  obtain ⟨rfl, hsz, hP, hK, hD0, hE⟩ := hv
  have hx := B.exec
  have hb := B.bytes
  have hr := B.returns
  have hts := atoms_spec (ws := w_c_M_isNoType_hi) B.pre
  have hown : s.vm.findClass RX19 = some m.cls := findClass_of_methodNamed B.named
  have hlocks := B.notSynchronized
  subst hsz
  have hD := hD0.self (sz := s.heap.size)
  generalize hAe : va_A [(mm, .inr (21, [.int th, .ref ms, .ref mt, .ref mh, .ref me])), (mt, .inr (1, [f0, f1, .int 3]))] s.heap.size = A at hD hE ⊢
  have hA : ∀ q : Nat, s.heap.size ≤ q → A q := fun q h => by rw [← hAe]; exact Or.inr h
  have hS : va_S A s.heap s.heap [] := va_S.rf
  have hP : va_P (dC, dI) vwCl [(mm, .inr (21, [.int th, .ref ms, .ref mt, .ref mh, .ref me])), (mt, .inr (1, [f0, f1, .int 3]))] s.heap := hP
  have hl := lv_entry ([.ref mm, .int tt]) (n := 2) (Nat.le_of_ble_eq_true rfl)
  rw [lg_entry_eq]
  generalize (lg_sl ([.ref mm, .int tt]) ++ List.replicate (2 - (lg_sl ([.ref mm, .int tt])).length) Slot.unset).toArray = ls at hl ⊢
  have hl : lv_has ls 2 [(0, .ref mm), (1, .int tt)] := hl
  have in_RJx4a65c : ∀ w ∈ u_ws RJx4a65c TJx4a65c 3, w ∈ w_c_M_isNoType_hi := by decide +kernel
  have in_RX19 : ∀ w ∈ u_ws RX19 TX19 5, w ∈ w_c_M_isNoType_hi := by decide +kernel
  refine lv_iload_n hx hb dX19_isNoType_0 rfl (lv_at hl 1 rfl) ?_
  refine lv_iconst (v := 0) hx hb dX19_isNoType_1 (by decide) ?_
  refine lv_aload_n hx hb dX19_isNoType_2 rfl (lv_at hl 0 rfl) ?_
  refine va_get (D := (dC, dI)) (ci := 21) (v := .ref mt) (C := RX19) (T := TX19) (N := 5) hx hb hts in_RX19 hown hK hP 0 rfl rfl 2 (by decide) (hts (.fieldLink RX19 16 "HornbookModel" "types" "Ljava/util/ArrayList;") (by decide +kernel)) (fun _ h9 => h9) rfl dX19_isNoType_3 ?_
  refine z_i (wr := [(mm, .inr (21, [.int th, .ref ms, .ref mt, .ref mh, .ref me]))]) (va_runV (As := []) (rest := [.int 0, .int tt]) ⟨hx, hb, hml, hown, hts⟩ (c_AL_size l eD eI ad dC dI s.heap.size mt f0 f1 3) (cwV 0 hts g_c_M_isNoType_hi_0 rfl rfl rfl (by decide +kernel) ⟨Nat.le_of_ble_eq_true rfl, Nat.le_of_ble_eq_true rfl⟩) (z_preV (wc := [(mt, .inr (1, [f0, f1, .int 3]))]) hP hD hK hS hA hE [1] [] rfl (by decide) rfl (ci := 1) (q0 := 0) rfl rfl) rfl rfl hl.1 rfl (lv_room (Nat.le_of_ble_eq_true rfl)) dX19_isNoType_6 ⟨Nat.le_of_ble_eq_true rfl, Nat.le_of_ble_eq_true rfl⟩) hP hD hK hS hA [1] [0] rfl rfl (by decide) (by decide) (fun r_1 u H locs hw_2 hP hD hK hS => ?_)
  obtain ⟨⟩ := u
  have hP : va_P (dC, dI) vwCl [(mm, .inr (21, [.int th, .ref ms, .ref mt, .ref mh, .ref me])), (mt, .inr (1, [f0, f1, .int 3]))] H := hP
  have hD : va_D A [(mm, .inr (21, [.int th, .ref ms, .ref mt, .ref mh, .ref me])), (mt, .inr (1, [f0, f1, .int 3]))] := hD
  have hK : va_K (dC, dI) vwCl [] s := by simpa using hK
  have hw_2 : r_1 = 3 := hw_2
  have hw_2 := hw_2.symm
  subst hw_2
  refine lv_iconst (v := 1) hx hb dX19_isNoType_9 (by decide) ?_
  refine lv_isub hx hb dX19_isNoType_10 ?_
  refine z_top (v' := .int 2) (congrArg Value.int (by decide)) ?_
  refine z_i (wr := [(mm, .inr (21, [.int th, .ref ms, .ref mt, .ref mh, .ref me])), (mt, .inr (1, [f0, f1, .int 3]))]) (va_runS (As := [.int tt, .int 0, .int 2]) (rest := []) ⟨hx, hb, hml, hown, hts⟩ (c_M_isIn_hi l eD eI ad dC dI H.size tt 0 2 (htt0) (htt1)) (va_cwS 3 hts g_c_M_isNoType_hi_1 rfl rfl rfl (by decide +kernel) ⟨Nat.le_of_ble_eq_true rfl, Nat.le_of_ble_eq_true rfl⟩) (z_preS (wc := []) hP hD hK hS hA hE [] [] rfl (by decide) rfl) rfl rfl hl.1 rfl (lv_room (Nat.le_of_ble_eq_true rfl)) dX19_isNoType_11 ⟨Nat.le_of_ble_eq_true rfl, Nat.le_of_ble_eq_true rfl⟩) hP hD hK hS hA [] [0, 1] rfl rfl (by decide) (by decide) (fun r_3 u H locs hw_4 hP hD hK hS => ?_)
  obtain ⟨⟩ := u
  have hP : va_P (dC, dI) vwCl [(mm, .inr (21, [.int th, .ref ms, .ref mt, .ref mh, .ref me])), (mt, .inr (1, [f0, f1, .int 3]))] H := hP
  have hD : va_D A [(mm, .inr (21, [.int th, .ref ms, .ref mt, .ref mh, .ref me])), (mt, .inr (1, [f0, f1, .int 3]))] := hD
  have hK : va_K (dC, dI) vwCl [] s := by simpa using hK
  have hw_4 : r_3 = 0 := hw_4
  have hw_4 := hw_4.symm
  subst hw_4
  refine lv_if_ne (tgt := 21) hx hb dX19_isNoType_14 (by decide) (fun c_5 => ?_) (fun c_5 => ?_)
  · exact absurd (by decide) c_5
  refine lv_iconst (v := 1) hx hb dX19_isNoType_17 (by decide) ?_
  refine lv_goto (tgt := 22) hx hb dX19_isNoType_18 (by decide) ?_
  have hP9 := hP.sub (ws' := [(mm, .inr (21, [.int th, .ref ms, .ref mt, .ref mh, .ref me])), (mt, .inr (1, [f0, f1, .int 3]))]) [0, 1] rfl
  have hD9 := hD.sub (ws' := [(mm, .inr (21, [.int th, .ref ms, .ref mt, .ref mh, .ref me])), (mt, .inr (1, [f0, f1, .int 3]))]) [0, 1] (by decide) rfl
  have hK9 := hK.sub (tys' := []) [] rfl
  refine W.widen (k := 0) (n := 0) (Nat.le_of_ble_eq_true rfl) (Nat.le_of_ble_eq_true rfl) ?_
  exact W.zret (v := 1) hx hb hr (by first | rfl | decide) (fun t ht hW => ⟨⟨1, (), rfl, rfl, ⟨by rw [ht]; exact hP9, va_K.moved hW.alike hK9, hD9⟩⟩, hS.F ht⟩) hS.2.2 dX19_isNoType_22

def wb_c_M_isNoType_ok : List Cond := [.fieldLink RX19 16 "HornbookModel" "types" "Ljava/util/ArrayList;", .code yJx4a65c_size_8abf5 cJx4a65c_size_8abf5 1 (some .int), .fieldLink RJx4a65c 48 "java/util/ArrayList" "size" "I", .methodLink RX19 47 yJx4a65c_size_8abf5, .instanceMethod yJx4a65c_size_8abf5, .selects RJx4a65c yJx4a65c_size_8abf5 yJx4a65c_size_8abf5, .initialized RJx4a65c, .code yX19_isIn cX19_isIn 3 (some .boolean), .methodLink RX19 51 yX19_isIn, .static yX19_isIn, .initialized RX19] ++ u_ws RJx4a65c TJx4a65c 3 ++ u_ws RX19 TX19 5
def w_c_M_isNoType_ok : List Cond := .code yX19_isNoType cX19_isNoType 2 (some .boolean) :: wb_c_M_isNoType_ok
set_option maxRecDepth 100000 in
theorem g_c_M_isNoType_ok_0 : GoodIn w_c_M_isNoType_ok (wsV RX19 47 RJx4a65c yJx4a65c_size_8abf5 w_c_AL_size) := goodIn_app (goodIn_of _ (by decide +kernel)) (goodIn_p (big := w_c_M_isNoType_ok) (.code yJx4a65c_size_8abf5 cJx4a65c_size_8abf5 1 (some .int) :: wb_c_AL_size) [2] rfl (by decide +kernel))
set_option maxRecDepth 100000 in
theorem g_c_M_isNoType_ok_1 : GoodIn w_c_M_isNoType_ok (va_wsS RX19 51 yX19_isIn w_c_M_isIn_ok) := goodIn_app (goodIn_of _ (by decide +kernel)) (goodIn_p (big := w_c_M_isNoType_ok) (.code yX19_isIn cX19_isIn 3 (some .boolean) :: wb_c_M_isIn_ok) [8] rfl (by decide +kernel))
set_option maxHeartbeats 4000000 in
set_option maxRecDepth 100000 in
theorem c_M_isNoType_ok (l : Launch) (eD eI : Nat) (ad : Nat → Nat) (dC : Nat → ClassId) (dI : Nat → Nat → Nat) (sz : Nat) (mm : Nat) (ms : Nat) (mt : Nat) (mh : Nat) (me : Nat) (th : Int32) (f0 : Value) (f1 : Value) (tt : Int32) (h0 : ¬ tt < 0) (h1 : ¬ 2 < tt) : Met l yX19_isNoType w_c_M_isNoType_ok ({ frames := 1, cells := 0, slots := 0, locals := 22 }) (va_Pc [.ref mm, .int tt] (zPre eD eI ad (dC, dI) [(mm, .inr (21, [.int th, .ref ms, .ref mt, .ref mh, .ref me])), (mt, .inr (1, [f0, f1, .int 3]))] [] sz)) (va_Qi (fun (r : Int32) (_ : Unit) => r = 0) (fun (_ : Unit) => zEnd (dC, dI) (va_A [(mm, .inr (21, [.int th, .ref ms, .ref mt, .ref mh, .ref me])), (mt, .inr (1, [f0, f1, .int 3]))] sz) [(mm, .inr (21, [.int th, .ref ms, .ref mt, .ref mh, .ref me])), (mt, .inr (1, [f0, f1, .int 3]))] []) (va_A [(mm, .inr (21, [.int th, .ref ms, .ref mt, .ref mh, .ref me])), (mt, .inr (1, [f0, f1, .int 3]))] sz)) 0 0 (va_A [(mm, .inr (21, [.int th, .ref ms, .ref mt, .ref mh, .ref me])), (mt, .inr (1, [f0, f1, .int 3]))] sz) := by
  refine Met.ofW (cc := cX19_isNoType) (maxL := 2) (ret := (some .boolean)) (by decide) rfl ?_
  intro p e s m args below meth c s₁ B hml hv
  obtain ⟨rfl, hsz, hP, hK, hD0, hE⟩ := hv
  have hx := B.exec
  have hb := B.bytes
  have hr := B.returns
  have hts := atoms_spec (ws := w_c_M_isNoType_ok) B.pre
  have hown : s.vm.findClass RX19 = some m.cls := findClass_of_methodNamed B.named
  have hlocks := B.notSynchronized
  subst hsz
  have hD := hD0.self (sz := s.heap.size)
  generalize hAe : va_A [(mm, .inr (21, [.int th, .ref ms, .ref mt, .ref mh, .ref me])), (mt, .inr (1, [f0, f1, .int 3]))] s.heap.size = A at hD hE ⊢
  have hA : ∀ q : Nat, s.heap.size ≤ q → A q := fun q h => by rw [← hAe]; exact Or.inr h
  have hS : va_S A s.heap s.heap [] := va_S.rf
  have hP : va_P (dC, dI) vwCl [(mm, .inr (21, [.int th, .ref ms, .ref mt, .ref mh, .ref me])), (mt, .inr (1, [f0, f1, .int 3]))] s.heap := hP
  have hl := lv_entry ([.ref mm, .int tt]) (n := 2) (Nat.le_of_ble_eq_true rfl)
  rw [lg_entry_eq]
  generalize (lg_sl ([.ref mm, .int tt]) ++ List.replicate (2 - (lg_sl ([.ref mm, .int tt])).length) Slot.unset).toArray = ls at hl ⊢
  have hl : lv_has ls 2 [(0, .ref mm), (1, .int tt)] := hl
  have in_RJx4a65c : ∀ w ∈ u_ws RJx4a65c TJx4a65c 3, w ∈ w_c_M_isNoType_ok := by decide +kernel
  have in_RX19 : ∀ w ∈ u_ws RX19 TX19 5, w ∈ w_c_M_isNoType_ok := by decide +kernel
  refine lv_iload_n hx hb dX19_isNoType_0 rfl (lv_at hl 1 rfl) ?_
  refine lv_iconst (v := 0) hx hb dX19_isNoType_1 (by decide) ?_
  refine lv_aload_n hx hb dX19_isNoType_2 rfl (lv_at hl 0 rfl) ?_
  refine va_get (D := (dC, dI)) (ci := 21) (v := .ref mt) (C := RX19) (T := TX19) (N := 5) hx hb hts in_RX19 hown hK hP 0 rfl rfl 2 (by decide) (hts (.fieldLink RX19 16 "HornbookModel" "types" "Ljava/util/ArrayList;") (by decide +kernel)) (fun _ h9 => h9) rfl dX19_isNoType_3 ?_
  refine z_i (wr := [(mm, .inr (21, [.int th, .ref ms, .ref mt, .ref mh, .ref me]))]) (va_runV (As := []) (rest := [.int 0, .int tt]) ⟨hx, hb, hml, hown, hts⟩ (c_AL_size l eD eI ad dC dI s.heap.size mt f0 f1 3) (cwV 0 hts g_c_M_isNoType_ok_0 rfl rfl rfl (by decide +kernel) ⟨Nat.le_of_ble_eq_true rfl, Nat.le_of_ble_eq_true rfl⟩) (z_preV (wc := [(mt, .inr (1, [f0, f1, .int 3]))]) hP hD hK hS hA hE [1] [] rfl (by decide) rfl (ci := 1) (q0 := 0) rfl rfl) rfl rfl hl.1 rfl (lv_room (Nat.le_of_ble_eq_true rfl)) dX19_isNoType_6 ⟨Nat.le_of_ble_eq_true rfl, Nat.le_of_ble_eq_true rfl⟩) hP hD hK hS hA [1] [0] rfl rfl (by decide) (by decide) (fun r_1 u H locs hw_2 hP hD hK hS => ?_)
  obtain ⟨⟩ := u
  have hP : va_P (dC, dI) vwCl [(mm, .inr (21, [.int th, .ref ms, .ref mt, .ref mh, .ref me])), (mt, .inr (1, [f0, f1, .int 3]))] H := hP
  have hD : va_D A [(mm, .inr (21, [.int th, .ref ms, .ref mt, .ref mh, .ref me])), (mt, .inr (1, [f0, f1, .int 3]))] := hD
  have hK : va_K (dC, dI) vwCl [] s := by simpa using hK
  have hw_2 : r_1 = 3 := hw_2
  have hw_2 := hw_2.symm
  subst hw_2
  refine lv_iconst (v := 1) hx hb dX19_isNoType_9 (by decide) ?_
  refine lv_isub hx hb dX19_isNoType_10 ?_
  refine z_top (v' := .int 2) (congrArg Value.int (by decide)) ?_
  refine z_i (wr := [(mm, .inr (21, [.int th, .ref ms, .ref mt, .ref mh, .ref me])), (mt, .inr (1, [f0, f1, .int 3]))]) (va_runS (As := [.int tt, .int 0, .int 2]) (rest := []) ⟨hx, hb, hml, hown, hts⟩ (c_M_isIn_ok l eD eI ad dC dI H.size tt 0 2 (h0) (h1)) (va_cwS 3 hts g_c_M_isNoType_ok_1 rfl rfl rfl (by decide +kernel) ⟨Nat.le_of_ble_eq_true rfl, Nat.le_of_ble_eq_true rfl⟩) (z_preS (wc := []) hP hD hK hS hA hE [] [] rfl (by decide) rfl) rfl rfl hl.1 rfl (lv_room (Nat.le_of_ble_eq_true rfl)) dX19_isNoType_11 ⟨Nat.le_of_ble_eq_true rfl, Nat.le_of_ble_eq_true rfl⟩) hP hD hK hS hA [] [0, 1] rfl rfl (by decide) (by decide) (fun r_3 u H locs hw_4 hP hD hK hS => ?_)
  obtain ⟨⟩ := u
  have hP : va_P (dC, dI) vwCl [(mm, .inr (21, [.int th, .ref ms, .ref mt, .ref mh, .ref me])), (mt, .inr (1, [f0, f1, .int 3]))] H := hP
  have hD : va_D A [(mm, .inr (21, [.int th, .ref ms, .ref mt, .ref mh, .ref me])), (mt, .inr (1, [f0, f1, .int 3]))] := hD
  have hK : va_K (dC, dI) vwCl [] s := by simpa using hK
  have hw_4 : r_3 = 1 := hw_4
  have hw_4 := hw_4.symm
  subst hw_4
  refine lv_if_ne (tgt := 21) hx hb dX19_isNoType_14 (by decide) (fun c_5 => ?_) (fun c_5 => ?_)
  rotate_left
  · exact absurd c_5 (by decide)
  refine lv_iconst (v := 0) hx hb dX19_isNoType_21 (by decide) ?_
  have hP9 := hP.sub (ws' := [(mm, .inr (21, [.int th, .ref ms, .ref mt, .ref mh, .ref me])), (mt, .inr (1, [f0, f1, .int 3]))]) [0, 1] rfl
  have hD9 := hD.sub (ws' := [(mm, .inr (21, [.int th, .ref ms, .ref mt, .ref mh, .ref me])), (mt, .inr (1, [f0, f1, .int 3]))]) [0, 1] (by decide) rfl
  have hK9 := hK.sub (tys' := []) [] rfl
  refine W.widen (k := 0) (n := 0) (Nat.le_of_ble_eq_true rfl) (Nat.le_of_ble_eq_true rfl) ?_
  exact W.zret (v := 0) hx hb hr (by first | rfl | decide) (fun t ht hW => ⟨⟨0, (), rfl, rfl, ⟨by rw [ht]; exact hP9, va_K.moved hW.alike hK9, hD9⟩⟩, hS.F ht⟩) hS.2.2 dX19_isNoType_22

def wb_c_M_isNoTypeN_none : List Cond := []
def w_c_M_isNoTypeN_none : List Cond := .code yX19_isNoTypeOrNone cX19_isNoTypeOrNone 2 (some .boolean) :: wb_c_M_isNoTypeN_none
set_option maxHeartbeats 4000000 in
set_option maxRecDepth 100000 in
theorem c_M_isNoTypeN_none (l : Launch) (eD eI : Nat) (ad : Nat → Nat) (dC : Nat → ClassId) (dI : Nat → Nat → Nat) (sz : Nat) (mm : Nat) (ms : Nat) (mt : Nat) (mh : Nat) (me : Nat) (th : Int32) (f0 : Value) (f1 : Value) : Met l yX19_isNoTypeOrNone w_c_M_isNoTypeN_none ({ frames := 0, cells := 0, slots := 0, locals := 0 }) (va_Pc [.ref mm, .int (-1)] (zPre eD eI ad (dC, dI) [(mm, .inr (21, [.int th, .ref ms, .ref mt, .ref mh, .ref me])), (mt, .inr (1, [f0, f1, .int 3]))] [] sz)) (va_Qi (fun (r : Int32) (_ : Unit) => r = 0) (fun (_ : Unit) => zEnd (dC, dI) (va_A [(mm, .inr (21, [.int th, .ref ms, .ref mt, .ref mh, .ref me])), (mt, .inr (1, [f0, f1, .int 3]))] sz) [(mm, .inr (21, [.int th, .ref ms, .ref mt, .ref mh, .ref me])), (mt, .inr (1, [f0, f1, .int 3]))] []) (va_A [(mm, .inr (21, [.int th, .ref ms, .ref mt, .ref mh, .ref me])), (mt, .inr (1, [f0, f1, .int 3]))] sz)) 0 0 (va_A [(mm, .inr (21, [.int th, .ref ms, .ref mt, .ref mh, .ref me])), (mt, .inr (1, [f0, f1, .int 3]))] sz) := by
  refine Met.ofW (cc := cX19_isNoTypeOrNone) (maxL := 2) (ret := (some .boolean)) (by decide) rfl ?_
  intro p e s m args below meth c s₁ B hml hv
  obtain ⟨rfl, hsz, hP, hK, hD0, hE⟩ := hv
  have hx := B.exec
  have hb := B.bytes
  have hr := B.returns
  have hts := atoms_spec (ws := w_c_M_isNoTypeN_none) B.pre
  have hown : s.vm.findClass RX19 = some m.cls := findClass_of_methodNamed B.named
  have hlocks := B.notSynchronized
  subst hsz
  have hD := hD0.self (sz := s.heap.size)
  generalize hAe : va_A [(mm, .inr (21, [.int th, .ref ms, .ref mt, .ref mh, .ref me])), (mt, .inr (1, [f0, f1, .int 3]))] s.heap.size = A at hD hE ⊢
  have hA : ∀ q : Nat, s.heap.size ≤ q → A q := fun q h => by rw [← hAe]; exact Or.inr h
  have hS : va_S A s.heap s.heap [] := va_S.rf
  have hP : va_P (dC, dI) vwCl [(mm, .inr (21, [.int th, .ref ms, .ref mt, .ref mh, .ref me])), (mt, .inr (1, [f0, f1, .int 3]))] s.heap := hP
  have hl := lv_entry ([.ref mm, .int (-1)]) (n := 2) (Nat.le_of_ble_eq_true rfl)
  rw [lg_entry_eq]
  generalize (lg_sl ([.ref mm, .int (-1)]) ++ List.replicate (2 - (lg_sl ([.ref mm, .int (-1)])).length) Slot.unset).toArray = ls at hl ⊢
  have hl : lv_has ls 2 [(0, .ref mm), (1, .int (-1))] := hl
  refine lv_iload_n hx hb dX19_isNoTypeOrNone_0 rfl (lv_at hl 1 rfl) ?_
  refine lv_iconst (v := (-1)) hx hb dX19_isNoTypeOrNone_1 (by decide) ?_
  refine lv_icmp_eq (tgt := 17) hx hb dX19_isNoTypeOrNone_2 (by decide) (fun c_1 => ?_) (fun c_1 => ?_)
  rotate_left
  · exact absurd (by decide) c_1
  refine lv_iconst (v := 0) hx hb dX19_isNoTypeOrNone_17 (by decide) ?_
  have hP9 := hP.sub (ws' := [(mm, .inr (21, [.int th, .ref ms, .ref mt, .ref mh, .ref me])), (mt, .inr (1, [f0, f1, .int 3]))]) [0, 1] rfl
  have hD9 := hD.sub (ws' := [(mm, .inr (21, [.int th, .ref ms, .ref mt, .ref mh, .ref me])), (mt, .inr (1, [f0, f1, .int 3]))]) [0, 1] (by decide) rfl
  have hK9 := hK.sub (tys' := []) [] rfl
  refine W.widen (k := 0) (n := 0) (Nat.le_of_ble_eq_true rfl) (Nat.le_of_ble_eq_true rfl) ?_
  exact W.zret (v := 0) hx hb hr (by first | rfl | decide) (fun t ht hW => ⟨⟨0, (), rfl, rfl, ⟨by rw [ht]; exact hP9, va_K.moved hW.alike hK9, hD9⟩⟩, hS.F ht⟩) hS.2.2 dX19_isNoTypeOrNone_18

def wb_c_M_isNoTypeN_lo : List Cond := [.code yX19_isNoType cX19_isNoType 2 (some .boolean), .fieldLink RX19 16 "HornbookModel" "types" "Ljava/util/ArrayList;", .code yJx4a65c_size_8abf5 cJx4a65c_size_8abf5 1 (some .int), .fieldLink RJx4a65c 48 "java/util/ArrayList" "size" "I", .methodLink RX19 47 yJx4a65c_size_8abf5, .instanceMethod yJx4a65c_size_8abf5, .selects RJx4a65c yJx4a65c_size_8abf5 yJx4a65c_size_8abf5, .initialized RJx4a65c, .code yX19_isIn cX19_isIn 3 (some .boolean), .methodLink RX19 51 yX19_isIn, .static yX19_isIn, .initialized RX19, .methodLink RX19 55 yX19_isNoType, .instanceMethod yX19_isNoType, .selects RX19 yX19_isNoType yX19_isNoType] ++ u_ws RJx4a65c TJx4a65c 3 ++ u_ws RX19 TX19 5
def w_c_M_isNoTypeN_lo : List Cond := .code yX19_isNoTypeOrNone cX19_isNoTypeOrNone 2 (some .boolean) :: wb_c_M_isNoTypeN_lo
set_option maxRecDepth 100000 in
theorem g_c_M_isNoTypeN_lo_0 : GoodIn w_c_M_isNoTypeN_lo (wsV RX19 55 RX19 yX19_isNoType w_c_M_isNoType_lo) := goodIn_app (goodIn_of _ (by decide +kernel)) (goodIn_p (big := w_c_M_isNoTypeN_lo) (.code yX19_isNoType cX19_isNoType 2 (some .boolean) :: wb_c_M_isNoType_lo) [1, 3, 9] rfl (by decide +kernel))
set_option maxHeartbeats 4000000 in
set_option maxRecDepth 100000 in
theorem c_M_isNoTypeN_lo (l : Launch) (eD eI : Nat) (ad : Nat → Nat) (dC : Nat → ClassId) (dI : Nat → Nat → Nat) (sz : Nat) (mm : Nat) (ms : Nat) (mt : Nat) (mh : Nat) (me : Nat) (th : Int32) (f0 : Value) (f1 : Value) (tt : Int32) (hn : ¬ tt = (-1)) (htt1 : tt < 0) : Met l yX19_isNoTypeOrNone w_c_M_isNoTypeN_lo ({ frames := 2, cells := 0, slots := 0, locals := 43 }) (va_Pc [.ref mm, .int tt] (zPre eD eI ad (dC, dI) [(mm, .inr (21, [.int th, .ref ms, .ref mt, .ref mh, .ref me])), (mt, .inr (1, [f0, f1, .int 3]))] [] sz)) (va_Qi (fun (r : Int32) (_ : Unit) => r = 1) (fun (_ : Unit) => zEnd (dC, dI) (va_A [(mm, .inr (21, [.int th, .ref ms, .ref mt, .ref mh, .ref me])), (mt, .inr (1, [f0, f1, .int 3]))] sz) [(mm, .inr (21, [.int th, .ref ms, .ref mt, .ref mh, .ref me])), (mt, .inr (1, [f0, f1, .int 3]))] []) (va_A [(mm, .inr (21, [.int th, .ref ms, .ref mt, .ref mh, .ref me])), (mt, .inr (1, [f0, f1, .int 3]))] sz)) 0 0 (va_A [(mm, .inr (21, [.int th, .ref ms, .ref mt, .ref mh, .ref me])), (mt, .inr (1, [f0, f1, .int 3]))] sz) := by
  refine Met.ofW (cc := cX19_isNoTypeOrNone) (maxL := 2) (ret := (some .boolean)) (by decide) rfl ?_
  intro p e s m args below meth c s₁ B hml hv
  obtain ⟨rfl, hsz, hP, hK, hD0, hE⟩ := hv
  have hx := B.exec
  have hb := B.bytes
  have hr := B.returns
  have hts := atoms_spec (ws := w_c_M_isNoTypeN_lo) B.pre
  have hown : s.vm.findClass RX19 = some m.cls := findClass_of_methodNamed B.named
  have hlocks := B.notSynchronized
  subst hsz
  have hD := hD0.self (sz := s.heap.size)
  generalize hAe : va_A [(mm, .inr (21, [.int th, .ref ms, .ref mt, .ref mh, .ref me])), (mt, .inr (1, [f0, f1, .int 3]))] s.heap.size = A at hD hE ⊢
  have hA : ∀ q : Nat, s.heap.size ≤ q → A q := fun q h => by rw [← hAe]; exact Or.inr h
  have hS : va_S A s.heap s.heap [] := va_S.rf
  have hP : va_P (dC, dI) vwCl [(mm, .inr (21, [.int th, .ref ms, .ref mt, .ref mh, .ref me])), (mt, .inr (1, [f0, f1, .int 3]))] s.heap := hP
  have hl := lv_entry ([.ref mm, .int tt]) (n := 2) (Nat.le_of_ble_eq_true rfl)
  rw [lg_entry_eq]
  generalize (lg_sl ([.ref mm, .int tt]) ++ List.replicate (2 - (lg_sl ([.ref mm, .int tt])).length) Slot.unset).toArray = ls at hl ⊢
  have hl : lv_has ls 2 [(0, .ref mm), (1, .int tt)] := hl
  have in_RJx4a65c : ∀ w ∈ u_ws RJx4a65c TJx4a65c 3, w ∈ w_c_M_isNoTypeN_lo := by decide +kernel
  have in_RX19 : ∀ w ∈ u_ws RX19 TX19 5, w ∈ w_c_M_isNoTypeN_lo := by decide +kernel
  refine lv_iload_n hx hb dX19_isNoTypeOrNone_0 rfl (lv_at hl 1 rfl) ?_
  refine lv_iconst (v := (-1)) hx hb dX19_isNoTypeOrNone_1 (by decide) ?_
  refine lv_icmp_eq (tgt := 17) hx hb dX19_isNoTypeOrNone_2 (by decide) (fun c_1 => ?_) (fun c_1 => ?_)
  · exact absurd c_1 hn
  refine lv_aload_n hx hb dX19_isNoTypeOrNone_5 rfl (lv_at hl 0 rfl) ?_
  refine lv_iload_n hx hb dX19_isNoTypeOrNone_6 rfl (lv_at hl 1 rfl) ?_
  refine z_i (wr := []) (va_runV (As := [.int tt]) (rest := []) ⟨hx, hb, hml, hown, hts⟩ (c_M_isNoType_lo l eD eI ad dC dI s.heap.size mm ms mt mh me th f0 f1 tt (htt1)) (cwV 1 hts g_c_M_isNoTypeN_lo_0 rfl rfl rfl (by decide +kernel) ⟨Nat.le_of_ble_eq_true rfl, Nat.le_of_ble_eq_true rfl⟩) (z_preV (wc := [(mm, .inr (21, [.int th, .ref ms, .ref mt, .ref mh, .ref me])), (mt, .inr (1, [f0, f1, .int 3]))]) hP hD hK hS hA hE [0, 1] [] rfl (by decide) rfl (ci := 21) (q0 := 0) rfl rfl) rfl rfl hl.1 rfl (lv_room (Nat.le_of_ble_eq_true rfl)) dX19_isNoTypeOrNone_7 ⟨Nat.le_of_ble_eq_true rfl, Nat.le_of_ble_eq_true rfl⟩) hP hD hK hS hA [0, 1] [] rfl rfl (by decide) (by decide) (fun r_2 u H locs hw_3 hP hD hK hS => ?_)
  obtain ⟨⟩ := u
  have hP : va_P (dC, dI) vwCl [(mm, .inr (21, [.int th, .ref ms, .ref mt, .ref mh, .ref me])), (mt, .inr (1, [f0, f1, .int 3]))] H := hP
  have hD : va_D A [(mm, .inr (21, [.int th, .ref ms, .ref mt, .ref mh, .ref me])), (mt, .inr (1, [f0, f1, .int 3]))] := hD
  have hK : va_K (dC, dI) vwCl [] s := by simpa using hK
  have hw_3 : r_2 = 1 := hw_3
  have hw_3 := hw_3.symm
  subst hw_3
  refine lv_if_eq (tgt := 17) hx hb dX19_isNoTypeOrNone_10 (by decide) (fun c_4 => ?_) (fun c_4 => ?_)
  · exact absurd c_4 (by decide)
  refine lv_iconst (v := 1) hx hb dX19_isNoTypeOrNone_13 (by decide) ?_
  refine lv_goto (tgt := 18) hx hb dX19_isNoTypeOrNone_14 (by decide) ?_
  have hP9 := hP.sub (ws' := [(mm, .inr (21, [.int th, .ref ms, .ref mt, .ref mh, .ref me])), (mt, .inr (1, [f0, f1, .int 3]))]) [0, 1] rfl
  have hD9 := hD.sub (ws' := [(mm, .inr (21, [.int th, .ref ms, .ref mt, .ref mh, .ref me])), (mt, .inr (1, [f0, f1, .int 3]))]) [0, 1] (by decide) rfl
  have hK9 := hK.sub (tys' := []) [] rfl
  refine W.widen (k := 0) (n := 0) (Nat.le_of_ble_eq_true rfl) (Nat.le_of_ble_eq_true rfl) ?_
  exact W.zret (v := 1) hx hb hr (by first | rfl | decide) (fun t ht hW => ⟨⟨1, (), rfl, rfl, ⟨by rw [ht]; exact hP9, va_K.moved hW.alike hK9, hD9⟩⟩, hS.F ht⟩) hS.2.2 dX19_isNoTypeOrNone_18

def wb_c_M_isNoTypeN_hi : List Cond := [.code yX19_isNoType cX19_isNoType 2 (some .boolean), .fieldLink RX19 16 "HornbookModel" "types" "Ljava/util/ArrayList;", .code yJx4a65c_size_8abf5 cJx4a65c_size_8abf5 1 (some .int), .fieldLink RJx4a65c 48 "java/util/ArrayList" "size" "I", .methodLink RX19 47 yJx4a65c_size_8abf5, .instanceMethod yJx4a65c_size_8abf5, .selects RJx4a65c yJx4a65c_size_8abf5 yJx4a65c_size_8abf5, .initialized RJx4a65c, .code yX19_isIn cX19_isIn 3 (some .boolean), .methodLink RX19 51 yX19_isIn, .static yX19_isIn, .initialized RX19, .methodLink RX19 55 yX19_isNoType, .instanceMethod yX19_isNoType, .selects RX19 yX19_isNoType yX19_isNoType] ++ u_ws RJx4a65c TJx4a65c 3 ++ u_ws RX19 TX19 5
def w_c_M_isNoTypeN_hi : List Cond := .code yX19_isNoTypeOrNone cX19_isNoTypeOrNone 2 (some .boolean) :: wb_c_M_isNoTypeN_hi
set_option maxRecDepth 100000 in
theorem g_c_M_isNoTypeN_hi_0 : GoodIn w_c_M_isNoTypeN_hi (wsV RX19 55 RX19 yX19_isNoType w_c_M_isNoType_hi) := goodIn_app (goodIn_of _ (by decide +kernel)) (goodIn_p (big := w_c_M_isNoTypeN_hi) (.code yX19_isNoType cX19_isNoType 2 (some .boolean) :: wb_c_M_isNoType_hi) [1, 3, 9] rfl (by decide +kernel))
set_option maxHeartbeats 4000000 in
set_option maxRecDepth 100000 in
theorem c_M_isNoTypeN_hi (l : Launch) (eD eI : Nat) (ad : Nat → Nat) (dC : Nat → ClassId) (dI : Nat → Nat → Nat) (sz : Nat) (mm : Nat) (ms : Nat) (mt : Nat) (mh : Nat) (me : Nat) (th : Int32) (f0 : Value) (f1 : Value) (tt : Int32) (hn : ¬ tt = (-1)) (htt0 : ¬ tt < 0) (htt1 : 2 < tt) : Met l yX19_isNoTypeOrNone w_c_M_isNoTypeN_hi ({ frames := 2, cells := 0, slots := 0, locals := 43 }) (va_Pc [.ref mm, .int tt] (zPre eD eI ad (dC, dI) [(mm, .inr (21, [.int th, .ref ms, .ref mt, .ref mh, .ref me])), (mt, .inr (1, [f0, f1, .int 3]))] [] sz)) (va_Qi (fun (r : Int32) (_ : Unit) => r = 1) (fun (_ : Unit) => zEnd (dC, dI) (va_A [(mm, .inr (21, [.int th, .ref ms, .ref mt, .ref mh, .ref me])), (mt, .inr (1, [f0, f1, .int 3]))] sz) [(mm, .inr (21, [.int th, .ref ms, .ref mt, .ref mh, .ref me])), (mt, .inr (1, [f0, f1, .int 3]))] []) (va_A [(mm, .inr (21, [.int th, .ref ms, .ref mt, .ref mh, .ref me])), (mt, .inr (1, [f0, f1, .int 3]))] sz)) 0 0 (va_A [(mm, .inr (21, [.int th, .ref ms, .ref mt, .ref mh, .ref me])), (mt, .inr (1, [f0, f1, .int 3]))] sz) := by
  refine Met.ofW (cc := cX19_isNoTypeOrNone) (maxL := 2) (ret := (some .boolean)) (by decide) rfl ?_
  intro p e s m args below meth c s₁ B hml hv
  obtain ⟨rfl, hsz, hP, hK, hD0, hE⟩ := hv
  have hx := B.exec
  have hb := B.bytes
  have hr := B.returns
  have hts := atoms_spec (ws := w_c_M_isNoTypeN_hi) B.pre
  have hown : s.vm.findClass RX19 = some m.cls := findClass_of_methodNamed B.named
  have hlocks := B.notSynchronized
  subst hsz
  have hD := hD0.self (sz := s.heap.size)
  generalize hAe : va_A [(mm, .inr (21, [.int th, .ref ms, .ref mt, .ref mh, .ref me])), (mt, .inr (1, [f0, f1, .int 3]))] s.heap.size = A at hD hE ⊢
  have hA : ∀ q : Nat, s.heap.size ≤ q → A q := fun q h => by rw [← hAe]; exact Or.inr h
  have hS : va_S A s.heap s.heap [] := va_S.rf
  have hP : va_P (dC, dI) vwCl [(mm, .inr (21, [.int th, .ref ms, .ref mt, .ref mh, .ref me])), (mt, .inr (1, [f0, f1, .int 3]))] s.heap := hP
  have hl := lv_entry ([.ref mm, .int tt]) (n := 2) (Nat.le_of_ble_eq_true rfl)
  rw [lg_entry_eq]
  generalize (lg_sl ([.ref mm, .int tt]) ++ List.replicate (2 - (lg_sl ([.ref mm, .int tt])).length) Slot.unset).toArray = ls at hl ⊢
  have hl : lv_has ls 2 [(0, .ref mm), (1, .int tt)] := hl
  have in_RJx4a65c : ∀ w ∈ u_ws RJx4a65c TJx4a65c 3, w ∈ w_c_M_isNoTypeN_hi := by decide +kernel
  have in_RX19 : ∀ w ∈ u_ws RX19 TX19 5, w ∈ w_c_M_isNoTypeN_hi := by decide +kernel
  refine lv_iload_n hx hb dX19_isNoTypeOrNone_0 rfl (lv_at hl 1 rfl) ?_
  refine lv_iconst (v := (-1)) hx hb dX19_isNoTypeOrNone_1 (by decide) ?_
  refine lv_icmp_eq (tgt := 17) hx hb dX19_isNoTypeOrNone_2 (by decide) (fun c_1 => ?_) (fun c_1 => ?_)
  · exact absurd c_1 hn
  refine lv_aload_n hx hb dX19_isNoTypeOrNone_5 rfl (lv_at hl 0 rfl) ?_
  refine lv_iload_n hx hb dX19_isNoTypeOrNone_6 rfl (lv_at hl 1 rfl) ?_
  refine z_i (wr := []) (va_runV (As := [.int tt]) (rest := []) ⟨hx, hb, hml, hown, hts⟩ (c_M_isNoType_hi l eD eI ad dC dI s.heap.size mm ms mt mh me th f0 f1 tt (htt0) (htt1)) (cwV 1 hts g_c_M_isNoTypeN_hi_0 rfl rfl rfl (by decide +kernel) ⟨Nat.le_of_ble_eq_true rfl, Nat.le_of_ble_eq_true rfl⟩) (z_preV (wc := [(mm, .inr (21, [.int th, .ref ms, .ref mt, .ref mh, .ref me])), (mt, .inr (1, [f0, f1, .int 3]))]) hP hD hK hS hA hE [0, 1] [] rfl (by decide) rfl (ci := 21) (q0 := 0) rfl rfl) rfl rfl hl.1 rfl (lv_room (Nat.le_of_ble_eq_true rfl)) dX19_isNoTypeOrNone_7 ⟨Nat.le_of_ble_eq_true rfl, Nat.le_of_ble_eq_true rfl⟩) hP hD hK hS hA [0, 1] [] rfl rfl (by decide) (by decide) (fun r_2 u H locs hw_3 hP hD hK hS => ?_)
  obtain ⟨⟩ := u
  have hP : va_P (dC, dI) vwCl [(mm, .inr (21, [.int th, .ref ms, .ref mt, .ref mh, .ref me])), (mt, .inr (1, [f0, f1, .int 3]))] H := hP
  have hD : va_D A [(mm, .inr (21, [.int th, .ref ms, .ref mt, .ref mh, .ref me])), (mt, .inr (1, [f0, f1, .int 3]))] := hD
  have hK : va_K (dC, dI) vwCl [] s := by simpa using hK
  have hw_3 : r_2 = 1 := hw_3
  have hw_3 := hw_3.symm
  subst hw_3
  refine lv_if_eq (tgt := 17) hx hb dX19_isNoTypeOrNone_10 (by decide) (fun c_4 => ?_) (fun c_4 => ?_)
  · exact absurd c_4 (by decide)
  refine lv_iconst (v := 1) hx hb dX19_isNoTypeOrNone_13 (by decide) ?_
  refine lv_goto (tgt := 18) hx hb dX19_isNoTypeOrNone_14 (by decide) ?_
  have hP9 := hP.sub (ws' := [(mm, .inr (21, [.int th, .ref ms, .ref mt, .ref mh, .ref me])), (mt, .inr (1, [f0, f1, .int 3]))]) [0, 1] rfl
  have hD9 := hD.sub (ws' := [(mm, .inr (21, [.int th, .ref ms, .ref mt, .ref mh, .ref me])), (mt, .inr (1, [f0, f1, .int 3]))]) [0, 1] (by decide) rfl
  have hK9 := hK.sub (tys' := []) [] rfl
  refine W.widen (k := 0) (n := 0) (Nat.le_of_ble_eq_true rfl) (Nat.le_of_ble_eq_true rfl) ?_
  exact W.zret (v := 1) hx hb hr (by first | rfl | decide) (fun t ht hW => ⟨⟨1, (), rfl, rfl, ⟨by rw [ht]; exact hP9, va_K.moved hW.alike hK9, hD9⟩⟩, hS.F ht⟩) hS.2.2 dX19_isNoTypeOrNone_18

def wb_c_M_isNoTypeN_ok : List Cond := [.code yX19_isNoType cX19_isNoType 2 (some .boolean), .fieldLink RX19 16 "HornbookModel" "types" "Ljava/util/ArrayList;", .code yJx4a65c_size_8abf5 cJx4a65c_size_8abf5 1 (some .int), .fieldLink RJx4a65c 48 "java/util/ArrayList" "size" "I", .methodLink RX19 47 yJx4a65c_size_8abf5, .instanceMethod yJx4a65c_size_8abf5, .selects RJx4a65c yJx4a65c_size_8abf5 yJx4a65c_size_8abf5, .initialized RJx4a65c, .code yX19_isIn cX19_isIn 3 (some .boolean), .methodLink RX19 51 yX19_isIn, .static yX19_isIn, .initialized RX19, .methodLink RX19 55 yX19_isNoType, .instanceMethod yX19_isNoType, .selects RX19 yX19_isNoType yX19_isNoType] ++ u_ws RJx4a65c TJx4a65c 3 ++ u_ws RX19 TX19 5
def w_c_M_isNoTypeN_ok : List Cond := .code yX19_isNoTypeOrNone cX19_isNoTypeOrNone 2 (some .boolean) :: wb_c_M_isNoTypeN_ok
set_option maxRecDepth 100000 in
theorem g_c_M_isNoTypeN_ok_0 : GoodIn w_c_M_isNoTypeN_ok (wsV RX19 55 RX19 yX19_isNoType w_c_M_isNoType_ok) := goodIn_app (goodIn_of _ (by decide +kernel)) (goodIn_p (big := w_c_M_isNoTypeN_ok) (.code yX19_isNoType cX19_isNoType 2 (some .boolean) :: wb_c_M_isNoType_ok) [1, 3, 9] rfl (by decide +kernel))
set_option maxHeartbeats 4000000 in
set_option maxRecDepth 100000 in
theorem c_M_isNoTypeN_ok (l : Launch) (eD eI : Nat) (ad : Nat → Nat) (dC : Nat → ClassId) (dI : Nat → Nat → Nat) (sz : Nat) (mm : Nat) (ms : Nat) (mt : Nat) (mh : Nat) (me : Nat) (th : Int32) (f0 : Value) (f1 : Value) (tt : Int32) (hn : ¬ tt = (-1)) (h0 : ¬ tt < 0) (h1 : ¬ 2 < tt) : Met l yX19_isNoTypeOrNone w_c_M_isNoTypeN_ok ({ frames := 2, cells := 0, slots := 0, locals := 43 }) (va_Pc [.ref mm, .int tt] (zPre eD eI ad (dC, dI) [(mm, .inr (21, [.int th, .ref ms, .ref mt, .ref mh, .ref me])), (mt, .inr (1, [f0, f1, .int 3]))] [] sz)) (va_Qi (fun (r : Int32) (_ : Unit) => r = 0) (fun (_ : Unit) => zEnd (dC, dI) (va_A [(mm, .inr (21, [.int th, .ref ms, .ref mt, .ref mh, .ref me])), (mt, .inr (1, [f0, f1, .int 3]))] sz) [(mm, .inr (21, [.int th, .ref ms, .ref mt, .ref mh, .ref me])), (mt, .inr (1, [f0, f1, .int 3]))] []) (va_A [(mm, .inr (21, [.int th, .ref ms, .ref mt, .ref mh, .ref me])), (mt, .inr (1, [f0, f1, .int 3]))] sz)) 0 0 (va_A [(mm, .inr (21, [.int th, .ref ms, .ref mt, .ref mh, .ref me])), (mt, .inr (1, [f0, f1, .int 3]))] sz) := by
  refine Met.ofW (cc := cX19_isNoTypeOrNone) (maxL := 2) (ret := (some .boolean)) (by decide) rfl ?_
  intro p e s m args below meth c s₁ B hml hv
  obtain ⟨rfl, hsz, hP, hK, hD0, hE⟩ := hv
  have hx := B.exec
  have hb := B.bytes
  have hr := B.returns
  have hts := atoms_spec (ws := w_c_M_isNoTypeN_ok) B.pre
  have hown : s.vm.findClass RX19 = some m.cls := findClass_of_methodNamed B.named
  have hlocks := B.notSynchronized
  subst hsz
  have hD := hD0.self (sz := s.heap.size)
  generalize hAe : va_A [(mm, .inr (21, [.int th, .ref ms, .ref mt, .ref mh, .ref me])), (mt, .inr (1, [f0, f1, .int 3]))] s.heap.size = A at hD hE ⊢
  have hA : ∀ q : Nat, s.heap.size ≤ q → A q := fun q h => by rw [← hAe]; exact Or.inr h
  have hS : va_S A s.heap s.heap [] := va_S.rf
  have hP : va_P (dC, dI) vwCl [(mm, .inr (21, [.int th, .ref ms, .ref mt, .ref mh, .ref me])), (mt, .inr (1, [f0, f1, .int 3]))] s.heap := hP
  have hl := lv_entry ([.ref mm, .int tt]) (n := 2) (Nat.le_of_ble_eq_true rfl)
  rw [lg_entry_eq]
  generalize (lg_sl ([.ref mm, .int tt]) ++ List.replicate (2 - (lg_sl ([.ref mm, .int tt])).length) Slot.unset).toArray = ls at hl ⊢
  have hl : lv_has ls 2 [(0, .ref mm), (1, .int tt)] := hl
  have in_RJx4a65c : ∀ w ∈ u_ws RJx4a65c TJx4a65c 3, w ∈ w_c_M_isNoTypeN_ok := by decide +kernel
  have in_RX19 : ∀ w ∈ u_ws RX19 TX19 5, w ∈ w_c_M_isNoTypeN_ok := by decide +kernel
  refine lv_iload_n hx hb dX19_isNoTypeOrNone_0 rfl (lv_at hl 1 rfl) ?_
  refine lv_iconst (v := (-1)) hx hb dX19_isNoTypeOrNone_1 (by decide) ?_
  refine lv_icmp_eq (tgt := 17) hx hb dX19_isNoTypeOrNone_2 (by decide) (fun c_1 => ?_) (fun c_1 => ?_)
  · exact absurd c_1 hn
  refine lv_aload_n hx hb dX19_isNoTypeOrNone_5 rfl (lv_at hl 0 rfl) ?_
  refine lv_iload_n hx hb dX19_isNoTypeOrNone_6 rfl (lv_at hl 1 rfl) ?_
  refine z_i (wr := []) (va_runV (As := [.int tt]) (rest := []) ⟨hx, hb, hml, hown, hts⟩ (c_M_isNoType_ok l eD eI ad dC dI s.heap.size mm ms mt mh me th f0 f1 tt (h0) (h1)) (cwV 1 hts g_c_M_isNoTypeN_ok_0 rfl rfl rfl (by decide +kernel) ⟨Nat.le_of_ble_eq_true rfl, Nat.le_of_ble_eq_true rfl⟩) (z_preV (wc := [(mm, .inr (21, [.int th, .ref ms, .ref mt, .ref mh, .ref me])), (mt, .inr (1, [f0, f1, .int 3]))]) hP hD hK hS hA hE [0, 1] [] rfl (by decide) rfl (ci := 21) (q0 := 0) rfl rfl) rfl rfl hl.1 rfl (lv_room (Nat.le_of_ble_eq_true rfl)) dX19_isNoTypeOrNone_7 ⟨Nat.le_of_ble_eq_true rfl, Nat.le_of_ble_eq_true rfl⟩) hP hD hK hS hA [0, 1] [] rfl rfl (by decide) (by decide) (fun r_2 u H locs hw_3 hP hD hK hS => ?_)
  obtain ⟨⟩ := u
  have hP : va_P (dC, dI) vwCl [(mm, .inr (21, [.int th, .ref ms, .ref mt, .ref mh, .ref me])), (mt, .inr (1, [f0, f1, .int 3]))] H := hP
  have hD : va_D A [(mm, .inr (21, [.int th, .ref ms, .ref mt, .ref mh, .ref me])), (mt, .inr (1, [f0, f1, .int 3]))] := hD
  have hK : va_K (dC, dI) vwCl [] s := by simpa using hK
  have hw_3 : r_2 = 0 := hw_3
  have hw_3 := hw_3.symm
  subst hw_3
  refine lv_if_eq (tgt := 17) hx hb dX19_isNoTypeOrNone_10 (by decide) (fun c_4 => ?_) (fun c_4 => ?_)
  rotate_left
  · exact absurd (by decide) c_4
  refine lv_iconst (v := 0) hx hb dX19_isNoTypeOrNone_17 (by decide) ?_
  have hP9 := hP.sub (ws' := [(mm, .inr (21, [.int th, .ref ms, .ref mt, .ref mh, .ref me])), (mt, .inr (1, [f0, f1, .int 3]))]) [0, 1] rfl
  have hD9 := hD.sub (ws' := [(mm, .inr (21, [.int th, .ref ms, .ref mt, .ref mh, .ref me])), (mt, .inr (1, [f0, f1, .int 3]))]) [0, 1] (by decide) rfl
  have hK9 := hK.sub (tys' := []) [] rfl
  refine W.widen (k := 0) (n := 0) (Nat.le_of_ble_eq_true rfl) (Nat.le_of_ble_eq_true rfl) ?_
  exact W.zret (v := 0) hx hb hr (by first | rfl | decide) (fun t ht hW => ⟨⟨0, (), rfl, rfl, ⟨by rw [ht]; exact hP9, va_K.moved hW.alike hK9, hD9⟩⟩, hS.F ht⟩) hS.2.2 dX19_isNoTypeOrNone_18

def wb_c_M_isNoSort_lo : List Cond := [.fieldLink RX19 10 "HornbookModel" "sorts" "Ljava/util/ArrayList;", .code yJx4a65c_size_8abf5 cJx4a65c_size_8abf5 1 (some .int), .fieldLink RJx4a65c 48 "java/util/ArrayList" "size" "I", .methodLink RX19 47 yJx4a65c_size_8abf5, .instanceMethod yJx4a65c_size_8abf5, .selects RJx4a65c yJx4a65c_size_8abf5 yJx4a65c_size_8abf5, .initialized RJx4a65c, .code yX19_isIn cX19_isIn 3 (some .boolean), .methodLink RX19 51 yX19_isIn, .static yX19_isIn, .initialized RX19] ++ u_ws RJx4a65c TJx4a65c 3 ++ u_ws RX19 TX19 5
def w_c_M_isNoSort_lo : List Cond := .code yX19_isNoSort cX19_isNoSort 2 (some .boolean) :: wb_c_M_isNoSort_lo
set_option maxRecDepth 100000 in
theorem g_c_M_isNoSort_lo_0 : GoodIn w_c_M_isNoSort_lo (wsV RX19 47 RJx4a65c yJx4a65c_size_8abf5 w_c_AL_size) := goodIn_app (goodIn_of _ (by decide +kernel)) (goodIn_p (big := w_c_M_isNoSort_lo) (.code yJx4a65c_size_8abf5 cJx4a65c_size_8abf5 1 (some .int) :: wb_c_AL_size) [2] rfl (by decide +kernel))
set_option maxRecDepth 100000 in
theorem g_c_M_isNoSort_lo_1 : GoodIn w_c_M_isNoSort_lo (va_wsS RX19 51 yX19_isIn w_c_M_isIn_lo) := goodIn_app (goodIn_of _ (by decide +kernel)) (goodIn_p (big := w_c_M_isNoSort_lo) (.code yX19_isIn cX19_isIn 3 (some .boolean) :: wb_c_M_isIn_lo) [8] rfl (by decide +kernel))
set_option maxHeartbeats 4000000 in
set_option maxRecDepth 100000 in
theorem c_M_isNoSort_lo (l : Launch) (eD eI : Nat) (ad : Nat → Nat) (dC : Nat → ClassId) (dI : Nat → Nat → Nat) (sz : Nat) (mm : Nat) (ms : Nat) (mt : Nat) (mh : Nat) (me : Nat) (th : Int32) (f0 : Value) (f1 : Value) (tt : Int32) (h1 : tt < 0) : Met l yX19_isNoSort w_c_M_isNoSort_lo ({ frames := 1, cells := 0, slots := 0, locals := 22 }) (va_Pc [.ref mm, .int tt] (zPre eD eI ad (dC, dI) [(mm, .inr (21, [.int th, .ref ms, .ref mt, .ref mh, .ref me])), (ms, .inr (1, [f0, f1, .int 0]))] [] sz)) (va_Qi (fun (r : Int32) (_ : Unit) => r = 1) (fun (_ : Unit) => zEnd (dC, dI) (va_A [(mm, .inr (21, [.int th, .ref ms, .ref mt, .ref mh, .ref me])), (ms, .inr (1, [f0, f1, .int 0]))] sz) [(mm, .inr (21, [.int th, .ref ms, .ref mt, .ref mh, .ref me])), (ms, .inr (1, [f0, f1, .int 0]))] []) (va_A [(mm, .inr (21, [.int th, .ref ms, .ref mt, .ref mh, .ref me])), (ms, .inr (1, [f0, f1, .int 0]))] sz)) 0 0 (va_A [(mm, .inr (21, [.int th, .ref ms, .ref mt, .ref mh, .ref me])), (ms, .inr (1, [f0, f1, .int 0]))] sz) := by
  refine Met.ofW (cc := cX19_isNoSort) (maxL := 2) (ret := (some .boolean)) (by decide) rfl ?_
  intro p e s m args below meth c s₁ B hml hv
  obtain ⟨rfl, hsz, hP, hK, hD0, hE⟩ := hv
  have hx := B.exec
  have hb := B.bytes
  have hr := B.returns
  have hts := atoms_spec (ws := w_c_M_isNoSort_lo) B.pre
  have hown : s.vm.findClass RX19 = some m.cls := findClass_of_methodNamed B.named
  have hlocks := B.notSynchronized
  subst hsz
  have hD := hD0.self (sz := s.heap.size)
  generalize hAe : va_A [(mm, .inr (21, [.int th, .ref ms, .ref mt, .ref mh, .ref me])), (ms, .inr (1, [f0, f1, .int 0]))] s.heap.size = A at hD hE ⊢
  have hA : ∀ q : Nat, s.heap.size ≤ q → A q := fun q h => by rw [← hAe]; exact Or.inr h
  have hS : va_S A s.heap s.heap [] := va_S.rf
  have hP : va_P (dC, dI) vwCl [(mm, .inr (21, [.int th, .ref ms, .ref mt, .ref mh, .ref me])), (ms, .inr (1, [f0, f1, .int 0]))] s.heap := hP
  have hl := lv_entry ([.ref mm, .int tt]) (n := 2) (Nat.le_of_ble_eq_true rfl)
  rw [lg_entry_eq]
  generalize (lg_sl ([.ref mm, .int tt]) ++ List.replicate (2 - (lg_sl ([.ref mm, .int tt])).length) Slot.unset).toArray = ls at hl ⊢
  have hl : lv_has ls 2 [(0, .ref mm), (1, .int tt)] := hl
  have in_RJx4a65c : ∀ w ∈ u_ws RJx4a65c TJx4a65c 3, w ∈ w_c_M_isNoSort_lo := by decide +kernel
  have in_RX19 : ∀ w ∈ u_ws RX19 TX19 5, w ∈ w_c_M_isNoSort_lo := by decide +kernel
  refine lv_iload_n hx hb dX19_isNoSort_0 rfl (lv_at hl 1 rfl) ?_
  refine lv_iconst (v := 0) hx hb dX19_isNoSort_1 (by decide) ?_
  refine lv_aload_n hx hb dX19_isNoSort_2 rfl (lv_at hl 0 rfl) ?_
  refine va_get (D := (dC, dI)) (ci := 21) (v := .ref ms) (C := RX19) (T := TX19) (N := 5) hx hb hts in_RX19 hown hK hP 0 rfl rfl 1 (by decide) (hts (.fieldLink RX19 10 "HornbookModel" "sorts" "Ljava/util/ArrayList;") (by decide +kernel)) (fun _ h9 => h9) rfl dX19_isNoSort_3 ?_
  refine z_i (wr := [(mm, .inr (21, [.int th, .ref ms, .ref mt, .ref mh, .ref me]))]) (va_runV (As := []) (rest := [.int 0, .int tt]) ⟨hx, hb, hml, hown, hts⟩ (c_AL_size l eD eI ad dC dI s.heap.size ms f0 f1 0) (cwV 0 hts g_c_M_isNoSort_lo_0 rfl rfl rfl (by decide +kernel) ⟨Nat.le_of_ble_eq_true rfl, Nat.le_of_ble_eq_true rfl⟩) (z_preV (wc := [(ms, .inr (1, [f0, f1, .int 0]))]) hP hD hK hS hA hE [1] [] rfl (by decide) rfl (ci := 1) (q0 := 0) rfl rfl) rfl rfl hl.1 rfl (lv_room (Nat.le_of_ble_eq_true rfl)) dX19_isNoSort_6 ⟨Nat.le_of_ble_eq_true rfl, Nat.le_of_ble_eq_true rfl⟩) hP hD hK hS hA [1] [0] rfl rfl (by decide) (by decide) (fun r_1 u H locs hw_2 hP hD hK hS => ?_)
  obtain ⟨⟩ := u
  have hP : va_P (dC, dI) vwCl [(mm, .inr (21, [.int th, .ref ms, .ref mt, .ref mh, .ref me])), (ms, .inr (1, [f0, f1, .int 0]))] H := hP
  have hD : va_D A [(mm, .inr (21, [.int th, .ref ms, .ref mt, .ref mh, .ref me])), (ms, .inr (1, [f0, f1, .int 0]))] := hD
  have hK : va_K (dC, dI) vwCl [] s := by simpa using hK
  have hw_2 : r_1 = 0 := hw_2
  have hw_2 := hw_2.symm
  subst hw_2
  refine lv_iconst (v := 1) hx hb dX19_isNoSort_9 (by decide) ?_
  refine lv_isub hx hb dX19_isNoSort_10 ?_
  refine z_top (v' := .int (-1)) (congrArg Value.int (by decide)) ?_
  refine z_i (wr := [(mm, .inr (21, [.int th, .ref ms, .ref mt, .ref mh, .ref me])), (ms, .inr (1, [f0, f1, .int 0]))]) (va_runS (As := [.int tt, .int 0, .int (-1)]) (rest := []) ⟨hx, hb, hml, hown, hts⟩ (c_M_isIn_lo l eD eI ad dC dI H.size tt 0 (-1) (h1)) (va_cwS 3 hts g_c_M_isNoSort_lo_1 rfl rfl rfl (by decide +kernel) ⟨Nat.le_of_ble_eq_true rfl, Nat.le_of_ble_eq_true rfl⟩) (z_preS (wc := []) hP hD hK hS hA hE [] [] rfl (by decide) rfl) rfl rfl hl.1 rfl (lv_room (Nat.le_of_ble_eq_true rfl)) dX19_isNoSort_11 ⟨Nat.le_of_ble_eq_true rfl, Nat.le_of_ble_eq_true rfl⟩) hP hD hK hS hA [] [0, 1] rfl rfl (by decide) (by decide) (fun r_3 u H locs hw_4 hP hD hK hS => ?_)
  obtain ⟨⟩ := u
  have hP : va_P (dC, dI) vwCl [(mm, .inr (21, [.int th, .ref ms, .ref mt, .ref mh, .ref me])), (ms, .inr (1, [f0, f1, .int 0]))] H := hP
  have hD : va_D A [(mm, .inr (21, [.int th, .ref ms, .ref mt, .ref mh, .ref me])), (ms, .inr (1, [f0, f1, .int 0]))] := hD
  have hK : va_K (dC, dI) vwCl [] s := by simpa using hK
  have hw_4 : r_3 = 0 := hw_4
  have hw_4 := hw_4.symm
  subst hw_4
  refine lv_if_ne (tgt := 21) hx hb dX19_isNoSort_14 (by decide) (fun c_5 => ?_) (fun c_5 => ?_)
  · exact absurd (by decide) c_5
  refine lv_iconst (v := 1) hx hb dX19_isNoSort_17 (by decide) ?_
  refine lv_goto (tgt := 22) hx hb dX19_isNoSort_18 (by decide) ?_
  have hP9 := hP.sub (ws' := [(mm, .inr (21, [.int th, .ref ms, .ref mt, .ref mh, .ref me])), (ms, .inr (1, [f0, f1, .int 0]))]) [0, 1] rfl
  have hD9 := hD.sub (ws' := [(mm, .inr (21, [.int th, .ref ms, .ref mt, .ref mh, .ref me])), (ms, .inr (1, [f0, f1, .int 0]))]) [0, 1] (by decide) rfl
  have hK9 := hK.sub (tys' := []) [] rfl
  refine W.widen (k := 0) (n := 0) (Nat.le_of_ble_eq_true rfl) (Nat.le_of_ble_eq_true rfl) ?_
  exact W.zret (v := 1) hx hb hr (by first | rfl | decide) (fun t ht hW => ⟨⟨1, (), rfl, rfl, ⟨by rw [ht]; exact hP9, va_K.moved hW.alike hK9, hD9⟩⟩, hS.F ht⟩) hS.2.2 dX19_isNoSort_22

def wb_c_M_isNoSort_hi : List Cond := [.fieldLink RX19 10 "HornbookModel" "sorts" "Ljava/util/ArrayList;", .code yJx4a65c_size_8abf5 cJx4a65c_size_8abf5 1 (some .int), .fieldLink RJx4a65c 48 "java/util/ArrayList" "size" "I", .methodLink RX19 47 yJx4a65c_size_8abf5, .instanceMethod yJx4a65c_size_8abf5, .selects RJx4a65c yJx4a65c_size_8abf5 yJx4a65c_size_8abf5, .initialized RJx4a65c, .code yX19_isIn cX19_isIn 3 (some .boolean), .methodLink RX19 51 yX19_isIn, .static yX19_isIn, .initialized RX19] ++ u_ws RJx4a65c TJx4a65c 3 ++ u_ws RX19 TX19 5
def w_c_M_isNoSort_hi : List Cond := .code yX19_isNoSort cX19_isNoSort 2 (some .boolean) :: wb_c_M_isNoSort_hi
set_option maxRecDepth 100000 in
theorem g_c_M_isNoSort_hi_0 : GoodIn w_c_M_isNoSort_hi (wsV RX19 47 RJx4a65c yJx4a65c_size_8abf5 w_c_AL_size) := goodIn_app (goodIn_of _ (by decide +kernel)) (goodIn_p (big := w_c_M_isNoSort_hi) (.code yJx4a65c_size_8abf5 cJx4a65c_size_8abf5 1 (some .int) :: wb_c_AL_size) [2] rfl (by decide +kernel))
set_option maxRecDepth 100000 in
theorem g_c_M_isNoSort_hi_1 : GoodIn w_c_M_isNoSort_hi (va_wsS RX19 51 yX19_isIn w_c_M_isIn_hi) := goodIn_app (goodIn_of _ (by decide +kernel)) (goodIn_p (big := w_c_M_isNoSort_hi) (.code yX19_isIn cX19_isIn 3 (some .boolean) :: wb_c_M_isIn_hi) [8] rfl (by decide +kernel))
set_option maxHeartbeats 4000000 in
set_option maxRecDepth 100000 in
theorem c_M_isNoSort_hi (l : Launch) (eD eI : Nat) (ad : Nat → Nat) (dC : Nat → ClassId) (dI : Nat → Nat → Nat) (sz : Nat) (mm : Nat) (ms : Nat) (mt : Nat) (mh : Nat) (me : Nat) (th : Int32) (f0 : Value) (f1 : Value) (tt : Int32) (h0 : ¬ tt < 0) : Met l yX19_isNoSort w_c_M_isNoSort_hi ({ frames := 1, cells := 0, slots := 0, locals := 22 }) (va_Pc [.ref mm, .int tt] (zPre eD eI ad (dC, dI) [(mm, .inr (21, [.int th, .ref ms, .ref mt, .ref mh, .ref me])), (ms, .inr (1, [f0, f1, .int 0]))] [] sz)) (va_Qi (fun (r : Int32) (_ : Unit) => r = 1) (fun (_ : Unit) => zEnd (dC, dI) (va_A [(mm, .inr (21, [.int th, .ref ms, .ref mt, .ref mh, .ref me])), (ms, .inr (1, [f0, f1, .int 0]))] sz) [(mm, .inr (21, [.int th, .ref ms, .ref mt, .ref mh, .ref me])), (ms, .inr (1, [f0, f1, .int 0]))] []) (va_A [(mm, .inr (21, [.int th, .ref ms, .ref mt, .ref mh, .ref me])), (ms, .inr (1, [f0, f1, .int 0]))] sz)) 0 0 (va_A [(mm, .inr (21, [.int th, .ref ms, .ref mt, .ref mh, .ref me])), (ms, .inr (1, [f0, f1, .int 0]))] sz) := by
  refine Met.ofW (cc := cX19_isNoSort) (maxL := 2) (ret := (some .boolean)) (by decide) rfl ?_
  intro p e s m args below meth c s₁ B hml hv
  obtain ⟨rfl, hsz, hP, hK, hD0, hE⟩ := hv
  have hx := B.exec
  have hb := B.bytes
  have hr := B.returns
  have hts := atoms_spec (ws := w_c_M_isNoSort_hi) B.pre
  have hown : s.vm.findClass RX19 = some m.cls := findClass_of_methodNamed B.named
  have hlocks := B.notSynchronized
  subst hsz
  have hD := hD0.self (sz := s.heap.size)
  generalize hAe : va_A [(mm, .inr (21, [.int th, .ref ms, .ref mt, .ref mh, .ref me])), (ms, .inr (1, [f0, f1, .int 0]))] s.heap.size = A at hD hE ⊢
  have hA : ∀ q : Nat, s.heap.size ≤ q → A q := fun q h => by rw [← hAe]; exact Or.inr h
  have hS : va_S A s.heap s.heap [] := va_S.rf
  have hP : va_P (dC, dI) vwCl [(mm, .inr (21, [.int th, .ref ms, .ref mt, .ref mh, .ref me])), (ms, .inr (1, [f0, f1, .int 0]))] s.heap := hP
  have hl := lv_entry ([.ref mm, .int tt]) (n := 2) (Nat.le_of_ble_eq_true rfl)
  rw [lg_entry_eq]
  generalize (lg_sl ([.ref mm, .int tt]) ++ List.replicate (2 - (lg_sl ([.ref mm, .int tt])).length) Slot.unset).toArray = ls at hl ⊢
  have hl : lv_has ls 2 [(0, .ref mm), (1, .int tt)] := hl
  have in_RJx4a65c : ∀ w ∈ u_ws RJx4a65c TJx4a65c 3, w ∈ w_c_M_isNoSort_hi := by decide +kernel
  have in_RX19 : ∀ w ∈ u_ws RX19 TX19 5, w ∈ w_c_M_isNoSort_hi := by decide +kernel
  refine lv_iload_n hx hb dX19_isNoSort_0 rfl (lv_at hl 1 rfl) ?_
  refine lv_iconst (v := 0) hx hb dX19_isNoSort_1 (by decide) ?_
  refine lv_aload_n hx hb dX19_isNoSort_2 rfl (lv_at hl 0 rfl) ?_
  refine va_get (D := (dC, dI)) (ci := 21) (v := .ref ms) (C := RX19) (T := TX19) (N := 5) hx hb hts in_RX19 hown hK hP 0 rfl rfl 1 (by decide) (hts (.fieldLink RX19 10 "HornbookModel" "sorts" "Ljava/util/ArrayList;") (by decide +kernel)) (fun _ h9 => h9) rfl dX19_isNoSort_3 ?_
  refine z_i (wr := [(mm, .inr (21, [.int th, .ref ms, .ref mt, .ref mh, .ref me]))]) (va_runV (As := []) (rest := [.int 0, .int tt]) ⟨hx, hb, hml, hown, hts⟩ (c_AL_size l eD eI ad dC dI s.heap.size ms f0 f1 0) (cwV 0 hts g_c_M_isNoSort_hi_0 rfl rfl rfl (by decide +kernel) ⟨Nat.le_of_ble_eq_true rfl, Nat.le_of_ble_eq_true rfl⟩) (z_preV (wc := [(ms, .inr (1, [f0, f1, .int 0]))]) hP hD hK hS hA hE [1] [] rfl (by decide) rfl (ci := 1) (q0 := 0) rfl rfl) rfl rfl hl.1 rfl (lv_room (Nat.le_of_ble_eq_true rfl)) dX19_isNoSort_6 ⟨Nat.le_of_ble_eq_true rfl, Nat.le_of_ble_eq_true rfl⟩) hP hD hK hS hA [1] [0] rfl rfl (by decide) (by decide) (fun r_1 u H locs hw_2 hP hD hK hS => ?_)
  obtain ⟨⟩ := u
  have hP : va_P (dC, dI) vwCl [(mm, .inr (21, [.int th, .ref ms, .ref mt, .ref mh, .ref me])), (ms, .inr (1, [f0, f1, .int 0]))] H := hP
  have hD : va_D A [(mm, .inr (21, [.int th, .ref ms, .ref mt, .ref mh, .ref me])), (ms, .inr (1, [f0, f1, .int 0]))] := hD
  have hK : va_K (dC, dI) vwCl [] s := by simpa using hK
  have hw_2 : r_1 = 0 := hw_2
  have hw_2 := hw_2.symm
  subst hw_2
  refine lv_iconst (v := 1) hx hb dX19_isNoSort_9 (by decide) ?_
  refine lv_isub hx hb dX19_isNoSort_10 ?_
  refine z_top (v' := .int (-1)) (congrArg Value.int (by decide)) ?_
  refine z_i (wr := [(mm, .inr (21, [.int th, .ref ms, .ref mt, .ref mh, .ref me])), (ms, .inr (1, [f0, f1, .int 0]))]) (va_runS (As := [.int tt, .int 0, .int (-1)]) (rest := []) ⟨hx, hb, hml, hown, hts⟩ (c_M_isIn_hi l eD eI ad dC dI H.size tt 0 (-1) (h0) ((Int32.lt_of_lt_of_le (by decide) (Int32.not_lt.mp h0)))) (va_cwS 3 hts g_c_M_isNoSort_hi_1 rfl rfl rfl (by decide +kernel) ⟨Nat.le_of_ble_eq_true rfl, Nat.le_of_ble_eq_true rfl⟩) (z_preS (wc := []) hP hD hK hS hA hE [] [] rfl (by decide) rfl) rfl rfl hl.1 rfl (lv_room (Nat.le_of_ble_eq_true rfl)) dX19_isNoSort_11 ⟨Nat.le_of_ble_eq_true rfl, Nat.le_of_ble_eq_true rfl⟩) hP hD hK hS hA [] [0, 1] rfl rfl (by decide) (by decide) (fun r_3 u H locs hw_4 hP hD hK hS => ?_)
  obtain ⟨⟩ := u
  have hP : va_P (dC, dI) vwCl [(mm, .inr (21, [.int th, .ref ms, .ref mt, .ref mh, .ref me])), (ms, .inr (1, [f0, f1, .int 0]))] H := hP
  have hD : va_D A [(mm, .inr (21, [.int th, .ref ms, .ref mt, .ref mh, .ref me])), (ms, .inr (1, [f0, f1, .int 0]))] := hD
  have hK : va_K (dC, dI) vwCl [] s := by simpa using hK
  have hw_4 : r_3 = 0 := hw_4
  have hw_4 := hw_4.symm
  subst hw_4
  refine lv_if_ne (tgt := 21) hx hb dX19_isNoSort_14 (by decide) (fun c_5 => ?_) (fun c_5 => ?_)
  · exact absurd (by decide) c_5
  refine lv_iconst (v := 1) hx hb dX19_isNoSort_17 (by decide) ?_
  refine lv_goto (tgt := 22) hx hb dX19_isNoSort_18 (by decide) ?_
  have hP9 := hP.sub (ws' := [(mm, .inr (21, [.int th, .ref ms, .ref mt, .ref mh, .ref me])), (ms, .inr (1, [f0, f1, .int 0]))]) [0, 1] rfl
  have hD9 := hD.sub (ws' := [(mm, .inr (21, [.int th, .ref ms, .ref mt, .ref mh, .ref me])), (ms, .inr (1, [f0, f1, .int 0]))]) [0, 1] (by decide) rfl
  have hK9 := hK.sub (tys' := []) [] rfl
  refine W.widen (k := 0) (n := 0) (Nat.le_of_ble_eq_true rfl) (Nat.le_of_ble_eq_true rfl) ?_
  exact W.zret (v := 1) hx hb hr (by first | rfl | decide) (fun t ht hW => ⟨⟨1, (), rfl, rfl, ⟨by rw [ht]; exact hP9, va_K.moved hW.alike hK9, hD9⟩⟩, hS.F ht⟩) hS.2.2 dX19_isNoSort_22

def wb_c_M_isNoExpression_lo : List Cond := [.fieldLink RX19 22 "HornbookModel" "expressions" "Ljava/util/ArrayList;", .code yJx4a65c_size_8abf5 cJx4a65c_size_8abf5 1 (some .int), .fieldLink RJx4a65c 48 "java/util/ArrayList" "size" "I", .methodLink RX19 47 yJx4a65c_size_8abf5, .instanceMethod yJx4a65c_size_8abf5, .selects RJx4a65c yJx4a65c_size_8abf5 yJx4a65c_size_8abf5, .initialized RJx4a65c, .code yX19_isIn cX19_isIn 3 (some .boolean), .methodLink RX19 51 yX19_isIn, .static yX19_isIn, .initialized RX19] ++ u_ws RJx4a65c TJx4a65c 3 ++ u_ws RX19 TX19 5
def w_c_M_isNoExpression_lo : List Cond := .code yX19_isNoExpression cX19_isNoExpression 2 (some .boolean) :: wb_c_M_isNoExpression_lo
set_option maxRecDepth 100000 in
theorem g_c_M_isNoExpression_lo_0 : GoodIn w_c_M_isNoExpression_lo (wsV RX19 47 RJx4a65c yJx4a65c_size_8abf5 w_c_AL_size) := goodIn_app (goodIn_of _ (by decide +kernel)) (goodIn_p (big := w_c_M_isNoExpression_lo) (.code yJx4a65c_size_8abf5 cJx4a65c_size_8abf5 1 (some .int) :: wb_c_AL_size) [2] rfl (by decide +kernel))
set_option maxRecDepth 100000 in
theorem g_c_M_isNoExpression_lo_1 : GoodIn w_c_M_isNoExpression_lo (va_wsS RX19 51 yX19_isIn w_c_M_isIn_lo) := goodIn_app (goodIn_of _ (by decide +kernel)) (goodIn_p (big := w_c_M_isNoExpression_lo) (.code yX19_isIn cX19_isIn 3 (some .boolean) :: wb_c_M_isIn_lo) [8] rfl (by decide +kernel))
set_option maxHeartbeats 4000000 in
set_option maxRecDepth 100000 in
theorem c_M_isNoExpression_lo (l : Launch) (eD eI : Nat) (ad : Nat → Nat) (dC : Nat → ClassId) (dI : Nat → Nat → Nat) (sz : Nat) (mm : Nat) (ms : Nat) (mt : Nat) (mh : Nat) (me : Nat) (th : Int32) (f0 : Value) (f1 : Value) (tt : Int32) (h1 : tt < 0) : Met l yX19_isNoExpression w_c_M_isNoExpression_lo ({ frames := 1, cells := 0, slots := 0, locals := 22 }) (va_Pc [.ref mm, .int tt] (zPre eD eI ad (dC, dI) [(mm, .inr (21, [.int th, .ref ms, .ref mt, .ref mh, .ref me])), (me, .inr (1, [f0, f1, .int 0]))] [] sz)) (va_Qi (fun (r : Int32) (_ : Unit) => r = 1) (fun (_ : Unit) => zEnd (dC, dI) (va_A [(mm, .inr (21, [.int th, .ref ms, .ref mt, .ref mh, .ref me])), (me, .inr (1, [f0, f1, .int 0]))] sz) [(mm, .inr (21, [.int th, .ref ms, .ref mt, .ref mh, .ref me])), (me, .inr (1, [f0, f1, .int 0]))] []) (va_A [(mm, .inr (21, [.int th, .ref ms, .ref mt, .ref mh, .ref me])), (me, .inr (1, [f0, f1, .int 0]))] sz)) 0 0 (va_A [(mm, .inr (21, [.int th, .ref ms, .ref mt, .ref mh, .ref me])), (me, .inr (1, [f0, f1, .int 0]))] sz) := by
  refine Met.ofW (cc := cX19_isNoExpression) (maxL := 2) (ret := (some .boolean)) (by decide) rfl ?_
  intro p e s m args below meth c s₁ B hml hv
  obtain ⟨rfl, hsz, hP, hK, hD0, hE⟩ := hv
  have hx := B.exec
  have hb := B.bytes
  have hr := B.returns
  have hts := atoms_spec (ws := w_c_M_isNoExpression_lo) B.pre
  have hown : s.vm.findClass RX19 = some m.cls := findClass_of_methodNamed B.named
  have hlocks := B.notSynchronized
  subst hsz
  have hD := hD0.self (sz := s.heap.size)
  generalize hAe : va_A [(mm, .inr (21, [.int th, .ref ms, .ref mt, .ref mh, .ref me])), (me, .inr (1, [f0, f1, .int 0]))] s.heap.size = A at hD hE ⊢
  have hA : ∀ q : Nat, s.heap.size ≤ q → A q := fun q h => by rw [← hAe]; exact Or.inr h
  have hS : va_S A s.heap s.heap [] := va_S.rf
  have hP : va_P (dC, dI) vwCl [(mm, .inr (21, [.int th, .ref ms, .ref mt, .ref mh, .ref me])), (me, .inr (1, [f0, f1, .int 0]))] s.heap := hP
  have hl := lv_entry ([.ref mm, .int tt]) (n := 2) (Nat.le_of_ble_eq_true rfl)
  rw [lg_entry_eq]
  generalize (lg_sl ([.ref mm, .int tt]) ++ List.replicate (2 - (lg_sl ([.ref mm, .int tt])).length) Slot.unset).toArray = ls at hl ⊢
  have hl : lv_has ls 2 [(0, .ref mm), (1, .int tt)] := hl
  have in_RJx4a65c : ∀ w ∈ u_ws RJx4a65c TJx4a65c 3, w ∈ w_c_M_isNoExpression_lo := by decide +kernel
  have in_RX19 : ∀ w ∈ u_ws RX19 TX19 5, w ∈ w_c_M_isNoExpression_lo := by decide +kernel
  refine lv_iload_n hx hb dX19_isNoExpression_0 rfl (lv_at hl 1 rfl) ?_
  refine lv_iconst (v := 0) hx hb dX19_isNoExpression_1 (by decide) ?_
  refine lv_aload_n hx hb dX19_isNoExpression_2 rfl (lv_at hl 0 rfl) ?_
  refine va_get (D := (dC, dI)) (ci := 21) (v := .ref me) (C := RX19) (T := TX19) (N := 5) hx hb hts in_RX19 hown hK hP 0 rfl rfl 4 (by decide) (hts (.fieldLink RX19 22 "HornbookModel" "expressions" "Ljava/util/ArrayList;") (by decide +kernel)) (fun _ h9 => h9) rfl dX19_isNoExpression_3 ?_
  refine z_i (wr := [(mm, .inr (21, [.int th, .ref ms, .ref mt, .ref mh, .ref me]))]) (va_runV (As := []) (rest := [.int 0, .int tt]) ⟨hx, hb, hml, hown, hts⟩ (c_AL_size l eD eI ad dC dI s.heap.size me f0 f1 0) (cwV 0 hts g_c_M_isNoExpression_lo_0 rfl rfl rfl (by decide +kernel) ⟨Nat.le_of_ble_eq_true rfl, Nat.le_of_ble_eq_true rfl⟩) (z_preV (wc := [(me, .inr (1, [f0, f1, .int 0]))]) hP hD hK hS hA hE [1] [] rfl (by decide) rfl (ci := 1) (q0 := 0) rfl rfl) rfl rfl hl.1 rfl (lv_room (Nat.le_of_ble_eq_true rfl)) dX19_isNoExpression_6 ⟨Nat.le_of_ble_eq_true rfl, Nat.le_of_ble_eq_true rfl⟩) hP hD hK hS hA [1] [0] rfl rfl (by decide) (by decide) (fun r_1 u H locs hw_2 hP hD hK hS => ?_)
  obtain ⟨⟩ := u
  have hP : va_P (dC, dI) vwCl [(mm, .inr (21, [.int th, .ref ms, .ref mt, .ref mh, .ref me])), (me, .inr (1, [f0, f1, .int 0]))] H := hP
  have hD : va_D A [(mm, .inr (21, [.int th, .ref ms, .ref mt, .ref mh, .ref me])), (me, .inr (1, [f0, f1, .int 0]))] := hD
  have hK : va_K (dC, dI) vwCl [] s := by simpa using hK
  have hw_2 : r_1 = 0 := hw_2
  have hw_2 := hw_2.symm
  subst hw_2
  refine lv_iconst (v := 1) hx hb dX19_isNoExpression_9 (by decide) ?_
  refine lv_isub hx hb dX19_isNoExpression_10 ?_
  refine z_top (v' := .int (-1)) (congrArg Value.int (by decide)) ?_
  refine z_i (wr := [(mm, .inr (21, [.int th, .ref ms, .ref mt, .ref mh, .ref me])), (me, .inr (1, [f0, f1, .int 0]))]) (va_runS (As := [.int tt, .int 0, .int (-1)]) (rest := []) ⟨hx, hb, hml, hown, hts⟩ (c_M_isIn_lo l eD eI ad dC dI H.size tt 0 (-1) (h1)) (va_cwS 3 hts g_c_M_isNoExpression_lo_1 rfl rfl rfl (by decide +kernel) ⟨Nat.le_of_ble_eq_true rfl, Nat.le_of_ble_eq_true rfl⟩) (z_preS (wc := []) hP hD hK hS hA hE [] [] rfl (by decide) rfl) rfl rfl hl.1 rfl (lv_room (Nat.le_of_ble_eq_true rfl)) dX19_isNoExpression_11 ⟨Nat.le_of_ble_eq_true rfl, Nat.le_of_ble_eq_true rfl⟩) hP hD hK hS hA [] [0, 1] rfl rfl (by decide) (by decide) (fun r_3 u H locs hw_4 hP hD hK hS => ?_)
  obtain ⟨⟩ := u
  have hP : va_P (dC, dI) vwCl [(mm, .inr (21, [.int th, .ref ms, .ref mt, .ref mh, .ref me])), (me, .inr (1, [f0, f1, .int 0]))] H := hP
  have hD : va_D A [(mm, .inr (21, [.int th, .ref ms, .ref mt, .ref mh, .ref me])), (me, .inr (1, [f0, f1, .int 0]))] := hD
  have hK : va_K (dC, dI) vwCl [] s := by simpa using hK
  have hw_4 : r_3 = 0 := hw_4
  have hw_4 := hw_4.symm
  subst hw_4
  refine lv_if_ne (tgt := 21) hx hb dX19_isNoExpression_14 (by decide) (fun c_5 => ?_) (fun c_5 => ?_)
  · exact absurd (by decide) c_5
  refine lv_iconst (v := 1) hx hb dX19_isNoExpression_17 (by decide) ?_
  refine lv_goto (tgt := 22) hx hb dX19_isNoExpression_18 (by decide) ?_
  have hP9 := hP.sub (ws' := [(mm, .inr (21, [.int th, .ref ms, .ref mt, .ref mh, .ref me])), (me, .inr (1, [f0, f1, .int 0]))]) [0, 1] rfl
  have hD9 := hD.sub (ws' := [(mm, .inr (21, [.int th, .ref ms, .ref mt, .ref mh, .ref me])), (me, .inr (1, [f0, f1, .int 0]))]) [0, 1] (by decide) rfl
  have hK9 := hK.sub (tys' := []) [] rfl
  refine W.widen (k := 0) (n := 0) (Nat.le_of_ble_eq_true rfl) (Nat.le_of_ble_eq_true rfl) ?_
  exact W.zret (v := 1) hx hb hr (by first | rfl | decide) (fun t ht hW => ⟨⟨1, (), rfl, rfl, ⟨by rw [ht]; exact hP9, va_K.moved hW.alike hK9, hD9⟩⟩, hS.F ht⟩) hS.2.2 dX19_isNoExpression_22

def wb_c_M_isNoExpression_hi : List Cond := [.fieldLink RX19 22 "HornbookModel" "expressions" "Ljava/util/ArrayList;", .code yJx4a65c_size_8abf5 cJx4a65c_size_8abf5 1 (some .int), .fieldLink RJx4a65c 48 "java/util/ArrayList" "size" "I", .methodLink RX19 47 yJx4a65c_size_8abf5, .instanceMethod yJx4a65c_size_8abf5, .selects RJx4a65c yJx4a65c_size_8abf5 yJx4a65c_size_8abf5, .initialized RJx4a65c, .code yX19_isIn cX19_isIn 3 (some .boolean), .methodLink RX19 51 yX19_isIn, .static yX19_isIn, .initialized RX19] ++ u_ws RJx4a65c TJx4a65c 3 ++ u_ws RX19 TX19 5
def w_c_M_isNoExpression_hi : List Cond := .code yX19_isNoExpression cX19_isNoExpression 2 (some .boolean) :: wb_c_M_isNoExpression_hi
set_option maxRecDepth 100000 in
theorem g_c_M_isNoExpression_hi_0 : GoodIn w_c_M_isNoExpression_hi (wsV RX19 47 RJx4a65c yJx4a65c_size_8abf5 w_c_AL_size) := goodIn_app (goodIn_of _ (by decide +kernel)) (goodIn_p (big := w_c_M_isNoExpression_hi) (.code yJx4a65c_size_8abf5 cJx4a65c_size_8abf5 1 (some .int) :: wb_c_AL_size) [2] rfl (by decide +kernel))
set_option maxRecDepth 100000 in
theorem g_c_M_isNoExpression_hi_1 : GoodIn w_c_M_isNoExpression_hi (va_wsS RX19 51 yX19_isIn w_c_M_isIn_hi) := goodIn_app (goodIn_of _ (by decide +kernel)) (goodIn_p (big := w_c_M_isNoExpression_hi) (.code yX19_isIn cX19_isIn 3 (some .boolean) :: wb_c_M_isIn_hi) [8] rfl (by decide +kernel))
set_option maxHeartbeats 4000000 in
set_option maxRecDepth 100000 in
theorem c_M_isNoExpression_hi (l : Launch) (eD eI : Nat) (ad : Nat → Nat) (dC : Nat → ClassId) (dI : Nat → Nat → Nat) (sz : Nat) (mm : Nat) (ms : Nat) (mt : Nat) (mh : Nat) (me : Nat) (th : Int32) (f0 : Value) (f1 : Value) (tt : Int32) (h0 : ¬ tt < 0) : Met l yX19_isNoExpression w_c_M_isNoExpression_hi ({ frames := 1, cells := 0, slots := 0, locals := 22 }) (va_Pc [.ref mm, .int tt] (zPre eD eI ad (dC, dI) [(mm, .inr (21, [.int th, .ref ms, .ref mt, .ref mh, .ref me])), (me, .inr (1, [f0, f1, .int 0]))] [] sz)) (va_Qi (fun (r : Int32) (_ : Unit) => r = 1) (fun (_ : Unit) => zEnd (dC, dI) (va_A [(mm, .inr (21, [.int th, .ref ms, .ref mt, .ref mh, .ref me])), (me, .inr (1, [f0, f1, .int 0]))] sz) [(mm, .inr (21, [.int th, .ref ms, .ref mt, .ref mh, .ref me])), (me, .inr (1, [f0, f1, .int 0]))] []) (va_A [(mm, .inr (21, [.int th, .ref ms, .ref mt, .ref mh, .ref me])), (me, .inr (1, [f0, f1, .int 0]))] sz)) 0 0 (va_A [(mm, .inr (21, [.int th, .ref ms, .ref mt, .ref mh, .ref me])), (me, .inr (1, [f0, f1, .int 0]))] sz) := by
  refine Met.ofW (cc := cX19_isNoExpression) (maxL := 2) (ret := (some .boolean)) (by decide) rfl ?_
  intro p e s m args below meth c s₁ B hml hv
  obtain ⟨rfl, hsz, hP, hK, hD0, hE⟩ := hv
  have hx := B.exec
  have hb := B.bytes
  have hr := B.returns
  have hts := atoms_spec (ws := w_c_M_isNoExpression_hi) B.pre
  have hown : s.vm.findClass RX19 = some m.cls := findClass_of_methodNamed B.named
  have hlocks := B.notSynchronized
  subst hsz
  have hD := hD0.self (sz := s.heap.size)
  generalize hAe : va_A [(mm, .inr (21, [.int th, .ref ms, .ref mt, .ref mh, .ref me])), (me, .inr (1, [f0, f1, .int 0]))] s.heap.size = A at hD hE ⊢
  have hA : ∀ q : Nat, s.heap.size ≤ q → A q := fun q h => by rw [← hAe]; exact Or.inr h
  have hS : va_S A s.heap s.heap [] := va_S.rf
  have hP : va_P (dC, dI) vwCl [(mm, .inr (21, [.int th, .ref ms, .ref mt, .ref mh, .ref me])), (me, .inr (1, [f0, f1, .int 0]))] s.heap := hP
  have hl := lv_entry ([.ref mm, .int tt]) (n := 2) (Nat.le_of_ble_eq_true rfl)
  rw [lg_entry_eq]
  generalize (lg_sl ([.ref mm, .int tt]) ++ List.replicate (2 - (lg_sl ([.ref mm, .int tt])).length) Slot.unset).toArray = ls at hl ⊢
  have hl : lv_has ls 2 [(0, .ref mm), (1, .int tt)] := hl
  have in_RJx4a65c : ∀ w ∈ u_ws RJx4a65c TJx4a65c 3, w ∈ w_c_M_isNoExpression_hi := by decide +kernel
  have in_RX19 : ∀ w ∈ u_ws RX19 TX19 5, w ∈ w_c_M_isNoExpression_hi := by decide +kernel
  refine lv_iload_n hx hb dX19_isNoExpression_0 rfl (lv_at hl 1 rfl) ?_
  refine lv_iconst (v := 0) hx hb dX19_isNoExpression_1 (by decide) ?_
  refine lv_aload_n hx hb dX19_isNoExpression_2 rfl (lv_at hl 0 rfl) ?_
  refine va_get (D := (dC, dI)) (ci := 21) (v := .ref me) (C := RX19) (T := TX19) (N := 5) hx hb hts in_RX19 hown hK hP 0 rfl rfl 4 (by decide) (hts (.fieldLink RX19 22 "HornbookModel" "expressions" "Ljava/util/ArrayList;") (by decide +kernel)) (fun _ h9 => h9) rfl dX19_isNoExpression_3 ?_
  refine z_i (wr := [(mm, .inr (21, [.int th, .ref ms, .ref mt, .ref mh, .ref me]))]) (va_runV (As := []) (rest := [.int 0, .int tt]) ⟨hx, hb, hml, hown, hts⟩ (c_AL_size l eD eI ad dC dI s.heap.size me f0 f1 0) (cwV 0 hts g_c_M_isNoExpression_hi_0 rfl rfl rfl (by decide +kernel) ⟨Nat.le_of_ble_eq_true rfl, Nat.le_of_ble_eq_true rfl⟩) (z_preV (wc := [(me, .inr (1, [f0, f1, .int 0]))]) hP hD hK hS hA hE [1] [] rfl (by decide) rfl (ci := 1) (q0 := 0) rfl rfl) rfl rfl hl.1 rfl (lv_room (Nat.le_of_ble_eq_true rfl)) dX19_isNoExpression_6 ⟨Nat.le_of_ble_eq_true rfl, Nat.le_of_ble_eq_true rfl⟩) hP hD hK hS hA [1] [0] rfl rfl (by decide) (by decide) (fun r_1 u H locs hw_2 hP hD hK hS => ?_)
  obtain ⟨⟩ := u
  have hP : va_P (dC, dI) vwCl [(mm, .inr (21, [.int th, .ref ms, .ref mt, .ref mh, .ref me])), (me, .inr (1, [f0, f1, .int 0]))] H := hP
  have hD : va_D A [(mm, .inr (21, [.int th, .ref ms, .ref mt, .ref mh, .ref me])), (me, .inr (1, [f0, f1, .int 0]))] := hD
  have hK : va_K (dC, dI) vwCl [] s := by simpa using hK
  have hw_2 : r_1 = 0 := hw_2
  have hw_2 := hw_2.symm
  subst hw_2
  refine lv_iconst (v := 1) hx hb dX19_isNoExpression_9 (by decide) ?_
  refine lv_isub hx hb dX19_isNoExpression_10 ?_
  refine z_top (v' := .int (-1)) (congrArg Value.int (by decide)) ?_
  refine z_i (wr := [(mm, .inr (21, [.int th, .ref ms, .ref mt, .ref mh, .ref me])), (me, .inr (1, [f0, f1, .int 0]))]) (va_runS (As := [.int tt, .int 0, .int (-1)]) (rest := []) ⟨hx, hb, hml, hown, hts⟩ (c_M_isIn_hi l eD eI ad dC dI H.size tt 0 (-1) (h0) ((Int32.lt_of_lt_of_le (by decide) (Int32.not_lt.mp h0)))) (va_cwS 3 hts g_c_M_isNoExpression_hi_1 rfl rfl rfl (by decide +kernel) ⟨Nat.le_of_ble_eq_true rfl, Nat.le_of_ble_eq_true rfl⟩) (z_preS (wc := []) hP hD hK hS hA hE [] [] rfl (by decide) rfl) rfl rfl hl.1 rfl (lv_room (Nat.le_of_ble_eq_true rfl)) dX19_isNoExpression_11 ⟨Nat.le_of_ble_eq_true rfl, Nat.le_of_ble_eq_true rfl⟩) hP hD hK hS hA [] [0, 1] rfl rfl (by decide) (by decide) (fun r_3 u H locs hw_4 hP hD hK hS => ?_)
  obtain ⟨⟩ := u
  have hP : va_P (dC, dI) vwCl [(mm, .inr (21, [.int th, .ref ms, .ref mt, .ref mh, .ref me])), (me, .inr (1, [f0, f1, .int 0]))] H := hP
  have hD : va_D A [(mm, .inr (21, [.int th, .ref ms, .ref mt, .ref mh, .ref me])), (me, .inr (1, [f0, f1, .int 0]))] := hD
  have hK : va_K (dC, dI) vwCl [] s := by simpa using hK
  have hw_4 : r_3 = 0 := hw_4
  have hw_4 := hw_4.symm
  subst hw_4
  refine lv_if_ne (tgt := 21) hx hb dX19_isNoExpression_14 (by decide) (fun c_5 => ?_) (fun c_5 => ?_)
  · exact absurd (by decide) c_5
  refine lv_iconst (v := 1) hx hb dX19_isNoExpression_17 (by decide) ?_
  refine lv_goto (tgt := 22) hx hb dX19_isNoExpression_18 (by decide) ?_
  have hP9 := hP.sub (ws' := [(mm, .inr (21, [.int th, .ref ms, .ref mt, .ref mh, .ref me])), (me, .inr (1, [f0, f1, .int 0]))]) [0, 1] rfl
  have hD9 := hD.sub (ws' := [(mm, .inr (21, [.int th, .ref ms, .ref mt, .ref mh, .ref me])), (me, .inr (1, [f0, f1, .int 0]))]) [0, 1] (by decide) rfl
  have hK9 := hK.sub (tys' := []) [] rfl
  refine W.widen (k := 0) (n := 0) (Nat.le_of_ble_eq_true rfl) (Nat.le_of_ble_eq_true rfl) ?_
  exact W.zret (v := 1) hx hb hr (by first | rfl | decide) (fun t ht hW => ⟨⟨1, (), rfl, rfl, ⟨by rw [ht]; exact hP9, va_K.moved hW.alike hK9, hD9⟩⟩, hS.F ht⟩) hS.2.2 dX19_isNoExpression_22
