theorem dL_law_2196 : decode cL_law 2196 = .ok (.iinc 4 7, 3) := by decide +kernel
theorem dL_law_2199 : decode cL_law 2199 = .ok (.goto (-2176), 3) := by decide +kernel
theorem dL_law_23 : decode cL_law 23 = .ok (.iload 4, 2) := by decide +kernel
theorem dL_law_25 : decode cL_law 25 = .ok (.aload_n 0, 1) := by decide +kernel
theorem dL_law_26 : decode cL_law 26 = .ok (.arraylength, 1) := by decide +kernel
theorem dL_law_27 : decode cL_law 27 = .ok (.bipush 7, 2) := by decide +kernel
theorem dL_law_29 : decode cL_law 29 = .ok (.isub, 1) := by decide +kernel
theorem dL_law_30 : decode cL_law 30 = .ok (.if_icmp .gt 2172, 3) := by decide +kernel
theorem dL_law_2202 : decode cL_law 2202 = .ok (.iconst 1, 1) := by decide +kernel
theorem dL_law_2203 : decode cL_law 2203 = .ok (.ireturn, 1) := by decide +kernel
/-! what the walk of the law stands on (rows of this claim, by wip/p1/final.py) -/
theorem z_atIn : ∀ w ∈ zAt, w ∈ lw_tbl := by decide +kernel
theorem z_decIn : ∀ w ∈ zDecs, w ∈ lw_tbl := by decide +kernel
theorem z_cmp0 (x : Int64) : lg_cmp x x = 0 := by simp [lg_cmp]
theorem z_ra {U : State} {c : ClassId} {t : FieldType} (h : va_RA U c t) : U.vm.findClass ("[" ++ t.toString) = some c := by
  cases t with
  | object C => obtain ⟨_, _, _, _, _, h⟩ := h; exact h
  | _ => exact h
theorem z_kk {D : va_G} {cl : List vw_C} {tys : List (ClassId × FieldType)} {U : State} (hK : va_K D cl tys U) {c1 c2 : ClassId} {t : FieldType} (i j : Nat) (hi : tys[i]? = some (c1, t)) (hj : tys[j]? = some (c2, t)) : c1 = c2 := Option.some.inj ((z_ra (hK.2 i _ hi).2).symm.trans (z_ra (hK.2 j _ hj).2))
theorem z_and31 (x : Int32) : ∃ j : Nat, j < 32 ∧ x &&& 31 = Int32.ofNat j := by
  refine ⟨(x.toBitVec &&& 31#32).toNat, ?_, ?_⟩
  · rw [BitVec.toNat_and]; exact Nat.lt_of_le_of_lt Nat.and_le_right (by decide)
  · apply Int32.toBitVec_inj.mp
    rw [Int32.toBitVec_and]
    show x.toBitVec &&& 31#32 = BitVec.ofNat 32 (x.toBitVec &&& 31#32).toNat
    simp
def zLaw (l : Launch) (p : Program) (s : State) (m : MethodId) (meth : Method) (c : Code) (b : Nat) (xs : Nat → Int32) (A : Nat → Prop) (eD eI : Nat) (ad : Nat → Nat) : Prop :=
  l.flags = flags0 ∧ p.tables.exec = Jvm.exec ∧ c.code = code ∧ meth.sig.returnType = ret ∧ c.maxLocals = 9 ∧ s.vm.findClass RL = some m.cls ∧ (∀ w ∈ lw_tbl, w.before #[Value.ref b] s = true) ∧ va_X b 7 xs s s.heap ∧ b < s.heap.size ∧ ¬ A b ∧ meth.locks = false ∧ zEnv eD eI ad A s ∧ (∀ q : Nat, s.heap.size ≤ q → A q) ∧ (∀ q : Nat, A q → s.heap.size ≤ q) ∧ zDec s
theorem goodIn_q {big : List Cond} (ws : List Cond) (ps qs : List Nat) (hp : ws.filter k2_isCode = ps.filterMap (fun i => big[i]?)) (hq : ws.filter (fun w => !k2_isCode w) = qs.filterMap (fun i => big[i]?)) (h : (ws.filter (fun w => !k2_isCode w)).all goodWord = true) : GoodIn big ws := by
  intro w hw
  by_cases hc : k2_isCode w = true
  · have h1 : w ∈ ws.filter k2_isCode := List.mem_filter.mpr ⟨hw, hc⟩
    rw [hp] at h1
    obtain ⟨i, -, hi⟩ := List.mem_filterMap.mp h1
    refine ⟨List.mem_of_getElem? hi, ?_⟩
    cases w <;> first | (simp [k2_isCode] at hc; done) | exact Or.inl rfl
  · exact goodIn_r (ws.filter (fun w => !k2_isCode w)) qs hq h w (List.mem_filter.mpr ⟨hw, by simpa using hc⟩)
theorem zin_RJ6 : ∀ w ∈ u_ws RJ6 TJ6 1, w ∈ lw_tbl := fun w h => (goodIn_q (big := lw_tbl) (u_ws RJ6 TJ6 1) [] [1965] rfl (by decide +kernel) (by decide +kernel) w h).1
theorem zin_RJx4a65c : ∀ w ∈ u_ws RJx4a65c TJx4a65c 3, w ∈ lw_tbl := fun w h => (goodIn_q (big := lw_tbl) (u_ws RJx4a65c TJx4a65c 3) [] [152, 148, 150] rfl (by decide +kernel) (by decide +kernel) w h).1
theorem zin_RX0 : ∀ w ∈ u_ws RX0 TX0 8, w ∈ lw_tbl := fun w h => (goodIn_q (big := lw_tbl) (u_ws RX0 TX0 8) [] [324, 326, 328, 330, 332, 334, 336, 338] rfl (by decide +kernel) (by decide +kernel) w h).1
theorem zin_RX1 : ∀ w ∈ u_ws RX1 TX1 9, w ∈ lw_tbl := fun w h => (goodIn_q (big := lw_tbl) (u_ws RX1 TX1 9) [] [357, 359, 361, 363, 365, 367, 369, 371, 373] rfl (by decide +kernel) (by decide +kernel) w h).1
theorem zin_RX2 : ∀ w ∈ u_ws RX2 TX2 15, w ∈ lw_tbl := fun w h => (goodIn_q (big := lw_tbl) (u_ws RX2 TX2 15) [] [1401, 1403, 1405, 1407, 1409, 1411, 1413, 1415, 1417, 1419, 1421, 1423, 1425, 1427, 1429] rfl (by decide +kernel) (by decide +kernel) w h).1
theorem zin_RX3 : ∀ w ∈ u_ws RX3 TX3 4, w ∈ lw_tbl := fun w h => (goodIn_q (big := lw_tbl) (u_ws RX3 TX3 4) [] [387, 389, 391, 393] rfl (by decide +kernel) (by decide +kernel) w h).1
theorem zin_RX4 : ∀ w ∈ u_ws RX4 TX4 7, w ∈ lw_tbl := fun w h => (goodIn_q (big := lw_tbl) (u_ws RX4 TX4 7) [] [1338, 1340, 1342, 1344, 1346, 1348, 1350] rfl (by decide +kernel) (by decide +kernel) w h).1
theorem zin_RX5 : ∀ w ∈ u_ws RX5 TX5 14, w ∈ lw_tbl := fun w h => (goodIn_q (big := lw_tbl) (u_ws RX5 TX5 14) [] [194, 196, 198, 200, 202, 204, 206, 208, 210, 212, 214, 216, 218, 220] rfl (by decide +kernel) (by decide +kernel) w h).1
theorem zin_RX6 : ∀ w ∈ u_ws RX6 TX6 3, w ∈ lw_tbl := fun w h => (goodIn_q (big := lw_tbl) (u_ws RX6 TX6 3) [] [234, 236, 238] rfl (by decide +kernel) (by decide +kernel) w h).1
theorem zin_RX7 : ∀ w ∈ u_ws RX7 TX7 14, w ∈ lw_tbl := fun w h => (goodIn_q (big := lw_tbl) (u_ws RX7 TX7 14) [] [274, 276, 278, 280, 282, 284, 286, 288, 290, 292, 294, 296, 298, 300] rfl (by decide +kernel) (by decide +kernel) w h).1
theorem zin_RX8 : ∀ w ∈ u_ws RX8 TX8 2, w ∈ lw_tbl := fun w h => (goodIn_q (big := lw_tbl) (u_ws RX8 TX8 2) [] [249, 251] rfl (by decide +kernel) (by decide +kernel) w h).1
theorem zin_RX9 : ∀ w ∈ u_ws RX9 TX9 9, w ∈ lw_tbl := fun w h => (goodIn_q (big := lw_tbl) (u_ws RX9 TX9 9) [] [1147, 1149, 1151, 1153, 1155, 1157, 1159, 1161, 1163] rfl (by decide +kernel) (by decide +kernel) w h).1
theorem zin_RX10 : ∀ w ∈ u_ws RX10 TX10 14, w ∈ lw_tbl := fun w h => (goodIn_q (big := lw_tbl) (u_ws RX10 TX10 14) [] [617, 619, 621, 623, 625, 627, 629, 631, 633, 635, 637, 639, 641, 643] rfl (by decide +kernel) (by decide +kernel) w h).1
theorem zin_RX11 : ∀ w ∈ u_ws RX11 TX11 10, w ∈ lw_tbl := fun w h => (goodIn_q (big := lw_tbl) (u_ws RX11 TX11 10) [] [406, 408, 410, 412, 414, 416, 418, 420, 422, 424] rfl (by decide +kernel) (by decide +kernel) w h).1
theorem zin_RX12 : ∀ w ∈ u_ws RX12 TX12 5, w ∈ lw_tbl := fun w h => (goodIn_q (big := lw_tbl) (u_ws RX12 TX12 5) [] [1815, 1817, 1819, 1821, 1823] rfl (by decide +kernel) (by decide +kernel) w h).1
theorem zin_RX13 : ∀ w ∈ u_ws RX13 TX13 5, w ∈ lw_tbl := fun w h => (goodIn_q (big := lw_tbl) (u_ws RX13 TX13 5) [] [1776, 1778, 1780, 1782, 1784] rfl (by decide +kernel) (by decide +kernel) w h).1
theorem zin_RX14 : ∀ w ∈ u_ws RX14 TX14 2, w ∈ lw_tbl := fun w h => (goodIn_q (big := lw_tbl) (u_ws RX14 TX14 2) [] [1689, 1691] rfl (by decide +kernel) (by decide +kernel) w h).1
theorem zin_RX15 : ∀ w ∈ u_ws RX15 TX15 5, w ∈ lw_tbl := fun w h => (goodIn_q (big := lw_tbl) (u_ws RX15 TX15 5) [] [2081, 2083, 2085, 2087, 2089] rfl (by decide +kernel) (by decide +kernel) w h).1
theorem zin_RX16 : ∀ w ∈ u_ws RX16 TX16 2, w ∈ lw_tbl := fun w h => (goodIn_q (big := lw_tbl) (u_ws RX16 TX16 2) [] [1629, 1631] rfl (by decide +kernel) (by decide +kernel) w h).1
theorem zin_RX17 : ∀ w ∈ u_ws RX17 TX17 5, w ∈ lw_tbl := fun w h => (goodIn_q (big := lw_tbl) (u_ws RX17 TX17 5) [] [1882, 1884, 1886, 1888, 1890] rfl (by decide +kernel) (by decide +kernel) w h).1
theorem zin_RX18 : ∀ w ∈ u_ws RX18 TX18 7, w ∈ lw_tbl := fun w h => (goodIn_q (big := lw_tbl) (u_ws RX18 TX18 7) [] [2032, 2034, 2036, 2038, 2040, 2042, 2044] rfl (by decide +kernel) (by decide +kernel) w h).1
theorem zin_RX19 : ∀ w ∈ u_ws RX19 TX19 5, w ∈ lw_tbl := fun w h => (goodIn_q (big := lw_tbl) (u_ws RX19 TX19 5) [] [1643, 1645, 1647, 1649, 1651] rfl (by decide +kernel) (by decide +kernel) w h).1
/-! THE CLAIM OUT OF ONE WALK OF THE LAW'S BODY. Your part is whole_start (and what it stands on); all else here is the same for every law, but numbers. -/
def R_law : String := "HornbookLaw"
def lw_P (b : Addr) (xs : List Int32) (args : Array Value) (s : State) : Prop := args = #[.ref b] ∧ s.IntsAt b xs ∧ xs.length ≤ 7 ∧ (Jvm.Cond.and given_1 narrow_1).before args s = true
/-- what a walk over the start with the record d0 says of its end, said of the start itself -/
theorem lw_closed {s t : State} {o : Outcome} {d0 : Drawn} {L : List Loc} {k n : Nat} (hd0 : s.drawn.sameBut d0 lw_cs) (hv : ∃ v, o = .returned v) (hW : (s.setDrawn d0).WarmedH t.vm) (hs : (s.setDrawn d0).sameButNew ({ t with vm := s.vm } : State) L k n) : State.butDraws s t lw_cs (fun t1 => Framed s o t1 L k n) := by
  have h2 : t.drawn = d0 := congrArg State.drawn hs.1
  refine ⟨⟨hv, hW, State.sameButNew.setDrawn hs s.drawn⟩, ?_, by decide⟩
  rw [h2]
  exact hd0
def lw_Q (_ : Array Value) (s : State) (o : Outcome) (t : State) : Prop := o = .returned (some (.int 1)) ∧ State.butDraws s t lw_cs (fun t1 => Framed s o t1 [] 600002 7302232)
def lw_Z (below : List Frame) (a : Array Value) (s : State) : State → Prop := fun t => ∃ o, t.status = .running ∧ Ended t below o ∧ lw_Q a s o t
/-- the law's own end, with 1 on the stack, nothing written that was there before, its room as the claim has it; d0: the record of draws at this point (at the entry s.drawn: begin with 'refine W.base ?_' and 'have hd0 := Drawn.sameBut.refl s.drawn lw_cs') -/
theorem lw_ret {p : Program} {l : Launch} {e : Env} {s : State} {m : MethodId} {below : List Frame} {meth : Method} {c : Code} {b : Nat} {d0 : Drawn} (hd0 : s.drawn.sameBut d0 lw_cs) (hx : p.tables.exec = Jvm.exec) (hb : c.code = code) (hr : meth.sig.returnType = ret) (hlocks : meth.locks = false) {pc : Nat} {H : Heap} {ls : Array Slot} (hdg : decode code pc = .ok (.ireturn, 1)) : W p l e room_1 (s.setDrawn d0) m #[Value.ref b] below meth c H [] 600002 7302232 (lw_Z below #[Value.ref b] s) (F0 m pc ls [.int 1]) := by
  intro T hT X
  obtain ⟨fs, hret, hrun, hended, hW, hframe⟩ := X.leave (v := some (.int 1)) (hlocks := hlocks) (fun h => by rw [hr] at h; cases h)
  have hmeth' : T.vm.method? m = some meth := X.method'
  refine ⟨T.setFrames fs, ?_, .returned (some (.int 1)), hrun, hended, rfl, lw_closed hd0 ⟨_, rfl⟩ hW hframe⟩
  jvm_step X.here [X.here.top, hx, hb, hdg, hmeth', hr, ret, narrow_b1]
  (try refine ⟨rfl, ?_⟩); (try refine ⟨rfl, ?_⟩)
  first | (intro acts; rw [hret _ acts rfl rfl rfl]) | rw [hret _ _ rfl rfl rfl]
  exact Steps.refl _
/-- what holds at the law's entry: the machine, the code, the tables' words (any of lw_tbl by 'hts w (by decide +kernel)'), the script of L ints xs at the cell b, what the Statement gives of the start (any of its parts by flat_of_before) -/
def lw_At (p : Program) (s : State) (m : MethodId) (meth : Method) (c : Code) (b L : Nat) (xs : Nat → Int32) : Prop :=
  p.tables.exec = Jvm.exec ∧ c.code = code ∧ meth.sig.returnType = ret ∧ c.maxLocals = 9 ∧ s.vm.findClass R_law = some m.cls ∧ (∀ w ∈ lw_tbl, w.before #[Value.ref b] s = true) ∧ va_X b L xs s s.heap ∧ b < s.heap.size ∧ meth.locks = false ∧ (Jvm.Cond.and given_1 narrow_1).before #[Value.ref b] s = true
set_option maxHeartbeats 4000000 in
theorem law_tail {p : Program} {e : Env} {s : State} {m : MethodId} {below : List Frame} {meth : Method} {c : Code} (l : Launch) {b : Nat} {xs : Nat → Int32} {A : Nat → Prop} {eD eI : Nat} {ad : Nat → Nat} (Z : zLaw l p s m meth c b xs A eD eI ad) {H : Heap} {locs : List Loc} {ls : Array Slot} {cells slots : Nat} (hS : va_S A s.heap H locs) (hl : lv_has ls 9 [(4, .int 0), (0, .ref b)]) (h1 : cells ≤ 600002) (h2 : slots ≤ 7302232) : W p l e room_1 s m #[Value.ref b] below meth c H locs cells slots (lw_Z below #[Value.ref b] s) (F0 m 2196 ls []) := by
  obtain ⟨hfl, hx, hb, hr, hml, hown, hts, hX, hbl, hbA, hlocks, hE, hA, hAs, hDc⟩ := id Z
  refine lv_iinc (v := 7) (lv' := [(4, .int 7), (0, .ref b)]) hx hb dL_law_2196 hl (k := 0) rfl (by decide) (by decide) rfl (fun ls hl => ?_)
  refine lv_goto (tgt := 23) hx hb dL_law_2199 (by decide) ?_
  refine lv_iload hx hb dL_law_23 (lv_at hl 0 rfl) ?_
  refine lv_aload_n hx hb dL_law_25 rfl (lv_at hl 1 rfl) ?_
  refine va_slen hx hb hX hbl hbA hS dL_law_26 ?_
  refine z_top (v' := .int 7) (congrArg Value.int (by decide)) ?_
  refine lv_bipush (v := 7) hx hb dL_law_27 (by decide) ?_
  refine lv_isub hx hb dL_law_29 ?_
  refine z_top (v' := .int 0) (congrArg Value.int (by decide)) ?_
  refine lv_icmp_gt (tgt := 2202) hx hb dL_law_30 (by decide) (fun c_1 => ?_) (fun c_1 => ?_)
  rotate_left
  · exact absurd (by decide) c_1
  refine lv_iconst (v := 1) hx hb dL_law_2202 (by decide) ?_
  refine va_forget (fun q hq => hAs _ (hS.2.2 q hq)) ?_
  refine W.widen (k := 600002) (n := 7302232) h1 h2 ?_
  exact W.base (lw_ret (Drawn.sameBut.refl s.drawn lw_cs) hx hb hr hlocks dL_law_2203)
