
/-! the environment at the law's entry (rows of this claim, by wip/p1/env.py) -/
abbrev zGiv : Cond := Jvm.Cond.and given_1 narrow_1
theorem z_nestIn : ∀ w ∈ zNest, w ∈ lw_tbl := by decide +kernel
theorem z_overIn : ∀ C ∈ zOver, Cond.arrayOver (.object C) ∈ lw_tbl := by decide +kernel
theorem z_strIn : ∀ q ∈ zStrs, Cond.stringRef q.1 q.2.1 q.2.2 ∈ lw_tbl := by decide +kernel
theorem z_strEx : ∀ q ∈ zStrs, Cond.exactly (.string q.1 q.2.1) "java/lang/String" ∈ flatC zGiv := by decide +kernel
theorem z_castIn : ∀ q ∈ zCast, Cond.castable q.1 q.2 ∈ flatC zGiv ++ lw_tbl := by decide +kernel
theorem z_notIn : ∀ q ∈ zNot, Cond.not (.castable q.1 q.2) ∈ flatC zGiv := by decide +kernel
set_option maxHeartbeats 4000000 in
theorem z_env {s : State} {b : Nat} (hts : ∀ w ∈ lw_tbl, w.before #[Value.ref b] s = true) (hgv : zGiv.before #[Value.ref b] s = true) : ∃ (eD eI : Nat) (ad : Nat → Nat), zEnv eD eI ad (fun q : Nat => s.heap.size ≤ q) s := by
  have hs := flat_of_before _ hgv
  have hA : ∀ a : Nat, a < s.heap.size → ¬ (fun q : Nat => s.heap.size ≤ q) a := fun a h => Nat.not_le.mpr h
  have h1 : (Cond.eq (.length (.static "java/util/ArrayList" "DEFAULTCAPACITY_EMPTY_ELEMENTDATA" "[Ljava/lang/Object;")) (.int 0)).before #[Value.ref b] s = true := hs _ (by decide +kernel)
  have hlen : (Term.length (.static "java/util/ArrayList" "DEFAULTCAPACITY_EMPTY_ELEMENTDATA" "[Ljava/lang/Object;")).eval #[Value.ref b] s none [] s = some (.int (Int32.ofNat 0)) := va_eqI (u := .int 0) (by simpa [Cond.before, Cond.holds] using h1) rfl
  obtain ⟨eD, hD1, hD2⟩ := va_Tof (ty := .object "java/lang/Object") (N := 0) (f := fun _ => .null) (A := fun q : Nat => s.heap.size ≤ q) (by decide) (hs _ (by decide +kernel)) hlen (fun j hj => absurd hj (Nat.not_lt_zero j)) hA
  have h2 : (Cond.eq (.length (.static "java/lang/Integer$IntegerCache" "cache" "[Ljava/lang/Integer;")) (.int 256)).before #[Value.ref b] s = true := hs _ (by decide +kernel)
  have hlen2 : (Term.length (.static "java/lang/Integer$IntegerCache" "cache" "[Ljava/lang/Integer;")).eval #[Value.ref b] s none [] s = some (.int (Int32.ofNat 256)) := va_eqI (u := .int 256) (by simpa [Cond.before, Cond.holds] using h2) rfl
  obtain ⟨ad, hC, hel⟩ := vb_Cof (st := (.static "java/lang/Integer$IntegerCache" "cache" "[Ljava/lang/Integer;")) (A := fun q : Nat => s.heap.size ≤ q) rfl hlen2 (hs _ (by decide +kernel)) hA
  obtain ⟨eI, hI1, hI2⟩ := va_Tof (ty := .object "java/lang/Integer") (N := 256) (f := fun k => .ref (ad k)) (A := fun q : Nat => s.heap.size ≤ q) (by decide) (hs _ (by decide +kernel)) hlen2 hel hA
  have h3 : (Cond.eq (.static "java/lang/Integer$IntegerCache" "high" "I") (.int 127)).before #[Value.ref b] s = true := hs _ (by decide +kernel)
  have hhi : (Term.eval #[Value.ref b] s none [] s (.static "java/lang/Integer$IntegerCache" "high" "I")) = some (.int 127) := va_eqI (u := .int 127) (by simpa [Cond.before, Cond.holds] using h3) rfl
  refine ⟨eD, eI, ad, ?_, ?_, ?_, ?_, ?_, hD2, ?_, ?_, ?_, ?_, ?_, hI2, hC⟩
  · exact vx_Zqof (hts (.laysStatic "java/lang/Throwable" "UNASSIGNED_STACK" "[Ljava/lang/StackTraceElement;") (by decide +kernel)) (hts (.initialized "java/lang/Throwable") (by decide +kernel)) (hs _ (by decide +kernel)) hA
  · exact vx_Zqof (hts (.laysStatic "java/lang/Throwable" "SUPPRESSED_SENTINEL" "Ljava/util/List;") (by decide +kernel)) (hts (.initialized "java/lang/Throwable") (by decide +kernel)) (hs _ (by decide +kernel)) hA
  · exact fun w hw => va_Nw.of (zNest_on w hw) (hts w (z_nestIn w hw))
  · intro q hq
    obtain ⟨a, c9, cell, k9, q1, -⟩ := Cond.exactly_spec (args := #[Value.ref b]) (first := s) (o := none) (s := s) (idx := []) (hs _ (z_strEx q hq))
    exact ⟨a, vk_R.of (A := #[Value.ref b]) (hts _ (z_strIn q hq)) q1⟩
  · exact va_Zof (hts (.laysStatic "java/util/ArrayList" "DEFAULTCAPACITY_EMPTY_ELEMENTDATA" "[Ljava/lang/Object;") (by decide +kernel)) (hts (.initialized "java/util/ArrayList") (by decide +kernel)) hD1 hA
  · exact fun C hC9 => va_AO.of (hts _ (z_overIn C hC9))
  · intro q hq
    rcases List.mem_append.mp (z_castIn q hq) with h | h
    · exact va_Nw.of rfl (hs _ h)
    · exact va_Nw.of rfl (hts _ h)
  · exact fun q hq => va_Nc.of (hs _ (z_notIn q hq))
  · exact va_Zof (hts (.laysStatic "java/lang/Integer$IntegerCache" "high" "I") (by decide +kernel)) (hts (.initialized "java/lang/Integer$IntegerCache") (by decide +kernel)) hhi hA
  · exact va_Zof (hts (.laysStatic "java/lang/Integer$IntegerCache" "cache" "[Ljava/lang/Integer;") (by decide +kernel)) (hts (.initialized "java/lang/Integer$IntegerCache") (by decide +kernel)) hI1 hA
