/-! what the Statement gives of the start -/
theorem st_str {A : Array Value} {s : State} {own tx cls : String} {k : Nat} (h : (Cond.exactly (.string own k) cls).before A s = true) (h2 : (Cond.stringRef own k tx).before A s = true) : ∃ a, vk_R own k tx a s := by
  obtain ⟨a, c, cell, kk, q1, -⟩ := Cond.exactly_spec (args := A) (first := s) (o := none) (s := s) (idx := []) h
  exact ⟨a, vk_R.of h2 q1⟩
theorem st_arr {A : Array Value} {s : State} {ty : FieldType} (h : (Cond.arrayClass ty).before A s = true) : ∃ cA : ClassId, ArrOfT s cA ty ∧ s.vm.findClass ("[" ++ ty.toString) = some cA := by
  obtain ⟨c, k, comp, h1, h2, h3⟩ := Cond.arrayClass_spec (args := A) (first := s) (o := none) (s := s) (idx := []) h
  exact ⟨c, fun n z => ⟨fun k h => (by cases h), k, h2, comp, h3⟩, h1⟩
theorem st_arq {A : Array Value} {s : State} {C : String} (h : (Cond.arrayOver (.object C)).before A s = true) : ∃ cA : ClassId, ArrOfT s cA (.object C) ∧ va_RA s cA (.object C) := by
  obtain ⟨comp, c, k, h1, h2, h3, h4, h5⟩ := Cond.arrayOver_spec (args := A) (first := s) (o := none) (s := s) (idx := []) h
  exact ⟨c, fun n z => ⟨fun k h => (by cases h), k, h3, comp, h4⟩, k, comp, h3, h4, h1, h5⟩
set_option maxHeartbeats 4000000 in
set_option maxRecDepth 100000 in
theorem st_cxX {A : Array Value} {s : State} (hT : ∀ w ∈ lw_tbl, w.before A s = true) (hV : (Jvm.Cond.and given_1 narrow_1).before A s = true) : cxX s := by
  have hs := flat_of_before _ hV
  refine ⟨fun q hq => ?_, fun X hX => ?_, fun X hX Y hY hne => ?_, fun X hX => ?_⟩
  · simp only [strs, List.mem_cons, List.not_mem_nil, or_false] at hq
    rcases hq with rfl | rfl | rfl | rfl | rfl | rfl | rfl | rfl | rfl
    · exact st_str (hs (.exactly (.string RX4 144) "java/lang/String") (by decide +kernel)) (hT (.stringRef RX4 144 "the clock would be too high") (by decide +kernel))
    · exact st_str (hs (.exactly (.string RX4 154) "java/lang/String") (by decide +kernel)) (hT (.stringRef RX4 154 "an argument is out of range") (by decide +kernel))
    · exact st_str (hs (.exactly (.string RX4 162) "java/lang/String") (by decide +kernel)) (hT (.stringRef RX4 162 "the point cannot have this value") (by decide +kernel))
    · exact st_str (hs (.exactly (.string RX4 164) "java/lang/String") (by decide +kernel)) (hT (.stringRef RX4 164 "there are as many as there may be") (by decide +kernel))
    · exact st_str (hs (.exactly (.string RX4 175) "java/lang/String") (by decide +kernel)) (hT (.stringRef RX4 175 "there is no such point") (by decide +kernel))
    · exact st_str (hs (.exactly (.string RX4 178) "java/lang/String") (by decide +kernel)) (hT (.stringRef RX4 178 "there is no such subscription") (by decide +kernel))
    · exact st_str (hs (.exactly (.string RX4 180) "java/lang/String") (by decide +kernel)) (hT (.stringRef RX4 180 "there is no such schedule") (by decide +kernel))
    · exact st_str (hs (.exactly (.string RX4 56) "java/lang/String") (by decide +kernel)) (hT (.stringRef RX4 56 "a command is held at this priority") (by decide +kernel))
    · exact st_str (hs (.exactly (.string RX4 99) "java/lang/String") (by decide +kernel)) (hT (.stringRef RX4 99 "the subscription has ended") (by decide +kernel))
  · simp only [excs, List.mem_cons, List.not_mem_nil, or_false] at hX
    rcases hX with rfl | rfl | rfl
    · exact va_Nw.of rfl (hT (.castable exIA exIA) (by decide +kernel))
    · exact va_Nw.of rfl (hT (.castable exIS exIS) (by decide +kernel))
    · exact va_Nw.of rfl (hT (.castable exIO exIO) (by decide +kernel))
  · simp only [excs, List.mem_cons, List.not_mem_nil, or_false] at hX hY
    rcases hX with rfl | rfl | rfl <;> rcases hY with rfl | rfl | rfl
    · exact absurd rfl hne
    · exact va_Nc.of (hs (.not (.castable exIA exIS)) (by decide +kernel))
    · exact va_Nc.of (hs (.not (.castable exIA exIO)) (by decide +kernel))
    · exact va_Nc.of (hs (.not (.castable exIS exIA)) (by decide +kernel))
    · exact absurd rfl hne
    · exact va_Nc.of (hs (.not (.castable exIS exIO)) (by decide +kernel))
    · exact va_Nc.of (hs (.not (.castable exIO exIA)) (by decide +kernel))
    · exact va_Nc.of (hs (.not (.castable exIO exIS)) (by decide +kernel))
    · exact absurd rfl hne
  · simp only [sups, List.mem_cons, List.not_mem_nil, or_false] at hX
    rcases hX with rfl | rfl | rfl
    · exact va_Nw.of rfl (hT (.declares (Bundle.initS "java/lang/RuntimeException")) (by decide +kernel))
    · exact va_Nw.of rfl (hT (.declares (Bundle.initS "java/lang/Exception")) (by decide +kernel))
    · exact va_Nw.of rfl (hT (.declares (Bundle.initS "java/lang/Throwable")) (by decide +kernel))
set_option maxHeartbeats 4000000 in
set_option maxRecDepth 100000 in
theorem st_cx {A : Array Value} {s : State} (hT : ∀ w ∈ lw_tbl, w.before A s = true) (hV : (Jvm.Cond.and given_1 narrow_1).before A s = true) : ∃ D : va_G, cx D s.heap.size s := by
  have hs := flat_of_before _ hV
  obtain ⟨c0, i0, k0⟩ := u_known (C := RX0) (T := TX0) (N := 4) (n := 4) hT inX0 (hT (.instantiable RX0 4) (by decide +kernel))
  obtain ⟨c1, i1, k1⟩ := u_known (C := RX1) (T := TX1) (N := 8) (n := 8) hT inX1 (hT (.instantiable RX1 8) (by decide +kernel))
  obtain ⟨c2, i2, k2⟩ := u_known (C := RX2) (T := TX2) (N := 5) (n := 5) hT inX2 (hT (.instantiable RX2 5) (by decide +kernel))
  obtain ⟨c3, i3, k3⟩ := u_known (C := RX3) (T := TX3) (N := 6) (n := 6) hT inX3 (hT (.instantiable RX3 6) (by decide +kernel))
  obtain ⟨c4, i4, k4⟩ := u_known (C := RX4) (T := TX4) (N := 8) (n := 8) hT inX4 (hT (.instantiable RX4 8) (by decide +kernel))
  obtain ⟨a0, n0, m0⟩ := st_arr (hT (.arrayClass .int) (by decide +kernel))
  obtain ⟨a3, n3, m3⟩ := st_arq (hT (.arrayOver (.object RX1)) (by decide +kernel))
  obtain ⟨a4, n4, m4⟩ := st_arq (hT (.arrayOver (.object RX3)) (by decide +kernel))
  obtain ⟨a5, n5, m5⟩ := st_arq (hT (.arrayOver (.object RX2)) (by decide +kernel))
  refine ⟨(fun k => if k = 0 then c0 else if k = 1 then c1 else if k = 2 then c2 else if k = 3 then c3 else if k = 4 then c4 else if k = 100 then a0 else if k = 103 then a3 else if k = 104 then a4 else a5, fun k => if k = 0 then i0 else if k = 1 then i1 else if k = 2 then i2 else if k = 3 then i3 else i4), ⟨fun k q hq => ?_, fun k q hq => ?_⟩, Nat.le_refl _, ?_, ?_, st_cxX hT hV⟩
  · match k, hq with
    | 0, hq => cases hq; exact k0
    | 1, hq => cases hq; exact k1
    | 2, hq => cases hq; exact k2
    | 3, hq => cases hq; exact k3
    | 4, hq => cases hq; exact k4
    | k + 5, hq => simp [vwCl] at hq
  · match k, hq with
    | 0, hq => cases hq; exact ⟨n0, m0⟩
    | 1, hq => cases hq; exact ⟨n0, m0⟩
    | 2, hq => cases hq; exact ⟨n0, m0⟩
    | 3, hq => cases hq; exact ⟨n3, m3⟩
    | 4, hq => cases hq; exact ⟨n4, m4⟩
    | 5, hq => cases hq; exact ⟨n5, m5⟩
    | k + 6, hq => simp [tysD] at hq
  · exact vx_Zqof (hT (.laysStatic Bundle.tN "UNASSIGNED_STACK" Bundle.steD) (by decide +kernel)) (hT (.initialized Bundle.tN) (by decide +kernel)) (hs (.isRef (.static Bundle.tN "UNASSIGNED_STACK" Bundle.steD)) (by decide +kernel)) (fun a h => Nat.not_le.mpr h)
  · exact vx_Zqof (hT (.laysStatic Bundle.tN "SUPPRESSED_SENTINEL" Bundle.listD) (by decide +kernel)) (hT (.initialized Bundle.tN) (by decide +kernel)) (hs (.isRef (.static Bundle.tN "SUPPRESSED_SENTINEL" Bundle.listD)) (by decide +kernel)) (fun a h => Nat.not_le.mpr h)
theorem st_ov {A : Array Value} {s : State} (hT : ∀ w ∈ lw_tbl, w.before A s = true) : ∀ X ∈ [RX1, RX3, RX2], va_AO X s := by
  intro X hX
  simp only [List.mem_cons, List.not_mem_nil, or_false] at hX
  rcases hX with rfl | rfl | rfl
  · exact va_AO.of (hT (.arrayOver (.object RX1)) (by decide +kernel))
  · exact va_AO.of (hT (.arrayOver (.object RX3)) (by decide +kernel))
  · exact va_AO.of (hT (.arrayOver (.object RX2)) (by decide +kernel))
