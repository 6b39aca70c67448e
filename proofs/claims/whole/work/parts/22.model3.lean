set_option maxHeartbeats 4000000 in
set_option maxRecDepth 100000 in
theorem c_X5_obeys (l : Launch) (D : va_G) (B : Nat) (ad : Ad) (S : GC × Me) (h : GC) (τ : Me) (th : Int32) (o : Int64) (q : Nat) (hq : q < h.2.2) (hI : Ib h τ) : Met l yX5_obeys wsX5_obeys ({ frames := 3, cells := 0, slots := 0, locals := 70 }) (Pre D B ad (cW D ad S (h, τ, th) o) [.ref (ad 5 0), .int (nI q)]) (Qv D B (fun u => u = (ad, cW D ad S (h, obeF h.2.1 q τ, th) o))) 0 0 (ab B) := by
  refine Met.ofW (cc := cX5_obeys) (maxL := 3) (ret := none) (by decide) rfl ?_
  intro p e s m args below meth c s₁ Bd hml hv
  obtain ⟨rfl, hC, hP⟩ := hv
  have hx := Bd.exec
  have hb := Bd.bytes
  have hr := Bd.returns
  have hts := atoms_spec (ws := wsX5_obeys) Bd.pre
  have hown : s.vm.findClass RX5 = some m.cls := findClass_of_methodNamed Bd.named
  have hlocks := Bd.notSynchronized
  have hS : va_S (ab B) s.heap s.heap [] := va_S.rf
  have hl := lv_entry ([.ref (ad 5 0), .int (nI q)]) (n := 3) (Nat.le_of_ble_eq_true rfl)
  rw [lg_entry_eq]
  generalize (lg_sl ([.ref (ad 5 0), .int (nI q)]) ++ List.replicate (3 - (lg_sl ([.ref (ad 5 0), .int (nI q)])).length) Slot.unset).toArray = ls at hl ⊢
  have hl : lv_has ls 3 [(0, .ref (ad 5 0)), (1, .int (nI q))] := hl
  obtain ⟨i, j, n, n1, n2, h1, h2, h3, h4, h5, h6, h7, h8, h9, h10, h11, h12⟩ := hI.2.2.2.2.2 q hq
  have hq4 : q < 4 := by have := hI.2.2.1; omega
  have hg16 := hI.1
  refine lv_aload_n hx hb dX5_obeys_0 rfl (lv_at hl 0 rfl) ?_
  refine lv_iload_n hx hb dX5_obeys_1 rfl (lv_at hl 1 rfl) ?_
  refine lv_aload_n hx hb dX5_obeys_2 rfl (lv_at hl 0 rfl) ?_
  refine w_get hx hb hts (by decide +kernel) hown hC hP cW_5 rfl 0 (by decide) (hts (.fieldLink RX5 101 "BuildingPointsModel" "clock" "I") (by decide +kernel)) rfl dX5_obeys_3 ?_
  refine w_calli (va_runV (As := [.int (nI q), .int (τ 25 0 0)]) (rest := []) ⟨hx, hb, hml, hown, hts⟩ (c_X5_toldBy l D B ad S h τ th o q n hq4 h6 h10 (τ 25 0 0)) (cwV 2 hts gX5_obeys_X5_toldBy rfl rfl rfl (by decide +kernel) ⟨Nat.le_of_ble_eq_true rfl, Nat.le_of_ble_eq_true rfl⟩) (w_preV hC hP hS cW_5 rfl) rfl rfl hl.1 rfl (lv_room (Nat.le_of_ble_eq_true rfl)) dX5_obeys_6 ⟨Nat.le_of_ble_eq_true rfl, Nat.le_of_ble_eq_true rfl⟩) hS (fun r_1 ad1 w1 H locs hq hP hS => ?_)
  obtain ⟨h91, h92⟩ := hq
  cases h91
  have h92 := h92.trans (tolO_n h6 h10)
  subst h92
  refine lv_istore_n (lv' := [(2, .int (tolO τ q (τ 25 0 0))), (0, .ref (ad 5 0)), (1, .int (nI q))]) hx hb dX5_obeys_9 rfl hl (by decide) rfl (fun ls hl => ?_)
  refine lv_iload_n hx hb dX5_obeys_10 rfl (lv_at hl 0 rfl) ?_
  refine lv_aload_n hx hb dX5_obeys_11 rfl (lv_at hl 1 rfl) ?_
  refine w_get hx hb hts (by decide +kernel) hown hC hP cW_5 rfl 19 (by decide) (hts (.fieldLink RX5 53 "BuildingPointsModel" "last" "[I") (by decide +kernel)) rfl dX5_obeys_12 ?_
  refine lv_iload_n hx hb dX5_obeys_15 rfl (lv_at hl 2 rfl) ?_
  refine w_ildN hx hb hC hP cW_12_14 (by omega) (by decide) (v := τ 16 q 0) rfl dX5_obeys_16 ?_
  refine lv_icmp_eq (tgt := 44) hx hb dX5_obeys_17 (by decide) (fun c_17 => ?_) (fun c_17 => ?_)
  · exact W.vret hx hb hr (fun t ht hW => Qv_of (by unfold obeF; rw [if_pos c_17]) hP hS ht) hS.2.2 dX5_obeys_44
  · have e14s : nOf (τ 14 q 0) = i := by rw [h2]; exact nI_clamp (by omega)
    have e15s : nOf (τ 15 q 0) = j := by rw [h5]; exact nI_clamp (by omega)
    refine lv_aload_n hx hb dX5_obeys_20 rfl (lv_at hl 1 rfl) ?_
    refine w_get hx hb hts (by decide +kernel) hown hC hP cW_5 rfl 19 (by decide) (hts (.fieldLink RX5 53 "BuildingPointsModel" "last" "[I") (by decide +kernel)) rfl dX5_obeys_21 ?_
    refine lv_iload_n hx hb dX5_obeys_24 rfl (lv_at hl 2 rfl) ?_
    refine lv_iload_n hx hb dX5_obeys_25 rfl (lv_at hl 0 rfl) ?_
    refine w_istN hx hb hC hP hS cW_12_14 (by omega) (by decide) dX5_obeys_26 (fun H locs hP hS => ?_)
    have hP := hw_eq hP (pA14 q _)
    refine lv_aload_n hx hb dX5_obeys_27 rfl (lv_at hl 1 rfl) ?_
    refine lv_aload_n hx hb dX5_obeys_28 rfl (lv_at hl 1 rfl) ?_
    refine w_get hx hb hts (by decide +kernel) hown hC hP cW_5 rfl 17 (by decide) (hts (.fieldLink RX5 47 "BuildingPointsModel" "to" "[I") (by decide +kernel)) rfl dX5_obeys_29 ?_
    refine lv_iload_n hx hb dX5_obeys_32 rfl (lv_at hl 2 rfl) ?_
    refine w_ildN hx hb hC hP cW_12_12 (by omega) (by decide) (v := (st3 τ 16 q 0 (tolO τ q (τ 25 0 0))) 14 q 0) rfl dX5_obeys_33 ?_
    refine w_top (v := nI i) (by rw [st3_n (by decide)]; exact h2) ?_
    refine lv_aload_n hx hb dX5_obeys_34 rfl (lv_at hl 1 rfl) ?_
    refine w_get hx hb hts (by decide +kernel) hown hC hP cW_5 rfl 18 (by decide) (hts (.fieldLink RX5 50 "BuildingPointsModel" "at" "[I") (by decide +kernel)) rfl dX5_obeys_35 ?_
    refine lv_iload_n hx hb dX5_obeys_38 rfl (lv_at hl 2 rfl) ?_
    refine w_ildN hx hb hC hP cW_12_13 (by omega) (by decide) (v := (st3 τ 16 q 0 (tolO τ q (τ 25 0 0))) 15 q 0) rfl dX5_obeys_39 ?_
    refine w_top (v := nI j) (by rw [st3_n (by decide)]; exact h5) ?_
    refine lv_iload_n hx hb dX5_obeys_40 rfl (lv_at hl 0 rfl) ?_
    refine w_callv (va_runV (As := [.int (nI i), .int (nI j), .int (tolO τ q (τ 25 0 0))]) (rest := []) ⟨hx, hb, hml, hown, hts⟩ (c_X5_sets l D B ad S h (st3 τ 16 q 0 (tolO τ q (τ 25 0 0))) th o i j (by omega) (by omega) (by omega) (tolO τ q (τ 25 0 0)) hI.2.1) (cwV 3 hts gX5_obeys_X5_sets rfl rfl rfl (by decide +kernel) ⟨Nat.le_of_ble_eq_true rfl, Nat.le_of_ble_eq_true rfl⟩) (w_preV hC hP hS cW_5 rfl) rfl rfl hl.1 rfl (lv_room (Nat.le_of_ble_eq_true rfl)) dX5_obeys_41 ⟨Nat.le_of_ble_eq_true rfl, Nat.le_of_ble_eq_true rfl⟩) hS (fun ad1 w1 H locs hq hP hS => ?_)
    cases hq
    exact W.vret hx hb hr (fun t ht hW => Qv_of (by unfold obeF; rw [if_neg c_17, e14s, e15s]) hP hS ht) hS.2.2 dX5_obeys_44
set_option maxHeartbeats 4000000 in
set_option maxRecDepth 100000 in
theorem c_X5_enters (l : Launch) (D : va_G) (B : Nat) (ad : Ad) (S : GC × Me) (h : GC) (τ : Me) (th : Int32) (o : Int64) (q n e9 : Nat) (hq : q < h.2.2) (hq4 : q < 4) (hn : τ 17 q 0 = nI n) (h20 : n < 20) (dm dc x v : Int32) (hI2 : Ib h (entM q dm x v (entC e9 dc x v τ))) : Met l yX5_enters wsX5_enters ({ frames := 4, cells := 0, slots := 0, locals := 92 }) (Pre D B ad (cW D ad S (h, τ, th) o) [.ref (ad 5 0), .int (nI q), .int dm, .int x, .int v]) (Qi D B (fun r u => u = (ad, cW D ad S (h, obeF h.2.1 q (entM q dm x v (entC e9 dc x v τ)), th) o) ∧ r = obeF h.2.1 q (entM q dm x v (entC e9 dc x v τ)) 16 q 0)) 0 0 (ab B) := by
  refine Met.ofW (cc := cX5_enters) (maxL := 6) (ret := (some .int)) (by decide) rfl ?_
  intro p e s m args below meth c s₁ Bd hml hv
  obtain ⟨rfl, hC, hP⟩ := hv
  have hx := Bd.exec
  have hb := Bd.bytes
  have hr := Bd.returns
  have hts := atoms_spec (ws := wsX5_enters) Bd.pre
  have hown : s.vm.findClass RX5 = some m.cls := findClass_of_methodNamed Bd.named
  have hlocks := Bd.notSynchronized
  have hS : va_S (ab B) s.heap s.heap [] := va_S.rf
  have hl := lv_entry ([.ref (ad 5 0), .int (nI q), .int dm, .int x, .int v]) (n := 6) (Nat.le_of_ble_eq_true rfl)
  rw [lg_entry_eq]
  generalize (lg_sl ([.ref (ad 5 0), .int (nI q), .int dm, .int x, .int v]) ++ List.replicate (6 - (lg_sl ([.ref (ad 5 0), .int (nI q), .int dm, .int x, .int v])).length) Slot.unset).toArray = ls at hl ⊢
  have hl : lv_has ls 6 [(0, .ref (ad 5 0)), (1, .int (nI q)), (2, .int dm), (3, .int x), (4, .int v)] := hl
  have e17c : entC e9 dc x v τ 17 = τ 17 := entC_n (by decide) (by decide) (by decide) (by decide)
  have hn17 : nOf (τ 17 q 0) = n := by rw [hn]; exact nI_clamp (by omega)
  have hP := hw_eq hP (cW_entC (e := e9) (dc := dc) (x := x) (v := v)).symm
  refine lv_bipush (v := (20)) hx hb dX5_enters_0 (by decide) ?_
  refine lv_iload_n hx hb dX5_enters_2 rfl (lv_at hl 1 rfl) ?_
  refine lv_imul hx hb dX5_enters_3 ?_
  refine w_top (v := nI (20 * q)) (pk_mul 20 q) ?_
  refine lv_aload_n hx hb dX5_enters_4 rfl (lv_at hl 0 rfl) ?_
  refine w_get hx hb hts (by decide +kernel) hown hC hP cW_5 rfl 20 (by decide) (hts (.fieldLink RX5 56 "BuildingPointsModel" "entries" "[I") (by decide +kernel)) rfl dX5_enters_5 ?_
  refine lv_iload_n hx hb dX5_enters_8 rfl (lv_at hl 1 rfl) ?_
  refine w_ildN hx hb hC hP cW_12_15 (by omega) (by decide) (v := (entC e9 dc x v τ) 17 q 0) rfl dX5_enters_9 ?_
  refine w_top (v := nI n) (by rw [entC_n (by decide) (by decide) (by decide) (by decide)]; exact hn) ?_
  refine lv_iadd hx hb dX5_enters_10 ?_
  refine w_top (v := nI (20 * q + n)) (nI_add (20 * q) n) ?_
  refine lv_istore (lv' := [(5, .int (nI (20 * q + n))), (0, .ref (ad 5 0)), (1, .int (nI q)), (2, .int dm), (3, .int x), (4, .int v)]) hx hb dX5_enters_11 hl (by decide) rfl (fun ls hl => ?_)
  refine lv_aload_n hx hb dX5_enters_13 rfl (lv_at hl 1 rfl) ?_
  refine w_get hx hb hts (by decide +kernel) hown hC hP cW_5 rfl 21 (by decide) (hts (.fieldLink RX5 59 "BuildingPointsModel" "when" "[I") (by decide +kernel)) rfl dX5_enters_14 ?_
  refine lv_iload hx hb dX5_enters_17 (lv_at hl 0 rfl) ?_
  refine lv_iload_n hx hb dX5_enters_19 rfl (lv_at hl 3 rfl) ?_
  refine w_istN hx hb hC hP hS cW_12_16 (by omega) (by decide) dX5_enters_20 (fun H locs hP hS => ?_)
  have hP := hw_eq hP (pA16 (p := q) (j := n) (by omega) _)
  refine lv_aload_n hx hb dX5_enters_21 rfl (lv_at hl 1 rfl) ?_
  refine w_get hx hb hts (by decide +kernel) hown hC hP cW_5 rfl 22 (by decide) (hts (.fieldLink RX5 62 "BuildingPointsModel" "minute" "[I") (by decide +kernel)) rfl dX5_enters_22 ?_
  refine lv_iload hx hb dX5_enters_25 (lv_at hl 0 rfl) ?_
  refine lv_iload_n hx hb dX5_enters_27 rfl (lv_at hl 4 rfl) ?_
  refine w_istN hx hb hC hP hS cW_12_17 (by omega) (by decide) dX5_enters_28 (fun H locs hP hS => ?_)
  have hP := hw_eq hP (pA17 (p := q) (j := n) (by omega) _)
  refine lv_aload_n hx hb dX5_enters_29 rfl (lv_at hl 1 rfl) ?_
  refine w_get hx hb hts (by decide +kernel) hown hC hP cW_5 rfl 23 (by decide) (hts (.fieldLink RX5 65 "BuildingPointsModel" "tells" "[I") (by decide +kernel)) rfl dX5_enters_30 ?_
  refine lv_iload hx hb dX5_enters_33 (lv_at hl 0 rfl) ?_
  refine lv_iload hx hb dX5_enters_35 (lv_at hl 5 rfl) ?_
  refine w_istN hx hb hC hP hS cW_12_18 (by omega) (by decide) dX5_enters_37 (fun H locs hP hS => ?_)
  have hP := hw_eq hP (pA18 (p := q) (j := n) (by omega) _)
  refine lv_aload_n hx hb dX5_enters_38 rfl (lv_at hl 1 rfl) ?_
  refine w_get hx hb hts (by decide +kernel) hown hC hP cW_5 rfl 20 (by decide) (hts (.fieldLink RX5 56 "BuildingPointsModel" "entries" "[I") (by decide +kernel)) rfl dX5_enters_39 ?_
  refine lv_iload_n hx hb dX5_enters_42 rfl (lv_at hl 2 rfl) ?_
  refine lv_dup2_11 hx hb dX5_enters_43 rfl rfl ?_
  refine w_ildN hx hb hC hP cW_12_15 (by omega) (by decide) (v := (st3 (st3 (st3 (entC e9 dc x v τ) 18 q n dm) 19 q n x) 20 q n v) 17 q 0) rfl dX5_enters_44 ?_
  refine w_top (v := nI n) (by rw [st3_n (by decide), st3_n (by decide), st3_n (by decide), entC_n (by decide) (by decide) (by decide) (by decide)]; exact hn) ?_
  refine lv_iconst (v := 1) hx hb dX5_enters_45 (by decide) ?_
  refine lv_iadd hx hb dX5_enters_46 ?_
  refine w_top (v := nI (n + 1)) (nI_add n 1) ?_
  refine w_istN hx hb hC hP hS cW_12_15 (by omega) (by decide) dX5_enters_47 (fun H locs hP hS => ?_)
  have hP := hw_eq hP (pA15 q _)
  have hP := hw_eq hP (show cW D ad S (h, st3 (st3 (st3 (st3 (entC e9 dc x v τ) 18 q n dm) 19 q n x) 20 q n v) 17 q 0 (nI (n + 1)), th) o = cW D ad S (h, entM q dm x v (entC e9 dc x v τ), th) o from by unfold entM; rw [e17c, hn17])
  refine lv_aload_n hx hb dX5_enters_48 rfl (lv_at hl 1 rfl) ?_
  refine lv_iload_n hx hb dX5_enters_49 rfl (lv_at hl 2 rfl) ?_
  refine w_callv (va_runV (As := [.int (nI q)]) (rest := []) ⟨hx, hb, hml, hown, hts⟩ (c_X5_obeys l D B ad S h (entM q dm x v (entC e9 dc x v τ)) th o q hq hI2) (cwV 1 hts gX5_enters_X5_obeys rfl rfl rfl (by decide +kernel) ⟨Nat.le_of_ble_eq_true rfl, Nat.le_of_ble_eq_true rfl⟩) (w_preV hC hP hS cW_5 rfl) rfl rfl hl.1 rfl (lv_room (Nat.le_of_ble_eq_true rfl)) dX5_enters_50 ⟨Nat.le_of_ble_eq_true rfl, Nat.le_of_ble_eq_true rfl⟩) hS (fun ad1 w1 H locs hq hP hS => ?_)
  cases hq
  refine lv_aload_n hx hb dX5_enters_53 rfl (lv_at hl 1 rfl) ?_
  refine w_get hx hb hts (by decide +kernel) hown hC hP cW_5 rfl 19 (by decide) (hts (.fieldLink RX5 53 "BuildingPointsModel" "last" "[I") (by decide +kernel)) rfl dX5_enters_54 ?_
  refine lv_iload_n hx hb dX5_enters_57 rfl (lv_at hl 2 rfl) ?_
  refine w_ildN hx hb hC hP cW_12_14 (by omega) (by decide) (v := (obeF h.2.1 q (entM q dm x v (entC e9 dc x v τ))) 16 q 0) rfl dX5_enters_58 ?_
  exact W.iret (v := ((obeF h.2.1 q (entM q dm x v (entC e9 dc x v τ))) 16 q 0)) hx hb hr (fun t ht hW => Qi_of ⟨rfl, rfl⟩ hP hS ht) hS.2.2 dX5_enters_59
set_option maxHeartbeats 4000000 in
set_option maxRecDepth 100000 in
theorem c_X5_weekly (l : Launch) (D : va_G) (B : Nat) (ad : Ad) (S : GC × Me) (h : GC) (τ : Me) (th : Int32) (o : Int64) (hI : Ib h τ)  (x0 : Int32) (x1 : Int32) (x2 : Int32) (x3 : Int32) : Met l yX5_weekly wsX5_weekly ({ frames := 5, cells := 0, slots := 0, locals := 117 }) (Pre D B ad (cW D ad S (h, τ, th) o) [.ref (ad 5 0), .int x0, .int x1, .int x2, .int x3]) (Qi D B (fun r u => (cdEnt h τ 6 x0 x1 x2 x3 = 0 → u = (ad, cW D ad S (h, obeF h.2.1 (nOf x0) (entM (nOf x0) x1 x2 x3 (entC (2 * nOf x0) x1 x2 x3 τ)), nI (cdEnt h τ 6 x0 x1 x2 x3)) o) ∧ r = obeF h.2.1 (nOf x0) (entM (nOf x0) x1 x2 x3 (entC (2 * nOf x0) x1 x2 x3 τ)) 16 (nOf x0) 0) ∧ (¬ cdEnt h τ 6 x0 x1 x2 x3 = 0 → u = (ad, cW D ad S (h, τ, nI (cdEnt h τ 6 x0 x1 x2 x3)) o)))) 0 0 (ab B) := by
  refine Met.ofW (cc := cX5_weekly) (maxL := 7) (ret := (some .int)) (by decide) rfl ?_
  intro p e s m args below meth c s₁ Bd hml hv
  obtain ⟨rfl, hC, hP⟩ := hv
  have hx := Bd.exec
  have hb := Bd.bytes
  have hr := Bd.returns
  have hts := atoms_spec (ws := wsX5_weekly) Bd.pre
  have hown : s.vm.findClass RX5 = some m.cls := findClass_of_methodNamed Bd.named
  have hlocks := Bd.notSynchronized
  have hS : va_S (ab B) s.heap s.heap [] := va_S.rf
  have hl := lv_entry ([.ref (ad 5 0), .int x0, .int x1, .int x2, .int x3]) (n := 7) (Nat.le_of_ble_eq_true rfl)
  rw [lg_entry_eq]
  generalize (lg_sl ([.ref (ad 5 0), .int x0, .int x1, .int x2, .int x3]) ++ List.replicate (7 - (lg_sl ([.ref (ad 5 0), .int x0, .int x1, .int x2, .int x3])).length) Slot.unset).toArray = ls at hl ⊢
  have hl : lv_has ls 7 [(0, .ref (ad 5 0)), (1, .int x0), (2, .int x1), (3, .int x2), (4, .int x3)] := hl
  refine lv_aload_n hx hb dX5_weekly_0 rfl (lv_at hl 0 rfl) ?_
  refine lv_iload_n hx hb dX5_weekly_1 rfl (lv_at hl 1 rfl) ?_
  refine w_calli (va_runV (As := [.int x0]) (rest := []) ⟨hx, hb, hml, hown, hts⟩ (c_X5_isSchedule l D B ad S h τ th o hI.2.2.1 x0) (cwV 1 hts gX5_weekly_X5_isSchedule rfl rfl rfl (by decide +kernel) ⟨Nat.le_of_ble_eq_true rfl, Nat.le_of_ble_eq_true rfl⟩) (w_preV hC hP hS cW_5 rfl) rfl rfl hl.1 rfl (lv_room (Nat.le_of_ble_eq_true rfl)) dX5_weekly_2 ⟨Nat.le_of_ble_eq_true rfl, Nat.le_of_ble_eq_true rfl⟩) hS (fun r_1 ad1 w1 H locs hq hP hS => ?_)
  obtain ⟨h91, h92⟩ := hq
  cases h91
  subst h92
  refine lv_istore (lv' := [(5, .int (bI (isN h.2.2 x0))), (0, .ref (ad 5 0)), (1, .int x0), (2, .int x1), (3, .int x2), (4, .int x3)]) hx hb dX5_weekly_5 hl (by decide) rfl (fun ls hl => ?_)
  refine w_join (D := D) (B := B) (ad := ad) (w := cW D ad S (h, τ, th) o) (H0 := s.heap) (pcJ := 53) (ls := ls) (rest := []) (bI (isN h.2.2 x0 ∧ (bt x1 0 6 ∧ bt x2 0 1439 ∧ okV τ (nOf (τ 14 (nOf x0) 0)) x3))) (fun H locs hP hS => ?_) (fun hJ => ?_) hP hS
  · refine lv_istore (lv' := [(6, .int (bI (isN h.2.2 x0 ∧ (bt x1 0 6 ∧ bt x2 0 1439 ∧ okV τ (nOf (τ 14 (nOf x0) 0)) x3)))), (5, .int (bI (isN h.2.2 x0))), (0, .ref (ad 5 0)), (1, .int x0), (2, .int x1), (3, .int x2), (4, .int x3)]) hx hb dX5_weekly_53 hl (by decide) rfl (fun ls hl => ?_)
    refine lv_aload_n hx hb dX5_weekly_55 rfl (lv_at hl 2 rfl) ?_
    refine lv_iload hx hb dX5_weekly_56 (lv_at hl 1 rfl) ?_
    refine lv_iload hx hb dX5_weekly_58 (lv_at hl 0 rfl) ?_
    refine w_join (D := D) (B := B) (ad := ad) (w := cW D ad S (h, τ, th) o) (H0 := s.heap) (pcJ := 81) (ls := ls) (rest := [.int (bI (isN h.2.2 x0 ∧ (bt x1 0 6 ∧ bt x2 0 1439 ∧ okV τ (nOf (τ 14 (nOf x0) 0)) x3))), .int (bI (isN h.2.2 x0)), .ref (ad 5 0)]) (bI (isN h.2.2 x0 ∧ nOf (τ 17 (nOf x0) 0) < 20)) (fun H locs hP hS => ?_) (fun hJ => ?_) hP hS
    · refine w_calli (va_runV (As := [.int (bI (isN h.2.2 x0)), .int (bI (isN h.2.2 x0 ∧ (bt x1 0 6 ∧ bt x2 0 1439 ∧ okV τ (nOf (τ 14 (nOf x0) 0)) x3))), .int (bI (isN h.2.2 x0 ∧ nOf (τ 17 (nOf x0) 0) < 20))]) (rest := []) ⟨hx, hb, hml, hown, hts⟩ (c_X5_goes l D B ad S h τ th o (isN h.2.2 x0) (isN h.2.2 x0 ∧ (bt x1 0 6 ∧ bt x2 0 1439 ∧ okV τ (nOf (τ 14 (nOf x0) 0)) x3)) (isN h.2.2 x0 ∧ nOf (τ 17 (nOf x0) 0) < 20)) (cwV 3 hts gX5_weekly_X5_goes rfl rfl rfl (by decide +kernel) ⟨Nat.le_of_ble_eq_true rfl, Nat.le_of_ble_eq_true rfl⟩) (w_preV hC hP hS cW_5 rfl) rfl rfl hl.1 rfl (lv_room (Nat.le_of_ble_eq_true rfl)) dX5_weekly_81 ⟨Nat.le_of_ble_eq_true rfl, Nat.le_of_ble_eq_true rfl⟩) hS (fun r_2 ad1 w1 H locs hq hP hS => ?_)
      have hCD : cod3 (isN h.2.2 x0) (isN h.2.2 x0 ∧ (bt x1 0 6 ∧ bt x2 0 1439 ∧ okV τ (nOf (τ 14 (nOf x0) 0)) x3)) (isN h.2.2 x0 ∧ nOf (τ 17 (nOf x0) 0) < 20) = cdEnt h τ 6 x0 x1 x2 x3 := (by unfold cdEnt; exact cod3_eq Iff.rfl (fun z => ⟨fun y => y.2, fun y => ⟨z, y⟩⟩) (fun z _ => ⟨fun y => y.2, fun y => ⟨z, y⟩⟩))
      obtain ⟨h91, h92⟩ := hq
      cases h91
      rw [hCD] at hP h92
      subst h92
      refine lv_if_eq (tgt := 99) hx hb dX5_weekly_84 (by decide) (fun c_84 => ?_) (fun c_84 => ?_)
      · have hcd := bI_0.mp c_84
        refine lv_iconst (v := 0) hx hb dX5_weekly_99 (by decide) ?_
        exact W.iret (v := 0) hx hb hr (fun t ht hW => Qi_of ⟨fun z => absurd z hcd, fun _ => rfl⟩ hP hS ht) hS.2.2 dX5_weekly_100
      · have hcd := bI_n0 c_84
        have hz := cod3_z (hCD.trans hcd)
        obtain ⟨pi, hpi, rfl⟩ := hz.1
        have hcl : nOf (nI pi) = pi := nI_clamp (by have := hI.2.2.1; omega)
        have hq4 : pi < 4 := by have := hI.2.2.1; omega
        obtain ⟨i, j, n, n1, n2, h1, h2, h3, h4, h5, h6, h7, h8, h9, h10, h11, h12⟩ := hI.2.2.2.2.2 pi hpi
        have e14s : nOf (τ 14 pi 0) = i := by rw [h2]; exact nI_clamp (by have := hI.1; omega)
        have e17s : nOf (τ 17 pi 0) = n := by rw [h6]; exact nI_clamp (by omega)
        have hzb := hz.2.1.2
        have hzc := hz.2.2.2
        rw [hcl] at hzb hzc
        obtain ⟨pj, rfl, pjl, pjh⟩ := bt_nat (lo := 0) (hi := 6) (by decide) (by decide) (by decide) hzb.1
        have hn20 : n < 20 := by rw [e17s] at hzc; exact hzc
        have hI2 : Ib h (entM pi (nI pj) x2 x3 (entC (2 * pi) (nI pj) x2 x3 τ)) := Ib_ent hI hpi (Or.inl rfl) hzb.2.2 (fun m m1 m2 q1 q2 q3 q4 q5 q6 q7 => by rw [if_pos rfl, if_pos rfl]; exact Ie_wee q7 (by rw [q1]; exact nI_clamp (by omega)) (by rw [q2]; exact nI_clamp (by omega)) (by omega)) hzc
        refine lv_aload_n hx hb dX5_weekly_87 rfl (lv_at hl 2 rfl) ?_
        refine lv_iload_n hx hb dX5_weekly_88 rfl (lv_at hl 3 rfl) ?_
        refine lv_iload_n hx hb dX5_weekly_89 rfl (lv_at hl 4 rfl) ?_
        refine lv_iload_n hx hb dX5_weekly_90 rfl (lv_at hl 5 rfl) ?_
        refine lv_iload hx hb dX5_weekly_91 (lv_at hl 6 rfl) ?_
        refine w_calli (va_runV (As := [.int (nI pi), .int (nI pj), .int x2, .int x3]) (rest := []) ⟨hx, hb, hml, hown, hts⟩ (c_X5_enters l D B ad S h τ (nI (cdEnt h τ 6 (nI pi) (nI pj) x2 x3)) o pi n (2 * pi) hpi hq4 h6 hn20 (nI pj) (nI pj) x2 x3 hI2) (cwV 4 hts gX5_weekly_X5_enters rfl rfl rfl (by decide +kernel) ⟨Nat.le_of_ble_eq_true rfl, Nat.le_of_ble_eq_true rfl⟩) (w_preV hC hP hS cW_5 rfl) rfl rfl hl.1 rfl (lv_room (Nat.le_of_ble_eq_true rfl)) dX5_weekly_93 ⟨Nat.le_of_ble_eq_true rfl, Nat.le_of_ble_eq_true rfl⟩) hS (fun r_3 ad1 w1 H locs hq hP hS => ?_)
        obtain ⟨h91, h92⟩ := hq
        cases h91
        subst h92
        refine lv_goto (tgt := 100) hx hb dX5_weekly_96 (by decide) ?_
        exact W.iret (v := (obeF h.2.1 pi (entM pi (nI pj) x2 x3 (entC (2 * pi) (nI pj) x2 x3 τ)) 16 pi 0)) hx hb hr (fun t ht hW => Qi_of ⟨fun _ => ⟨by rw [hcl], by rw [hcl]⟩, fun z => absurd hcd z⟩ hP hS ht) hS.2.2 dX5_weekly_100
    · refine lv_iload hx hb dX5_weekly_60 (lv_at hl 1 rfl) ?_
      refine lv_if_eq (tgt := 80) hx hb dX5_weekly_62 (by decide) (fun c_62 => ?_) (fun c_62 => ?_)
      · refine lv_iconst (v := 0) hx hb dX5_weekly_80 (by decide) ?_
        exact hJ _ _ _ (bI_f (fun z => bI_0.mp c_62 z.1)).symm hP hS
      · obtain ⟨pi, hpi, rfl⟩ := bI_n0 c_62
        have hcl : nOf (nI pi) = pi := nI_clamp (by have := hI.2.2.1; omega)
        have hq4 : pi < 4 := by have := hI.2.2.1; omega
        obtain ⟨i, j, n, n1, n2, h1, h2, h3, h4, h5, h6, h7, h8, h9, h10, h11, h12⟩ := hI.2.2.2.2.2 pi hpi
        have e14s : nOf (τ 14 pi 0) = i := by rw [h2]; exact nI_clamp (by have := hI.1; omega)
        have e17s : nOf (τ 17 pi 0) = n := by rw [h6]; exact nI_clamp (by omega)
        refine lv_aload_n hx hb dX5_weekly_65 rfl (lv_at hl 2 rfl) ?_
        refine w_get hx hb hts (by decide +kernel) hown hC hP cW_5 rfl 20 (by decide) (hts (.fieldLink RX5 56 "BuildingPointsModel" "entries" "[I") (by decide +kernel)) rfl dX5_weekly_66 ?_
        refine lv_iload_n hx hb dX5_weekly_69 rfl (lv_at hl 3 rfl) ?_
        refine w_ildN hx hb hC hP cW_12_15 (by omega) (by decide) (v := τ 17 pi 0) rfl dX5_weekly_70 ?_
        refine w_top (v := nI n) h6 ?_
        refine lv_bipush (v := (20)) hx hb dX5_weekly_71 (by decide) ?_
        refine lv_icmp_ge (tgt := 80) hx hb dX5_weekly_73 (by decide) (fun c_73 => ?_) (fun c_73 => ?_)
        · refine lv_iconst (v := 0) hx hb dX5_weekly_80 (by decide) ?_
          exact hJ _ _ _ (bI_f (fun z => absurd c_73 (nI_ge (a := n) (b := 20) (by have := z.2; rw [hcl, e17s] at this; exact this) (by decide)))).symm hP hS
        · refine lv_iconst (v := 1) hx hb dX5_weekly_76 (by decide) ?_
          refine lv_goto (tgt := 81) hx hb dX5_weekly_77 (by decide) ?_
          exact hJ _ _ _ (bI_t ⟨⟨pi, hpi, rfl⟩, by rw [hcl, e17s]; exact Nat.not_le.mp (fun z => c_73 (nI_le (a := 20) (b := n) z (by omega)))⟩).symm hP hS
  · refine lv_iload hx hb dX5_weekly_7 (lv_at hl 0 rfl) ?_
    refine lv_if_eq (tgt := 52) hx hb dX5_weekly_9 (by decide) (fun c_9 => ?_) (fun c_9 => ?_)
    · refine lv_iconst (v := 0) hx hb dX5_weekly_52 (by decide) ?_
      exact hJ _ _ _ (bI_f (fun z => bI_0.mp c_9 z.1)).symm hP hS
    · obtain ⟨pi, hpi, rfl⟩ := bI_n0 c_9
      have hcl : nOf (nI pi) = pi := nI_clamp (by have := hI.2.2.1; omega)
      have hq4 : pi < 4 := by have := hI.2.2.1; omega
      obtain ⟨i, j, n, n1, n2, h1, h2, h3, h4, h5, h6, h7, h8, h9, h10, h11, h12⟩ := hI.2.2.2.2.2 pi hpi
      have e14s : nOf (τ 14 pi 0) = i := by rw [h2]; exact nI_clamp (by have := hI.1; omega)
      have e17s : nOf (τ 17 pi 0) = n := by rw [h6]; exact nI_clamp (by omega)
      refine lv_iload_n hx hb dX5_weekly_12 rfl (lv_at hl 3 rfl) ?_
      refine lv_iconst (v := 0) hx hb dX5_weekly_13 (by decide) ?_
      refine lv_bipush (v := (6)) hx hb dX5_weekly_14 (by decide) ?_
      refine w_calli (va_runS (As := [.int x1, .int 0, .int 6]) (rest := []) ⟨hx, hb, hml, hown, hts⟩ (c_X5_in l D B ad (cW D ad S (h, τ, th) o) x1 0 6) (va_cwS 3 hts gX5_weekly_X5_in rfl rfl rfl (by decide +kernel) ⟨Nat.le_of_ble_eq_true rfl, Nat.le_of_ble_eq_true rfl⟩) (w_preS hC hP hS) rfl rfl hl.1 rfl (lv_room (Nat.le_of_ble_eq_true rfl)) dX5_weekly_16 ⟨Nat.le_of_ble_eq_true rfl, Nat.le_of_ble_eq_true rfl⟩) hS (fun r_4 ad1 w1 H locs hq hP hS => ?_)
      obtain ⟨h91, h92⟩ := hq
      cases h91
      subst h92
      refine lv_if_eq (tgt := 52) hx hb dX5_weekly_19 (by decide) (fun c_19 => ?_) (fun c_19 => ?_)
      · refine lv_iconst (v := 0) hx hb dX5_weekly_52 (by decide) ?_
        exact hJ _ _ _ (bI_f (fun z => bI_0.mp c_19 z.2.1)).symm hP hS
      · refine lv_iload_n hx hb dX5_weekly_22 rfl (lv_at hl 4 rfl) ?_
        refine lv_iconst (v := 0) hx hb dX5_weekly_23 (by decide) ?_
        refine lv_sipush (v := (1439)) hx hb dX5_weekly_24 (by decide) ?_
        refine w_calli (va_runS (As := [.int x2, .int 0, .int 1439]) (rest := []) ⟨hx, hb, hml, hown, hts⟩ (c_X5_in l D B ad (cW D ad S (h, τ, th) o) x2 0 1439) (va_cwS 3 hts gX5_weekly_X5_in rfl rfl rfl (by decide +kernel) ⟨Nat.le_of_ble_eq_true rfl, Nat.le_of_ble_eq_true rfl⟩) (w_preS hC hP hS) rfl rfl hl.1 rfl (lv_room (Nat.le_of_ble_eq_true rfl)) dX5_weekly_27 ⟨Nat.le_of_ble_eq_true rfl, Nat.le_of_ble_eq_true rfl⟩) hS (fun r_5 ad1 w1 H locs hq hP hS => ?_)
        obtain ⟨h91, h92⟩ := hq
        cases h91
        subst h92
        refine lv_if_eq (tgt := 52) hx hb dX5_weekly_30 (by decide) (fun c_30 => ?_) (fun c_30 => ?_)
        · refine lv_iconst (v := 0) hx hb dX5_weekly_52 (by decide) ?_
          exact hJ _ _ _ (bI_f (fun z => bI_0.mp c_30 z.2.2.1)).symm hP hS
        · refine lv_aload_n hx hb dX5_weekly_33 rfl (lv_at hl 1 rfl) ?_
          refine lv_aload_n hx hb dX5_weekly_34 rfl (lv_at hl 1 rfl) ?_
          refine w_get hx hb hts (by decide +kernel) hown hC hP cW_5 rfl 17 (by decide) (hts (.fieldLink RX5 47 "BuildingPointsModel" "to" "[I") (by decide +kernel)) rfl dX5_weekly_35 ?_
          refine lv_iload_n hx hb dX5_weekly_38 rfl (lv_at hl 2 rfl) ?_
          refine w_ildN hx hb hC hP cW_12_12 (by omega) (by decide) (v := τ 14 pi 0) rfl dX5_weekly_39 ?_
          refine w_top (v := nI i) h2 ?_
          refine lv_iload hx hb dX5_weekly_40 (lv_at hl 5 rfl) ?_
          refine w_calli (va_runV (As := [.int (nI i), .int x3]) (rest := []) ⟨hx, hb, hml, hown, hts⟩ (c_X5_canHave l D B ad S h τ th o i (by have := hI.1; omega) x3 (hI.2.2.2.1 i h1).1) (cwV 2 hts gX5_weekly_X5_canHave rfl rfl rfl (by decide +kernel) ⟨Nat.le_of_ble_eq_true rfl, Nat.le_of_ble_eq_true rfl⟩) (w_preV hC hP hS cW_5 rfl) rfl rfl hl.1 rfl (lv_room (Nat.le_of_ble_eq_true rfl)) dX5_weekly_42 ⟨Nat.le_of_ble_eq_true rfl, Nat.le_of_ble_eq_true rfl⟩) hS (fun r_6 ad1 w1 H locs hq hP hS => ?_)
          obtain ⟨h91, h92⟩ := hq
          cases h91
          subst h92
          refine lv_if_eq (tgt := 52) hx hb dX5_weekly_45 (by decide) (fun c_45 => ?_) (fun c_45 => ?_)
          · refine lv_iconst (v := 0) hx hb dX5_weekly_52 (by decide) ?_
            exact hJ _ _ _ (bI_f (fun z => bI_0.mp c_45 (by rw [hcl, e14s] at z; exact z.2.2.2))).symm hP hS
          · refine lv_iconst (v := 1) hx hb dX5_weekly_48 (by decide) ?_
            refine lv_goto (tgt := 53) hx hb dX5_weekly_49 (by decide) ?_
            exact hJ _ _ _ (bI_t ⟨⟨pi, hpi, rfl⟩, bI_n0 c_19, bI_n0 c_30, by rw [hcl, e14s]; exact bI_n0 c_45⟩).symm hP hS
set_option maxHeartbeats 4000000 in
set_option maxRecDepth 100000 in
theorem c_X5_once (l : Launch) (D : va_G) (B : Nat) (ad : Ad) (S : GC × Me) (h : GC) (τ : Me) (th : Int32) (o : Int64) (hI : Ib h τ)  (x0 : Int32) (x1 : Int32) (x2 : Int32) (x3 : Int32) : Met l yX5_once wsX5_once ({ frames := 5, cells := 0, slots := 0, locals := 117 }) (Pre D B ad (cW D ad S (h, τ, th) o) [.ref (ad 5 0), .int x0, .int x1, .int x2, .int x3]) (Qi D B (fun r u => (cdEnt h τ 700 x0 x1 x2 x3 = 0 → u = (ad, cW D ad S (h, obeF h.2.1 (nOf x0) (entM (nOf x0) (10 + x1) x2 x3 (entC (2 * nOf x0 + 1) x1 x2 x3 τ)), nI (cdEnt h τ 700 x0 x1 x2 x3)) o) ∧ r = obeF h.2.1 (nOf x0) (entM (nOf x0) (10 + x1) x2 x3 (entC (2 * nOf x0 + 1) x1 x2 x3 τ)) 16 (nOf x0) 0) ∧ (¬ cdEnt h τ 700 x0 x1 x2 x3 = 0 → u = (ad, cW D ad S (h, τ, nI (cdEnt h τ 700 x0 x1 x2 x3)) o)))) 0 0 (ab B) := by
  refine Met.ofW (cc := cX5_once) (maxL := 7) (ret := (some .int)) (by decide) rfl ?_
  intro p e s m args below meth c s₁ Bd hml hv
  obtain ⟨rfl, hC, hP⟩ := hv
  have hx := Bd.exec
  have hb := Bd.bytes
  have hr := Bd.returns
  have hts := atoms_spec (ws := wsX5_once) Bd.pre
  have hown : s.vm.findClass RX5 = some m.cls := findClass_of_methodNamed Bd.named
  have hlocks := Bd.notSynchronized
  have hS : va_S (ab B) s.heap s.heap [] := va_S.rf
  have hl := lv_entry ([.ref (ad 5 0), .int x0, .int x1, .int x2, .int x3]) (n := 7) (Nat.le_of_ble_eq_true rfl)
  rw [lg_entry_eq]
  generalize (lg_sl ([.ref (ad 5 0), .int x0, .int x1, .int x2, .int x3]) ++ List.replicate (7 - (lg_sl ([.ref (ad 5 0), .int x0, .int x1, .int x2, .int x3])).length) Slot.unset).toArray = ls at hl ⊢
  have hl : lv_has ls 7 [(0, .ref (ad 5 0)), (1, .int x0), (2, .int x1), (3, .int x2), (4, .int x3)] := hl
  refine lv_aload_n hx hb dX5_once_0 rfl (lv_at hl 0 rfl) ?_
  refine lv_iload_n hx hb dX5_once_1 rfl (lv_at hl 1 rfl) ?_
  refine w_calli (va_runV (As := [.int x0]) (rest := []) ⟨hx, hb, hml, hown, hts⟩ (c_X5_isSchedule l D B ad S h τ th o hI.2.2.1 x0) (cwV 1 hts gX5_once_X5_isSchedule rfl rfl rfl (by decide +kernel) ⟨Nat.le_of_ble_eq_true rfl, Nat.le_of_ble_eq_true rfl⟩) (w_preV hC hP hS cW_5 rfl) rfl rfl hl.1 rfl (lv_room (Nat.le_of_ble_eq_true rfl)) dX5_once_2 ⟨Nat.le_of_ble_eq_true rfl, Nat.le_of_ble_eq_true rfl⟩) hS (fun r_1 ad1 w1 H locs hq hP hS => ?_)
  obtain ⟨h91, h92⟩ := hq
  cases h91
  subst h92
  refine lv_istore (lv' := [(5, .int (bI (isN h.2.2 x0))), (0, .ref (ad 5 0)), (1, .int x0), (2, .int x1), (3, .int x2), (4, .int x3)]) hx hb dX5_once_5 hl (by decide) rfl (fun ls hl => ?_)
  refine w_join (D := D) (B := B) (ad := ad) (w := cW D ad S (h, τ, th) o) (H0 := s.heap) (pcJ := 54) (ls := ls) (rest := []) (bI (isN h.2.2 x0 ∧ (bt x1 0 700 ∧ bt x2 0 1439 ∧ okV τ (nOf (τ 14 (nOf x0) 0)) x3))) (fun H locs hP hS => ?_) (fun hJ => ?_) hP hS
  · refine lv_istore (lv' := [(6, .int (bI (isN h.2.2 x0 ∧ (bt x1 0 700 ∧ bt x2 0 1439 ∧ okV τ (nOf (τ 14 (nOf x0) 0)) x3)))), (5, .int (bI (isN h.2.2 x0))), (0, .ref (ad 5 0)), (1, .int x0), (2, .int x1), (3, .int x2), (4, .int x3)]) hx hb dX5_once_54 hl (by decide) rfl (fun ls hl => ?_)
    refine lv_aload_n hx hb dX5_once_56 rfl (lv_at hl 2 rfl) ?_
    refine lv_iload hx hb dX5_once_57 (lv_at hl 1 rfl) ?_
    refine lv_iload hx hb dX5_once_59 (lv_at hl 0 rfl) ?_
    refine w_join (D := D) (B := B) (ad := ad) (w := cW D ad S (h, τ, th) o) (H0 := s.heap) (pcJ := 82) (ls := ls) (rest := [.int (bI (isN h.2.2 x0 ∧ (bt x1 0 700 ∧ bt x2 0 1439 ∧ okV τ (nOf (τ 14 (nOf x0) 0)) x3))), .int (bI (isN h.2.2 x0)), .ref (ad 5 0)]) (bI (isN h.2.2 x0 ∧ nOf (τ 17 (nOf x0) 0) < 20)) (fun H locs hP hS => ?_) (fun hJ => ?_) hP hS
    · refine w_calli (va_runV (As := [.int (bI (isN h.2.2 x0)), .int (bI (isN h.2.2 x0 ∧ (bt x1 0 700 ∧ bt x2 0 1439 ∧ okV τ (nOf (τ 14 (nOf x0) 0)) x3))), .int (bI (isN h.2.2 x0 ∧ nOf (τ 17 (nOf x0) 0) < 20))]) (rest := []) ⟨hx, hb, hml, hown, hts⟩ (c_X5_goes l D B ad S h τ th o (isN h.2.2 x0) (isN h.2.2 x0 ∧ (bt x1 0 700 ∧ bt x2 0 1439 ∧ okV τ (nOf (τ 14 (nOf x0) 0)) x3)) (isN h.2.2 x0 ∧ nOf (τ 17 (nOf x0) 0) < 20)) (cwV 3 hts gX5_once_X5_goes rfl rfl rfl (by decide +kernel) ⟨Nat.le_of_ble_eq_true rfl, Nat.le_of_ble_eq_true rfl⟩) (w_preV hC hP hS cW_5 rfl) rfl rfl hl.1 rfl (lv_room (Nat.le_of_ble_eq_true rfl)) dX5_once_82 ⟨Nat.le_of_ble_eq_true rfl, Nat.le_of_ble_eq_true rfl⟩) hS (fun r_2 ad1 w1 H locs hq hP hS => ?_)
      have hCD : cod3 (isN h.2.2 x0) (isN h.2.2 x0 ∧ (bt x1 0 700 ∧ bt x2 0 1439 ∧ okV τ (nOf (τ 14 (nOf x0) 0)) x3)) (isN h.2.2 x0 ∧ nOf (τ 17 (nOf x0) 0) < 20) = cdEnt h τ 700 x0 x1 x2 x3 := (by unfold cdEnt; exact cod3_eq Iff.rfl (fun z => ⟨fun y => y.2, fun y => ⟨z, y⟩⟩) (fun z _ => ⟨fun y => y.2, fun y => ⟨z, y⟩⟩))
      obtain ⟨h91, h92⟩ := hq
      cases h91
      rw [hCD] at hP h92
      subst h92
      refine lv_if_eq (tgt := 103) hx hb dX5_once_85 (by decide) (fun c_85 => ?_) (fun c_85 => ?_)
      · have hcd := bI_0.mp c_85
        refine lv_iconst (v := 0) hx hb dX5_once_103 (by decide) ?_
        exact W.iret (v := 0) hx hb hr (fun t ht hW => Qi_of ⟨fun z => absurd z hcd, fun _ => rfl⟩ hP hS ht) hS.2.2 dX5_once_104
      · have hcd := bI_n0 c_85
        have hz := cod3_z (hCD.trans hcd)
        obtain ⟨pi, hpi, rfl⟩ := hz.1
        have hcl : nOf (nI pi) = pi := nI_clamp (by have := hI.2.2.1; omega)
        have hq4 : pi < 4 := by have := hI.2.2.1; omega
        obtain ⟨i, j, n, n1, n2, h1, h2, h3, h4, h5, h6, h7, h8, h9, h10, h11, h12⟩ := hI.2.2.2.2.2 pi hpi
        have e14s : nOf (τ 14 pi 0) = i := by rw [h2]; exact nI_clamp (by have := hI.1; omega)
        have e17s : nOf (τ 17 pi 0) = n := by rw [h6]; exact nI_clamp (by omega)
        have hzb := hz.2.1.2
        have hzc := hz.2.2.2
        rw [hcl] at hzb hzc
        obtain ⟨pj, rfl, pjl, pjh⟩ := bt_nat (lo := 0) (hi := 700) (by decide) (by decide) (by decide) hzb.1
        have hn20 : n < 20 := by rw [e17s] at hzc; exact hzc
        have hI2 : Ib h (entM pi (10 + (nI pj)) x2 x3 (entC (2 * pi + 1) (nI pj) x2 x3 τ)) := Ib_ent hI hpi (Or.inr rfl) hzb.2.2 (fun m m1 m2 q1 q2 q3 q4 q5 q6 q7 => by rw [if_neg (by omega), if_neg (by omega)]; exact Ie_onc q7 (by rw [q1]; exact nI_clamp (by omega)) (by rw [q3]; exact nI_clamp (by omega)) (by omega)) hzc
        refine lv_aload_n hx hb dX5_once_88 rfl (lv_at hl 2 rfl) ?_
        refine lv_iload_n hx hb dX5_once_89 rfl (lv_at hl 3 rfl) ?_
        refine lv_bipush (v := (10)) hx hb dX5_once_90 (by decide) ?_
        refine lv_iload_n hx hb dX5_once_92 rfl (lv_at hl 4 rfl) ?_
        refine lv_iadd hx hb dX5_once_93 ?_
        refine lv_iload_n hx hb dX5_once_94 rfl (lv_at hl 5 rfl) ?_
        refine lv_iload hx hb dX5_once_95 (lv_at hl 6 rfl) ?_
        refine w_calli (va_runV (As := [.int (nI pi), .int (10 + (nI pj)), .int x2, .int x3]) (rest := []) ⟨hx, hb, hml, hown, hts⟩ (c_X5_enters l D B ad S h τ (nI (cdEnt h τ 700 (nI pi) (nI pj) x2 x3)) o pi n (2 * pi + 1) hpi hq4 h6 hn20 (10 + (nI pj)) (nI pj) x2 x3 hI2) (cwV 4 hts gX5_once_X5_enters rfl rfl rfl (by decide +kernel) ⟨Nat.le_of_ble_eq_true rfl, Nat.le_of_ble_eq_true rfl⟩) (w_preV hC hP hS cW_5 rfl) rfl rfl hl.1 rfl (lv_room (Nat.le_of_ble_eq_true rfl)) dX5_once_97 ⟨Nat.le_of_ble_eq_true rfl, Nat.le_of_ble_eq_true rfl⟩) hS (fun r_3 ad1 w1 H locs hq hP hS => ?_)
        obtain ⟨h91, h92⟩ := hq
        cases h91
        subst h92
        refine lv_goto (tgt := 104) hx hb dX5_once_100 (by decide) ?_
        exact W.iret (v := (obeF h.2.1 pi (entM pi (10 + (nI pj)) x2 x3 (entC (2 * pi + 1) (nI pj) x2 x3 τ)) 16 pi 0)) hx hb hr (fun t ht hW => Qi_of ⟨fun _ => ⟨by rw [hcl], by rw [hcl]⟩, fun z => absurd hcd z⟩ hP hS ht) hS.2.2 dX5_once_104
    · refine lv_iload hx hb dX5_once_61 (lv_at hl 1 rfl) ?_
      refine lv_if_eq (tgt := 81) hx hb dX5_once_63 (by decide) (fun c_63 => ?_) (fun c_63 => ?_)
      · refine lv_iconst (v := 0) hx hb dX5_once_81 (by decide) ?_
        exact hJ _ _ _ (bI_f (fun z => bI_0.mp c_63 z.1)).symm hP hS
      · obtain ⟨pi, hpi, rfl⟩ := bI_n0 c_63
        have hcl : nOf (nI pi) = pi := nI_clamp (by have := hI.2.2.1; omega)
        have hq4 : pi < 4 := by have := hI.2.2.1; omega
        obtain ⟨i, j, n, n1, n2, h1, h2, h3, h4, h5, h6, h7, h8, h9, h10, h11, h12⟩ := hI.2.2.2.2.2 pi hpi
        have e14s : nOf (τ 14 pi 0) = i := by rw [h2]; exact nI_clamp (by have := hI.1; omega)
        have e17s : nOf (τ 17 pi 0) = n := by rw [h6]; exact nI_clamp (by omega)
        refine lv_aload_n hx hb dX5_once_66 rfl (lv_at hl 2 rfl) ?_
        refine w_get hx hb hts (by decide +kernel) hown hC hP cW_5 rfl 20 (by decide) (hts (.fieldLink RX5 56 "BuildingPointsModel" "entries" "[I") (by decide +kernel)) rfl dX5_once_67 ?_
        refine lv_iload_n hx hb dX5_once_70 rfl (lv_at hl 3 rfl) ?_
        refine w_ildN hx hb hC hP cW_12_15 (by omega) (by decide) (v := τ 17 pi 0) rfl dX5_once_71 ?_
        refine w_top (v := nI n) h6 ?_
        refine lv_bipush (v := (20)) hx hb dX5_once_72 (by decide) ?_
        refine lv_icmp_ge (tgt := 81) hx hb dX5_once_74 (by decide) (fun c_74 => ?_) (fun c_74 => ?_)
        · refine lv_iconst (v := 0) hx hb dX5_once_81 (by decide) ?_
          exact hJ _ _ _ (bI_f (fun z => absurd c_74 (nI_ge (a := n) (b := 20) (by have := z.2; rw [hcl, e17s] at this; exact this) (by decide)))).symm hP hS
        · refine lv_iconst (v := 1) hx hb dX5_once_77 (by decide) ?_
          refine lv_goto (tgt := 82) hx hb dX5_once_78 (by decide) ?_
          exact hJ _ _ _ (bI_t ⟨⟨pi, hpi, rfl⟩, by rw [hcl, e17s]; exact Nat.not_le.mp (fun z => c_74 (nI_le (a := 20) (b := n) z (by omega)))⟩).symm hP hS
  · refine lv_iload hx hb dX5_once_7 (lv_at hl 0 rfl) ?_
    refine lv_if_eq (tgt := 53) hx hb dX5_once_9 (by decide) (fun c_9 => ?_) (fun c_9 => ?_)
    · refine lv_iconst (v := 0) hx hb dX5_once_53 (by decide) ?_
      exact hJ _ _ _ (bI_f (fun z => bI_0.mp c_9 z.1)).symm hP hS
    · obtain ⟨pi, hpi, rfl⟩ := bI_n0 c_9
      have hcl : nOf (nI pi) = pi := nI_clamp (by have := hI.2.2.1; omega)
      have hq4 : pi < 4 := by have := hI.2.2.1; omega
      obtain ⟨i, j, n, n1, n2, h1, h2, h3, h4, h5, h6, h7, h8, h9, h10, h11, h12⟩ := hI.2.2.2.2.2 pi hpi
      have e14s : nOf (τ 14 pi 0) = i := by rw [h2]; exact nI_clamp (by have := hI.1; omega)
      have e17s : nOf (τ 17 pi 0) = n := by rw [h6]; exact nI_clamp (by omega)
      refine lv_iload_n hx hb dX5_once_12 rfl (lv_at hl 3 rfl) ?_
      refine lv_iconst (v := 0) hx hb dX5_once_13 (by decide) ?_
      refine lv_sipush (v := (700)) hx hb dX5_once_14 (by decide) ?_
      refine w_calli (va_runS (As := [.int x1, .int 0, .int 700]) (rest := []) ⟨hx, hb, hml, hown, hts⟩ (c_X5_in l D B ad (cW D ad S (h, τ, th) o) x1 0 700) (va_cwS 3 hts gX5_once_X5_in rfl rfl rfl (by decide +kernel) ⟨Nat.le_of_ble_eq_true rfl, Nat.le_of_ble_eq_true rfl⟩) (w_preS hC hP hS) rfl rfl hl.1 rfl (lv_room (Nat.le_of_ble_eq_true rfl)) dX5_once_17 ⟨Nat.le_of_ble_eq_true rfl, Nat.le_of_ble_eq_true rfl⟩) hS (fun r_4 ad1 w1 H locs hq hP hS => ?_)
      obtain ⟨h91, h92⟩ := hq
      cases h91
      subst h92
      refine lv_if_eq (tgt := 53) hx hb dX5_once_20 (by decide) (fun c_20 => ?_) (fun c_20 => ?_)
      · refine lv_iconst (v := 0) hx hb dX5_once_53 (by decide) ?_
        exact hJ _ _ _ (bI_f (fun z => bI_0.mp c_20 z.2.1)).symm hP hS
      · refine lv_iload_n hx hb dX5_once_23 rfl (lv_at hl 4 rfl) ?_
        refine lv_iconst (v := 0) hx hb dX5_once_24 (by decide) ?_
        refine lv_sipush (v := (1439)) hx hb dX5_once_25 (by decide) ?_
        refine w_calli (va_runS (As := [.int x2, .int 0, .int 1439]) (rest := []) ⟨hx, hb, hml, hown, hts⟩ (c_X5_in l D B ad (cW D ad S (h, τ, th) o) x2 0 1439) (va_cwS 3 hts gX5_once_X5_in rfl rfl rfl (by decide +kernel) ⟨Nat.le_of_ble_eq_true rfl, Nat.le_of_ble_eq_true rfl⟩) (w_preS hC hP hS) rfl rfl hl.1 rfl (lv_room (Nat.le_of_ble_eq_true rfl)) dX5_once_28 ⟨Nat.le_of_ble_eq_true rfl, Nat.le_of_ble_eq_true rfl⟩) hS (fun r_5 ad1 w1 H locs hq hP hS => ?_)
        obtain ⟨h91, h92⟩ := hq
        cases h91
        subst h92
        refine lv_if_eq (tgt := 53) hx hb dX5_once_31 (by decide) (fun c_31 => ?_) (fun c_31 => ?_)
        · refine lv_iconst (v := 0) hx hb dX5_once_53 (by decide) ?_
          exact hJ _ _ _ (bI_f (fun z => bI_0.mp c_31 z.2.2.1)).symm hP hS
        · refine lv_aload_n hx hb dX5_once_34 rfl (lv_at hl 1 rfl) ?_
          refine lv_aload_n hx hb dX5_once_35 rfl (lv_at hl 1 rfl) ?_
          refine w_get hx hb hts (by decide +kernel) hown hC hP cW_5 rfl 17 (by decide) (hts (.fieldLink RX5 47 "BuildingPointsModel" "to" "[I") (by decide +kernel)) rfl dX5_once_36 ?_
          refine lv_iload_n hx hb dX5_once_39 rfl (lv_at hl 2 rfl) ?_
          refine w_ildN hx hb hC hP cW_12_12 (by omega) (by decide) (v := τ 14 pi 0) rfl dX5_once_40 ?_
          refine w_top (v := nI i) h2 ?_
          refine lv_iload hx hb dX5_once_41 (lv_at hl 5 rfl) ?_
          refine w_calli (va_runV (As := [.int (nI i), .int x3]) (rest := []) ⟨hx, hb, hml, hown, hts⟩ (c_X5_canHave l D B ad S h τ th o i (by have := hI.1; omega) x3 (hI.2.2.2.1 i h1).1) (cwV 2 hts gX5_once_X5_canHave rfl rfl rfl (by decide +kernel) ⟨Nat.le_of_ble_eq_true rfl, Nat.le_of_ble_eq_true rfl⟩) (w_preV hC hP hS cW_5 rfl) rfl rfl hl.1 rfl (lv_room (Nat.le_of_ble_eq_true rfl)) dX5_once_43 ⟨Nat.le_of_ble_eq_true rfl, Nat.le_of_ble_eq_true rfl⟩) hS (fun r_6 ad1 w1 H locs hq hP hS => ?_)
          obtain ⟨h91, h92⟩ := hq
          cases h91
          subst h92
          refine lv_if_eq (tgt := 53) hx hb dX5_once_46 (by decide) (fun c_46 => ?_) (fun c_46 => ?_)
          · refine lv_iconst (v := 0) hx hb dX5_once_53 (by decide) ?_
            exact hJ _ _ _ (bI_f (fun z => bI_0.mp c_46 (by rw [hcl, e14s] at z; exact z.2.2.2))).symm hP hS
          · refine lv_iconst (v := 1) hx hb dX5_once_49 (by decide) ?_
            refine lv_goto (tgt := 54) hx hb dX5_once_50 (by decide) ?_
            exact hJ _ _ _ (bI_t ⟨⟨pi, hpi, rfl⟩, bI_n0 c_20, bI_n0 c_31, by rw [hcl, e14s]; exact bI_n0 c_46⟩).symm hP hS
set_option maxHeartbeats 4000000 in
set_option maxRecDepth 100000 in
theorem c_X5_tells (l : Launch) (D : va_G) (B : Nat) (ad : Ad) (S : GC × Me) (h : GC) (τ : Me) (th : Int32) (o : Int64) (hI : Ib h τ)  (x0 : Int32) (x1 : Int32) : Met l yX5_tells wsX5_tells ({ frames := 2, cells := 0, slots := 0, locals := 43 }) (Pre D B ad (cW D ad S (h, τ, th) o) [.ref (ad 5 0), .int x0, .int x1]) (Qi D B (fun r u => (cdTel h x0 x1 = 0 → u = (ad, cW D ad S (h, τ, nI (cdTel h x0 x1)) o) ∧ r = tolO τ (nOf x0) x1) ∧ (¬ cdTel h x0 x1 = 0 → u = (ad, cW D ad S (h, τ, nI (cdTel h x0 x1)) o)))) 0 0 (ab B) := by
  refine Met.ofW (cc := cX5_tells) (maxL := 3) (ret := (some .int)) (by decide) rfl ?_
  intro p e s m args below meth c s₁ Bd hml hv
  obtain ⟨rfl, hC, hP⟩ := hv
  have hx := Bd.exec
  have hb := Bd.bytes
  have hr := Bd.returns
  have hts := atoms_spec (ws := wsX5_tells) Bd.pre
  have hown : s.vm.findClass RX5 = some m.cls := findClass_of_methodNamed Bd.named
  have hlocks := Bd.notSynchronized
  have hS : va_S (ab B) s.heap s.heap [] := va_S.rf
  have hl := lv_entry ([.ref (ad 5 0), .int x0, .int x1]) (n := 3) (Nat.le_of_ble_eq_true rfl)
  rw [lg_entry_eq]
  generalize (lg_sl ([.ref (ad 5 0), .int x0, .int x1]) ++ List.replicate (3 - (lg_sl ([.ref (ad 5 0), .int x0, .int x1])).length) Slot.unset).toArray = ls at hl ⊢
  have hl : lv_has ls 3 [(0, .ref (ad 5 0)), (1, .int x0), (2, .int x1)] := hl
  refine lv_aload_n hx hb dX5_tells_0 rfl (lv_at hl 0 rfl) ?_
  refine lv_aload_n hx hb dX5_tells_1 rfl (lv_at hl 0 rfl) ?_
  refine lv_iload_n hx hb dX5_tells_2 rfl (lv_at hl 1 rfl) ?_
  refine w_calli (va_runV (As := [.int x0]) (rest := [.ref (ad 5 0)]) ⟨hx, hb, hml, hown, hts⟩ (c_X5_isSchedule l D B ad S h τ th o hI.2.2.1 x0) (cwV 1 hts gX5_tells_X5_isSchedule rfl rfl rfl (by decide +kernel) ⟨Nat.le_of_ble_eq_true rfl, Nat.le_of_ble_eq_true rfl⟩) (w_preV hC hP hS cW_5 rfl) rfl rfl hl.1 rfl (lv_room (Nat.le_of_ble_eq_true rfl)) dX5_tells_3 ⟨Nat.le_of_ble_eq_true rfl, Nat.le_of_ble_eq_true rfl⟩) hS (fun r_1 ad1 w1 H locs hq hP hS => ?_)
  obtain ⟨h91, h92⟩ := hq
  cases h91
  subst h92
  refine lv_iload_n hx hb dX5_tells_6 rfl (lv_at hl 2 rfl) ?_
  refine lv_iconst (v := 0) hx hb dX5_tells_7 (by decide) ?_
  refine lv_ldc (v := (1000000)) hx hb hown (hts (.constant RX5 142 (1000000)) (by decide +kernel)) dX5_tells_8 ?_
  refine w_calli (va_runS (As := [.int x1, .int 0, .int 1000000]) (rest := [.int (bI (isN h.2.2 x0)), .ref (ad 5 0)]) ⟨hx, hb, hml, hown, hts⟩ (c_X5_in l D B ad (cW D ad S (h, τ, th) o) x1 0 1000000) (va_cwS 3 hts gX5_tells_X5_in rfl rfl rfl (by decide +kernel) ⟨Nat.le_of_ble_eq_true rfl, Nat.le_of_ble_eq_true rfl⟩) (w_preS hC hP hS) rfl rfl hl.1 rfl (lv_room (Nat.le_of_ble_eq_true rfl)) dX5_tells_10 ⟨Nat.le_of_ble_eq_true rfl, Nat.le_of_ble_eq_true rfl⟩) hS (fun r_2 ad1 w1 H locs hq hP hS => ?_)
  obtain ⟨h91, h92⟩ := hq
  cases h91
  subst h92
  refine lv_iconst (v := 1) hx hb dX5_tells_13 (by decide) ?_
  refine w_top (v := bI True) (bI_t trivial).symm ?_
  refine w_calli (va_runV (As := [.int (bI (isN h.2.2 x0)), .int (bI (bt x1 0 1000000)), .int (bI True)]) (rest := []) ⟨hx, hb, hml, hown, hts⟩ (c_X5_goes l D B ad S h τ th o (isN h.2.2 x0) (bt x1 0 1000000) (True)) (cwV 3 hts gX5_tells_X5_goes rfl rfl rfl (by decide +kernel) ⟨Nat.le_of_ble_eq_true rfl, Nat.le_of_ble_eq_true rfl⟩) (w_preV hC hP hS cW_5 rfl) rfl rfl hl.1 rfl (lv_room (Nat.le_of_ble_eq_true rfl)) dX5_tells_14 ⟨Nat.le_of_ble_eq_true rfl, Nat.le_of_ble_eq_true rfl⟩) hS (fun r_3 ad1 w1 H locs hq hP hS => ?_)
  have hCD : cod3 (isN h.2.2 x0) (bt x1 0 1000000) (True) = cdTel h x0 x1 := rfl
  obtain ⟨h91, h92⟩ := hq
  cases h91
  rw [hCD] at hP h92
  subst h92
  refine lv_if_eq (tgt := 29) hx hb dX5_tells_17 (by decide) (fun c_17 => ?_) (fun c_17 => ?_)
  · have hcd := bI_0.mp c_17
    refine lv_iconst (v := 0) hx hb dX5_tells_29 (by decide) ?_
    exact W.iret (v := 0) hx hb hr (fun t ht hW => Qi_of ⟨fun z => absurd z hcd, fun _ => rfl⟩ hP hS ht) hS.2.2 dX5_tells_30
  · have hcd := bI_n0 c_17
    have hz := cod3_z (hCD.trans hcd)
    obtain ⟨pi, hpi, rfl⟩ := hz.1
    have hcl : nOf (nI pi) = pi := nI_clamp (by have := hI.1; have := hI.2.1; have := hI.2.2.1; omega)
    have hq4 : pi < 4 := by have := hI.2.2.1; omega
    obtain ⟨i, j, n, n1, n2, h1, h2, h3, h4, h5, h6, h7, h8, h9, h10, h11, h12⟩ := hI.2.2.2.2.2 pi hpi
    refine lv_aload_n hx hb dX5_tells_20 rfl (lv_at hl 0 rfl) ?_
    refine lv_iload_n hx hb dX5_tells_21 rfl (lv_at hl 1 rfl) ?_
    refine lv_iload_n hx hb dX5_tells_22 rfl (lv_at hl 2 rfl) ?_
    refine w_calli (va_runV (As := [.int (nI pi), .int x1]) (rest := []) ⟨hx, hb, hml, hown, hts⟩ (c_X5_toldBy l D B ad S h τ (nI (cdTel h (nI pi) x1)) o pi n hq4 h6 h10 x1) (cwV 2 hts gX5_tells_X5_toldBy rfl rfl rfl (by decide +kernel) ⟨Nat.le_of_ble_eq_true rfl, Nat.le_of_ble_eq_true rfl⟩) (w_preV hC hP hS cW_5 rfl) rfl rfl hl.1 rfl (lv_room (Nat.le_of_ble_eq_true rfl)) dX5_tells_23 ⟨Nat.le_of_ble_eq_true rfl, Nat.le_of_ble_eq_true rfl⟩) hS (fun r_4 ad1 w1 H locs hq hP hS => ?_)
    obtain ⟨h91, h92⟩ := hq
    cases h91
    subst h92
    refine lv_goto (tgt := 30) hx hb dX5_tells_26 (by decide) ?_
    exact W.iret (v := (tolF τ pi n x1)) hx hb hr (fun t ht hW => Qi_of ⟨fun _ => ⟨rfl, by rw [hcl, tolO_n h6 h10]⟩, fun z => absurd hcd z⟩ hP hS ht) hS.2.2 dX5_tells_30
set_option maxHeartbeats 4000000 in
set_option maxRecDepth 100000 in
theorem c_X5_minutes (l : Launch) (D : va_G) (B : Nat) (ad : Ad) (S : GC × Me) (h : GC) (τ : Me) (th : Int32) (o : Int64) (t : Nat) (hR : Rs h t τ) (ht1 : t + 1 ≤ 1000000) : Met l yX5_minutes wsX5_minutes ({ frames := 4, cells := 0, slots := 0, locals := 92 }) (Pre D B ad (cW D ad S (h, τ, th) o) [.ref (ad 5 0)]) (Qv D B (fun u => u = (ad, cW D ad S (h, minF h τ, th) o))) 0 0 (ab B) := by
  refine Met.ofW (cc := cX5_minutes) (maxL := 2) (ret := none) (by decide) rfl ?_
  intro p e s m args below meth c s₁ Bd hml hv
  obtain ⟨rfl, hC, hP⟩ := hv
  have hx := Bd.exec
  have hb := Bd.bytes
  have hr := Bd.returns
  have hts := atoms_spec (ws := wsX5_minutes) Bd.pre
  have hown : s.vm.findClass RX5 = some m.cls := findClass_of_methodNamed Bd.named
  have hlocks := Bd.notSynchronized
  have hS : va_S (ab B) s.heap s.heap [] := va_S.rf
  have hl := lv_entry ([.ref (ad 5 0)]) (n := 2) (Nat.le_of_ble_eq_true rfl)
  rw [lg_entry_eq]
  generalize (lg_sl ([.ref (ad 5 0)]) ++ List.replicate (2 - (lg_sl ([.ref (ad 5 0)])).length) Slot.unset).toArray = ls at hl ⊢
  have hl : lv_has ls 2 [(0, .ref (ad 5 0))] := hl
  have hI := hR.1
  have hg1 := hI.1
  have hg2 := hI.2.1
  have hg3 := hI.2.2.1
  have i0 : Ib h (st3 τ 25 0 0 (τ 25 0 0 + 1)) := Ib_st hI (by decide)
  have i2 := Ib_endF h.2.1 0 _ (Ib_relF (ns := h.2.1) h.1 0 _ (by omega) i0)
  refine lv_aload_n hx hb dX5_minutes_0 rfl (lv_at hl 0 rfl) ?_
  refine lv_dup hx hb dX5_minutes_1 rfl ?_
  refine w_get hx hb hts (by decide +kernel) hown hC hP cW_5 rfl 0 (by decide) (hts (.fieldLink RX5 101 "BuildingPointsModel" "clock" "I") (by decide +kernel)) rfl dX5_minutes_2 ?_
  refine lv_iconst (v := 1) hx hb dX5_minutes_5 (by decide) ?_
  refine lv_iadd hx hb dX5_minutes_6 ?_
  refine w_put hx hb hts (by decide +kernel) tyX5 tyX5_ok nmX5 hown hC hP hS cW_5 rfl 0 (by decide) (hts (.fieldLink RX5 101 "BuildingPointsModel" "clock" "I") (by decide +kernel)) rfl rfl rfl (Nat.le_of_ble_eq_true rfl) rfl dX5_minutes_7 (fun H locs hP hS => ?_)
  have hP := hw_eq hP (pM0 _)
  refine lv_iconst (v := 0) hx hb dX5_minutes_10 (by decide) ?_
  refine lv_istore_n (lv' := [(1, .int 0), (0, .ref (ad 5 0))]) hx hb dX5_minutes_11 rfl hl (by decide) rfl (fun ls hl => ?_)
  refine w_ind (fun n9 H locs ls => ∃ (i : Nat) (τ1 : Me), i + n9 = h.1 ∧ relF h.2.1 h.1 0 (st3 τ 25 0 0 (τ 25 0 0 + 1)) = relF h.2.1 n9 i τ1 ∧ hw D B ad (cW D ad S (h, τ1, th) o) H ∧ va_S (ab B) s.heap H locs ∧ lv_has ls 2 [(1, .int (nI i)), (0, .ref (ad 5 0))]) ?_ (h.1) _ _ _ ⟨0, (st3 τ 25 0 0 (τ 25 0 0 + 1)), by omega, rfl, hP, hS, lv_sub hl [0, 1] rfl⟩
  intro n9 H locs ls hJ ih
  obtain ⟨i, τ1, hi, hst, hP, hS, hl⟩ := hJ
  refine lv_iload_n hx hb dX5_minutes_12 rfl (lv_at hl 0 rfl) ?_
  refine lv_aload_n hx hb dX5_minutes_13 rfl (lv_at hl 1 rfl) ?_
  refine w_get hx hb hts (by decide +kernel) hown hC hP cW_5 rfl 1 (by decide) (hts (.fieldLink RX5 72 "BuildingPointsModel" "points" "I") (by decide +kernel)) rfl dX5_minutes_14 ?_
  refine lv_icmp_ge (tgt := 55) hx hb dX5_minutes_17 (by decide) (fun c_17 => ?_) (fun c_17 => ?_)
  · have hin : h.1 ≤ i := Nat.not_lt.mp (fun z => absurd c_17 (nI_ge z (by omega)))
    have hX : τ1 = (relF h.2.1 h.1 0 (st3 τ 25 0 0 (τ 25 0 0 + 1))) := by rw [hst, show n9 = 0 by omega]; rfl
    subst hX
    refine lv_iconst (v := 0) hx hb dX5_minutes_55 (by decide) ?_
    refine lv_istore_n (lv' := [(1, .int 0), (0, .ref (ad 5 0))]) hx hb dX5_minutes_56 rfl hl (by decide) rfl (fun ls hl => ?_)
    refine w_ind (fun n9 H locs ls => ∃ (i : Nat) (τ1 : Me), i + n9 = h.2.1 ∧ endF h.2.1 0 (relF h.2.1 h.1 0 (st3 τ 25 0 0 (τ 25 0 0 + 1))) = endF n9 i τ1 ∧ hw D B ad (cW D ad S (h, τ1, th) o) H ∧ va_S (ab B) s.heap H locs ∧ lv_has ls 2 [(1, .int (nI i)), (0, .ref (ad 5 0))]) ?_ (h.2.1) _ _ _ ⟨0, (relF h.2.1 h.1 0 (st3 τ 25 0 0 (τ 25 0 0 + 1))), by omega, rfl, hP, hS, lv_sub hl [0, 1] rfl⟩
    clear ih
    intro n9 H locs ls hJ ih
    obtain ⟨i, τ1, hi, hst, hP, hS, hl⟩ := hJ
    refine lv_iload_n hx hb dX5_minutes_57 rfl (lv_at hl 0 rfl) ?_
    refine lv_aload_n hx hb dX5_minutes_58 rfl (lv_at hl 1 rfl) ?_
    refine w_get hx hb hts (by decide +kernel) hown hC hP cW_5 rfl 2 (by decide) (hts (.fieldLink RX5 92 "BuildingPointsModel" "subscriptions" "I") (by decide +kernel)) rfl dX5_minutes_59 ?_
    refine lv_icmp_ge (tgt := 104) hx hb dX5_minutes_62 (by decide) (fun c_62 => ?_) (fun c_62 => ?_)
    · have hin : h.2.1 ≤ i := Nat.not_lt.mp (fun z => absurd c_62 (nI_ge z (by omega)))
      have hX : τ1 = (endF h.2.1 0 (relF h.2.1 h.1 0 (st3 τ 25 0 0 (τ 25 0 0 + 1)))) := by rw [hst, show n9 = 0 by omega]; rfl
      subst hX
      refine lv_iconst (v := 0) hx hb dX5_minutes_104 (by decide) ?_
      refine lv_istore_n (lv' := [(1, .int 0), (0, .ref (ad 5 0))]) hx hb dX5_minutes_105 rfl hl (by decide) rfl (fun ls hl => ?_)
      refine w_ind (fun n9 H locs ls => ∃ (i : Nat) (τ1 : Me), i + n9 = h.2.2 ∧ folF h.2.1 h.2.2 0 (endF h.2.1 0 (relF h.2.1 h.1 0 (st3 τ 25 0 0 (τ 25 0 0 + 1)))) = folF h.2.1 n9 i τ1 ∧ Ib h τ1 ∧ hw D B ad (cW D ad S (h, τ1, th) o) H ∧ va_S (ab B) s.heap H locs ∧ lv_has ls 2 [(1, .int (nI i)), (0, .ref (ad 5 0))]) ?_ (h.2.2) _ _ _ ⟨0, (endF h.2.1 0 (relF h.2.1 h.1 0 (st3 τ 25 0 0 (τ 25 0 0 + 1)))), by omega, rfl, i2, hP, hS, lv_sub hl [0, 1] rfl⟩
      clear ih
      intro n9 H locs ls hJ ih
      obtain ⟨i, τ1, hi, hst, hI1, hP, hS, hl⟩ := hJ
      refine lv_iload_n hx hb dX5_minutes_106 rfl (lv_at hl 0 rfl) ?_
      refine lv_aload_n hx hb dX5_minutes_107 rfl (lv_at hl 1 rfl) ?_
      refine w_get hx hb hts (by decide +kernel) hown hC hP cW_5 rfl 3 (by decide) (hts (.fieldLink RX5 124 "BuildingPointsModel" "schedules" "I") (by decide +kernel)) rfl dX5_minutes_108 ?_
      refine lv_icmp_ge (tgt := 125) hx hb dX5_minutes_111 (by decide) (fun c_111 => ?_) (fun c_111 => ?_)
      · have hin : h.2.2 ≤ i := Nat.not_lt.mp (fun z => absurd c_111 (nI_ge z (by omega)))
        have hX : τ1 = (folF h.2.1 h.2.2 0 (endF h.2.1 0 (relF h.2.1 h.1 0 (st3 τ 25 0 0 (τ 25 0 0 + 1))))) := by rw [hst, show n9 = 0 by omega]; rfl
        subst hX
        exact W.vret hx hb hr (fun t ht hW => Qv_of (by rfl) hP hS ht) hS.2.2 dX5_minutes_125
      · have hin : i < h.2.2 := Nat.not_le.mp (fun z => c_111 (nI_le z (by omega)))
        refine lv_aload_n hx hb dX5_minutes_114 rfl (lv_at hl 1 rfl) ?_
        refine lv_iload_n hx hb dX5_minutes_115 rfl (lv_at hl 0 rfl) ?_
        refine w_callv (va_runV (As := [.int (nI i)]) (rest := []) ⟨hx, hb, hml, hown, hts⟩ (c_X5_obeys l D B ad S h τ1 th o i hin hI1) (cwV 1 hts gX5_minutes_X5_obeys rfl rfl rfl (by decide +kernel) ⟨Nat.le_of_ble_eq_true rfl, Nat.le_of_ble_eq_true rfl⟩) (w_preV hC hP hS cW_5 rfl) rfl rfl hl.1 rfl (lv_room (Nat.le_of_ble_eq_true rfl)) dX5_minutes_116 ⟨Nat.le_of_ble_eq_true rfl, Nat.le_of_ble_eq_true rfl⟩) hS (fun ad1 w1 H locs hq hP hS => ?_)
        cases hq
        refine lv_iinc (v := nI (i + 1)) (lv' := [(1, .int (nI (i + 1))), (0, .ref (ad 5 0))]) hx hb dX5_minutes_119 hl (k := 0) rfl (nI_add i 1) (by decide) rfl (fun ls hl => ?_)
        refine lv_goto (tgt := 106) hx hb dX5_minutes_122 (by decide) ?_
        obtain ⟨n8, rfl⟩ : ∃ n8, n9 = n8 + 1 := ⟨n9 - 1, by omega⟩
        have hE : obeF h.2.1 i τ1 = obeF h.2.1 i τ1 := rfl
        exact ih n8 _ _ _ (by omega) ⟨i + 1, (obeF h.2.1 i τ1), by omega, by rw [hst]; show folF h.2.1 n8 (i + 1) (obeF h.2.1 i τ1) = _; rw [hE], Ib_obeF hI1 hin, hP, hS, lv_sub hl [0, 1] rfl⟩
    · have hin : i < h.2.1 := Nat.not_le.mp (fun z => c_62 (nI_le z (by omega)))
      refine lv_aload_n hx hb dX5_minutes_65 rfl (lv_at hl 1 rfl) ?_
      refine w_get hx hb hts (by decide +kernel) hown hC hP cW_5 rfl 14 (by decide) (hts (.fieldLink RX5 38 "BuildingPointsModel" "ended" "[Z") (by decide +kernel)) rfl dX5_minutes_66 ?_
      refine lv_iload_n hx hb dX5_minutes_69 rfl (lv_at hl 0 rfl) ?_
      refine w_join (D := D) (B := B) (ad := ad) (w := cW D ad S (h, τ1, th) o) (H0 := s.heap) (pcJ := 97) (ls := ls) (rest := [.int (nI i), .ref (ad 12 9)]) (bI (¬ τ1 11 i 0 = 0 ∨ τ1 10 i 0 = τ1 25 0 0)) (fun H locs hP hS => ?_) (fun hJ => ?_) hP hS
      · refine w_zstN hx hb hC hP hS cW_12_9 (by omega) (by decide) (bI_01 _) dX5_minutes_97 (fun H locs hP hS => ?_)
        have hP := hw_eq hP (pA9 i _)
        refine lv_iinc (v := nI (i + 1)) (lv' := [(1, .int (nI (i + 1))), (0, .ref (ad 5 0))]) hx hb dX5_minutes_98 hl (k := 0) rfl (nI_add i 1) (by decide) rfl (fun ls hl => ?_)
        refine lv_goto (tgt := 57) hx hb dX5_minutes_101 (by decide) ?_
        obtain ⟨n8, rfl⟩ : ∃ n8, n9 = n8 + 1 := ⟨n9 - 1, by omega⟩
        have hE : endS i τ1 = st3 τ1 11 i 0 (bI (¬ τ1 11 i 0 = 0 ∨ τ1 10 i 0 = τ1 25 0 0)) := rfl
        exact ih n8 _ _ _ (by omega) ⟨i + 1, (st3 τ1 11 i 0 (bI (¬ τ1 11 i 0 = 0 ∨ τ1 10 i 0 = τ1 25 0 0))), by omega, by rw [hst]; show endF n8 (i + 1) (endS i τ1) = _; rw [hE], hP, hS, lv_sub hl [0, 1] rfl⟩
      · refine lv_aload_n hx hb dX5_minutes_70 rfl (lv_at hl 1 rfl) ?_
        refine w_get hx hb hts (by decide +kernel) hown hC hP cW_5 rfl 14 (by decide) (hts (.fieldLink RX5 38 "BuildingPointsModel" "ended" "[Z") (by decide +kernel)) rfl dX5_minutes_71 ?_
        refine lv_iload_n hx hb dX5_minutes_74 rfl (lv_at hl 0 rfl) ?_
        refine w_zldN hx hb hC hP cW_12_9 (by omega) (by decide) (v := τ1 11 i 0) rfl dX5_minutes_75 ?_
        refine lv_if_ne (tgt := 92) hx hb dX5_minutes_76 (by decide) (fun c_76 => ?_) (fun c_76 => ?_)
        · refine lv_iconst (v := 1) hx hb dX5_minutes_92 (by decide) ?_
          refine lv_goto (tgt := 97) hx hb dX5_minutes_93 (by decide) ?_
          exact hJ _ _ _ (bI_t (Or.inl c_76)).symm hP hS
        · refine lv_aload_n hx hb dX5_minutes_79 rfl (lv_at hl 1 rfl) ?_
          refine w_get hx hb hts (by decide +kernel) hown hC hP cW_5 rfl 13 (by decide) (hts (.fieldLink RX5 35 "BuildingPointsModel" "over" "[I") (by decide +kernel)) rfl dX5_minutes_80 ?_
          refine lv_iload_n hx hb dX5_minutes_83 rfl (lv_at hl 0 rfl) ?_
          refine w_ildN hx hb hC hP cW_12_8 (by omega) (by decide) (v := τ1 10 i 0) rfl dX5_minutes_84 ?_
          refine lv_aload_n hx hb dX5_minutes_85 rfl (lv_at hl 1 rfl) ?_
          refine w_get hx hb hts (by decide +kernel) hown hC hP cW_5 rfl 0 (by decide) (hts (.fieldLink RX5 101 "BuildingPointsModel" "clock" "I") (by decide +kernel)) rfl dX5_minutes_86 ?_
          refine lv_icmp_ne (tgt := 96) hx hb dX5_minutes_89 (by decide) (fun c_89 => ?_) (fun c_89 => ?_)
          · refine lv_iconst (v := 0) hx hb dX5_minutes_96 (by decide) ?_
            exact hJ _ _ _ (bI_f (fun z => z.elim (fun y => y c_76) c_89)).symm hP hS
          · refine lv_iconst (v := 1) hx hb dX5_minutes_92 (by decide) ?_
            refine lv_goto (tgt := 97) hx hb dX5_minutes_93 (by decide) ?_
            exact hJ _ _ _ (bI_t (Or.inr c_89)).symm hP hS
  · have hin : i < h.1 := Nat.not_le.mp (fun z => c_17 (nI_le z (by omega)))
    refine lv_aload_n hx hb dX5_minutes_20 rfl (lv_at hl 1 rfl) ?_
    refine w_get hx hb hts (by decide +kernel) hown hC hP cW_5 rfl 8 (by decide) (hts (.fieldLink RX5 20 "BuildingPointsModel" "until" "[I") (by decide +kernel)) rfl dX5_minutes_21 ?_
    refine lv_iload_n hx hb dX5_minutes_24 rfl (lv_at hl 0 rfl) ?_
    refine w_ildN hx hb hC hP cW_12_3 (by omega) (by decide) (v := τ1 4 i 0) rfl dX5_minutes_25 ?_
    refine lv_aload_n hx hb dX5_minutes_26 rfl (lv_at hl 1 rfl) ?_
    refine w_get hx hb hts (by decide +kernel) hown hC hP cW_5 rfl 0 (by decide) (hts (.fieldLink RX5 101 "BuildingPointsModel" "clock" "I") (by decide +kernel)) rfl dX5_minutes_27 ?_
    refine lv_icmp_ne (tgt := 49) hx hb dX5_minutes_30 (by decide) (fun c_30 => ?_) (fun c_30 => ?_)
    · refine lv_iinc (v := nI (i + 1)) (lv' := [(1, .int (nI (i + 1))), (0, .ref (ad 5 0))]) hx hb dX5_minutes_49 hl (k := 0) rfl (nI_add i 1) (by decide) rfl (fun ls hl => ?_)
      refine lv_goto (tgt := 12) hx hb dX5_minutes_52 (by decide) ?_
      obtain ⟨n8, rfl⟩ : ∃ n8, n9 = n8 + 1 := ⟨n9 - 1, by omega⟩
      have hE : relS h.2.1 i τ1 = τ1 := by unfold relS; rw [if_neg c_30]
      exact ih n8 _ _ _ (by omega) ⟨i + 1, τ1, by omega, by rw [hst]; show relF h.2.1 n8 (i + 1) (relS h.2.1 i τ1) = _; rw [hE], hP, hS, lv_sub hl [0, 1] rfl⟩
    · refine lv_aload_n hx hb dX5_minutes_33 rfl (lv_at hl 1 rfl) ?_
      refine w_get hx hb hts (by decide +kernel) hown hC hP cW_5 rfl 8 (by decide) (hts (.fieldLink RX5 20 "BuildingPointsModel" "until" "[I") (by decide +kernel)) rfl dX5_minutes_34 ?_
      refine lv_iload_n hx hb dX5_minutes_37 rfl (lv_at hl 0 rfl) ?_
      refine lv_iconst (v := 0) hx hb dX5_minutes_38 (by decide) ?_
      refine w_istN hx hb hC hP hS cW_12_3 (by omega) (by decide) dX5_minutes_39 (fun H locs hP hS => ?_)
      have hP := hw_eq hP (pA3 i _)
      refine lv_aload_n hx hb dX5_minutes_40 rfl (lv_at hl 1 rfl) ?_
      refine lv_iload_n hx hb dX5_minutes_41 rfl (lv_at hl 0 rfl) ?_
      refine lv_bipush (v := (6)) hx hb dX5_minutes_42 (by decide) ?_
      refine lv_ldc (v := (-100000)) hx hb hown (hts (.constant RX5 79 (-100000)) (by decide +kernel)) dX5_minutes_44 ?_
      refine w_top (v := nth) rfl ?_
      refine w_callv (va_runV (As := [.int (nI i), .int 6, .int nth]) (rest := []) ⟨hx, hb, hml, hown, hts⟩ (c_X5_sets l D B ad S h (st3 τ1 4 i 0 0) th o i 6 (by omega) (by decide) (by decide) nth hg2) (cwV 3 hts gX5_minutes_X5_sets rfl rfl rfl (by decide +kernel) ⟨Nat.le_of_ble_eq_true rfl, Nat.le_of_ble_eq_true rfl⟩) (w_preV hC hP hS cW_5 rfl) rfl rfl hl.1 rfl (lv_room (Nat.le_of_ble_eq_true rfl)) dX5_minutes_46 ⟨Nat.le_of_ble_eq_true rfl, Nat.le_of_ble_eq_true rfl⟩) hS (fun ad1 w1 H locs hq hP hS => ?_)
      cases hq
      refine lv_iinc (v := nI (i + 1)) (lv' := [(1, .int (nI (i + 1))), (0, .ref (ad 5 0))]) hx hb dX5_minutes_49 hl (k := 0) rfl (nI_add i 1) (by decide) rfl (fun ls hl => ?_)
      refine lv_goto (tgt := 12) hx hb dX5_minutes_52 (by decide) ?_
      obtain ⟨n8, rfl⟩ : ∃ n8, n9 = n8 + 1 := ⟨n9 - 1, by omega⟩
      have hE : relS h.2.1 i τ1 = setF h.2.1 i 6 nth (st3 τ1 4 i 0 0) := by unfold relS; rw [if_pos c_30]
      exact ih n8 _ _ _ (by omega) ⟨i + 1, (setF h.2.1 i 6 nth (st3 τ1 4 i 0 0)), by omega, by rw [hst]; show relF h.2.1 n8 (i + 1) (relS h.2.1 i τ1) = _; rw [hE], hP, hS, lv_sub hl [0, 1] rfl⟩
set_option maxHeartbeats 4000000 in
set_option maxRecDepth 100000 in
theorem c_X5_pass (l : Launch) (D : va_G) (B : Nat) (ad : Ad) (S : GC × Me) (h : GC) (τ : Me) (th : Int32) (o : Int64) (hI : Ib h τ) (t : Nat) (hR : Rs h t τ) (x0 : Int32) : Met l yX5_pass wsX5_pass ({ frames := 5, cells := 0, slots := 0, locals := 113 }) (Pre D B ad (cW D ad S (h, τ, th) o) [.ref (ad 5 0), .int x0]) (Qi D B (fun r u => (cdPas τ x0 = 0 → u = (ad, cW D ad S (h, pasF h (nOf x0) (st3 τ 26 0 0 0), nI (cdPas τ x0)) o) ∧ r = pasF h (nOf x0) (st3 τ 26 0 0 0) 26 0 0) ∧ (¬ cdPas τ x0 = 0 → u = (ad, cW D ad S (h, τ, nI (cdPas τ x0)) o)))) 0 0 (ab B) := by
  refine Met.ofW (cc := cX5_pass) (maxL := 4) (ret := (some .int)) (by decide) rfl ?_
  intro p e s m args below meth c s₁ Bd hml hv
  obtain ⟨rfl, hC, hP⟩ := hv
  have hx := Bd.exec
  have hb := Bd.bytes
  have hr := Bd.returns
  have hts := atoms_spec (ws := wsX5_pass) Bd.pre
  have hown : s.vm.findClass RX5 = some m.cls := findClass_of_methodNamed Bd.named
  have hlocks := Bd.notSynchronized
  have hS : va_S (ab B) s.heap s.heap [] := va_S.rf
  have hl := lv_entry ([.ref (ad 5 0), .int x0]) (n := 4) (Nat.le_of_ble_eq_true rfl)
  rw [lg_entry_eq]
  generalize (lg_sl ([.ref (ad 5 0), .int x0]) ++ List.replicate (4 - (lg_sl ([.ref (ad 5 0), .int x0])).length) Slot.unset).toArray = ls at hl ⊢
  have hl : lv_has ls 4 [(0, .ref (ad 5 0)), (1, .int x0)] := hl
  refine lv_iload_n hx hb dX5_pass_0 rfl (lv_at hl 1 rfl) ?_
  refine lv_iconst (v := 1) hx hb dX5_pass_1 (by decide) ?_
  refine lv_sipush (v := (5000)) hx hb dX5_pass_2 (by decide) ?_
  refine w_calli (va_runS (As := [.int x0, .int 1, .int 5000]) (rest := []) ⟨hx, hb, hml, hown, hts⟩ (c_X5_in l D B ad (cW D ad S (h, τ, th) o) x0 1 5000) (va_cwS 3 hts gX5_pass_X5_in rfl rfl rfl (by decide +kernel) ⟨Nat.le_of_ble_eq_true rfl, Nat.le_of_ble_eq_true rfl⟩) (w_preS hC hP hS) rfl rfl hl.1 rfl (lv_room (Nat.le_of_ble_eq_true rfl)) dX5_pass_5 ⟨Nat.le_of_ble_eq_true rfl, Nat.le_of_ble_eq_true rfl⟩) hS (fun r_1 ad1 w1 H locs hq hP hS => ?_)
  obtain ⟨h91, h92⟩ := hq
  cases h91
  subst h92
  refine lv_istore_n (lv' := [(2, .int (bI (bt x0 1 5000))), (0, .ref (ad 5 0)), (1, .int x0)]) hx hb dX5_pass_8 rfl hl (by decide) rfl (fun ls hl => ?_)
  refine lv_aload_n hx hb dX5_pass_9 rfl (lv_at hl 1 rfl) ?_
  refine lv_iload_n hx hb dX5_pass_10 rfl (lv_at hl 0 rfl) ?_
  refine w_join (D := D) (B := B) (ad := ad) (w := cW D ad S (h, τ, th) o) (H0 := s.heap) (pcJ := 31) (ls := ls) (rest := [.int (bI (bt x0 1 5000)), .ref (ad 5 0)]) (bI (bt x0 1 5000 ∧ x0 ≤ 1000000 - τ 25 0 0)) (fun H locs hP hS => ?_) (fun hJ => ?_) hP hS
  · refine lv_iconst (v := 1) hx hb dX5_pass_31 (by decide) ?_
    refine w_top (v := bI True) (bI_t trivial).symm ?_
    refine w_calli (va_runV (As := [.int (bI (bt x0 1 5000)), .int (bI (bt x0 1 5000 ∧ x0 ≤ 1000000 - τ 25 0 0)), .int (bI True)]) (rest := []) ⟨hx, hb, hml, hown, hts⟩ (c_X5_goes l D B ad S h τ th o (bt x0 1 5000) (bt x0 1 5000 ∧ x0 ≤ 1000000 - τ 25 0 0) (True)) (cwV 3 hts gX5_pass_X5_goes rfl rfl rfl (by decide +kernel) ⟨Nat.le_of_ble_eq_true rfl, Nat.le_of_ble_eq_true rfl⟩) (w_preV hC hP hS cW_5 rfl) rfl rfl hl.1 rfl (lv_room (Nat.le_of_ble_eq_true rfl)) dX5_pass_32 ⟨Nat.le_of_ble_eq_true rfl, Nat.le_of_ble_eq_true rfl⟩) hS (fun r_2 ad1 w1 H locs hq hP hS => ?_)
    have hCD : cod3 (bt x0 1 5000) (bt x0 1 5000 ∧ x0 ≤ 1000000 - τ 25 0 0) (True) = cdPas τ x0 := (by unfold cdPas; exact cod3_eq Iff.rfl (fun z => ⟨fun y => y.2, fun y => ⟨z, y⟩⟩) (fun _ _ => Iff.rfl))
    obtain ⟨h91, h92⟩ := hq
    cases h91
    rw [hCD] at hP h92
    subst h92
    refine lv_if_ne (tgt := 40) hx hb dX5_pass_35 (by decide) (fun c_35 => ?_) (fun c_35 => ?_)
    · have hcd := bI_n0 c_35
      have hz := cod3_z (hCD.trans hcd)
      obtain ⟨pm, rfl, pml, pmh⟩ := bt_nat (lo := 1) (hi := 5000) (by decide) (by decide) (by decide) hz.1
      have hcl : nOf (nI pm) = pm := nI_clamp (by omega)
      have htm : t + pm ≤ 1000000 := by have h2 := hz.2.1.2; rw [hR.2.1] at h2; exact le_sub h2 hR.2.2.1 (by omega)
      refine lv_aload_n hx hb dX5_pass_40 rfl (lv_at hl 1 rfl) ?_
      refine lv_iconst (v := 0) hx hb dX5_pass_41 (by decide) ?_
      refine w_put hx hb hts (by decide +kernel) tyX5 tyX5_ok nmX5 hown hC hP hS cW_5 rfl 4 (by decide) (hts (.fieldLink RX5 95 "BuildingPointsModel" "told" "I") (by decide +kernel)) rfl rfl rfl (Nat.le_of_ble_eq_true rfl) rfl dX5_pass_42 (fun H locs hP hS => ?_)
      have hP := hw_eq hP (pM4 _)
      refine lv_iconst (v := 0) hx hb dX5_pass_45 (by decide) ?_
      refine lv_istore_n (lv' := [(3, .int 0), (2, .int (bI (bt (nI pm) 1 5000))), (0, .ref (ad 5 0)), (1, .int (nI pm))]) hx hb dX5_pass_46 rfl hl (by decide) rfl (fun ls hl => ?_)
      refine w_ind (fun n9 H locs ls => ∃ (i : Nat) (τ1 : Me), i + n9 = pm ∧ pasF h pm (st3 τ 26 0 0 0) = pasF h n9 τ1 ∧ Rs h (t + i) τ1 ∧ hw D B ad (cW D ad S (h, τ1, (nI (cdPas τ (nI pm)))) o) H ∧ va_S (ab B) s.heap H locs ∧ lv_has ls 4 [(3, .int (nI i)), (0, .ref (ad 5 0)), (1, .int (nI pm))]) ?_ pm _ _ _ ⟨0, (st3 τ 26 0 0 0), by omega, rfl, Rs_26 hR, hP, hS, lv_sub hl [0, 2, 3] rfl⟩
      intro n9 H locs ls hJ ih
      obtain ⟨i, τ1, hi, hst, hR1, hP, hS, hl⟩ := hJ
      refine lv_iload_n hx hb dX5_pass_47 rfl (lv_at hl 0 rfl) ?_
      refine lv_iload_n hx hb dX5_pass_48 rfl (lv_at hl 2 rfl) ?_
      refine lv_icmp_ge (tgt := 62) hx hb dX5_pass_49 (by decide) (fun c_49 => ?_) (fun c_49 => ?_)
      · have hin : pm ≤ i := Nat.not_lt.mp (fun z => absurd c_49 (nI_ge z (by omega)))
        refine lv_aload_n hx hb dX5_pass_62 rfl (lv_at hl 1 rfl) ?_
        refine w_get hx hb hts (by decide +kernel) hown hC hP cW_5 rfl 4 (by decide) (hts (.fieldLink RX5 95 "BuildingPointsModel" "told" "I") (by decide +kernel)) rfl dX5_pass_63 ?_
        exact W.iret (v := (τ1 26 0 0)) hx hb hr (fun t ht hW => Qi_of ⟨fun _ => ⟨by rw [hcl, hst, show n9 = 0 by omega]; rfl, by rw [hcl, hst, show n9 = 0 by omega]; rfl⟩, fun z => absurd hcd z⟩ hP hS ht) hS.2.2 dX5_pass_66
      · have hlt : i < pm := Nat.not_le.mp (fun z => c_49 (nI_le z (by omega)))
        refine lv_aload_n hx hb dX5_pass_52 rfl (lv_at hl 1 rfl) ?_
        refine w_callv (va_runV (As := []) (rest := []) ⟨hx, hb, hml, hown, hts⟩ (c_X5_minutes l D B ad S h τ1 (nI (cdPas τ (nI pm))) o (t + i) hR1 (by omega)) (cwV 0 hts gX5_pass_X5_minutes rfl rfl rfl (by decide +kernel) ⟨Nat.le_of_ble_eq_true rfl, Nat.le_of_ble_eq_true rfl⟩) (w_preV hC hP hS cW_5 rfl) rfl rfl hl.1 rfl (lv_room (Nat.le_of_ble_eq_true rfl)) dX5_pass_53 ⟨Nat.le_of_ble_eq_true rfl, Nat.le_of_ble_eq_true rfl⟩) hS (fun ad1 w1 H locs hq hP hS => ?_)
        cases hq
        refine lv_iinc (v := nI (i + 1)) (lv' := [(3, .int (nI (i + 1))), (0, .ref (ad 5 0)), (1, .int (nI pm))]) hx hb dX5_pass_56 hl (k := 0) rfl (nI_add i 1) (by decide) rfl (fun ls hl => ?_)
        refine lv_goto (tgt := 47) hx hb dX5_pass_59 (by decide) ?_
        obtain ⟨n8, rfl⟩ : ∃ n8, n9 = n8 + 1 := ⟨n9 - 1, by omega⟩
        exact ih n8 _ _ _ (by omega) ⟨i + 1, minF h τ1, by omega, by rw [hst]; rfl, Rs_min (t := t + i) hR1 (by omega), hP, hS, lv_sub hl [0, 1, 2] rfl⟩
    · have hcd := bI_0.mp c_35
      refine lv_iconst (v := 0) hx hb dX5_pass_38 (by decide) ?_
      exact W.iret (v := 0) hx hb hr (fun t ht hW => Qi_of ⟨fun z => absurd z hcd, fun _ => rfl⟩ hP hS ht) hS.2.2 dX5_pass_39
  · refine lv_iload_n hx hb dX5_pass_11 rfl (lv_at hl 0 rfl) ?_
    refine lv_if_eq (tgt := 30) hx hb dX5_pass_12 (by decide) (fun c_12 => ?_) (fun c_12 => ?_)
    · refine lv_iconst (v := 0) hx hb dX5_pass_30 (by decide) ?_
      exact hJ _ _ _ (bI_f (fun z => bI_0.mp c_12 z.1)).symm hP hS
    · have hb1 := bI_n0 c_12
      refine lv_aload_n hx hb dX5_pass_15 rfl (lv_at hl 1 rfl) ?_
      refine w_get hx hb hts (by decide +kernel) hown hC hP cW_5 rfl 0 (by decide) (hts (.fieldLink RX5 101 "BuildingPointsModel" "clock" "I") (by decide +kernel)) rfl dX5_pass_16 ?_
      refine lv_iload_n hx hb dX5_pass_19 rfl (lv_at hl 2 rfl) ?_
      refine lv_iadd hx hb dX5_pass_20 ?_
      refine lv_ldc (v := (1000000)) hx hb hown (hts (.constant RX5 142 (1000000)) (by decide +kernel)) dX5_pass_21 ?_
      refine lv_icmp_gt (tgt := 30) hx hb dX5_pass_23 (by decide) (fun c_23 => ?_) (fun c_23 => ?_)
      · refine lv_iconst (v := 0) hx hb dX5_pass_30 (by decide) ?_
        exact hJ _ _ _ (bI_f (fun z => absurd ((le_add hb1 hR.2.1 hR.2.2.1).mpr z.2) (Int32.not_le.mpr c_23))).symm hP hS
      · refine lv_iconst (v := 1) hx hb dX5_pass_26 (by decide) ?_
        refine lv_goto (tgt := 31) hx hb dX5_pass_27 (by decide) ?_
        exact hJ _ _ _ (bI_t ⟨hb1, (le_add hb1 hR.2.1 hR.2.2.1).mp (Int32.not_lt.mp c_23)⟩).symm hP hS
set_option maxHeartbeats 4000000 in
set_option maxRecDepth 100000 in
theorem c_X5_clock (l : Launch) (D : va_G) (B : Nat) (ad : Ad) (S : GC × Me) (h : GC) (τ : Me) (th : Int32) (o : Int64)  : Met l yX5_clock wsX5_clock ({ frames := 0, cells := 0, slots := 0, locals := 0 }) (Pre D B ad (cW D ad S (h, τ, th) o) [.ref (ad 5 0)]) (Qi D B (fun r u => u = (ad, cW D ad S (h, τ, 0) o) ∧ r = τ 25 0 0)) 0 0 (ab B) := by
  refine Met.ofW (cc := cX5_clock) (maxL := 1) (ret := (some .int)) (by decide) rfl ?_
  intro p e s m args below meth c s₁ Bd hml hv
  obtain ⟨rfl, hC, hP⟩ := hv
  have hx := Bd.exec
  have hb := Bd.bytes
  have hr := Bd.returns
  have hts := atoms_spec (ws := wsX5_clock) Bd.pre
  have hown : s.vm.findClass RX5 = some m.cls := findClass_of_methodNamed Bd.named
  have hlocks := Bd.notSynchronized
  have hS : va_S (ab B) s.heap s.heap [] := va_S.rf
  have hl := lv_entry ([.ref (ad 5 0)]) (n := 1) (Nat.le_of_ble_eq_true rfl)
  rw [lg_entry_eq]
  generalize (lg_sl ([.ref (ad 5 0)]) ++ List.replicate (1 - (lg_sl ([.ref (ad 5 0)])).length) Slot.unset).toArray = ls at hl ⊢
  have hl : lv_has ls 1 [(0, .ref (ad 5 0))] := hl
  refine lv_aload_n hx hb dX5_clock_0 rfl (lv_at hl 0 rfl) ?_
  refine lv_iconst (v := 0) hx hb dX5_clock_1 (by decide) ?_
  refine w_put hx hb hts (by decide +kernel) tyX5 tyX5_ok nmX5 hown hC hP hS cW_5 rfl 24 (by decide) (hts (.fieldLink RX5 68 "BuildingPointsModel" "thrown" "I") (by decide +kernel)) rfl rfl rfl (Nat.le_of_ble_eq_true rfl) rfl dX5_clock_2 (fun H locs hP hS => ?_)
  have hP := hw_eq hP (pM24 _)
  refine lv_aload_n hx hb dX5_clock_5 rfl (lv_at hl 0 rfl) ?_
  refine w_get hx hb hts (by decide +kernel) hown hC hP cW_5 rfl 0 (by decide) (hts (.fieldLink RX5 101 "BuildingPointsModel" "clock" "I") (by decide +kernel)) rfl dX5_clock_6 ?_
  exact W.iret (v := (τ 25 0 0)) hx hb hr (fun t ht hW => Qi_of ⟨rfl, rfl⟩ hP hS ht) hS.2.2 dX5_clock_9
