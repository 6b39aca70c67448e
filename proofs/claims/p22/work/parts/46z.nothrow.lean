/-! p22: calls that do not throw make nothing (the room of a long run of minutes) -/
set_option maxHeartbeats 4000000 in
set_option maxRecDepth 100000 in
theorem c0_X4_requireWithin (l : Launch) (hns : l.stackTraces = false) (D : va_G) (B : Nat) (ad : Ad) (w : Wd) (x lo hi : Int32) (hbt : bt x lo hi) : vx_Met l yX4_requireWithin wsX4_requireWithin ({ frames := 0, cells := 0, slots := 0, locals := 0 }) (Pre D B ad (w) [.int x, .int lo, .int hi]) (Qv D B (fun u => u = (ad, w))) (Xc D B (fun E u => False)) 0 0 (ab B) := by
  refine vx_ofW (cc := cX4_requireWithin) (maxL := 3) (ret := none) (by decide) rfl ?_
  intro p e s m args below meth c s₁ Bd hml hnt hv
  obtain ⟨rfl, hC, hP⟩ := hv
  have hx := Bd.exec
  have hb := Bd.bytes
  have hr := Bd.returns
  have hts := atoms_spec (ws := wsX4_requireWithin) Bd.pre
  have hown : s.vm.findClass RX4 = some m.cls := findClass_of_methodNamed Bd.named
  have hlocks := Bd.notSynchronized
  have hS : va_S (ab B) s.heap s.heap [] := va_S.rf
  have hl := lv_entry ([.int x, .int lo, .int hi]) (n := 3) (Nat.le_of_ble_eq_true rfl)
  rw [lg_entry_eq]
  generalize (lg_sl ([.int x, .int lo, .int hi]) ++ List.replicate (3 - (lg_sl ([.int x, .int lo, .int hi])).length) Slot.unset).toArray = ls at hl ⊢
  have hl : lv_has ls 3 [(0, .int x), (1, .int lo), (2, .int hi)] := hl
  refine lv_iload_n hx hb dX4_requireWithin_0 rfl (lv_at hl 0 rfl) ?_
  refine lv_iload_n hx hb dX4_requireWithin_1 rfl (lv_at hl 1 rfl) ?_
  refine lv_icmp_lt (tgt := 10) hx hb dX4_requireWithin_2 (by decide) (fun c_2 => ?_) (fun c_2 => ?_)
  · exact absurd c_2 (Int32.not_lt.mpr hbt.1)
  · refine lv_iload_n hx hb dX4_requireWithin_5 rfl (lv_at hl 0 rfl) ?_
    refine lv_iload_n hx hb dX4_requireWithin_6 rfl (lv_at hl 2 rfl) ?_
    refine lv_icmp_le (tgt := 20) hx hb dX4_requireWithin_7 (by decide) (fun c_7 => ?_) (fun c_7 => ?_)
    · refine vx_ret ?_
      exact W.vret hx hb hr (fun t ht hW => Qv_of (post := fun u => u = (ad, w)) rfl hP hS ht) hS.2.2 dX4_requireWithin_20
    · exact absurd hbt.2 c_7
set_option maxHeartbeats 4000000 in
set_option maxRecDepth 100000 in
theorem c0_X4_pointAt (l : Launch) (hns : l.stackTraces = false) (D : va_G) (B : Nat) (ad : Ad) (g : GC) (σ : Me) (T : Wd) (o : Int64) (hg : g.1 ≤ 16) (i : Nat) (hi : i < g.1) : vx_Met l yX4_pointAt wsX4_pointAt ({ frames := 0, cells := 0, slots := 0, locals := 0 }) (Pre D B ad (cW D ad (g, σ) T o) [.ref (ad 4 0), .int (nI i)]) (Qr D B (fun a u => u = (ad, cW D ad (g, σ) T o) ∧ a = ad 1 i)) (Xc D B (fun E u => False)) 0 0 (ab B) := by
  refine vx_ofW (cc := cX4_pointAt) (maxL := 2) (ret := (some (.object "BuildingPoints$Point"))) (by decide) rfl ?_
  intro p e s m args below meth c s₁ Bd hml hnt hv
  obtain ⟨rfl, hC, hP⟩ := hv
  have hx := Bd.exec
  have hb := Bd.bytes
  have hr := Bd.returns
  have hts := atoms_spec (ws := wsX4_pointAt) Bd.pre
  have hown : s.vm.findClass RX4 = some m.cls := findClass_of_methodNamed Bd.named
  have hlocks := Bd.notSynchronized
  have hS : va_S (ab B) s.heap s.heap [] := va_S.rf
  have hl := lv_entry ([.ref (ad 4 0), .int (nI i)]) (n := 2) (Nat.le_of_ble_eq_true rfl)
  rw [lg_entry_eq]
  generalize (lg_sl ([.ref (ad 4 0), .int (nI i)]) ++ List.replicate (2 - (lg_sl ([.ref (ad 4 0), .int (nI i)])).length) Slot.unset).toArray = ls at hl ⊢
  have hl : lv_has ls 2 [(0, .ref (ad 4 0)), (1, .int (nI i))] := hl
  refine lv_iload_n hx hb dX4_pointAt_0 rfl (lv_at hl 1 rfl) ?_
  refine lv_if_lt (tgt := 22) hx hb dX4_pointAt_1 (by decide) (fun c_1 => ?_) (fun c_1 => ?_)
  · exact absurd c_1 (nI_pos (by omega))
  · refine lv_iload_n hx hb dX4_pointAt_4 rfl (lv_at hl 1 rfl) ?_
    refine lv_aload_n hx hb dX4_pointAt_5 rfl (lv_at hl 0 rfl) ?_
    refine w_get hx hb hts (by decide +kernel) hown hC hP cW_4 rfl 0 (by decide) (hts (.fieldLink RX4 11 "BuildingPoints" "points" "[LBuildingPoints$Point;") (by decide +kernel)) rfl dX4_pointAt_6 ?_
    refine w_alen hx hb hC hP 3 rfl cW_70 (v := 16) rfl dX4_pointAt_9 ?_
    refine lv_icmp_ge (tgt := 22) hx hb dX4_pointAt_10 (by decide) (fun c_10 => ?_) (fun c_10 => ?_)
    · exact absurd c_10 (nI_ge (show i < 16 by omega) (by decide))
    · refine lv_aload_n hx hb dX4_pointAt_13 rfl (lv_at hl 0 rfl) ?_
      refine w_get hx hb hts (by decide +kernel) hown hC hP cW_4 rfl 0 (by decide) (hts (.fieldLink RX4 11 "BuildingPoints" "points" "[LBuildingPoints$Point;") (by decide +kernel)) rfl dX4_pointAt_14 ?_
      refine lv_iload_n hx hb dX4_pointAt_17 rfl (lv_at hl 1 rfl) ?_
      refine w_aldN hx hb hC hP 3 rfl cW_70 (by omega) (by decide) dX4_pointAt_18 (r := .ref (ad 1 i)) (by simp only [fP, if_pos hi]; rfl) ?_
      refine lv_ifnonnull (tgt := 32) hx hb dX4_pointAt_19 (by decide) ?_
      refine lv_aload_n hx hb dX4_pointAt_32 rfl (lv_at hl 0 rfl) ?_
      refine w_get hx hb hts (by decide +kernel) hown hC hP cW_4 rfl 0 (by decide) (hts (.fieldLink RX4 11 "BuildingPoints" "points" "[LBuildingPoints$Point;") (by decide +kernel)) rfl dX4_pointAt_33 ?_
      refine lv_iload_n hx hb dX4_pointAt_36 rfl (lv_at hl 1 rfl) ?_
      refine w_aldN hx hb hC hP 3 rfl cW_70 (by omega) (by decide) dX4_pointAt_37 (r := .ref (ad 1 i)) (by simp only [fP, if_pos hi]; rfl) ?_
      refine vx_ret ?_
      exact W.aret hx hb hr (Or.inl ⟨_, rfl⟩) (Or.inr ⟨_, rfl⟩) (fun t ht hW => Qr_of ⟨rfl, rfl⟩ hP hS ht) hS.2.2 dX4_pointAt_38
set_option maxHeartbeats 4000000 in
set_option maxRecDepth 100000 in
theorem c0_X4_subscriptionAt (l : Launch) (hns : l.stackTraces = false) (D : va_G) (B : Nat) (ad : Ad) (g : GC) (σ : Me) (T : Wd) (o : Int64) (hg : g.2.1 ≤ 30) (i : Nat) (hi : i < g.2.1) : vx_Met l yX4_subscriptionAt wsX4_subscriptionAt ({ frames := 0, cells := 0, slots := 0, locals := 0 }) (Pre D B ad (cW D ad (g, σ) T o) [.ref (ad 4 0), .int (nI i)]) (Qr D B (fun a u => u = (ad, cW D ad (g, σ) T o) ∧ a = ad 3 i)) (Xc D B (fun E u => False)) 0 0 (ab B) := by
  refine vx_ofW (cc := cX4_subscriptionAt) (maxL := 2) (ret := (some (.object "BuildingPoints$Subscription"))) (by decide) rfl ?_
  intro p e s m args below meth c s₁ Bd hml hnt hv
  obtain ⟨rfl, hC, hP⟩ := hv
  have hx := Bd.exec
  have hb := Bd.bytes
  have hr := Bd.returns
  have hts := atoms_spec (ws := wsX4_subscriptionAt) Bd.pre
  have hown : s.vm.findClass RX4 = some m.cls := findClass_of_methodNamed Bd.named
  have hlocks := Bd.notSynchronized
  have hS : va_S (ab B) s.heap s.heap [] := va_S.rf
  have hl := lv_entry ([.ref (ad 4 0), .int (nI i)]) (n := 2) (Nat.le_of_ble_eq_true rfl)
  rw [lg_entry_eq]
  generalize (lg_sl ([.ref (ad 4 0), .int (nI i)]) ++ List.replicate (2 - (lg_sl ([.ref (ad 4 0), .int (nI i)])).length) Slot.unset).toArray = ls at hl ⊢
  have hl : lv_has ls 2 [(0, .ref (ad 4 0)), (1, .int (nI i))] := hl
  refine lv_iload_n hx hb dX4_subscriptionAt_0 rfl (lv_at hl 1 rfl) ?_
  refine lv_if_lt (tgt := 22) hx hb dX4_subscriptionAt_1 (by decide) (fun c_1 => ?_) (fun c_1 => ?_)
  · exact absurd c_1 (nI_pos (by omega))
  · refine lv_iload_n hx hb dX4_subscriptionAt_4 rfl (lv_at hl 1 rfl) ?_
    refine lv_aload_n hx hb dX4_subscriptionAt_5 rfl (lv_at hl 0 rfl) ?_
    refine w_get hx hb hts (by decide +kernel) hown hC hP cW_4 rfl 1 (by decide) (hts (.fieldLink RX4 17 "BuildingPoints" "subscriptions" "[LBuildingPoints$Subscription;") (by decide +kernel)) rfl dX4_subscriptionAt_6 ?_
    refine w_alen hx hb hC hP 4 rfl cW_71 (v := 30) rfl dX4_subscriptionAt_9 ?_
    refine lv_icmp_ge (tgt := 22) hx hb dX4_subscriptionAt_10 (by decide) (fun c_10 => ?_) (fun c_10 => ?_)
    · exact absurd c_10 (nI_ge (show i < 30 by omega) (by decide))
    · refine lv_aload_n hx hb dX4_subscriptionAt_13 rfl (lv_at hl 0 rfl) ?_
      refine w_get hx hb hts (by decide +kernel) hown hC hP cW_4 rfl 1 (by decide) (hts (.fieldLink RX4 17 "BuildingPoints" "subscriptions" "[LBuildingPoints$Subscription;") (by decide +kernel)) rfl dX4_subscriptionAt_14 ?_
      refine lv_iload_n hx hb dX4_subscriptionAt_17 rfl (lv_at hl 1 rfl) ?_
      refine w_aldN hx hb hC hP 4 rfl cW_71 (by omega) (by decide) dX4_subscriptionAt_18 (r := .ref (ad 3 i)) (by simp only [fP, if_pos hi]; rfl) ?_
      refine lv_ifnonnull (tgt := 32) hx hb dX4_subscriptionAt_19 (by decide) ?_
      refine lv_aload_n hx hb dX4_subscriptionAt_32 rfl (lv_at hl 0 rfl) ?_
      refine w_get hx hb hts (by decide +kernel) hown hC hP cW_4 rfl 1 (by decide) (hts (.fieldLink RX4 17 "BuildingPoints" "subscriptions" "[LBuildingPoints$Subscription;") (by decide +kernel)) rfl dX4_subscriptionAt_33 ?_
      refine lv_iload_n hx hb dX4_subscriptionAt_36 rfl (lv_at hl 1 rfl) ?_
      refine w_aldN hx hb hC hP 4 rfl cW_71 (by omega) (by decide) dX4_subscriptionAt_37 (r := .ref (ad 3 i)) (by simp only [fP, if_pos hi]; rfl) ?_
      refine vx_ret ?_
      exact W.aret hx hb hr (Or.inl ⟨_, rfl⟩) (Or.inr ⟨_, rfl⟩) (fun t ht hW => Qr_of ⟨rfl, rfl⟩ hP hS ht) hS.2.2 dX4_subscriptionAt_38
set_option maxHeartbeats 4000000 in
set_option maxRecDepth 100000 in
theorem c0_X4_scheduleAt (l : Launch) (hns : l.stackTraces = false) (D : va_G) (B : Nat) (ad : Ad) (g : GC) (σ : Me) (T : Wd) (o : Int64) (hg : g.2.2 ≤ 4) (i : Nat) (hi : i < g.2.2) : vx_Met l yX4_scheduleAt wsX4_scheduleAt ({ frames := 0, cells := 0, slots := 0, locals := 0 }) (Pre D B ad (cW D ad (g, σ) T o) [.ref (ad 4 0), .int (nI i)]) (Qr D B (fun a u => u = (ad, cW D ad (g, σ) T o) ∧ a = ad 2 i)) (Xc D B (fun E u => False)) 0 0 (ab B) := by
  refine vx_ofW (cc := cX4_scheduleAt) (maxL := 2) (ret := (some (.object "BuildingPoints$Schedule"))) (by decide) rfl ?_
  intro p e s m args below meth c s₁ Bd hml hnt hv
  obtain ⟨rfl, hC, hP⟩ := hv
  have hx := Bd.exec
  have hb := Bd.bytes
  have hr := Bd.returns
  have hts := atoms_spec (ws := wsX4_scheduleAt) Bd.pre
  have hown : s.vm.findClass RX4 = some m.cls := findClass_of_methodNamed Bd.named
  have hlocks := Bd.notSynchronized
  have hS : va_S (ab B) s.heap s.heap [] := va_S.rf
  have hl := lv_entry ([.ref (ad 4 0), .int (nI i)]) (n := 2) (Nat.le_of_ble_eq_true rfl)
  rw [lg_entry_eq]
  generalize (lg_sl ([.ref (ad 4 0), .int (nI i)]) ++ List.replicate (2 - (lg_sl ([.ref (ad 4 0), .int (nI i)])).length) Slot.unset).toArray = ls at hl ⊢
  have hl : lv_has ls 2 [(0, .ref (ad 4 0)), (1, .int (nI i))] := hl
  refine lv_iload_n hx hb dX4_scheduleAt_0 rfl (lv_at hl 1 rfl) ?_
  refine lv_if_lt (tgt := 22) hx hb dX4_scheduleAt_1 (by decide) (fun c_1 => ?_) (fun c_1 => ?_)
  · exact absurd c_1 (nI_pos (by omega))
  · refine lv_iload_n hx hb dX4_scheduleAt_4 rfl (lv_at hl 1 rfl) ?_
    refine lv_aload_n hx hb dX4_scheduleAt_5 rfl (lv_at hl 0 rfl) ?_
    refine w_get hx hb hts (by decide +kernel) hown hC hP cW_4 rfl 2 (by decide) (hts (.fieldLink RX4 23 "BuildingPoints" "schedules" "[LBuildingPoints$Schedule;") (by decide +kernel)) rfl dX4_scheduleAt_6 ?_
    refine w_alen hx hb hC hP 5 rfl cW_72 (v := 4) rfl dX4_scheduleAt_9 ?_
    refine lv_icmp_ge (tgt := 22) hx hb dX4_scheduleAt_10 (by decide) (fun c_10 => ?_) (fun c_10 => ?_)
    · exact absurd c_10 (nI_ge (show i < 4 by omega) (by decide))
    · refine lv_aload_n hx hb dX4_scheduleAt_13 rfl (lv_at hl 0 rfl) ?_
      refine w_get hx hb hts (by decide +kernel) hown hC hP cW_4 rfl 2 (by decide) (hts (.fieldLink RX4 23 "BuildingPoints" "schedules" "[LBuildingPoints$Schedule;") (by decide +kernel)) rfl dX4_scheduleAt_14 ?_
      refine lv_iload_n hx hb dX4_scheduleAt_17 rfl (lv_at hl 1 rfl) ?_
      refine w_aldN hx hb hC hP 5 rfl cW_72 (by omega) (by decide) dX4_scheduleAt_18 (r := .ref (ad 2 i)) (by simp only [fP, if_pos hi]; rfl) ?_
      refine lv_ifnonnull (tgt := 32) hx hb dX4_scheduleAt_19 (by decide) ?_
      refine lv_aload_n hx hb dX4_scheduleAt_32 rfl (lv_at hl 0 rfl) ?_
      refine w_get hx hb hts (by decide +kernel) hown hC hP cW_4 rfl 2 (by decide) (hts (.fieldLink RX4 23 "BuildingPoints" "schedules" "[LBuildingPoints$Schedule;") (by decide +kernel)) rfl dX4_scheduleAt_33 ?_
      refine lv_iload_n hx hb dX4_scheduleAt_36 rfl (lv_at hl 1 rfl) ?_
      refine w_aldN hx hb hC hP 5 rfl cW_72 (by omega) (by decide) dX4_scheduleAt_37 (r := .ref (ad 2 i)) (by simp only [fP, if_pos hi]; rfl) ?_
      refine vx_ret ?_
      exact W.aret hx hb hr (Or.inl ⟨_, rfl⟩) (Or.inr ⟨_, rfl⟩) (fun t ht hW => Qr_of ⟨rfl, rfl⟩ hP hS ht) hS.2.2 dX4_scheduleAt_38
set_option maxHeartbeats 4000000 in
set_option maxRecDepth 100000 in
theorem c0_X4_changes (l : Launch) (hns : l.stackTraces = false) (D : va_G) (B : Nat) (ad : Ad) (g : GC) (σ : Me) (T : Wd) (o : Int64) (hI : Ib g σ) (i : Nat) (hi : i < g.1) : vx_Met l yX4_changes wsX4_changes ({ frames := 1, cells := 0, slots := 0, locals := 21 }) (Pre D B ad (cW D ad (g, σ) T o) [.ref (ad 4 0), .int (nI i)]) (Qi D B (fun r u => u = (ad, cW D ad (g, σ) T o) ∧ r = σ 5 i 0)) (Xc D B (fun E u => False)) 0 0 (ab B) := by
  refine vx_ofW (cc := cX4_changes) (maxL := 2) (ret := (some .int)) (by decide) rfl ?_
  intro p e s m args below meth c s₁ Bd hml hnt hv
  obtain ⟨rfl, hC, hP⟩ := hv
  have hx := Bd.exec
  have hb := Bd.bytes
  have hr := Bd.returns
  have hts := atoms_spec (ws := wsX4_changes) Bd.pre
  have hown : s.vm.findClass RX4 = some m.cls := findClass_of_methodNamed Bd.named
  have hlocks := Bd.notSynchronized
  have hS : va_S (ab B) s.heap s.heap [] := va_S.rf
  have hl := lv_entry ([.ref (ad 4 0), .int (nI i)]) (n := 2) (Nat.le_of_ble_eq_true rfl)
  rw [lg_entry_eq]
  generalize (lg_sl ([.ref (ad 4 0), .int (nI i)]) ++ List.replicate (2 - (lg_sl ([.ref (ad 4 0), .int (nI i)])).length) Slot.unset).toArray = ls at hl ⊢
  have hl : lv_has ls 2 [(0, .ref (ad 4 0)), (1, .int (nI i))] := hl
  refine lv_aload_n hx hb dX4_changes_0 rfl (lv_at hl 0 rfl) ?_
  refine lv_iload_n hx hb dX4_changes_1 rfl (lv_at hl 1 rfl) ?_
  refine y_callr (vx_runV (As := [.int (nI i)]) (rest := []) ⟨hx, hb, hml, hown, hts⟩ (c0_X4_pointAt l hns D B ad g σ T o hI.1 i hi) (cwV 1 hts gX4_changes_X4_pointAt rfl rfl rfl (by decide +kernel) ⟨Nat.le_of_ble_eq_true rfl, Nat.le_of_ble_eq_true rfl⟩) (w_preV hC hP hS cW_4 rfl) rfl rfl hl.1 rfl (lv_room (Nat.le_of_ble_eq_true rfl)) dX4_changes_2 ⟨Nat.le_of_ble_eq_true rfl, Nat.le_of_ble_eq_true rfl⟩) hS (fun E9 ce9 q9 ad1 w1 H locs hq hP hS h91 h92 h93 => ?_) (fun r_1 ad1 w1 H locs hq hP hS => ?_)
  · exact hq.elim
  · obtain ⟨h84, h86⟩ := hq
    cases h84
    subst h86
    refine w_get hx hb hts (by decide +kernel) hown hC hP (cW_1 hi) rfl 7 (by decide) (hts (.fieldLink RX4 82 "BuildingPoints$Point" "changeCount" "I") (by decide +kernel)) rfl dX4_changes_5 ?_
    refine vx_ret ?_
    exact W.iret (v := (σ 5 i 0)) hx hb hr (fun t ht hW => Qi_of ⟨rfl, rfl⟩ hP hS ht) hS.2.2 dX4_changes_8
set_option maxHeartbeats 4000000 in
set_option maxRecDepth 100000 in
theorem c0_X4_value (l : Launch) (hns : l.stackTraces = false) (D : va_G) (B : Nat) (ad : Ad) (g : GC) (σ : Me) (T : Wd) (o : Int64) (hI : Ib g σ) (i : Nat) (hi : i < g.1) : vx_Met l yX4_value wsX4_value ({ frames := 1, cells := 0, slots := 0, locals := 21 }) (Pre D B ad (cW D ad (g, σ) T o) [.ref (ad 4 0), .int (nI i)]) (Qi D B (fun r u => u = (ad, cW D ad (g, σ) T o) ∧ r = vaO σ i)) (Xc D B (fun E u => False)) 0 0 (ab B) := by
  refine vx_ofW (cc := cX4_value) (maxL := 2) (ret := (some .int)) (by decide) rfl ?_
  intro p e s m args below meth c s₁ Bd hml hnt hv
  obtain ⟨rfl, hC, hP⟩ := hv
  have hx := Bd.exec
  have hb := Bd.bytes
  have hr := Bd.returns
  have hts := atoms_spec (ws := wsX4_value) Bd.pre
  have hown : s.vm.findClass RX4 = some m.cls := findClass_of_methodNamed Bd.named
  have hlocks := Bd.notSynchronized
  have hS : va_S (ab B) s.heap s.heap [] := va_S.rf
  have hl := lv_entry ([.ref (ad 4 0), .int (nI i)]) (n := 2) (Nat.le_of_ble_eq_true rfl)
  rw [lg_entry_eq]
  generalize (lg_sl ([.ref (ad 4 0), .int (nI i)]) ++ List.replicate (2 - (lg_sl ([.ref (ad 4 0), .int (nI i)])).length) Slot.unset).toArray = ls at hl ⊢
  have hl : lv_has ls 2 [(0, .ref (ad 4 0)), (1, .int (nI i))] := hl
  refine lv_aload_n hx hb dX4_value_0 rfl (lv_at hl 0 rfl) ?_
  refine lv_iload_n hx hb dX4_value_1 rfl (lv_at hl 1 rfl) ?_
  refine y_callr (vx_runV (As := [.int (nI i)]) (rest := []) ⟨hx, hb, hml, hown, hts⟩ (c0_X4_pointAt l hns D B ad g σ T o hI.1 i hi) (cwV 1 hts gX4_value_X4_pointAt rfl rfl rfl (by decide +kernel) ⟨Nat.le_of_ble_eq_true rfl, Nat.le_of_ble_eq_true rfl⟩) (w_preV hC hP hS cW_4 rfl) rfl rfl hl.1 rfl (lv_room (Nat.le_of_ble_eq_true rfl)) dX4_value_2 ⟨Nat.le_of_ble_eq_true rfl, Nat.le_of_ble_eq_true rfl⟩) hS (fun E9 ce9 q9 ad1 w1 H locs hq hP hS h91 h92 h93 => ?_) (fun r_1 ad1 w1 H locs hq hP hS => ?_)
  · exact hq.elim
  · obtain ⟨h84, h86⟩ := hq
    cases h84
    subst h86
    refine w_get hx hb hts (by decide +kernel) hown hC hP (cW_1 hi) rfl 5 (by decide) (hts (.fieldLink RX4 65 "BuildingPoints$Point" "present" "I") (by decide +kernel)) rfl dX4_value_5 ?_
    refine vx_ret ?_
    exact W.iret (v := (σ 7 i 0)) hx hb hr (fun t ht hW => Qi_of ⟨rfl, (hI.2.2.2.1 i hi).2.2.2.2⟩ hP hS ht) hS.2.2 dX4_value_8
set_option maxHeartbeats 4000000 in
set_option maxRecDepth 100000 in
theorem c0_X4_standing (l : Launch) (hns : l.stackTraces = false) (D : va_G) (B : Nat) (ad : Ad) (g : GC) (σ : Me) (T : Wd) (o : Int64) (hI : Ib g σ) (i : Nat) (hi : i < g.1) : vx_Met l yX4_standing wsX4_standing ({ frames := 1, cells := 0, slots := 0, locals := 21 }) (Pre D B ad (cW D ad (g, σ) T o) [.ref (ad 4 0), .int (nI i)]) (Qi D B (fun r u => u = (ad, cW D ad (g, σ) T o) ∧ r = nI (stO σ i))) (Xc D B (fun E u => False)) 0 0 (ab B) := by
  refine vx_ofW (cc := cX4_standing) (maxL := 2) (ret := (some .int)) (by decide) rfl ?_
  intro p e s m args below meth c s₁ Bd hml hnt hv
  obtain ⟨rfl, hC, hP⟩ := hv
  have hx := Bd.exec
  have hb := Bd.bytes
  have hr := Bd.returns
  have hts := atoms_spec (ws := wsX4_standing) Bd.pre
  have hown : s.vm.findClass RX4 = some m.cls := findClass_of_methodNamed Bd.named
  have hlocks := Bd.notSynchronized
  have hS : va_S (ab B) s.heap s.heap [] := va_S.rf
  have hl := lv_entry ([.ref (ad 4 0), .int (nI i)]) (n := 2) (Nat.le_of_ble_eq_true rfl)
  rw [lg_entry_eq]
  generalize (lg_sl ([.ref (ad 4 0), .int (nI i)]) ++ List.replicate (2 - (lg_sl ([.ref (ad 4 0), .int (nI i)])).length) Slot.unset).toArray = ls at hl ⊢
  have hl : lv_has ls 2 [(0, .ref (ad 4 0)), (1, .int (nI i))] := hl
  refine lv_aload_n hx hb dX4_standing_0 rfl (lv_at hl 0 rfl) ?_
  refine lv_iload_n hx hb dX4_standing_1 rfl (lv_at hl 1 rfl) ?_
  refine y_callr (vx_runV (As := [.int (nI i)]) (rest := []) ⟨hx, hb, hml, hown, hts⟩ (c0_X4_pointAt l hns D B ad g σ T o hI.1 i hi) (cwV 1 hts gX4_standing_X4_pointAt rfl rfl rfl (by decide +kernel) ⟨Nat.le_of_ble_eq_true rfl, Nat.le_of_ble_eq_true rfl⟩) (w_preV hC hP hS cW_4 rfl) rfl rfl hl.1 rfl (lv_room (Nat.le_of_ble_eq_true rfl)) dX4_standing_2 ⟨Nat.le_of_ble_eq_true rfl, Nat.le_of_ble_eq_true rfl⟩) hS (fun E9 ce9 q9 ad1 w1 H locs hq hP hS h91 h92 h93 => ?_) (fun r_1 ad1 w1 H locs hq hP hS => ?_)
  · exact hq.elim
  · obtain ⟨h84, h86⟩ := hq
    cases h84
    subst h86
    refine w_calli (va_runV (As := []) (rest := []) ⟨hx, hb, hml, hown, hts⟩ (c_X1_lowestCommanded l D B ad g σ T o i hi) (cwV 0 hts gX4_standing_X1_lowestCommanded rfl rfl rfl (by decide +kernel) ⟨Nat.le_of_ble_eq_true rfl, Nat.le_of_ble_eq_true rfl⟩) (w_preV hC hP hS (cW_1 hi) rfl) rfl rfl hl.1 rfl (lv_room (Nat.le_of_ble_eq_true rfl)) dX4_standing_5 ⟨Nat.le_of_ble_eq_true rfl, Nat.le_of_ble_eq_true rfl⟩) hS (fun r_2 ad1 w1 H locs hq hP hS => ?_)
    obtain ⟨h91, h92⟩ := hq
    cases h91
    subst h92
    refine vx_ret ?_
    exact W.iret (v := (nI (stO σ i))) hx hb hr (fun t ht hW => Qi_of ⟨rfl, rfl⟩ hP hS ht) hS.2.2 dX4_standing_8
set_option maxHeartbeats 4000000 in
set_option maxRecDepth 100000 in
theorem c0_X4_reported (l : Launch) (hns : l.stackTraces = false) (D : va_G) (B : Nat) (ad : Ad) (g : GC) (σ : Me) (T : Wd) (o : Int64) (hI : Ib g σ) (i : Nat) (hi : i < g.2.1) : vx_Met l yX4_reported wsX4_reported ({ frames := 1, cells := 0, slots := 0, locals := 21 }) (Pre D B ad (cW D ad (g, σ) T o) [.ref (ad 4 0), .int (nI i)]) (Qi D B (fun r u => u = (ad, cW D ad (g, σ) T o) ∧ r = σ 13 i 0)) (Xc D B (fun E u => False)) 0 0 (ab B) := by
  refine vx_ofW (cc := cX4_reported) (maxL := 2) (ret := (some .int)) (by decide) rfl ?_
  intro p e s m args below meth c s₁ Bd hml hnt hv
  obtain ⟨rfl, hC, hP⟩ := hv
  have hx := Bd.exec
  have hb := Bd.bytes
  have hr := Bd.returns
  have hts := atoms_spec (ws := wsX4_reported) Bd.pre
  have hown : s.vm.findClass RX4 = some m.cls := findClass_of_methodNamed Bd.named
  have hlocks := Bd.notSynchronized
  have hS : va_S (ab B) s.heap s.heap [] := va_S.rf
  have hl := lv_entry ([.ref (ad 4 0), .int (nI i)]) (n := 2) (Nat.le_of_ble_eq_true rfl)
  rw [lg_entry_eq]
  generalize (lg_sl ([.ref (ad 4 0), .int (nI i)]) ++ List.replicate (2 - (lg_sl ([.ref (ad 4 0), .int (nI i)])).length) Slot.unset).toArray = ls at hl ⊢
  have hl : lv_has ls 2 [(0, .ref (ad 4 0)), (1, .int (nI i))] := hl
  refine lv_aload_n hx hb dX4_reported_0 rfl (lv_at hl 0 rfl) ?_
  refine lv_iload_n hx hb dX4_reported_1 rfl (lv_at hl 1 rfl) ?_
  refine y_callr (vx_runV (As := [.int (nI i)]) (rest := []) ⟨hx, hb, hml, hown, hts⟩ (c0_X4_subscriptionAt l hns D B ad g σ T o hI.2.1 i hi) (cwV 1 hts gX4_reported_X4_subscriptionAt rfl rfl rfl (by decide +kernel) ⟨Nat.le_of_ble_eq_true rfl, Nat.le_of_ble_eq_true rfl⟩) (w_preV hC hP hS cW_4 rfl) rfl rfl hl.1 rfl (lv_room (Nat.le_of_ble_eq_true rfl)) dX4_reported_2 ⟨Nat.le_of_ble_eq_true rfl, Nat.le_of_ble_eq_true rfl⟩) hS (fun E9 ce9 q9 ad1 w1 H locs hq hP hS h91 h92 h93 => ?_) (fun r_1 ad1 w1 H locs hq hP hS => ?_)
  · exact hq.elim
  · obtain ⟨h84, h86⟩ := hq
    cases h84
    subst h86
    refine w_get hx hb hts (by decide +kernel) hown hC hP (cW_3 hi) rfl 3 (by decide) (hts (.fieldLink RX4 104 "BuildingPoints$Subscription" "kept" "I") (by decide +kernel)) rfl dX4_reported_5 ?_
    refine vx_ret ?_
    exact W.iret (v := (σ 13 i 0)) hx hb hr (fun t ht hW => Qi_of ⟨rfl, rfl⟩ hP hS ht) hS.2.2 dX4_reported_8
set_option maxHeartbeats 4000000 in
set_option maxRecDepth 100000 in
theorem c0_X4_goesOn (l : Launch) (hns : l.stackTraces = false) (D : va_G) (B : Nat) (ad : Ad) (g : GC) (σ : Me) (T : Wd) (o : Int64) (hI : Ib g σ) (i : Nat) (hi : i < g.2.1) : vx_Met l yX4_goesOn wsX4_goesOn ({ frames := 1, cells := 0, slots := 0, locals := 21 }) (Pre D B ad (cW D ad (g, σ) T o) [.ref (ad 4 0), .int (nI i)]) (Qi D B (fun r u => u = (ad, cW D ad (g, σ) T o) ∧ r = 1 - σ 11 i 0)) (Xc D B (fun E u => False)) 0 0 (ab B) := by
  refine vx_ofW (cc := cX4_goesOn) (maxL := 2) (ret := (some .boolean)) (by decide) rfl ?_
  intro p e s m args below meth c s₁ Bd hml hnt hv
  obtain ⟨rfl, hC, hP⟩ := hv
  have hx := Bd.exec
  have hb := Bd.bytes
  have hr := Bd.returns
  have hts := atoms_spec (ws := wsX4_goesOn) Bd.pre
  have hown : s.vm.findClass RX4 = some m.cls := findClass_of_methodNamed Bd.named
  have hlocks := Bd.notSynchronized
  have hS : va_S (ab B) s.heap s.heap [] := va_S.rf
  have hl := lv_entry ([.ref (ad 4 0), .int (nI i)]) (n := 2) (Nat.le_of_ble_eq_true rfl)
  rw [lg_entry_eq]
  generalize (lg_sl ([.ref (ad 4 0), .int (nI i)]) ++ List.replicate (2 - (lg_sl ([.ref (ad 4 0), .int (nI i)])).length) Slot.unset).toArray = ls at hl ⊢
  have hl : lv_has ls 2 [(0, .ref (ad 4 0)), (1, .int (nI i))] := hl
  refine lv_aload_n hx hb dX4_goesOn_0 rfl (lv_at hl 0 rfl) ?_
  refine lv_iload_n hx hb dX4_goesOn_1 rfl (lv_at hl 1 rfl) ?_
  refine y_callr (vx_runV (As := [.int (nI i)]) (rest := []) ⟨hx, hb, hml, hown, hts⟩ (c0_X4_subscriptionAt l hns D B ad g σ T o hI.2.1 i hi) (cwV 1 hts gX4_goesOn_X4_subscriptionAt rfl rfl rfl (by decide +kernel) ⟨Nat.le_of_ble_eq_true rfl, Nat.le_of_ble_eq_true rfl⟩) (w_preV hC hP hS cW_4 rfl) rfl rfl hl.1 rfl (lv_room (Nat.le_of_ble_eq_true rfl)) dX4_goesOn_2 ⟨Nat.le_of_ble_eq_true rfl, Nat.le_of_ble_eq_true rfl⟩) hS (fun E9 ce9 q9 ad1 w1 H locs hq hP hS h91 h92 h93 => ?_) (fun r_1 ad1 w1 H locs hq hP hS => ?_)
  · exact hq.elim
  · obtain ⟨h84, h86⟩ := hq
    cases h84
    subst h86
    refine w_get hx hb hts (by decide +kernel) hown hC hP (cW_3 hi) rfl 5 (by decide) (hts (.fieldLink RX4 95 "BuildingPoints$Subscription" "isOpen" "Z") (by decide +kernel)) rfl dX4_goesOn_5 ?_
    refine vx_ret ?_
    exact W.zret (v := (1 - σ 11 i 0)) hx hb hr (by rcases (hI.2.2.2.2.1 i hi).1 with z | z <;> rw [z] <;> rfl) (fun t ht hW => Qi_of ⟨rfl, rfl⟩ hP hS ht) hS.2.2 dX4_goesOn_8
set_option maxHeartbeats 4000000 in
set_option maxRecDepth 100000 in
theorem c0_X4_reports (l : Launch) (hns : l.stackTraces = false) (D : va_G) (B : Nat) (ad : Ad) (g : GC) (σ : Me) (T : Wd) (o : Int64) (hI : Ib g σ) (i : Nat) (hi : i < g.2.1) : vx_Met l yX4_reports wsX4_reports ({ frames := 1, cells := 0, slots := 0, locals := 21 }) (Pre D B ad (cW D ad (g, σ) T o) [.ref (ad 4 0), .int (nI i)]) (Qi D B (fun r u => u = (ad, cW D ad (g, σ) T o) ∧ r = σ 12 i 0)) (Xc D B (fun E u => False)) 0 0 (ab B) := by
  refine vx_ofW (cc := cX4_reports) (maxL := 2) (ret := (some .int)) (by decide) rfl ?_
  intro p e s m args below meth c s₁ Bd hml hnt hv
  obtain ⟨rfl, hC, hP⟩ := hv
  have hx := Bd.exec
  have hb := Bd.bytes
  have hr := Bd.returns
  have hts := atoms_spec (ws := wsX4_reports) Bd.pre
  have hown : s.vm.findClass RX4 = some m.cls := findClass_of_methodNamed Bd.named
  have hlocks := Bd.notSynchronized
  have hS : va_S (ab B) s.heap s.heap [] := va_S.rf
  have hl := lv_entry ([.ref (ad 4 0), .int (nI i)]) (n := 2) (Nat.le_of_ble_eq_true rfl)
  rw [lg_entry_eq]
  generalize (lg_sl ([.ref (ad 4 0), .int (nI i)]) ++ List.replicate (2 - (lg_sl ([.ref (ad 4 0), .int (nI i)])).length) Slot.unset).toArray = ls at hl ⊢
  have hl : lv_has ls 2 [(0, .ref (ad 4 0)), (1, .int (nI i))] := hl
  refine lv_aload_n hx hb dX4_reports_0 rfl (lv_at hl 0 rfl) ?_
  refine lv_iload_n hx hb dX4_reports_1 rfl (lv_at hl 1 rfl) ?_
  refine y_callr (vx_runV (As := [.int (nI i)]) (rest := []) ⟨hx, hb, hml, hown, hts⟩ (c0_X4_subscriptionAt l hns D B ad g σ T o hI.2.1 i hi) (cwV 1 hts gX4_reports_X4_subscriptionAt rfl rfl rfl (by decide +kernel) ⟨Nat.le_of_ble_eq_true rfl, Nat.le_of_ble_eq_true rfl⟩) (w_preV hC hP hS cW_4 rfl) rfl rfl hl.1 rfl (lv_room (Nat.le_of_ble_eq_true rfl)) dX4_reports_2 ⟨Nat.le_of_ble_eq_true rfl, Nat.le_of_ble_eq_true rfl⟩) hS (fun E9 ce9 q9 ad1 w1 H locs hq hP hS h91 h92 h93 => ?_) (fun r_1 ad1 w1 H locs hq hP hS => ?_)
  · exact hq.elim
  · obtain ⟨h84, h86⟩ := hq
    cases h84
    subst h86
    refine w_get hx hb hts (by decide +kernel) hown hC hP (cW_3 hi) rfl 4 (by decide) (hts (.fieldLink RX4 101 "BuildingPoints$Subscription" "reportCount" "I") (by decide +kernel)) rfl dX4_reports_5 ?_
    refine vx_ret ?_
    exact W.iret (v := (σ 12 i 0)) hx hb hr (fun t ht hW => Qi_of ⟨rfl, rfl⟩ hP hS ht) hS.2.2 dX4_reports_8
set_option maxHeartbeats 4000000 in
set_option maxRecDepth 100000 in
theorem c0_X4_held (l : Launch) (hns : l.stackTraces = false) (D : va_G) (B : Nat) (ad : Ad) (g : GC) (σ : Me) (T : Wd) (o : Int64) (hI : Ib g σ) (i : Nat) (hi : i < g.1) : vx_Met l yX4_held wsX4_held ({ frames := 1, cells := 0, slots := 0, locals := 21 }) (Pre D B ad (cW D ad (g, σ) T o) [.ref (ad 4 0), .int (nI i)]) (Qi D B (fun r u => u = (ad, cW D ad (g, σ) T o) ∧ r = (if σ 4 i 0 = 0 then 0 else σ 4 i 0 - σ 25 0 0))) (Xc D B (fun E u => False)) 0 0 (ab B) := by
  refine vx_ofW (cc := cX4_held) (maxL := 3) (ret := (some .int)) (by decide) rfl ?_
  intro p e s m args below meth c s₁ Bd hml hnt hv
  obtain ⟨rfl, hC, hP⟩ := hv
  have hx := Bd.exec
  have hb := Bd.bytes
  have hr := Bd.returns
  have hts := atoms_spec (ws := wsX4_held) Bd.pre
  have hown : s.vm.findClass RX4 = some m.cls := findClass_of_methodNamed Bd.named
  have hlocks := Bd.notSynchronized
  have hS : va_S (ab B) s.heap s.heap [] := va_S.rf
  have hl := lv_entry ([.ref (ad 4 0), .int (nI i)]) (n := 3) (Nat.le_of_ble_eq_true rfl)
  rw [lg_entry_eq]
  generalize (lg_sl ([.ref (ad 4 0), .int (nI i)]) ++ List.replicate (3 - (lg_sl ([.ref (ad 4 0), .int (nI i)])).length) Slot.unset).toArray = ls at hl ⊢
  have hl : lv_has ls 3 [(0, .ref (ad 4 0)), (1, .int (nI i))] := hl
  refine lv_aload_n hx hb dX4_held_0 rfl (lv_at hl 0 rfl) ?_
  refine lv_iload_n hx hb dX4_held_1 rfl (lv_at hl 1 rfl) ?_
  refine y_callr (vx_runV (As := [.int (nI i)]) (rest := []) ⟨hx, hb, hml, hown, hts⟩ (c0_X4_pointAt l hns D B ad g σ T o hI.1 i hi) (cwV 1 hts gX4_held_X4_pointAt rfl rfl rfl (by decide +kernel) ⟨Nat.le_of_ble_eq_true rfl, Nat.le_of_ble_eq_true rfl⟩) (w_preV hC hP hS cW_4 rfl) rfl rfl hl.1 rfl (lv_room (Nat.le_of_ble_eq_true rfl)) dX4_held_2 ⟨Nat.le_of_ble_eq_true rfl, Nat.le_of_ble_eq_true rfl⟩) hS (fun E9 ce9 q9 ad1 w1 H locs hq hP hS h91 h92 h93 => ?_) (fun r_1 ad1 w1 H locs hq hP hS => ?_)
  · exact hq.elim
  · obtain ⟨h84, h86⟩ := hq
    cases h84
    subst h86
    refine lv_astore_n (lv' := [(2, .ref (ad 1 i)), (0, .ref (ad 4 0)), (1, .int (nI i))]) hx hb dX4_held_5 rfl hl (by decide) rfl (fun ls hl => ?_)
    refine lv_aload_n hx hb dX4_held_6 rfl (lv_at hl 0 rfl) ?_
    refine w_calli (va_runV (As := []) (rest := []) ⟨hx, hb, hml, hown, hts⟩ (c_X1_isHeld l D B ad g σ T o i hi) (cwV 0 hts gX4_held_X1_isHeld rfl rfl rfl (by decide +kernel) ⟨Nat.le_of_ble_eq_true rfl, Nat.le_of_ble_eq_true rfl⟩) (w_preV hC hP hS (cW_1 hi) rfl) rfl rfl hl.1 rfl (lv_room (Nat.le_of_ble_eq_true rfl)) dX4_held_7 ⟨Nat.le_of_ble_eq_true rfl, Nat.le_of_ble_eq_true rfl⟩) hS (fun r_2 ad1 w1 H locs hq hP hS => ?_)
    obtain ⟨h91, h92⟩ := hq
    cases h91
    subst h92
    refine lv_if_eq (tgt := 25) hx hb dX4_held_10 (by decide) (fun c_10 => ?_) (fun c_10 => ?_)
    · refine lv_iconst (v := 0) hx hb dX4_held_25 (by decide) ?_
      refine vx_ret ?_
      exact W.iret (v := 0) hx hb hr (fun t ht hW => Qi_of ⟨rfl, (if_pos (Classical.not_not.mp (bI_0.mp c_10))).symm⟩ hP hS ht) hS.2.2 dX4_held_26
    · refine lv_aload_n hx hb dX4_held_13 rfl (lv_at hl 0 rfl) ?_
      refine w_get hx hb hts (by decide +kernel) hown hC hP (cW_1 hi) rfl 6 (by decide) (hts (.fieldLink RX4 76 "BuildingPoints$Point" "heldUntil" "I") (by decide +kernel)) rfl dX4_held_14 ?_
      refine lv_aload_n hx hb dX4_held_17 rfl (lv_at hl 1 rfl) ?_
      refine w_get hx hb hts (by decide +kernel) hown hC hP cW_4 rfl 6 (by decide) (hts (.fieldLink RX4 79 "BuildingPoints" "now" "I") (by decide +kernel)) rfl dX4_held_18 ?_
      refine lv_isub hx hb dX4_held_21 ?_
      refine lv_goto (tgt := 26) hx hb dX4_held_22 (by decide) ?_
      refine vx_ret ?_
      exact W.iret (v := ((σ 4 i 0) - (σ 25 0 0))) hx hb hr (fun t ht hW => Qi_of ⟨rfl, (if_neg (fun z => c_10 (bI_0.mpr (fun y => y z)))).symm⟩ hP hS ht) hS.2.2 dX4_held_26
set_option maxHeartbeats 4000000 in
set_option maxRecDepth 100000 in
theorem c0_X4_command (l : Launch) (hns : l.stackTraces = false) (D : va_G) (B : Nat) (ad : Ad) (g : GC) (σ : Me) (T : Wd) (o : Int64) (hI : Ib g σ) (i : Nat) (hi : i < g.1) (j : Nat) (hj1 : 1 ≤ j) (hj2 : j ≤ 16) : vx_Met l yX4_command wsX4_command ({ frames := 1, cells := 0, slots := 0, locals := 22 }) (Pre D B ad (cW D ad (g, σ) T o) [.ref (ad 4 0), .int (nI i), .int (nI j)]) (Qi D B (fun r u => u = (ad, cW D ad (g, σ) T o) ∧ r = σ 6 i j)) (Xc D B (fun E u => False)) 0 0 (ab B) := by
  refine vx_ofW (cc := cX4_command) (maxL := 4) (ret := (some .int)) (by decide) rfl ?_
  intro p e s m args below meth c s₁ Bd hml hnt hv
  obtain ⟨rfl, hC, hP⟩ := hv
  have hx := Bd.exec
  have hb := Bd.bytes
  have hr := Bd.returns
  have hts := atoms_spec (ws := wsX4_command) Bd.pre
  have hown : s.vm.findClass RX4 = some m.cls := findClass_of_methodNamed Bd.named
  have hlocks := Bd.notSynchronized
  have hS : va_S (ab B) s.heap s.heap [] := va_S.rf
  have hl := lv_entry ([.ref (ad 4 0), .int (nI i), .int (nI j)]) (n := 4) (Nat.le_of_ble_eq_true rfl)
  rw [lg_entry_eq]
  generalize (lg_sl ([.ref (ad 4 0), .int (nI i), .int (nI j)]) ++ List.replicate (4 - (lg_sl ([.ref (ad 4 0), .int (nI i), .int (nI j)])).length) Slot.unset).toArray = ls at hl ⊢
  have hl : lv_has ls 4 [(0, .ref (ad 4 0)), (1, .int (nI i)), (2, .int (nI j))] := hl
  have hb1 : bt (nI j) 1 16 := ⟨(nI_leI (a := 1) (b := j) (by decide) (by omega)).mpr hj1, (nI_leI (a := j) (b := 16) (by omega) (by decide)).mpr hj2⟩
  refine lv_aload_n hx hb dX4_command_0 rfl (lv_at hl 0 rfl) ?_
  refine lv_iload_n hx hb dX4_command_1 rfl (lv_at hl 1 rfl) ?_
  refine y_callr (vx_runV (As := [.int (nI i)]) (rest := []) ⟨hx, hb, hml, hown, hts⟩ (c0_X4_pointAt l hns D B ad g σ T o hI.1 i hi) (cwV 1 hts gX4_command_X4_pointAt rfl rfl rfl (by decide +kernel) ⟨Nat.le_of_ble_eq_true rfl, Nat.le_of_ble_eq_true rfl⟩) (w_preV hC hP hS cW_4 rfl) rfl rfl hl.1 rfl (lv_room (Nat.le_of_ble_eq_true rfl)) dX4_command_2 ⟨Nat.le_of_ble_eq_true rfl, Nat.le_of_ble_eq_true rfl⟩) hS (fun E9 ce9 q9 ad1 w1 H locs hq hP hS h91 h92 h93 => ?_) (fun r_1 ad1 w1 H locs hq hP hS => ?_)
  · exact hq.elim
  · obtain ⟨h84, h86⟩ := hq
    cases h84
    subst h86
    refine lv_astore_n (lv' := [(3, .ref (ad 1 i)), (0, .ref (ad 4 0)), (1, .int (nI i)), (2, .int (nI j))]) hx hb dX4_command_5 rfl hl (by decide) rfl (fun ls hl => ?_)
    refine lv_iload_n hx hb dX4_command_6 rfl (lv_at hl 3 rfl) ?_
    refine lv_iconst (v := 1) hx hb dX4_command_7 (by decide) ?_
    refine lv_bipush (v := (16)) hx hb dX4_command_8 (by decide) ?_
    refine y_callv (vx_runS (As := [.int (nI j), .int 1, .int 16]) (rest := []) ⟨hx, hb, hml, hown, hts⟩ (c0_X4_requireWithin l hns D B ad (cW D ad (g, σ) T o) (nI j) 1 16 hb1) (va_cwS 3 hts gX4_command_X4_requireWithin rfl rfl rfl (by decide +kernel) ⟨Nat.le_of_ble_eq_true rfl, Nat.le_of_ble_eq_true rfl⟩) (w_preS hC hP hS) rfl rfl hl.1 rfl (lv_room (Nat.le_of_ble_eq_true rfl)) dX4_command_10 ⟨Nat.le_of_ble_eq_true rfl, Nat.le_of_ble_eq_true rfl⟩) hS (fun E9 ce9 q9 ad1 w1 H locs hq hP hS h91 h92 h93 => ?_) (fun ad1 w1 H locs hq hP hS => ?_)
    · exact hq.elim
    · cases hq
      refine lv_aload_n hx hb dX4_command_13 rfl (lv_at hl 0 rfl) ?_
      refine w_get hx hb hts (by decide +kernel) hown hC hP (cW_1 hi) rfl 4 (by decide) (hts (.fieldLink RX4 68 "BuildingPoints$Point" "commands" "[I") (by decide +kernel)) rfl dX4_command_14 ?_
      refine lv_iload_n hx hb dX4_command_17 rfl (lv_at hl 3 rfl) ?_
      refine w_ildN hx hb hC hP (cW_8 hi) (by omega) (by decide) (v := σ 6 i j) rfl dX4_command_18 ?_
      refine vx_ret ?_
      exact W.iret (v := (σ 6 i j)) hx hb hr (fun t ht hW => Qi_of ⟨rfl, rfl⟩ hP hS ht) hS.2.2 dX4_command_19
set_option maxHeartbeats 4000000 in
set_option maxRecDepth 100000 in
theorem c0_X4_tells (l : Launch) (hns : l.stackTraces = false) (D : va_G) (B : Nat) (ad : Ad) (g : GC) (σ : Me) (T : Wd) (o : Int64) (hI : Ib g σ) (i : Nat) (hi : i < g.2.2) (j : Nat) (hj2 : j ≤ 1000000) : vx_Met l yX4_tells wsX4_tells ({ frames := 2, cells := 0, slots := 0, locals := 48 }) (Pre D B ad (cW D ad (g, σ) T o) [.ref (ad 4 0), .int (nI i), .int (nI j)]) (Qi D B (fun r u => u = (ad, cW D ad (g, σ) T o) ∧ r = tolO σ i (nI j))) (Xc D B (fun E u => False)) 0 0 (ab B) := by
  refine vx_ofW (cc := cX4_tells) (maxL := 4) (ret := (some .int)) (by decide) rfl ?_
  intro p e s m args below meth c s₁ Bd hml hnt hv
  obtain ⟨rfl, hC, hP⟩ := hv
  have hx := Bd.exec
  have hb := Bd.bytes
  have hr := Bd.returns
  have hts := atoms_spec (ws := wsX4_tells) Bd.pre
  have hown : s.vm.findClass RX4 = some m.cls := findClass_of_methodNamed Bd.named
  have hlocks := Bd.notSynchronized
  have hS : va_S (ab B) s.heap s.heap [] := va_S.rf
  have hl := lv_entry ([.ref (ad 4 0), .int (nI i), .int (nI j)]) (n := 4) (Nat.le_of_ble_eq_true rfl)
  rw [lg_entry_eq]
  generalize (lg_sl ([.ref (ad 4 0), .int (nI i), .int (nI j)]) ++ List.replicate (4 - (lg_sl ([.ref (ad 4 0), .int (nI i), .int (nI j)])).length) Slot.unset).toArray = ls at hl ⊢
  have hl : lv_has ls 4 [(0, .ref (ad 4 0)), (1, .int (nI i)), (2, .int (nI j))] := hl
  have hb1 : bt (nI j) 0 1000000 := ⟨(nI_leI (a := 0) (b := j) (by decide) (by omega)).mpr (Nat.zero_le _), (nI_leI (a := j) (b := 1000000) (by omega) (by decide)).mpr hj2⟩
  obtain ⟨i9, j9, n, n1, n2, h1, h2, h3, h4, h5, h6, h7, h8, h9, h10, h11, h12⟩ := hI.2.2.2.2.2 i hi
  refine lv_aload_n hx hb dX4_tells_0 rfl (lv_at hl 0 rfl) ?_
  refine lv_iload_n hx hb dX4_tells_1 rfl (lv_at hl 1 rfl) ?_
  refine y_callr (vx_runV (As := [.int (nI i)]) (rest := []) ⟨hx, hb, hml, hown, hts⟩ (c0_X4_scheduleAt l hns D B ad g σ T o hI.2.2.1 i hi) (cwV 1 hts gX4_tells_X4_scheduleAt rfl rfl rfl (by decide +kernel) ⟨Nat.le_of_ble_eq_true rfl, Nat.le_of_ble_eq_true rfl⟩) (w_preV hC hP hS cW_4 rfl) rfl rfl hl.1 rfl (lv_room (Nat.le_of_ble_eq_true rfl)) dX4_tells_2 ⟨Nat.le_of_ble_eq_true rfl, Nat.le_of_ble_eq_true rfl⟩) hS (fun E9 ce9 q9 ad1 w1 H locs hq hP hS h91 h92 h93 => ?_) (fun r_1 ad1 w1 H locs hq hP hS => ?_)
  · exact hq.elim
  · obtain ⟨h84, h86⟩ := hq
    cases h84
    subst h86
    refine lv_astore_n (lv' := [(3, .ref (ad 2 i)), (0, .ref (ad 4 0)), (1, .int (nI i)), (2, .int (nI j))]) hx hb dX4_tells_5 rfl hl (by decide) rfl (fun ls hl => ?_)
    refine lv_iload_n hx hb dX4_tells_6 rfl (lv_at hl 3 rfl) ?_
    refine lv_iconst (v := 0) hx hb dX4_tells_7 (by decide) ?_
    refine lv_ldc (v := (1000000)) hx hb hown (hts (.constant RX4 139 (1000000)) (by decide +kernel)) dX4_tells_8 ?_
    refine y_callv (vx_runS (As := [.int (nI j), .int 0, .int 1000000]) (rest := []) ⟨hx, hb, hml, hown, hts⟩ (c0_X4_requireWithin l hns D B ad (cW D ad (g, σ) T o) (nI j) 0 1000000 hb1) (va_cwS 3 hts gX4_tells_X4_requireWithin rfl rfl rfl (by decide +kernel) ⟨Nat.le_of_ble_eq_true rfl, Nat.le_of_ble_eq_true rfl⟩) (w_preS hC hP hS) rfl rfl hl.1 rfl (lv_room (Nat.le_of_ble_eq_true rfl)) dX4_tells_10 ⟨Nat.le_of_ble_eq_true rfl, Nat.le_of_ble_eq_true rfl⟩) hS (fun E9 ce9 q9 ad1 w1 H locs hq hP hS h91 h92 h93 => ?_) (fun ad1 w1 H locs hq hP hS => ?_)
    · exact hq.elim
    · cases hq
      refine lv_aload_n hx hb dX4_tells_13 rfl (lv_at hl 0 rfl) ?_
      refine lv_iload_n hx hb dX4_tells_14 rfl (lv_at hl 3 rfl) ?_
      refine w_calli (va_runV (As := [.int (nI j)]) (rest := []) ⟨hx, hb, hml, hown, hts⟩ (c_X2_toldAt l D B ad g σ T o i n1 n2 hi h7 (by omega) h8 (by omega) (nI j)) (cwV 1 hts gX4_tells_X2_toldAt rfl rfl rfl (by decide +kernel) ⟨Nat.le_of_ble_eq_true rfl, Nat.le_of_ble_eq_true rfl⟩) (w_preV hC hP hS (cW_2 hi) rfl) rfl rfl hl.1 rfl (lv_room (Nat.le_of_ble_eq_true rfl)) dX4_tells_15 ⟨Nat.le_of_ble_eq_true rfl, Nat.le_of_ble_eq_true rfl⟩) hS (fun r_3 ad1 w1 H locs hq hP hS => ?_)
      obtain ⟨h91, h92⟩ := hq
      cases h91
      subst h92
      refine vx_ret ?_
      exact W.iret (v := (tolC σ i n1 n2 (nI j))) hx hb hr (fun t ht hW => Qi_of ⟨rfl, by rw [tol_eq h6 h10 h12 hj2]⟩ hP hS ht) hS.2.2 dX4_tells_18
set_option maxHeartbeats 4000000 in
set_option maxRecDepth 100000 in
theorem c0_X4_pass (l : Launch) (hns : l.stackTraces = false) (D : va_G) (B : Nat) (ad : Ad) (g : GC) (σ : Me) (T : Wd) (o : Int64) (hI : Ib g σ) (t : Nat) (hR : Rs g t σ) (pm : Nat) (hpm : 1 ≤ pm) (hpm2 : pm ≤ 5000) (htm : t + pm ≤ 1000000) : vx_Met l yX4_pass wsX4_pass ({ frames := 7, cells := 0, slots := 0, locals := 160 }) (Pre D B ad (cW D ad (g, σ) T o) [.ref (ad 4 0), .int (nI pm)]) (Qi D B (fun r u => u = (ad, cW D ad (g, pasF g pm σ) T o) ∧ r = pasF g pm σ 26 0 0 - σ 26 0 0)) (Xc D B (fun E u => False)) 0 0 (ab B) := by
  refine vx_ofW (cc := cX4_pass) (maxL := 4) (ret := (some .int)) (by decide) rfl ?_
  intro p e s m args below meth c s₁ Bd hml hnt hv
  obtain ⟨rfl, hC, hP⟩ := hv
  have hx := Bd.exec
  have hb := Bd.bytes
  have hr := Bd.returns
  have hts := atoms_spec (ws := wsX4_pass) Bd.pre
  have hown : s.vm.findClass RX4 = some m.cls := findClass_of_methodNamed Bd.named
  have hlocks := Bd.notSynchronized
  have hS : va_S (ab B) s.heap s.heap [] := va_S.rf
  have hl := lv_entry ([.ref (ad 4 0), .int (nI pm)]) (n := 4) (Nat.le_of_ble_eq_true rfl)
  rw [lg_entry_eq]
  generalize (lg_sl ([.ref (ad 4 0), .int (nI pm)]) ++ List.replicate (4 - (lg_sl ([.ref (ad 4 0), .int (nI pm)])).length) Slot.unset).toArray = ls at hl ⊢
  have hl : lv_has ls 4 [(0, .ref (ad 4 0)), (1, .int (nI pm))] := hl
  have hb1 : bt (nI pm) 1 5000 := ⟨(nI_leI (a := 1) (b := pm) (by decide) (by omega)).mpr hpm, (nI_leI (a := pm) (b := 5000) (by omega) (by decide)).mpr hpm2⟩
  have hcl : nI pm ≤ 1000000 - σ 25 0 0 := by rw [hR.2.1]; exact (pk_sub (a := 1000000) (b := t) (by omega)) ▸ (nI_leI (by omega) (by omega)).mpr (by omega)
  refine lv_iload_n hx hb dX4_pass_0 rfl (lv_at hl 1 rfl) ?_
  refine lv_iconst (v := 1) hx hb dX4_pass_1 (by decide) ?_
  refine lv_sipush (v := (5000)) hx hb dX4_pass_2 (by decide) ?_
  refine y_callv (vx_runS (As := [.int (nI pm), .int 1, .int 5000]) (rest := []) ⟨hx, hb, hml, hown, hts⟩ (c0_X4_requireWithin l hns D B ad (cW D ad (g, σ) T o) (nI pm) 1 5000 hb1) (va_cwS 3 hts gX4_pass_X4_requireWithin rfl rfl rfl (by decide +kernel) ⟨Nat.le_of_ble_eq_true rfl, Nat.le_of_ble_eq_true rfl⟩) (w_preS hC hP hS) rfl rfl hl.1 rfl (lv_room (Nat.le_of_ble_eq_true rfl)) dX4_pass_5 ⟨Nat.le_of_ble_eq_true rfl, Nat.le_of_ble_eq_true rfl⟩) hS (fun E9 ce9 q9 ad1 w1 H locs hq hP hS h91 h92 h93 => ?_) (fun ad1 w1 H locs hq hP hS => ?_)
  · exact hq.elim
  · cases hq
    refine lv_iload_n hx hb dX4_pass_8 rfl (lv_at hl 1 rfl) ?_
    refine lv_ldc (v := (1000000)) hx hb hown (hts (.constant RX4 139 (1000000)) (by decide +kernel)) dX4_pass_9 ?_
    refine lv_aload_n hx hb dX4_pass_11 rfl (lv_at hl 0 rfl) ?_
    refine w_get hx hb hts (by decide +kernel) hown hC hP cW_4 rfl 6 (by decide) (hts (.fieldLink RX4 79 "BuildingPoints" "now" "I") (by decide +kernel)) rfl dX4_pass_12 ?_
    refine lv_isub hx hb dX4_pass_15 ?_
    refine lv_icmp_le (tgt := 29) hx hb dX4_pass_16 (by decide) (fun c_16 => ?_) (fun c_16 => ?_)
    · refine lv_aload_n hx hb dX4_pass_29 rfl (lv_at hl 0 rfl) ?_
      refine w_get hx hb hts (by decide +kernel) hown hC hP cW_4 rfl 7 (by decide) (hts (.fieldLink RX4 146 "BuildingPoints" "allReports" "I") (by decide +kernel)) rfl dX4_pass_30 ?_
      refine lv_istore_n (lv' := [(2, .int (σ 26 0 0)), (0, .ref (ad 4 0)), (1, .int (nI pm))]) hx hb dX4_pass_33 rfl hl (by decide) rfl (fun ls hl => ?_)
      refine lv_iconst (v := 0) hx hb dX4_pass_34 (by decide) ?_
      refine lv_istore_n (lv' := [(3, .int 0), (2, .int (σ 26 0 0)), (0, .ref (ad 4 0)), (1, .int (nI pm))]) hx hb dX4_pass_35 rfl hl (by decide) rfl (fun ls hl => ?_)
      refine w_ind (fun n9 H locs ls => ∃ (i : Nat) (σ1 : Me), i + n9 = pm ∧ pasF g pm σ = pasF g n9 σ1 ∧ Rs g (t + i) σ1 ∧ hw D B ad (cW D ad (g, σ1) T o) H ∧ va_S (ab B) s.heap H locs ∧ lv_has ls 4 [(3, .int (nI i)), (0, .ref (ad 4 0)), (1, .int (nI pm)), (2, .int (σ 26 0 0))]) ?_ pm _ _ _ ⟨0, σ, by omega, rfl, hR, hP, hS, lv_sub hl [0, 2, 3, 1] rfl⟩
      intro n9 H locs ls hJ ih
      obtain ⟨i, σ1, hi, hst, hR1, hP, hS, hl⟩ := hJ
      refine lv_iload_n hx hb dX4_pass_36 rfl (lv_at hl 0 rfl) ?_
      refine lv_iload_n hx hb dX4_pass_37 rfl (lv_at hl 2 rfl) ?_
      refine lv_icmp_ge (tgt := 51) hx hb dX4_pass_38 (by decide) (fun c_38 => ?_) (fun c_38 => ?_)
      · have hin : pm ≤ i := Nat.not_lt.mp (fun z => absurd c_38 (nI_ge z (by omega)))
        refine lv_aload_n hx hb dX4_pass_51 rfl (lv_at hl 1 rfl) ?_
        refine w_get hx hb hts (by decide +kernel) hown hC hP cW_4 rfl 7 (by decide) (hts (.fieldLink RX4 146 "BuildingPoints" "allReports" "I") (by decide +kernel)) rfl dX4_pass_52 ?_
        refine lv_iload_n hx hb dX4_pass_55 rfl (lv_at hl 3 rfl) ?_
        refine lv_isub hx hb dX4_pass_56 ?_
        refine vx_ret ?_
        exact W.iret (v := ((σ1 26 0 0) - (σ 26 0 0))) hx hb hr (fun t ht hW => Qi_of ⟨by rw [hst, show n9 = 0 by omega]; rfl, by rw [hst, show n9 = 0 by omega]; rfl⟩ hP hS ht) hS.2.2 dX4_pass_57
      · have hlt : i < pm := Nat.not_le.mp (fun z => c_38 (nI_le z (by omega)))
        refine lv_aload_n hx hb dX4_pass_41 rfl (lv_at hl 1 rfl) ?_
        refine w_callv (va_runV (As := []) (rest := []) ⟨hx, hb, hml, hown, hts⟩ (c_X4_passMinute l D B ad g σ1 T o (t + i) hR1 (by omega)) (cwV 0 hts gX4_pass_X4_passMinute rfl rfl rfl (by decide +kernel) ⟨Nat.le_of_ble_eq_true rfl, Nat.le_of_ble_eq_true rfl⟩) (w_preV hC hP hS cW_4 rfl) rfl rfl hl.1 rfl (lv_room (Nat.le_of_ble_eq_true rfl)) dX4_pass_42 ⟨Nat.le_of_ble_eq_true rfl, Nat.le_of_ble_eq_true rfl⟩) hS (fun ad1 w1 H locs hq hP hS => ?_)
        cases hq
        refine lv_iinc (v := nI (i + 1)) (lv' := [(3, .int (nI (i + 1))), (0, .ref (ad 4 0)), (1, .int (nI pm)), (2, .int (σ 26 0 0))]) hx hb dX4_pass_45 hl (k := 0) rfl (nI_add i 1) (by decide) rfl (fun ls hl => ?_)
        refine lv_goto (tgt := 36) hx hb dX4_pass_48 (by decide) ?_
        obtain ⟨n8, rfl⟩ : ∃ n8, n9 = n8 + 1 := ⟨n9 - 1, by omega⟩
        exact ih n8 _ _ _ (by omega) ⟨i + 1, minF g σ1, by omega, by rw [hst]; rfl, Rs_min (t := t + i) hR1 (by omega), hP, hS, lv_sub hl [0, 1, 2, 3] rfl⟩
    · exact absurd hcl c_16
