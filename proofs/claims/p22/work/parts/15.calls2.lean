set_option maxHeartbeats 4000000 in
set_option maxRecDepth 100000 in
theorem c_X4_clock (l : Launch) (D : va_G) (B : Nat) (ad : Ad) (g : GC) (σ : Me) (T : Wd) (o : Int64)  : Met l yX4_clock wsX4_clock ({ frames := 0, cells := 0, slots := 0, locals := 0 }) (Pre D B ad (cW D ad (g, σ) T o) [.ref (ad 4 0)]) (Qi D B (fun r u => u = (ad, cW D ad (g, σ) T o) ∧ r = σ 25 0 0)) 0 0 (ab B) := by
  refine Met.ofW (cc := cX4_clock) (maxL := 1) (ret := (some .int)) (by decide) rfl ?_
  intro p e s m args below meth c s₁ Bd hml hv
  obtain ⟨rfl, hC, hP⟩ := hv
  have hx := Bd.exec
  have hb := Bd.bytes
  have hr := Bd.returns
  have hts := atoms_spec (ws := wsX4_clock) Bd.pre
  have hown : s.vm.findClass RX4 = some m.cls := findClass_of_methodNamed Bd.named
  have hlocks := Bd.notSynchronized
  have hS : va_S (ab B) s.heap s.heap [] := va_S.rf
  have hl := lv_entry ([.ref (ad 4 0)]) (n := 1) (Nat.le_of_ble_eq_true rfl)
  rw [lg_entry_eq]
  generalize (lg_sl ([.ref (ad 4 0)]) ++ List.replicate (1 - (lg_sl ([.ref (ad 4 0)])).length) Slot.unset).toArray = ls at hl ⊢
  have hl : lv_has ls 1 [(0, .ref (ad 4 0))] := hl
  refine lv_aload_n hx hb dX4_clock_0 rfl (lv_at hl 0 rfl) ?_
  refine w_get hx hb hts (by decide +kernel) hown hC hP cW_4 rfl 6 (by decide) (hts (.fieldLink RX4 79 "BuildingPoints" "now" "I") (by decide +kernel)) rfl dX4_clock_1 ?_
  exact W.iret (v := (σ 25 0 0)) hx hb hr (fun t ht hW => Qi_of ⟨rfl, rfl⟩ hP hS ht) hS.2.2 dX4_clock_4
set_option maxHeartbeats 4000000 in
set_option maxRecDepth 100000 in
theorem c_X4_pass (l : Launch) (hns : l.stackTraces = false) (D : va_G) (B : Nat) (ad : Ad) (g : GC) (σ : Me) (T : Wd) (o : Int64) (hI : Ib g σ) (t : Nat) (hR : Rs g t σ) (x0 : Int32) : vx_Met l yX4_pass wsX4_pass ({ frames := 7, cells := 2, slots := 12, locals := 160 }) (Pre D B ad (cW D ad (g, σ) T o) [.ref (ad 4 0), .int x0]) (Qi D B (fun r u => u = (ad, cW D ad (g, pasF g (nOf x0) σ) T o) ∧ r = pasF g (nOf x0) σ 26 0 0 - σ 26 0 0 ∧ cdPas σ x0 = 0)) (Xc D B (fun E u => u = (ad, cW D ad (g, σ) T o) ∧ exA [exIA, exIS] (cdPas σ x0) E)) 2 12 (ab B) := by
  refine vx_ofW (cc := cX4_pass) (maxL := 4) (ret := (some .int)) (by decide) rfl ?_
  intro p e s m args below meth c s₁ Bd hml hnt hv
  obtain ⟨rfl, hC, hP⟩ := hv
  have hx := Bd.exec
  have hb := Bd.bytes
  have hr := Bd.returns
  have hts := atoms_spec (ws := wsX4_pass) Bd.pre
  have hown : s.vm.findClass RX4 = some m.cls := findClass_of_methodNamed Bd.named
  have hlocks := Bd.notSynchronized
  have hS : va_S (ab B) s.heap s.heap [] := va_S.rf
  have hl := lv_entry ([.ref (ad 4 0), .int x0]) (n := 4) (Nat.le_of_ble_eq_true rfl)
  rw [lg_entry_eq]
  generalize (lg_sl ([.ref (ad 4 0), .int x0]) ++ List.replicate (4 - (lg_sl ([.ref (ad 4 0), .int x0])).length) Slot.unset).toArray = ls at hl ⊢
  have hl : lv_has ls 4 [(0, .ref (ad 4 0)), (1, .int x0)] := hl
  refine lv_iload_n hx hb dX4_pass_0 rfl (lv_at hl 1 rfl) ?_
  refine lv_iconst (v := 1) hx hb dX4_pass_1 (by decide) ?_
  refine lv_sipush (v := (5000)) hx hb dX4_pass_2 (by decide) ?_
  refine y_callv (vx_runS (As := [.int x0, .int 1, .int 5000]) (rest := []) ⟨hx, hb, hml, hown, hts⟩ (c_X4_requireWithin l hns D B ad (cW D ad (g, σ) T o) x0 1 5000) (va_cwS 3 hts gX4_pass_X4_requireWithin rfl rfl rfl (by decide +kernel) ⟨Nat.le_of_ble_eq_true rfl, Nat.le_of_ble_eq_true rfl⟩) (w_preS hC hP hS) rfl rfl hl.1 rfl (lv_room (Nat.le_of_ble_eq_true rfl)) dX4_pass_5 ⟨Nat.le_of_ble_eq_true rfl, Nat.le_of_ble_eq_true rfl⟩) hS (fun E9 ce9 q9 ad1 w1 H locs hq hP hS h91 h92 h93 => ?_) (fun ad1 w1 H locs hq hP hS => ?_)
  · obtain ⟨h84, h85, h86⟩ := hq
    cases h84
    subst h85
    exact w_thru (fun _ z => z) hnt hlocks hP hS h91 h92 h93 ⟨rfl, by unfold cdPas; rw [cod3_1 h86]; exact ⟨by decide, rfl⟩⟩ (Nat.le_of_ble_eq_true rfl) (Nat.le_of_ble_eq_true rfl)
  · obtain ⟨h84, hb1⟩ := hq
    cases h84
    obtain ⟨pm, rfl, pml, pmh⟩ := bt_nat (lo := 1) (hi := 5000) (by decide) (by decide) (by decide) hb1
    refine lv_iload_n hx hb dX4_pass_8 rfl (lv_at hl 1 rfl) ?_
    refine lv_ldc (v := (1000000)) hx hb hown (hts (.constant RX4 139 (1000000)) (by decide +kernel)) dX4_pass_9 ?_
    refine lv_aload_n hx hb dX4_pass_11 rfl (lv_at hl 0 rfl) ?_
    refine w_get hx hb hts (by decide +kernel) hown hC hP cW_4 rfl 6 (by decide) (hts (.fieldLink RX4 79 "BuildingPoints" "now" "I") (by decide +kernel)) rfl dX4_pass_12 ?_
    refine lv_isub hx hb dX4_pass_15 ?_
    refine lv_icmp_le (tgt := 29) hx hb dX4_pass_16 (by decide) (fun c_16 => ?_) (fun c_16 => ?_)
    · have htm : t + pm ≤ 1000000 := by rw [hR.2.1] at c_16; exact le_sub c_16 hR.2.2.1 (by omega)
      refine lv_aload_n hx hb dX4_pass_29 rfl (lv_at hl 0 rfl) ?_
      refine w_get hx hb hts (by decide +kernel) hown hC hP cW_4 rfl 7 (by decide) (hts (.fieldLink RX4 146 "BuildingPoints" "allReports" "I") (by decide +kernel)) rfl dX4_pass_30 ?_
      refine lv_istore_n (lv' := [(2, .int (σ 26 0 0)), (0, .ref (ad 4 0)), (1, .int (nI pm))]) hx hb dX4_pass_33 rfl hl (by decide) rfl (fun ls hl => ?_)
      refine lv_iconst (v := 0) hx hb dX4_pass_34 (by decide) ?_
      refine lv_istore_n (lv' := [(3, .int 0), (2, .int (σ 26 0 0)), (0, .ref (ad 4 0)), (1, .int (nI pm))]) hx hb dX4_pass_35 rfl hl (by decide) rfl (fun ls hl => ?_)
      refine w_ind (fun n9 H locs ls => ∃ (i : Nat) (σ1 : Me), i + n9 = pm ∧ pasF g pm σ = pasF g n9 σ1 ∧ Rs g (t + i) σ1 ∧ hw D B ad (cW D ad (g, σ1) T o) H ∧ va_S (ab B) s.heap H locs ∧ lv_has ls 4 [(3, .int (nI i)), (0, .ref (ad 4 0)), (1, .int (nI pm)), (2, .int (σ 26 0 0))]) ?_ pm _ _ _ ⟨0, σ, by omega, rfl, hR, hP, hS, lv_sub hl [0, 2, 3, 1] rfl⟩
      intro n9 H locs ls hJ ih
      obtain ⟨i, σ1, hi, hst, hR1, hP, hS, hl⟩ := hJ
      refine lv_iload_n hx hb dX4_pass_36 rfl (lv_at hl 0 rfl) ?_
      refine lv_iload_n hx hb dX4_pass_37 rfl (lv_at hl 2 rfl) ?_
      refine lv_icmp_ge (tgt := 51) hx hb dX4_pass_38 (by decide) (fun c_38 => ?_) (fun c_38 => ?_)
      · have hin : pm ≤ i := Nat.not_lt.mp (fun z => absurd c_38 (nI_ge z (by omega)))
        refine lv_aload_n hx hb dX4_pass_51 rfl (lv_at hl 1 rfl) ?_
        refine w_get hx hb hts (by decide +kernel) hown hC hP cW_4 rfl 7 (by decide) (hts (.fieldLink RX4 146 "BuildingPoints" "allReports" "I") (by decide +kernel)) rfl dX4_pass_52 ?_
        refine lv_iload_n hx hb dX4_pass_55 rfl (lv_at hl 3 rfl) ?_
        refine lv_isub hx hb dX4_pass_56 ?_
        refine W.widen (k := 2) (n := 12) (Nat.le_of_ble_eq_true rfl) (Nat.le_of_ble_eq_true rfl) ?_
        refine vx_ret ?_
        exact W.iret (v := ((σ1 26 0 0) - (σ 26 0 0))) hx hb hr (fun t ht hW => Qi_of ⟨by rw [show nOf (nI pm) = pm from nI_clamp (by omega), hst, show n9 = 0 by omega]; rfl, by rw [show nOf (nI pm) = pm from nI_clamp (by omega), hst, show n9 = 0 by omega]; rfl, by unfold cdPas; exact cod3_0 hb1 c_16 trivial⟩ hP hS ht) hS.2.2 dX4_pass_57
      · have hlt : i < pm := Nat.not_le.mp (fun z => c_38 (nI_le z (by omega)))
        refine lv_aload_n hx hb dX4_pass_41 rfl (lv_at hl 1 rfl) ?_
        refine w_callv (va_runV (As := []) (rest := []) ⟨hx, hb, hml, hown, hts⟩ (c_X4_passMinute l D B ad g σ1 T o (t + i) hR1 (by omega)) (cwV 0 hts gX4_pass_X4_passMinute rfl rfl rfl (by decide +kernel) ⟨Nat.le_of_ble_eq_true rfl, Nat.le_of_ble_eq_true rfl⟩) (w_preV hC hP hS cW_4 rfl) rfl rfl hl.1 rfl (lv_room (Nat.le_of_ble_eq_true rfl)) dX4_pass_42 ⟨Nat.le_of_ble_eq_true rfl, Nat.le_of_ble_eq_true rfl⟩) hS (fun ad1 w1 H locs hq hP hS => ?_)
        cases hq
        refine lv_iinc (v := nI (i + 1)) (lv' := [(3, .int (nI (i + 1))), (0, .ref (ad 4 0)), (1, .int (nI pm)), (2, .int (σ 26 0 0))]) hx hb dX4_pass_45 hl (k := 0) rfl (nI_add i 1) (by decide) rfl (fun ls hl => ?_)
        refine lv_goto (tgt := 36) hx hb dX4_pass_48 (by decide) ?_
        obtain ⟨n8, rfl⟩ : ∃ n8, n9 = n8 + 1 := ⟨n9 - 1, by omega⟩
        exact ih n8 _ _ _ (by omega) ⟨i + 1, minF g σ1, by omega, by rw [hst]; rfl, Rs_min (t := t + i) hR1 (by omega), hP, hS, lv_sub hl [0, 1, 2, 3] rfl⟩
    · exact w_thIS hx hb hns (is := 144) (text := "the clock would be too high") (by decide) hown (hts (.classLink RX4 54 exIS) (by decide +kernel)) (hts (.initialized exIS) (by decide +kernel)) (fun w hw => hts w ((show ∀ w ∈ (vx_atS RX4 58 exIS ["java/lang/RuntimeException", "java/lang/Exception"]).filter goodWord, w ∈ wsX4_pass from by decide +kernel) w hw)) hC hP hS (by rw [hml]; exact hl.1) hnt dX4_pass_19 dX4_pass_22 dX4_pass_23 dX4_pass_25 dX4_pass_28 (show 6 ≤ _ from (Nat.le_of_ble_eq_true rfl)) (Nat.le_of_ble_eq_true rfl) (Nat.le_of_ble_eq_true rfl) (Nat.le_of_ble_eq_true rfl) hlocks ⟨rfl, by unfold cdPas; rw [cod3_2 hb1 c_16]; exact ⟨by decide, rfl⟩⟩ (Nat.le_of_ble_eq_true rfl) (Nat.le_of_ble_eq_true rfl)
set_option maxHeartbeats 4000000 in
set_option maxRecDepth 100000 in
theorem c_X4_weekly (l : Launch) (hns : l.stackTraces = false) (D : va_G) (B : Nat) (ad : Ad) (g : GC) (σ : Me) (T : Wd) (o : Int64) (hI : Ib g σ) (t : Nat) (ht : σ 25 0 0 = nI t) (ht2 : t ≤ 1000000) (x0 : Int32) (x1 : Int32) (x2 : Int32) (x3 : Int32) : vx_Met l yX4_weekly wsX4_weekly ({ frames := 8, cells := 5, slots := 30, locals := 134 }) (Pre D B ad (cW D ad (g, σ) T o) [.ref (ad 4 0), .int x0, .int x1, .int x2, .int x3]) (Qi D B (fun r u => u = (ad, cW D ad (g, obeF g.2.1 (nOf x0) (entM (nOf x0) x1 x2 x3 (entC (2 * nOf x0) x1 x2 x3 σ))) T o) ∧ r = obeF g.2.1 (nOf x0) (entM (nOf x0) x1 x2 x3 (entC (2 * nOf x0) x1 x2 x3 σ)) 16 (nOf x0) 0 ∧ cdEnt g σ 6 x0 x1 x2 x3 = 0)) (Xc D B (fun E u => u = (ad, cW D ad (g, σ) T o) ∧ exA [exIO, exIA, exIS] (cdEnt g σ 6 x0 x1 x2 x3) E)) 5 30 (ab B) := by
  refine vx_ofW (cc := cX4_weekly) (maxL := 6) (ret := (some .int)) (by decide) rfl ?_
  intro p e s m args below meth c s₁ Bd hml hnt hv
  obtain ⟨rfl, hC, hP⟩ := hv
  have hx := Bd.exec
  have hb := Bd.bytes
  have hr := Bd.returns
  have hts := atoms_spec (ws := wsX4_weekly) Bd.pre
  have hown : s.vm.findClass RX4 = some m.cls := findClass_of_methodNamed Bd.named
  have hlocks := Bd.notSynchronized
  have hS : va_S (ab B) s.heap s.heap [] := va_S.rf
  have hl := lv_entry ([.ref (ad 4 0), .int x0, .int x1, .int x2, .int x3]) (n := 6) (Nat.le_of_ble_eq_true rfl)
  rw [lg_entry_eq]
  generalize (lg_sl ([.ref (ad 4 0), .int x0, .int x1, .int x2, .int x3]) ++ List.replicate (6 - (lg_sl ([.ref (ad 4 0), .int x0, .int x1, .int x2, .int x3])).length) Slot.unset).toArray = ls at hl ⊢
  have hl : lv_has ls 6 [(0, .ref (ad 4 0)), (1, .int x0), (2, .int x1), (3, .int x2), (4, .int x3)] := hl
  refine lv_aload_n hx hb dX4_weekly_0 rfl (lv_at hl 0 rfl) ?_
  refine lv_iload_n hx hb dX4_weekly_1 rfl (lv_at hl 1 rfl) ?_
  refine y_callr (vx_runV (As := [.int x0]) (rest := []) ⟨hx, hb, hml, hown, hts⟩ (c_X4_scheduleAt l hns D B ad g σ T o hI.2.2.1 x0) (cwV 1 hts gX4_weekly_X4_scheduleAt rfl rfl rfl (by decide +kernel) ⟨Nat.le_of_ble_eq_true rfl, Nat.le_of_ble_eq_true rfl⟩) (w_preV hC hP hS cW_4 rfl) rfl rfl hl.1 rfl (lv_room (Nat.le_of_ble_eq_true rfl)) dX4_weekly_2 ⟨Nat.le_of_ble_eq_true rfl, Nat.le_of_ble_eq_true rfl⟩) hS (fun E9 ce9 q9 ad1 w1 H locs hq hP hS h91 h92 h93 => ?_) (fun r_1 ad1 w1 H locs hq hP hS => ?_)
  · obtain ⟨h84, h85, h86⟩ := hq
    cases h84
    subst h85
    exact w_thru (fun _ z => z) hnt hlocks hP hS h91 h92 h93 ⟨rfl, by unfold cdEnt; rw [cod3_1 h86]; exact ⟨by decide, rfl⟩⟩ (Nat.le_of_ble_eq_true rfl) (Nat.le_of_ble_eq_true rfl)
  · obtain ⟨h84, pi, hpi, h85, h86⟩ := hq
    cases h84
    subst h86
    subst h85
    have hcl : nOf (nI pi) = pi := nI_clamp (by have := hI.1; have := hI.2.1; have := hI.2.2.1; omega)
    obtain ⟨i, j, n, n1, n2, h1, h2, h3, h4, h5, h6, h7, h8, h9, h10, h11, h12⟩ := hI.2.2.2.2.2 pi hpi
    have h17 : nOf (σ 17 pi 0) = n := by rw [h6]; exact nI_clamp (by omega)
    refine lv_astore (lv' := [(5, .ref (ad 2 pi)), (0, .ref (ad 4 0)), (1, .int (nI pi)), (2, .int x1), (3, .int x2), (4, .int x3)]) hx hb dX4_weekly_5 hl (by decide) rfl (fun ls hl => ?_)
    refine lv_iload_n hx hb dX4_weekly_7 rfl (lv_at hl 3 rfl) ?_
    refine lv_iconst (v := 0) hx hb dX4_weekly_8 (by decide) ?_
    refine lv_bipush (v := (6)) hx hb dX4_weekly_9 (by decide) ?_
    refine y_callv (vx_runS (As := [.int x1, .int 0, .int 6]) (rest := []) ⟨hx, hb, hml, hown, hts⟩ (c_X4_requireWithin l hns D B ad (cW D ad (g, σ) T o) x1 0 6) (va_cwS 3 hts gX4_weekly_X4_requireWithin rfl rfl rfl (by decide +kernel) ⟨Nat.le_of_ble_eq_true rfl, Nat.le_of_ble_eq_true rfl⟩) (w_preS hC hP hS) rfl rfl hl.1 rfl (lv_room (Nat.le_of_ble_eq_true rfl)) dX4_weekly_11 ⟨Nat.le_of_ble_eq_true rfl, Nat.le_of_ble_eq_true rfl⟩) hS (fun E9 ce9 q9 ad1 w1 H locs hq hP hS h91 h92 h93 => ?_) (fun ad1 w1 H locs hq hP hS => ?_)
    · obtain ⟨h84, h85, h86⟩ := hq
      cases h84
      subst h85
      exact w_thru (fun _ z => z) hnt hlocks hP hS h91 h92 h93 ⟨rfl, by unfold cdEnt; rw [cod3_2 ⟨pi, hpi, rfl⟩ (fun z => h86 z.1)]; exact ⟨by decide, rfl⟩⟩ (Nat.le_of_ble_eq_true rfl) (Nat.le_of_ble_eq_true rfl)
    · obtain ⟨h84, hb1⟩ := hq
      cases h84
      obtain ⟨pj, rfl, pjl, pjh⟩ := bt_nat (lo := 0) (hi := 6) (by decide) (by decide) (by decide) hb1
      refine lv_aload hx hb dX4_weekly_14 (lv_at hl 0 rfl) ?_
      refine lv_iload_n hx hb dX4_weekly_16 rfl (lv_at hl 4 rfl) ?_
      refine lv_iload hx hb dX4_weekly_17 (lv_at hl 5 rfl) ?_
      refine y_callv (vx_runS (As := [.ref (ad 2 pi), .int x2, .int x3]) (rest := []) ⟨hx, hb, hml, hown, hts⟩ (c_X4_requireEntry l hns D B ad g σ T o pi hpi hI x2 x3) (va_cwS 3 hts gX4_weekly_X4_requireEntry rfl rfl rfl (by decide +kernel) ⟨Nat.le_of_ble_eq_true rfl, Nat.le_of_ble_eq_true rfl⟩) (w_preS hC hP hS) rfl rfl hl.1 rfl (lv_room (Nat.le_of_ble_eq_true rfl)) dX4_weekly_19 ⟨Nat.le_of_ble_eq_true rfl, Nat.le_of_ble_eq_true rfl⟩) hS (fun E9 ce9 q9 ad1 w1 H locs hq hP hS h91 h92 h93 => ?_) (fun ad1 w1 H locs hq hP hS => ?_)
      · obtain ⟨h84, h85⟩ := hq
        cases h84
        rcases h85 with ⟨h85, h86⟩ | ⟨h85, h86, h87⟩
        · subst h85
          exact w_thru (fun _ z => z) hnt hlocks hP hS h91 h92 h93 ⟨rfl, by unfold cdEnt; rw [cod3_2 ⟨pi, hpi, rfl⟩ (fun z => h86 (by rw [hcl] at z; exact z.2))]; exact ⟨by decide, rfl⟩⟩ (Nat.le_of_ble_eq_true rfl) (Nat.le_of_ble_eq_true rfl)
        · subst h85
          exact w_thru (fun _ z => z) hnt hlocks hP hS h91 h92 h93 ⟨rfl, by unfold cdEnt; rw [hcl, cod3_3 ⟨pi, hpi, rfl⟩ ⟨hb1, h86⟩ h87]; exact ⟨by decide, rfl⟩⟩ (Nat.le_of_ble_eq_true rfl) (Nat.le_of_ble_eq_true rfl)
      · obtain ⟨h84, hb2, hb3⟩ := hq
        cases h84
        have hn20 : n < 20 := by rw [h17] at hb3; exact hb3
        refine lv_aload hx hb dX4_weekly_22 (lv_at hl 0 rfl) ?_
        refine w_get hx hb hts (by decide +kernel) hown hC hP (cW_2 hpi) rfl 2 (by decide) (hts (.fieldLink RX4 120 "BuildingPoints$Schedule" "weekdays" "LBuildingPoints$Entries;") (by decide +kernel)) rfl dX4_weekly_24 ?_
        refine lv_iload_n hx hb dX4_weekly_27 rfl (lv_at hl 3 rfl) ?_
        refine lv_iload_n hx hb dX4_weekly_28 rfl (lv_at hl 4 rfl) ?_
        refine lv_iload hx hb dX4_weekly_29 (lv_at hl 5 rfl) ?_
        refine w_callv (va_runV (As := [.int (nI pj), .int x2, .int x3]) (rest := []) ⟨hx, hb, hml, hown, hts⟩ (c_X0_add l D B ad g σ T o (2 * pi) (nOf (σ 21 (2 * pi) 0)) (by omega) (by rw [h7]; rw [show nOf (nI n1) = n1 from nI_clamp (by omega)]) (by rw [h7]; rw [show nOf (nI n1) = n1 from nI_clamp (by omega)]; omega) (nI pj) x2 x3) (cwV 3 hts gX4_weekly_X0_add rfl rfl rfl (by decide +kernel) ⟨Nat.le_of_ble_eq_true rfl, Nat.le_of_ble_eq_true rfl⟩) (w_preV hC hP hS (cW_0 (by omega)) rfl) rfl rfl hl.1 rfl (lv_room (Nat.le_of_ble_eq_true rfl)) dX4_weekly_31 ⟨Nat.le_of_ble_eq_true rfl, Nat.le_of_ble_eq_true rfl⟩) hS (fun ad1 w1 H locs hq hP hS => ?_)
        cases hq
        have hP : hw D B ad (cW D ad (g, entC (2 * pi) (nI pj) x2 x3 σ) T o) H := hP
        have hP := hw_eq hP (cW_entM (c := pi) (dm := (nI pj)) (x := x2) (v := x3)).symm
        have hI2 : Ib g (entM pi (nI pj) x2 x3 (entC (2 * pi) (nI pj) x2 x3 σ)) := Ib_ent hI hpi (Or.inl rfl) hb2.2 (fun m m1 m2 q1 q2 q3 q4 q5 q6 q7 => by rw [if_pos rfl, if_pos rfl]; exact Ie_wee q7 (by rw [q1]; exact nI_clamp (by omega)) (by rw [q2]; exact nI_clamp (by omega)) (by omega)) hb3
        refine lv_aload_n hx hb dX4_weekly_34 rfl (lv_at hl 1 rfl) ?_
        refine lv_aload hx hb dX4_weekly_35 (lv_at hl 0 rfl) ?_
        refine w_callv (va_runV (As := [.ref (ad 2 pi)]) (rest := []) ⟨hx, hb, hml, hown, hts⟩ (c_X4_follow l D B ad g (entM pi (nI pj) x2 x3 (entC (2 * pi) (nI pj) x2 x3 σ)) T o pi hpi hI2 t (by rw [entM_n (by decide) (by decide) (by decide) (by decide), entC_n (by decide) (by decide) (by decide) (by decide)]; exact ht) ht2) (cwV 1 hts gX4_weekly_X4_follow rfl rfl rfl (by decide +kernel) ⟨Nat.le_of_ble_eq_true rfl, Nat.le_of_ble_eq_true rfl⟩) (w_preV hC hP hS cW_4 rfl) rfl rfl hl.1 rfl (lv_room (Nat.le_of_ble_eq_true rfl)) dX4_weekly_37 ⟨Nat.le_of_ble_eq_true rfl, Nat.le_of_ble_eq_true rfl⟩) hS (fun ad1 w1 H locs hq hP hS => ?_)
        cases hq
        refine lv_aload hx hb dX4_weekly_40 (lv_at hl 0 rfl) ?_
        refine w_get hx hb hts (by decide +kernel) hown hC hP (cW_2 hpi) rfl 4 (by decide) (hts (.fieldLink RX4 133 "BuildingPoints$Schedule" "toldLast" "I") (by decide +kernel)) rfl dX4_weekly_42 ?_
        refine vx_ret ?_
        exact W.iret (v := ((obeF g.2.1 pi (entM pi (nI pj) x2 x3 (entC (2 * pi) (nI pj) x2 x3 σ))) 16 pi 0)) hx hb hr (fun t ht hW => Qi_of ⟨by rw [hcl], by rw [hcl], by unfold cdEnt; rw [hcl]; exact cod3_0 ⟨pi, hpi, rfl⟩ ⟨hb1, hb2⟩ hb3⟩ hP hS ht) hS.2.2 dX4_weekly_45
set_option maxHeartbeats 4000000 in
set_option maxRecDepth 100000 in
theorem c_X4_once (l : Launch) (hns : l.stackTraces = false) (D : va_G) (B : Nat) (ad : Ad) (g : GC) (σ : Me) (T : Wd) (o : Int64) (hI : Ib g σ) (t : Nat) (ht : σ 25 0 0 = nI t) (ht2 : t ≤ 1000000) (x0 : Int32) (x1 : Int32) (x2 : Int32) (x3 : Int32) : vx_Met l yX4_once wsX4_once ({ frames := 8, cells := 5, slots := 30, locals := 134 }) (Pre D B ad (cW D ad (g, σ) T o) [.ref (ad 4 0), .int x0, .int x1, .int x2, .int x3]) (Qi D B (fun r u => u = (ad, cW D ad (g, obeF g.2.1 (nOf x0) (entM (nOf x0) (10 + x1) x2 x3 (entC (2 * nOf x0 + 1) x1 x2 x3 σ))) T o) ∧ r = obeF g.2.1 (nOf x0) (entM (nOf x0) (10 + x1) x2 x3 (entC (2 * nOf x0 + 1) x1 x2 x3 σ)) 16 (nOf x0) 0 ∧ cdEnt g σ 700 x0 x1 x2 x3 = 0)) (Xc D B (fun E u => u = (ad, cW D ad (g, σ) T o) ∧ exA [exIO, exIA, exIS] (cdEnt g σ 700 x0 x1 x2 x3) E)) 5 30 (ab B) := by
  refine vx_ofW (cc := cX4_once) (maxL := 6) (ret := (some .int)) (by decide) rfl ?_
  intro p e s m args below meth c s₁ Bd hml hnt hv
  obtain ⟨rfl, hC, hP⟩ := hv
  have hx := Bd.exec
  have hb := Bd.bytes
  have hr := Bd.returns
  have hts := atoms_spec (ws := wsX4_once) Bd.pre
  have hown : s.vm.findClass RX4 = some m.cls := findClass_of_methodNamed Bd.named
  have hlocks := Bd.notSynchronized
  have hS : va_S (ab B) s.heap s.heap [] := va_S.rf
  have hl := lv_entry ([.ref (ad 4 0), .int x0, .int x1, .int x2, .int x3]) (n := 6) (Nat.le_of_ble_eq_true rfl)
  rw [lg_entry_eq]
  generalize (lg_sl ([.ref (ad 4 0), .int x0, .int x1, .int x2, .int x3]) ++ List.replicate (6 - (lg_sl ([.ref (ad 4 0), .int x0, .int x1, .int x2, .int x3])).length) Slot.unset).toArray = ls at hl ⊢
  have hl : lv_has ls 6 [(0, .ref (ad 4 0)), (1, .int x0), (2, .int x1), (3, .int x2), (4, .int x3)] := hl
  refine lv_aload_n hx hb dX4_once_0 rfl (lv_at hl 0 rfl) ?_
  refine lv_iload_n hx hb dX4_once_1 rfl (lv_at hl 1 rfl) ?_
  refine y_callr (vx_runV (As := [.int x0]) (rest := []) ⟨hx, hb, hml, hown, hts⟩ (c_X4_scheduleAt l hns D B ad g σ T o hI.2.2.1 x0) (cwV 1 hts gX4_once_X4_scheduleAt rfl rfl rfl (by decide +kernel) ⟨Nat.le_of_ble_eq_true rfl, Nat.le_of_ble_eq_true rfl⟩) (w_preV hC hP hS cW_4 rfl) rfl rfl hl.1 rfl (lv_room (Nat.le_of_ble_eq_true rfl)) dX4_once_2 ⟨Nat.le_of_ble_eq_true rfl, Nat.le_of_ble_eq_true rfl⟩) hS (fun E9 ce9 q9 ad1 w1 H locs hq hP hS h91 h92 h93 => ?_) (fun r_1 ad1 w1 H locs hq hP hS => ?_)
  · obtain ⟨h84, h85, h86⟩ := hq
    cases h84
    subst h85
    exact w_thru (fun _ z => z) hnt hlocks hP hS h91 h92 h93 ⟨rfl, by unfold cdEnt; rw [cod3_1 h86]; exact ⟨by decide, rfl⟩⟩ (Nat.le_of_ble_eq_true rfl) (Nat.le_of_ble_eq_true rfl)
  · obtain ⟨h84, pi, hpi, h85, h86⟩ := hq
    cases h84
    subst h86
    subst h85
    have hcl : nOf (nI pi) = pi := nI_clamp (by have := hI.1; have := hI.2.1; have := hI.2.2.1; omega)
    obtain ⟨i, j, n, n1, n2, h1, h2, h3, h4, h5, h6, h7, h8, h9, h10, h11, h12⟩ := hI.2.2.2.2.2 pi hpi
    have h17 : nOf (σ 17 pi 0) = n := by rw [h6]; exact nI_clamp (by omega)
    refine lv_astore (lv' := [(5, .ref (ad 2 pi)), (0, .ref (ad 4 0)), (1, .int (nI pi)), (2, .int x1), (3, .int x2), (4, .int x3)]) hx hb dX4_once_5 hl (by decide) rfl (fun ls hl => ?_)
    refine lv_iload_n hx hb dX4_once_7 rfl (lv_at hl 3 rfl) ?_
    refine lv_iconst (v := 0) hx hb dX4_once_8 (by decide) ?_
    refine lv_sipush (v := (700)) hx hb dX4_once_9 (by decide) ?_
    refine y_callv (vx_runS (As := [.int x1, .int 0, .int 700]) (rest := []) ⟨hx, hb, hml, hown, hts⟩ (c_X4_requireWithin l hns D B ad (cW D ad (g, σ) T o) x1 0 700) (va_cwS 3 hts gX4_once_X4_requireWithin rfl rfl rfl (by decide +kernel) ⟨Nat.le_of_ble_eq_true rfl, Nat.le_of_ble_eq_true rfl⟩) (w_preS hC hP hS) rfl rfl hl.1 rfl (lv_room (Nat.le_of_ble_eq_true rfl)) dX4_once_12 ⟨Nat.le_of_ble_eq_true rfl, Nat.le_of_ble_eq_true rfl⟩) hS (fun E9 ce9 q9 ad1 w1 H locs hq hP hS h91 h92 h93 => ?_) (fun ad1 w1 H locs hq hP hS => ?_)
    · obtain ⟨h84, h85, h86⟩ := hq
      cases h84
      subst h85
      exact w_thru (fun _ z => z) hnt hlocks hP hS h91 h92 h93 ⟨rfl, by unfold cdEnt; rw [cod3_2 ⟨pi, hpi, rfl⟩ (fun z => h86 z.1)]; exact ⟨by decide, rfl⟩⟩ (Nat.le_of_ble_eq_true rfl) (Nat.le_of_ble_eq_true rfl)
    · obtain ⟨h84, hb1⟩ := hq
      cases h84
      obtain ⟨pj, rfl, pjl, pjh⟩ := bt_nat (lo := 0) (hi := 700) (by decide) (by decide) (by decide) hb1
      refine lv_aload hx hb dX4_once_15 (lv_at hl 0 rfl) ?_
      refine lv_iload_n hx hb dX4_once_17 rfl (lv_at hl 4 rfl) ?_
      refine lv_iload hx hb dX4_once_18 (lv_at hl 5 rfl) ?_
      refine y_callv (vx_runS (As := [.ref (ad 2 pi), .int x2, .int x3]) (rest := []) ⟨hx, hb, hml, hown, hts⟩ (c_X4_requireEntry l hns D B ad g σ T o pi hpi hI x2 x3) (va_cwS 3 hts gX4_once_X4_requireEntry rfl rfl rfl (by decide +kernel) ⟨Nat.le_of_ble_eq_true rfl, Nat.le_of_ble_eq_true rfl⟩) (w_preS hC hP hS) rfl rfl hl.1 rfl (lv_room (Nat.le_of_ble_eq_true rfl)) dX4_once_20 ⟨Nat.le_of_ble_eq_true rfl, Nat.le_of_ble_eq_true rfl⟩) hS (fun E9 ce9 q9 ad1 w1 H locs hq hP hS h91 h92 h93 => ?_) (fun ad1 w1 H locs hq hP hS => ?_)
      · obtain ⟨h84, h85⟩ := hq
        cases h84
        rcases h85 with ⟨h85, h86⟩ | ⟨h85, h86, h87⟩
        · subst h85
          exact w_thru (fun _ z => z) hnt hlocks hP hS h91 h92 h93 ⟨rfl, by unfold cdEnt; rw [cod3_2 ⟨pi, hpi, rfl⟩ (fun z => h86 (by rw [hcl] at z; exact z.2))]; exact ⟨by decide, rfl⟩⟩ (Nat.le_of_ble_eq_true rfl) (Nat.le_of_ble_eq_true rfl)
        · subst h85
          exact w_thru (fun _ z => z) hnt hlocks hP hS h91 h92 h93 ⟨rfl, by unfold cdEnt; rw [hcl, cod3_3 ⟨pi, hpi, rfl⟩ ⟨hb1, h86⟩ h87]; exact ⟨by decide, rfl⟩⟩ (Nat.le_of_ble_eq_true rfl) (Nat.le_of_ble_eq_true rfl)
      · obtain ⟨h84, hb2, hb3⟩ := hq
        cases h84
        have hn20 : n < 20 := by rw [h17] at hb3; exact hb3
        refine lv_aload hx hb dX4_once_23 (lv_at hl 0 rfl) ?_
        refine w_get hx hb hts (by decide +kernel) hown hC hP (cW_2 hpi) rfl 3 (by decide) (hts (.fieldLink RX4 136 "BuildingPoints$Schedule" "singleDays" "LBuildingPoints$Entries;") (by decide +kernel)) rfl dX4_once_25 ?_
        refine lv_iload_n hx hb dX4_once_28 rfl (lv_at hl 3 rfl) ?_
        refine lv_iload_n hx hb dX4_once_29 rfl (lv_at hl 4 rfl) ?_
        refine lv_iload hx hb dX4_once_30 (lv_at hl 5 rfl) ?_
        refine w_callv (va_runV (As := [.int (nI pj), .int x2, .int x3]) (rest := []) ⟨hx, hb, hml, hown, hts⟩ (c_X0_add l D B ad g σ T o (2 * pi + 1) (nOf (σ 21 (2 * pi + 1) 0)) (by omega) (by rw [h8]; rw [show nOf (nI n2) = n2 from nI_clamp (by omega)]) (by rw [h8]; rw [show nOf (nI n2) = n2 from nI_clamp (by omega)]; omega) (nI pj) x2 x3) (cwV 3 hts gX4_once_X0_add rfl rfl rfl (by decide +kernel) ⟨Nat.le_of_ble_eq_true rfl, Nat.le_of_ble_eq_true rfl⟩) (w_preV hC hP hS (cW_0 (by omega)) rfl) rfl rfl hl.1 rfl (lv_room (Nat.le_of_ble_eq_true rfl)) dX4_once_32 ⟨Nat.le_of_ble_eq_true rfl, Nat.le_of_ble_eq_true rfl⟩) hS (fun ad1 w1 H locs hq hP hS => ?_)
        cases hq
        have hP : hw D B ad (cW D ad (g, entC (2 * pi + 1) (nI pj) x2 x3 σ) T o) H := hP
        have hP := hw_eq hP (cW_entM (c := pi) (dm := (10 + (nI pj))) (x := x2) (v := x3)).symm
        have hI2 : Ib g (entM pi (10 + (nI pj)) x2 x3 (entC (2 * pi + 1) (nI pj) x2 x3 σ)) := Ib_ent hI hpi (Or.inr rfl) hb2.2 (fun m m1 m2 q1 q2 q3 q4 q5 q6 q7 => by rw [if_neg (by omega), if_neg (by omega)]; exact Ie_onc q7 (by rw [q1]; exact nI_clamp (by omega)) (by rw [q3]; exact nI_clamp (by omega)) (by omega)) hb3
        refine lv_aload_n hx hb dX4_once_35 rfl (lv_at hl 1 rfl) ?_
        refine lv_aload hx hb dX4_once_36 (lv_at hl 0 rfl) ?_
        refine w_callv (va_runV (As := [.ref (ad 2 pi)]) (rest := []) ⟨hx, hb, hml, hown, hts⟩ (c_X4_follow l D B ad g (entM pi (10 + (nI pj)) x2 x3 (entC (2 * pi + 1) (nI pj) x2 x3 σ)) T o pi hpi hI2 t (by rw [entM_n (by decide) (by decide) (by decide) (by decide), entC_n (by decide) (by decide) (by decide) (by decide)]; exact ht) ht2) (cwV 1 hts gX4_once_X4_follow rfl rfl rfl (by decide +kernel) ⟨Nat.le_of_ble_eq_true rfl, Nat.le_of_ble_eq_true rfl⟩) (w_preV hC hP hS cW_4 rfl) rfl rfl hl.1 rfl (lv_room (Nat.le_of_ble_eq_true rfl)) dX4_once_38 ⟨Nat.le_of_ble_eq_true rfl, Nat.le_of_ble_eq_true rfl⟩) hS (fun ad1 w1 H locs hq hP hS => ?_)
        cases hq
        refine lv_aload hx hb dX4_once_41 (lv_at hl 0 rfl) ?_
        refine w_get hx hb hts (by decide +kernel) hown hC hP (cW_2 hpi) rfl 4 (by decide) (hts (.fieldLink RX4 133 "BuildingPoints$Schedule" "toldLast" "I") (by decide +kernel)) rfl dX4_once_43 ?_
        refine vx_ret ?_
        exact W.iret (v := ((obeF g.2.1 pi (entM pi (10 + (nI pj)) x2 x3 (entC (2 * pi + 1) (nI pj) x2 x3 σ))) 16 pi 0)) hx hb hr (fun t ht hW => Qi_of ⟨by rw [hcl], by rw [hcl], by unfold cdEnt; rw [hcl]; exact cod3_0 ⟨pi, hpi, rfl⟩ ⟨hb1, hb2⟩ hb3⟩ hP hS ht) hS.2.2 dX4_once_46
