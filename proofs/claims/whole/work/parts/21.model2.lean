set_option maxHeartbeats 4000000 in
set_option maxRecDepth 100000 in
theorem c_X5_value (l : Launch) (D : va_G) (B : Nat) (ad : Ad) (S : GC × Me) (h : GC) (τ : Me) (th : Int32) (o : Int64) (hI : Ib h τ)  (x0 : Int32) : Met l yX5_value wsX5_value ({ frames := 2, cells := 0, slots := 0, locals := 45 }) (Pre D B ad (cW D ad S (h, τ, th) o) [.ref (ad 5 0), .int x0]) (Qi D B (fun r u => (cdPt h.1 x0 = 0 → u = (ad, cW D ad S (h, τ, nI (cdPt h.1 x0)) o) ∧ r = vaO τ (nOf x0)) ∧ (¬ cdPt h.1 x0 = 0 → u = (ad, cW D ad S (h, τ, nI (cdPt h.1 x0)) o)))) 0 0 (ab B) := by
  refine Met.ofW (cc := cX5_value) (maxL := 2) (ret := (some .int)) (by decide) rfl ?_
  intro p e s m args below meth c s₁ Bd hml hv
  obtain ⟨rfl, hC, hP⟩ := hv
  have hx := Bd.exec
  have hb := Bd.bytes
  have hr := Bd.returns
  have hts := atoms_spec (ws := wsX5_value) Bd.pre
  have hown : s.vm.findClass RX5 = some m.cls := findClass_of_methodNamed Bd.named
  have hlocks := Bd.notSynchronized
  have hS : va_S (ab B) s.heap s.heap [] := va_S.rf
  have hl := lv_entry ([.ref (ad 5 0), .int x0]) (n := 2) (Nat.le_of_ble_eq_true rfl)
  rw [lg_entry_eq]
  generalize (lg_sl ([.ref (ad 5 0), .int x0]) ++ List.replicate (2 - (lg_sl ([.ref (ad 5 0), .int x0])).length) Slot.unset).toArray = ls at hl ⊢
  have hl : lv_has ls 2 [(0, .ref (ad 5 0)), (1, .int x0)] := hl
  refine lv_aload_n hx hb dX5_value_0 rfl (lv_at hl 0 rfl) ?_
  refine lv_aload_n hx hb dX5_value_1 rfl (lv_at hl 0 rfl) ?_
  refine lv_iload_n hx hb dX5_value_2 rfl (lv_at hl 1 rfl) ?_
  refine w_calli (va_runV (As := [.int x0]) (rest := [.ref (ad 5 0)]) ⟨hx, hb, hml, hown, hts⟩ (c_X5_isPoint l D B ad S h τ th o hI.1 x0) (cwV 1 hts gX5_value_X5_isPoint rfl rfl rfl (by decide +kernel) ⟨Nat.le_of_ble_eq_true rfl, Nat.le_of_ble_eq_true rfl⟩) (w_preV hC hP hS cW_5 rfl) rfl rfl hl.1 rfl (lv_room (Nat.le_of_ble_eq_true rfl)) dX5_value_3 ⟨Nat.le_of_ble_eq_true rfl, Nat.le_of_ble_eq_true rfl⟩) hS (fun r_1 ad1 w1 H locs hq hP hS => ?_)
  obtain ⟨h91, h92⟩ := hq
  cases h91
  subst h92
  refine lv_iconst (v := 1) hx hb dX5_value_6 (by decide) ?_
  refine w_top (v := bI True) (bI_t trivial).symm ?_
  refine lv_iconst (v := 1) hx hb dX5_value_7 (by decide) ?_
  refine w_top (v := bI True) (bI_t trivial).symm ?_
  refine w_calli (va_runV (As := [.int (bI (isN h.1 x0)), .int (bI True), .int (bI True)]) (rest := []) ⟨hx, hb, hml, hown, hts⟩ (c_X5_goes l D B ad S h τ th o (isN h.1 x0) (True) (True)) (cwV 3 hts gX5_value_X5_goes rfl rfl rfl (by decide +kernel) ⟨Nat.le_of_ble_eq_true rfl, Nat.le_of_ble_eq_true rfl⟩) (w_preV hC hP hS cW_5 rfl) rfl rfl hl.1 rfl (lv_room (Nat.le_of_ble_eq_true rfl)) dX5_value_8 ⟨Nat.le_of_ble_eq_true rfl, Nat.le_of_ble_eq_true rfl⟩) hS (fun r_2 ad1 w1 H locs hq hP hS => ?_)
  have hCD : cod3 (isN h.1 x0) (True) (True) = cdPt h.1 x0 := rfl
  obtain ⟨h91, h92⟩ := hq
  cases h91
  rw [hCD] at hP h92
  subst h92
  refine lv_if_eq (tgt := 22) hx hb dX5_value_11 (by decide) (fun c_11 => ?_) (fun c_11 => ?_)
  · have hcd := bI_0.mp c_11
    refine lv_iconst (v := 0) hx hb dX5_value_22 (by decide) ?_
    exact W.iret (v := 0) hx hb hr (fun t ht hW => Qi_of ⟨fun z => absurd z hcd, fun _ => rfl⟩ hP hS ht) hS.2.2 dX5_value_23
  · have hcd := bI_n0 c_11
    have hz := cod3_z (hCD.trans hcd)
    obtain ⟨pi, hpi, rfl⟩ := hz.1
    have hcl : nOf (nI pi) = pi := nI_clamp (by have := hI.1; have := hI.2.1; have := hI.2.2.1; omega)
    have h16 : pi < 16 := by have := hI.1; omega
    refine lv_aload_n hx hb dX5_value_14 rfl (lv_at hl 0 rfl) ?_
    refine lv_iload_n hx hb dX5_value_15 rfl (lv_at hl 1 rfl) ?_
    refine w_calli (va_runV (As := [.int (nI pi)]) (rest := []) ⟨hx, hb, hml, hown, hts⟩ (c_X5_valueOf l D B ad S h τ (nI (cdPt h.1 (nI pi))) o pi h16) (cwV 1 hts gX5_value_X5_valueOf rfl rfl rfl (by decide +kernel) ⟨Nat.le_of_ble_eq_true rfl, Nat.le_of_ble_eq_true rfl⟩) (w_preV hC hP hS cW_5 rfl) rfl rfl hl.1 rfl (lv_room (Nat.le_of_ble_eq_true rfl)) dX5_value_16 ⟨Nat.le_of_ble_eq_true rfl, Nat.le_of_ble_eq_true rfl⟩) hS (fun r_3 ad1 w1 H locs hq hP hS => ?_)
    obtain ⟨h91, h92⟩ := hq
    cases h91
    subst h92
    refine lv_goto (tgt := 23) hx hb dX5_value_19 (by decide) ?_
    exact W.iret (v := (vaO τ pi)) hx hb hr (fun t ht hW => Qi_of ⟨fun _ => ⟨rfl, by rw [hcl]⟩, fun z => absurd hcd z⟩ hP hS ht) hS.2.2 dX5_value_23
set_option maxHeartbeats 4000000 in
set_option maxRecDepth 100000 in
theorem c_X5_standing (l : Launch) (D : va_G) (B : Nat) (ad : Ad) (S : GC × Me) (h : GC) (τ : Me) (th : Int32) (o : Int64) (hI : Ib h τ)  (x0 : Int32) : Met l yX5_standing wsX5_standing ({ frames := 2, cells := 0, slots := 0, locals := 43 }) (Pre D B ad (cW D ad S (h, τ, th) o) [.ref (ad 5 0), .int x0]) (Qi D B (fun r u => (cdPt h.1 x0 = 0 → u = (ad, cW D ad S (h, τ, nI (cdPt h.1 x0)) o) ∧ r = nI (stO τ (nOf x0))) ∧ (¬ cdPt h.1 x0 = 0 → u = (ad, cW D ad S (h, τ, nI (cdPt h.1 x0)) o)))) 0 0 (ab B) := by
  refine Met.ofW (cc := cX5_standing) (maxL := 2) (ret := (some .int)) (by decide) rfl ?_
  intro p e s m args below meth c s₁ Bd hml hv
  obtain ⟨rfl, hC, hP⟩ := hv
  have hx := Bd.exec
  have hb := Bd.bytes
  have hr := Bd.returns
  have hts := atoms_spec (ws := wsX5_standing) Bd.pre
  have hown : s.vm.findClass RX5 = some m.cls := findClass_of_methodNamed Bd.named
  have hlocks := Bd.notSynchronized
  have hS : va_S (ab B) s.heap s.heap [] := va_S.rf
  have hl := lv_entry ([.ref (ad 5 0), .int x0]) (n := 2) (Nat.le_of_ble_eq_true rfl)
  rw [lg_entry_eq]
  generalize (lg_sl ([.ref (ad 5 0), .int x0]) ++ List.replicate (2 - (lg_sl ([.ref (ad 5 0), .int x0])).length) Slot.unset).toArray = ls at hl ⊢
  have hl : lv_has ls 2 [(0, .ref (ad 5 0)), (1, .int x0)] := hl
  refine lv_aload_n hx hb dX5_standing_0 rfl (lv_at hl 0 rfl) ?_
  refine lv_aload_n hx hb dX5_standing_1 rfl (lv_at hl 0 rfl) ?_
  refine lv_iload_n hx hb dX5_standing_2 rfl (lv_at hl 1 rfl) ?_
  refine w_calli (va_runV (As := [.int x0]) (rest := [.ref (ad 5 0)]) ⟨hx, hb, hml, hown, hts⟩ (c_X5_isPoint l D B ad S h τ th o hI.1 x0) (cwV 1 hts gX5_standing_X5_isPoint rfl rfl rfl (by decide +kernel) ⟨Nat.le_of_ble_eq_true rfl, Nat.le_of_ble_eq_true rfl⟩) (w_preV hC hP hS cW_5 rfl) rfl rfl hl.1 rfl (lv_room (Nat.le_of_ble_eq_true rfl)) dX5_standing_3 ⟨Nat.le_of_ble_eq_true rfl, Nat.le_of_ble_eq_true rfl⟩) hS (fun r_1 ad1 w1 H locs hq hP hS => ?_)
  obtain ⟨h91, h92⟩ := hq
  cases h91
  subst h92
  refine lv_iconst (v := 1) hx hb dX5_standing_6 (by decide) ?_
  refine w_top (v := bI True) (bI_t trivial).symm ?_
  refine lv_iconst (v := 1) hx hb dX5_standing_7 (by decide) ?_
  refine w_top (v := bI True) (bI_t trivial).symm ?_
  refine w_calli (va_runV (As := [.int (bI (isN h.1 x0)), .int (bI True), .int (bI True)]) (rest := []) ⟨hx, hb, hml, hown, hts⟩ (c_X5_goes l D B ad S h τ th o (isN h.1 x0) (True) (True)) (cwV 3 hts gX5_standing_X5_goes rfl rfl rfl (by decide +kernel) ⟨Nat.le_of_ble_eq_true rfl, Nat.le_of_ble_eq_true rfl⟩) (w_preV hC hP hS cW_5 rfl) rfl rfl hl.1 rfl (lv_room (Nat.le_of_ble_eq_true rfl)) dX5_standing_8 ⟨Nat.le_of_ble_eq_true rfl, Nat.le_of_ble_eq_true rfl⟩) hS (fun r_2 ad1 w1 H locs hq hP hS => ?_)
  have hCD : cod3 (isN h.1 x0) (True) (True) = cdPt h.1 x0 := rfl
  obtain ⟨h91, h92⟩ := hq
  cases h91
  rw [hCD] at hP h92
  subst h92
  refine lv_if_eq (tgt := 22) hx hb dX5_standing_11 (by decide) (fun c_11 => ?_) (fun c_11 => ?_)
  · have hcd := bI_0.mp c_11
    refine lv_iconst (v := 0) hx hb dX5_standing_22 (by decide) ?_
    exact W.iret (v := 0) hx hb hr (fun t ht hW => Qi_of ⟨fun z => absurd z hcd, fun _ => rfl⟩ hP hS ht) hS.2.2 dX5_standing_23
  · have hcd := bI_n0 c_11
    have hz := cod3_z (hCD.trans hcd)
    obtain ⟨pi, hpi, rfl⟩ := hz.1
    have hcl : nOf (nI pi) = pi := nI_clamp (by have := hI.1; have := hI.2.1; have := hI.2.2.1; omega)
    have h16 : pi < 16 := by have := hI.1; omega
    refine lv_aload_n hx hb dX5_standing_14 rfl (lv_at hl 0 rfl) ?_
    refine lv_iload_n hx hb dX5_standing_15 rfl (lv_at hl 1 rfl) ?_
    refine w_calli (va_runV (As := [.int (nI pi)]) (rest := []) ⟨hx, hb, hml, hown, hts⟩ (c_X5_standingOf l D B ad S h τ (nI (cdPt h.1 (nI pi))) o pi h16) (cwV 1 hts gX5_standing_X5_standingOf rfl rfl rfl (by decide +kernel) ⟨Nat.le_of_ble_eq_true rfl, Nat.le_of_ble_eq_true rfl⟩) (w_preV hC hP hS cW_5 rfl) rfl rfl hl.1 rfl (lv_room (Nat.le_of_ble_eq_true rfl)) dX5_standing_16 ⟨Nat.le_of_ble_eq_true rfl, Nat.le_of_ble_eq_true rfl⟩) hS (fun r_3 ad1 w1 H locs hq hP hS => ?_)
    obtain ⟨h91, h92⟩ := hq
    cases h91
    subst h92
    refine lv_goto (tgt := 23) hx hb dX5_standing_19 (by decide) ?_
    exact W.iret (v := (nI (stO τ pi))) hx hb hr (fun t ht hW => Qi_of ⟨fun _ => ⟨rfl, by rw [hcl]⟩, fun z => absurd hcd z⟩ hP hS ht) hS.2.2 dX5_standing_23
set_option maxHeartbeats 4000000 in
set_option maxRecDepth 100000 in
theorem c_X5_changes (l : Launch) (D : va_G) (B : Nat) (ad : Ad) (S : GC × Me) (h : GC) (τ : Me) (th : Int32) (o : Int64) (hI : Ib h τ)  (x0 : Int32) : Met l yX5_changes wsX5_changes ({ frames := 2, cells := 0, slots := 0, locals := 43 }) (Pre D B ad (cW D ad S (h, τ, th) o) [.ref (ad 5 0), .int x0]) (Qi D B (fun r u => (cdPt h.1 x0 = 0 → u = (ad, cW D ad S (h, τ, nI (cdPt h.1 x0)) o) ∧ r = τ 5 (nOf x0) 0) ∧ (¬ cdPt h.1 x0 = 0 → u = (ad, cW D ad S (h, τ, nI (cdPt h.1 x0)) o)))) 0 0 (ab B) := by
  refine Met.ofW (cc := cX5_changes) (maxL := 2) (ret := (some .int)) (by decide) rfl ?_
  intro p e s m args below meth c s₁ Bd hml hv
  obtain ⟨rfl, hC, hP⟩ := hv
  have hx := Bd.exec
  have hb := Bd.bytes
  have hr := Bd.returns
  have hts := atoms_spec (ws := wsX5_changes) Bd.pre
  have hown : s.vm.findClass RX5 = some m.cls := findClass_of_methodNamed Bd.named
  have hlocks := Bd.notSynchronized
  have hS : va_S (ab B) s.heap s.heap [] := va_S.rf
  have hl := lv_entry ([.ref (ad 5 0), .int x0]) (n := 2) (Nat.le_of_ble_eq_true rfl)
  rw [lg_entry_eq]
  generalize (lg_sl ([.ref (ad 5 0), .int x0]) ++ List.replicate (2 - (lg_sl ([.ref (ad 5 0), .int x0])).length) Slot.unset).toArray = ls at hl ⊢
  have hl : lv_has ls 2 [(0, .ref (ad 5 0)), (1, .int x0)] := hl
  refine lv_aload_n hx hb dX5_changes_0 rfl (lv_at hl 0 rfl) ?_
  refine lv_aload_n hx hb dX5_changes_1 rfl (lv_at hl 0 rfl) ?_
  refine lv_iload_n hx hb dX5_changes_2 rfl (lv_at hl 1 rfl) ?_
  refine w_calli (va_runV (As := [.int x0]) (rest := [.ref (ad 5 0)]) ⟨hx, hb, hml, hown, hts⟩ (c_X5_isPoint l D B ad S h τ th o hI.1 x0) (cwV 1 hts gX5_changes_X5_isPoint rfl rfl rfl (by decide +kernel) ⟨Nat.le_of_ble_eq_true rfl, Nat.le_of_ble_eq_true rfl⟩) (w_preV hC hP hS cW_5 rfl) rfl rfl hl.1 rfl (lv_room (Nat.le_of_ble_eq_true rfl)) dX5_changes_3 ⟨Nat.le_of_ble_eq_true rfl, Nat.le_of_ble_eq_true rfl⟩) hS (fun r_1 ad1 w1 H locs hq hP hS => ?_)
  obtain ⟨h91, h92⟩ := hq
  cases h91
  subst h92
  refine lv_iconst (v := 1) hx hb dX5_changes_6 (by decide) ?_
  refine w_top (v := bI True) (bI_t trivial).symm ?_
  refine lv_iconst (v := 1) hx hb dX5_changes_7 (by decide) ?_
  refine w_top (v := bI True) (bI_t trivial).symm ?_
  refine w_calli (va_runV (As := [.int (bI (isN h.1 x0)), .int (bI True), .int (bI True)]) (rest := []) ⟨hx, hb, hml, hown, hts⟩ (c_X5_goes l D B ad S h τ th o (isN h.1 x0) (True) (True)) (cwV 3 hts gX5_changes_X5_goes rfl rfl rfl (by decide +kernel) ⟨Nat.le_of_ble_eq_true rfl, Nat.le_of_ble_eq_true rfl⟩) (w_preV hC hP hS cW_5 rfl) rfl rfl hl.1 rfl (lv_room (Nat.le_of_ble_eq_true rfl)) dX5_changes_8 ⟨Nat.le_of_ble_eq_true rfl, Nat.le_of_ble_eq_true rfl⟩) hS (fun r_2 ad1 w1 H locs hq hP hS => ?_)
  have hCD : cod3 (isN h.1 x0) (True) (True) = cdPt h.1 x0 := rfl
  obtain ⟨h91, h92⟩ := hq
  cases h91
  rw [hCD] at hP h92
  subst h92
  refine lv_if_eq (tgt := 23) hx hb dX5_changes_11 (by decide) (fun c_11 => ?_) (fun c_11 => ?_)
  · have hcd := bI_0.mp c_11
    refine lv_iconst (v := 0) hx hb dX5_changes_23 (by decide) ?_
    exact W.iret (v := 0) hx hb hr (fun t ht hW => Qi_of ⟨fun z => absurd z hcd, fun _ => rfl⟩ hP hS ht) hS.2.2 dX5_changes_24
  · have hcd := bI_n0 c_11
    have hz := cod3_z (hCD.trans hcd)
    obtain ⟨pi, hpi, rfl⟩ := hz.1
    have hcl : nOf (nI pi) = pi := nI_clamp (by have := hI.1; have := hI.2.1; have := hI.2.2.1; omega)
    have h16 : pi < 16 := by have := hI.1; omega
    refine lv_aload_n hx hb dX5_changes_14 rfl (lv_at hl 0 rfl) ?_
    refine w_get hx hb hts (by decide +kernel) hown hC hP cW_5 rfl 9 (by decide) (hts (.fieldLink RX5 23 "BuildingPointsModel" "changed" "[I") (by decide +kernel)) rfl dX5_changes_15 ?_
    refine lv_iload_n hx hb dX5_changes_18 rfl (lv_at hl 1 rfl) ?_
    refine w_ildN hx hb hC hP cW_12_4 (by omega) (by decide) (v := τ 5 pi 0) rfl dX5_changes_19 ?_
    refine lv_goto (tgt := 24) hx hb dX5_changes_20 (by decide) ?_
    exact W.iret (v := (τ 5 pi 0)) hx hb hr (fun t ht hW => Qi_of ⟨fun _ => ⟨rfl, by rw [hcl]⟩, fun z => absurd hcd z⟩ hP hS ht) hS.2.2 dX5_changes_24
set_option maxHeartbeats 4000000 in
set_option maxRecDepth 100000 in
theorem c_X5_reports (l : Launch) (D : va_G) (B : Nat) (ad : Ad) (S : GC × Me) (h : GC) (τ : Me) (th : Int32) (o : Int64) (hI : Ib h τ)  (x0 : Int32) : Met l yX5_reports wsX5_reports ({ frames := 2, cells := 0, slots := 0, locals := 43 }) (Pre D B ad (cW D ad S (h, τ, th) o) [.ref (ad 5 0), .int x0]) (Qi D B (fun r u => (cdPt h.2.1 x0 = 0 → u = (ad, cW D ad S (h, τ, nI (cdPt h.2.1 x0)) o) ∧ r = τ 12 (nOf x0) 0) ∧ (¬ cdPt h.2.1 x0 = 0 → u = (ad, cW D ad S (h, τ, nI (cdPt h.2.1 x0)) o)))) 0 0 (ab B) := by
  refine Met.ofW (cc := cX5_reports) (maxL := 2) (ret := (some .int)) (by decide) rfl ?_
  intro p e s m args below meth c s₁ Bd hml hv
  obtain ⟨rfl, hC, hP⟩ := hv
  have hx := Bd.exec
  have hb := Bd.bytes
  have hr := Bd.returns
  have hts := atoms_spec (ws := wsX5_reports) Bd.pre
  have hown : s.vm.findClass RX5 = some m.cls := findClass_of_methodNamed Bd.named
  have hlocks := Bd.notSynchronized
  have hS : va_S (ab B) s.heap s.heap [] := va_S.rf
  have hl := lv_entry ([.ref (ad 5 0), .int x0]) (n := 2) (Nat.le_of_ble_eq_true rfl)
  rw [lg_entry_eq]
  generalize (lg_sl ([.ref (ad 5 0), .int x0]) ++ List.replicate (2 - (lg_sl ([.ref (ad 5 0), .int x0])).length) Slot.unset).toArray = ls at hl ⊢
  have hl : lv_has ls 2 [(0, .ref (ad 5 0)), (1, .int x0)] := hl
  refine lv_aload_n hx hb dX5_reports_0 rfl (lv_at hl 0 rfl) ?_
  refine lv_aload_n hx hb dX5_reports_1 rfl (lv_at hl 0 rfl) ?_
  refine lv_iload_n hx hb dX5_reports_2 rfl (lv_at hl 1 rfl) ?_
  refine w_calli (va_runV (As := [.int x0]) (rest := [.ref (ad 5 0)]) ⟨hx, hb, hml, hown, hts⟩ (c_X5_isSubscription l D B ad S h τ th o hI.2.1 x0) (cwV 1 hts gX5_reports_X5_isSubscription rfl rfl rfl (by decide +kernel) ⟨Nat.le_of_ble_eq_true rfl, Nat.le_of_ble_eq_true rfl⟩) (w_preV hC hP hS cW_5 rfl) rfl rfl hl.1 rfl (lv_room (Nat.le_of_ble_eq_true rfl)) dX5_reports_3 ⟨Nat.le_of_ble_eq_true rfl, Nat.le_of_ble_eq_true rfl⟩) hS (fun r_1 ad1 w1 H locs hq hP hS => ?_)
  obtain ⟨h91, h92⟩ := hq
  cases h91
  subst h92
  refine lv_iconst (v := 1) hx hb dX5_reports_6 (by decide) ?_
  refine w_top (v := bI True) (bI_t trivial).symm ?_
  refine lv_iconst (v := 1) hx hb dX5_reports_7 (by decide) ?_
  refine w_top (v := bI True) (bI_t trivial).symm ?_
  refine w_calli (va_runV (As := [.int (bI (isN h.2.1 x0)), .int (bI True), .int (bI True)]) (rest := []) ⟨hx, hb, hml, hown, hts⟩ (c_X5_goes l D B ad S h τ th o (isN h.2.1 x0) (True) (True)) (cwV 3 hts gX5_reports_X5_goes rfl rfl rfl (by decide +kernel) ⟨Nat.le_of_ble_eq_true rfl, Nat.le_of_ble_eq_true rfl⟩) (w_preV hC hP hS cW_5 rfl) rfl rfl hl.1 rfl (lv_room (Nat.le_of_ble_eq_true rfl)) dX5_reports_8 ⟨Nat.le_of_ble_eq_true rfl, Nat.le_of_ble_eq_true rfl⟩) hS (fun r_2 ad1 w1 H locs hq hP hS => ?_)
  have hCD : cod3 (isN h.2.1 x0) (True) (True) = cdPt h.2.1 x0 := rfl
  obtain ⟨h91, h92⟩ := hq
  cases h91
  rw [hCD] at hP h92
  subst h92
  refine lv_if_eq (tgt := 23) hx hb dX5_reports_11 (by decide) (fun c_11 => ?_) (fun c_11 => ?_)
  · have hcd := bI_0.mp c_11
    refine lv_iconst (v := 0) hx hb dX5_reports_23 (by decide) ?_
    exact W.iret (v := 0) hx hb hr (fun t ht hW => Qi_of ⟨fun z => absurd z hcd, fun _ => rfl⟩ hP hS ht) hS.2.2 dX5_reports_24
  · have hcd := bI_n0 c_11
    have hz := cod3_z (hCD.trans hcd)
    obtain ⟨pi, hpi, rfl⟩ := hz.1
    have hcl : nOf (nI pi) = pi := nI_clamp (by have := hI.1; have := hI.2.1; have := hI.2.2.1; omega)
    have h30 : pi < 30 := by have := hI.2.1; omega
    refine lv_aload_n hx hb dX5_reports_14 rfl (lv_at hl 0 rfl) ?_
    refine w_get hx hb hts (by decide +kernel) hown hC hP cW_5 rfl 15 (by decide) (hts (.fieldLink RX5 41 "BuildingPointsModel" "sent" "[I") (by decide +kernel)) rfl dX5_reports_15 ?_
    refine lv_iload_n hx hb dX5_reports_18 rfl (lv_at hl 1 rfl) ?_
    refine w_ildN hx hb hC hP cW_12_10 (by omega) (by decide) (v := τ 12 pi 0) rfl dX5_reports_19 ?_
    refine lv_goto (tgt := 24) hx hb dX5_reports_20 (by decide) ?_
    exact W.iret (v := (τ 12 pi 0)) hx hb hr (fun t ht hW => Qi_of ⟨fun _ => ⟨rfl, by rw [hcl]⟩, fun z => absurd hcd z⟩ hP hS ht) hS.2.2 dX5_reports_24
set_option maxHeartbeats 4000000 in
set_option maxRecDepth 100000 in
theorem c_X5_reported (l : Launch) (D : va_G) (B : Nat) (ad : Ad) (S : GC × Me) (h : GC) (τ : Me) (th : Int32) (o : Int64) (hI : Ib h τ)  (x0 : Int32) : Met l yX5_reported wsX5_reported ({ frames := 2, cells := 0, slots := 0, locals := 43 }) (Pre D B ad (cW D ad S (h, τ, th) o) [.ref (ad 5 0), .int x0]) (Qi D B (fun r u => (cdPt h.2.1 x0 = 0 → u = (ad, cW D ad S (h, τ, nI (cdPt h.2.1 x0)) o) ∧ r = τ 13 (nOf x0) 0) ∧ (¬ cdPt h.2.1 x0 = 0 → u = (ad, cW D ad S (h, τ, nI (cdPt h.2.1 x0)) o)))) 0 0 (ab B) := by
  refine Met.ofW (cc := cX5_reported) (maxL := 2) (ret := (some .int)) (by decide) rfl ?_
  intro p e s m args below meth c s₁ Bd hml hv
  obtain ⟨rfl, hC, hP⟩ := hv
  have hx := Bd.exec
  have hb := Bd.bytes
  have hr := Bd.returns
  have hts := atoms_spec (ws := wsX5_reported) Bd.pre
  have hown : s.vm.findClass RX5 = some m.cls := findClass_of_methodNamed Bd.named
  have hlocks := Bd.notSynchronized
  have hS : va_S (ab B) s.heap s.heap [] := va_S.rf
  have hl := lv_entry ([.ref (ad 5 0), .int x0]) (n := 2) (Nat.le_of_ble_eq_true rfl)
  rw [lg_entry_eq]
  generalize (lg_sl ([.ref (ad 5 0), .int x0]) ++ List.replicate (2 - (lg_sl ([.ref (ad 5 0), .int x0])).length) Slot.unset).toArray = ls at hl ⊢
  have hl : lv_has ls 2 [(0, .ref (ad 5 0)), (1, .int x0)] := hl
  refine lv_aload_n hx hb dX5_reported_0 rfl (lv_at hl 0 rfl) ?_
  refine lv_aload_n hx hb dX5_reported_1 rfl (lv_at hl 0 rfl) ?_
  refine lv_iload_n hx hb dX5_reported_2 rfl (lv_at hl 1 rfl) ?_
  refine w_calli (va_runV (As := [.int x0]) (rest := [.ref (ad 5 0)]) ⟨hx, hb, hml, hown, hts⟩ (c_X5_isSubscription l D B ad S h τ th o hI.2.1 x0) (cwV 1 hts gX5_reported_X5_isSubscription rfl rfl rfl (by decide +kernel) ⟨Nat.le_of_ble_eq_true rfl, Nat.le_of_ble_eq_true rfl⟩) (w_preV hC hP hS cW_5 rfl) rfl rfl hl.1 rfl (lv_room (Nat.le_of_ble_eq_true rfl)) dX5_reported_3 ⟨Nat.le_of_ble_eq_true rfl, Nat.le_of_ble_eq_true rfl⟩) hS (fun r_1 ad1 w1 H locs hq hP hS => ?_)
  obtain ⟨h91, h92⟩ := hq
  cases h91
  subst h92
  refine lv_iconst (v := 1) hx hb dX5_reported_6 (by decide) ?_
  refine w_top (v := bI True) (bI_t trivial).symm ?_
  refine lv_iconst (v := 1) hx hb dX5_reported_7 (by decide) ?_
  refine w_top (v := bI True) (bI_t trivial).symm ?_
  refine w_calli (va_runV (As := [.int (bI (isN h.2.1 x0)), .int (bI True), .int (bI True)]) (rest := []) ⟨hx, hb, hml, hown, hts⟩ (c_X5_goes l D B ad S h τ th o (isN h.2.1 x0) (True) (True)) (cwV 3 hts gX5_reported_X5_goes rfl rfl rfl (by decide +kernel) ⟨Nat.le_of_ble_eq_true rfl, Nat.le_of_ble_eq_true rfl⟩) (w_preV hC hP hS cW_5 rfl) rfl rfl hl.1 rfl (lv_room (Nat.le_of_ble_eq_true rfl)) dX5_reported_8 ⟨Nat.le_of_ble_eq_true rfl, Nat.le_of_ble_eq_true rfl⟩) hS (fun r_2 ad1 w1 H locs hq hP hS => ?_)
  have hCD : cod3 (isN h.2.1 x0) (True) (True) = cdPt h.2.1 x0 := rfl
  obtain ⟨h91, h92⟩ := hq
  cases h91
  rw [hCD] at hP h92
  subst h92
  refine lv_if_eq (tgt := 23) hx hb dX5_reported_11 (by decide) (fun c_11 => ?_) (fun c_11 => ?_)
  · have hcd := bI_0.mp c_11
    refine lv_iconst (v := 0) hx hb dX5_reported_23 (by decide) ?_
    exact W.iret (v := 0) hx hb hr (fun t ht hW => Qi_of ⟨fun z => absurd z hcd, fun _ => rfl⟩ hP hS ht) hS.2.2 dX5_reported_24
  · have hcd := bI_n0 c_11
    have hz := cod3_z (hCD.trans hcd)
    obtain ⟨pi, hpi, rfl⟩ := hz.1
    have hcl : nOf (nI pi) = pi := nI_clamp (by have := hI.1; have := hI.2.1; have := hI.2.2.1; omega)
    have h30 : pi < 30 := by have := hI.2.1; omega
    refine lv_aload_n hx hb dX5_reported_14 rfl (lv_at hl 0 rfl) ?_
    refine w_get hx hb hts (by decide +kernel) hown hC hP cW_5 rfl 16 (by decide) (hts (.fieldLink RX5 44 "BuildingPointsModel" "kept" "[I") (by decide +kernel)) rfl dX5_reported_15 ?_
    refine lv_iload_n hx hb dX5_reported_18 rfl (lv_at hl 1 rfl) ?_
    refine w_ildN hx hb hC hP cW_12_11 (by omega) (by decide) (v := τ 13 pi 0) rfl dX5_reported_19 ?_
    refine lv_goto (tgt := 24) hx hb dX5_reported_20 (by decide) ?_
    exact W.iret (v := (τ 13 pi 0)) hx hb hr (fun t ht hW => Qi_of ⟨fun _ => ⟨rfl, by rw [hcl]⟩, fun z => absurd hcd z⟩ hP hS ht) hS.2.2 dX5_reported_24
set_option maxHeartbeats 4000000 in
set_option maxRecDepth 100000 in
theorem c_X5_held (l : Launch) (D : va_G) (B : Nat) (ad : Ad) (S : GC × Me) (h : GC) (τ : Me) (th : Int32) (o : Int64) (hI : Ib h τ) (hu : ∀ k, k < h.1 → ∃ u : Nat, τ 4 k 0 = nI u ∧ u ≤ 2000000) (x0 : Int32) : Met l yX5_held wsX5_held ({ frames := 2, cells := 0, slots := 0, locals := 43 }) (Pre D B ad (cW D ad S (h, τ, th) o) [.ref (ad 5 0), .int x0]) (Qi D B (fun r u => (cdPt h.1 x0 = 0 → u = (ad, cW D ad S (h, τ, nI (cdPt h.1 x0)) o) ∧ r = (if τ 4 (nOf x0) 0 = 0 then 0 else τ 4 (nOf x0) 0 - τ 25 0 0)) ∧ (¬ cdPt h.1 x0 = 0 → u = (ad, cW D ad S (h, τ, nI (cdPt h.1 x0)) o)))) 0 0 (ab B) := by
  refine Met.ofW (cc := cX5_held) (maxL := 2) (ret := (some .int)) (by decide) rfl ?_
  intro p e s m args below meth c s₁ Bd hml hv
  obtain ⟨rfl, hC, hP⟩ := hv
  have hx := Bd.exec
  have hb := Bd.bytes
  have hr := Bd.returns
  have hts := atoms_spec (ws := wsX5_held) Bd.pre
  have hown : s.vm.findClass RX5 = some m.cls := findClass_of_methodNamed Bd.named
  have hlocks := Bd.notSynchronized
  have hS : va_S (ab B) s.heap s.heap [] := va_S.rf
  have hl := lv_entry ([.ref (ad 5 0), .int x0]) (n := 2) (Nat.le_of_ble_eq_true rfl)
  rw [lg_entry_eq]
  generalize (lg_sl ([.ref (ad 5 0), .int x0]) ++ List.replicate (2 - (lg_sl ([.ref (ad 5 0), .int x0])).length) Slot.unset).toArray = ls at hl ⊢
  have hl : lv_has ls 2 [(0, .ref (ad 5 0)), (1, .int x0)] := hl
  refine lv_aload_n hx hb dX5_held_0 rfl (lv_at hl 0 rfl) ?_
  refine lv_aload_n hx hb dX5_held_1 rfl (lv_at hl 0 rfl) ?_
  refine lv_iload_n hx hb dX5_held_2 rfl (lv_at hl 1 rfl) ?_
  refine w_calli (va_runV (As := [.int x0]) (rest := [.ref (ad 5 0)]) ⟨hx, hb, hml, hown, hts⟩ (c_X5_isPoint l D B ad S h τ th o hI.1 x0) (cwV 1 hts gX5_held_X5_isPoint rfl rfl rfl (by decide +kernel) ⟨Nat.le_of_ble_eq_true rfl, Nat.le_of_ble_eq_true rfl⟩) (w_preV hC hP hS cW_5 rfl) rfl rfl hl.1 rfl (lv_room (Nat.le_of_ble_eq_true rfl)) dX5_held_3 ⟨Nat.le_of_ble_eq_true rfl, Nat.le_of_ble_eq_true rfl⟩) hS (fun r_1 ad1 w1 H locs hq hP hS => ?_)
  obtain ⟨h91, h92⟩ := hq
  cases h91
  subst h92
  refine lv_iconst (v := 1) hx hb dX5_held_6 (by decide) ?_
  refine w_top (v := bI True) (bI_t trivial).symm ?_
  refine lv_iconst (v := 1) hx hb dX5_held_7 (by decide) ?_
  refine w_top (v := bI True) (bI_t trivial).symm ?_
  refine w_calli (va_runV (As := [.int (bI (isN h.1 x0)), .int (bI True), .int (bI True)]) (rest := []) ⟨hx, hb, hml, hown, hts⟩ (c_X5_goes l D B ad S h τ th o (isN h.1 x0) (True) (True)) (cwV 3 hts gX5_held_X5_goes rfl rfl rfl (by decide +kernel) ⟨Nat.le_of_ble_eq_true rfl, Nat.le_of_ble_eq_true rfl⟩) (w_preV hC hP hS cW_5 rfl) rfl rfl hl.1 rfl (lv_room (Nat.le_of_ble_eq_true rfl)) dX5_held_8 ⟨Nat.le_of_ble_eq_true rfl, Nat.le_of_ble_eq_true rfl⟩) hS (fun r_2 ad1 w1 H locs hq hP hS => ?_)
  have hCD : cod3 (isN h.1 x0) (True) (True) = cdPt h.1 x0 := rfl
  obtain ⟨h91, h92⟩ := hq
  cases h91
  rw [hCD] at hP h92
  subst h92
  refine lv_if_eq (tgt := 37) hx hb dX5_held_11 (by decide) (fun c_11 => ?_) (fun c_11 => ?_)
  · have hcd := bI_0.mp c_11
    refine lv_iconst (v := 0) hx hb dX5_held_37 (by decide) ?_
    exact W.iret (v := 0) hx hb hr (fun t ht hW => Qi_of ⟨fun z => absurd z hcd, fun _ => rfl⟩ hP hS ht) hS.2.2 dX5_held_38
  · have hcd := bI_n0 c_11
    have hz := cod3_z (hCD.trans hcd)
    obtain ⟨pi, hpi, rfl⟩ := hz.1
    have hcl : nOf (nI pi) = pi := nI_clamp (by have := hI.1; have := hI.2.1; have := hI.2.2.1; omega)
    have h16 : pi < 16 := by have := hI.1; omega
    refine lv_aload_n hx hb dX5_held_14 rfl (lv_at hl 0 rfl) ?_
    refine w_get hx hb hts (by decide +kernel) hown hC hP cW_5 rfl 8 (by decide) (hts (.fieldLink RX5 20 "BuildingPointsModel" "until" "[I") (by decide +kernel)) rfl dX5_held_15 ?_
    refine lv_iload_n hx hb dX5_held_18 rfl (lv_at hl 1 rfl) ?_
    refine w_ildN hx hb hC hP cW_12_3 (by omega) (by decide) (v := τ 4 pi 0) rfl dX5_held_19 ?_
    refine lv_if_le (tgt := 37) hx hb dX5_held_20 (by decide) (fun c_20 => ?_) (fun c_20 => ?_)
    · obtain ⟨u, hu1, hu2⟩ := hu pi hpi
      have hu0 : τ 4 pi 0 = 0 := by rw [hu1] at c_20 ⊢; rcases Nat.eq_zero_or_pos u with z | z; rw [z]; rfl; exact absurd c_20 (nI_nle z (by omega))
      refine lv_iconst (v := 0) hx hb dX5_held_37 (by decide) ?_
      exact W.iret (v := 0) hx hb hr (fun t ht hW => Qi_of ⟨fun _ => ⟨rfl, by rw [hcl, if_pos hu0]⟩, fun z => absurd hcd z⟩ hP hS ht) hS.2.2 dX5_held_38
    · refine lv_aload_n hx hb dX5_held_23 rfl (lv_at hl 0 rfl) ?_
      refine w_get hx hb hts (by decide +kernel) hown hC hP cW_5 rfl 8 (by decide) (hts (.fieldLink RX5 20 "BuildingPointsModel" "until" "[I") (by decide +kernel)) rfl dX5_held_24 ?_
      refine lv_iload_n hx hb dX5_held_27 rfl (lv_at hl 1 rfl) ?_
      refine w_ildN hx hb hC hP cW_12_3 (by omega) (by decide) (v := τ 4 pi 0) rfl dX5_held_28 ?_
      refine lv_aload_n hx hb dX5_held_29 rfl (lv_at hl 0 rfl) ?_
      refine w_get hx hb hts (by decide +kernel) hown hC hP cW_5 rfl 0 (by decide) (hts (.fieldLink RX5 101 "BuildingPointsModel" "clock" "I") (by decide +kernel)) rfl dX5_held_30 ?_
      refine lv_isub hx hb dX5_held_33 ?_
      refine lv_goto (tgt := 38) hx hb dX5_held_34 (by decide) ?_
      exact W.iret (v := ((τ 4 pi 0) - (τ 25 0 0))) hx hb hr (fun t ht hW => Qi_of ⟨fun _ => ⟨rfl, by rw [hcl, if_neg (fun z => c_20 (by rw [z]; decide))]⟩, fun z => absurd hcd z⟩ hP hS ht) hS.2.2 dX5_held_38
set_option maxHeartbeats 4000000 in
set_option maxRecDepth 100000 in
theorem c_X5_goesOn (l : Launch) (D : va_G) (B : Nat) (ad : Ad) (S : GC × Me) (h : GC) (τ : Me) (th : Int32) (o : Int64) (hI : Ib h τ)  (x0 : Int32) : Met l yX5_goesOn wsX5_goesOn ({ frames := 2, cells := 0, slots := 0, locals := 43 }) (Pre D B ad (cW D ad S (h, τ, th) o) [.ref (ad 5 0), .int x0]) (Qi D B (fun r u => (cdPt h.2.1 x0 = 0 → u = (ad, cW D ad S (h, τ, nI (cdPt h.2.1 x0)) o) ∧ r = 1 - τ 11 (nOf x0) 0) ∧ (¬ cdPt h.2.1 x0 = 0 → u = (ad, cW D ad S (h, τ, nI (cdPt h.2.1 x0)) o)))) 0 0 (ab B) := by
  refine Met.ofW (cc := cX5_goesOn) (maxL := 2) (ret := (some .boolean)) (by decide) rfl ?_
  intro p e s m args below meth c s₁ Bd hml hv
  obtain ⟨rfl, hC, hP⟩ := hv
  have hx := Bd.exec
  have hb := Bd.bytes
  have hr := Bd.returns
  have hts := atoms_spec (ws := wsX5_goesOn) Bd.pre
  have hown : s.vm.findClass RX5 = some m.cls := findClass_of_methodNamed Bd.named
  have hlocks := Bd.notSynchronized
  have hS : va_S (ab B) s.heap s.heap [] := va_S.rf
  have hl := lv_entry ([.ref (ad 5 0), .int x0]) (n := 2) (Nat.le_of_ble_eq_true rfl)
  rw [lg_entry_eq]
  generalize (lg_sl ([.ref (ad 5 0), .int x0]) ++ List.replicate (2 - (lg_sl ([.ref (ad 5 0), .int x0])).length) Slot.unset).toArray = ls at hl ⊢
  have hl : lv_has ls 2 [(0, .ref (ad 5 0)), (1, .int x0)] := hl
  refine lv_aload_n hx hb dX5_goesOn_0 rfl (lv_at hl 0 rfl) ?_
  refine lv_aload_n hx hb dX5_goesOn_1 rfl (lv_at hl 0 rfl) ?_
  refine lv_iload_n hx hb dX5_goesOn_2 rfl (lv_at hl 1 rfl) ?_
  refine w_calli (va_runV (As := [.int x0]) (rest := [.ref (ad 5 0)]) ⟨hx, hb, hml, hown, hts⟩ (c_X5_isSubscription l D B ad S h τ th o hI.2.1 x0) (cwV 1 hts gX5_goesOn_X5_isSubscription rfl rfl rfl (by decide +kernel) ⟨Nat.le_of_ble_eq_true rfl, Nat.le_of_ble_eq_true rfl⟩) (w_preV hC hP hS cW_5 rfl) rfl rfl hl.1 rfl (lv_room (Nat.le_of_ble_eq_true rfl)) dX5_goesOn_3 ⟨Nat.le_of_ble_eq_true rfl, Nat.le_of_ble_eq_true rfl⟩) hS (fun r_1 ad1 w1 H locs hq hP hS => ?_)
  obtain ⟨h91, h92⟩ := hq
  cases h91
  subst h92
  refine lv_iconst (v := 1) hx hb dX5_goesOn_6 (by decide) ?_
  refine w_top (v := bI True) (bI_t trivial).symm ?_
  refine lv_iconst (v := 1) hx hb dX5_goesOn_7 (by decide) ?_
  refine w_top (v := bI True) (bI_t trivial).symm ?_
  refine w_calli (va_runV (As := [.int (bI (isN h.2.1 x0)), .int (bI True), .int (bI True)]) (rest := []) ⟨hx, hb, hml, hown, hts⟩ (c_X5_goes l D B ad S h τ th o (isN h.2.1 x0) (True) (True)) (cwV 3 hts gX5_goesOn_X5_goes rfl rfl rfl (by decide +kernel) ⟨Nat.le_of_ble_eq_true rfl, Nat.le_of_ble_eq_true rfl⟩) (w_preV hC hP hS cW_5 rfl) rfl rfl hl.1 rfl (lv_room (Nat.le_of_ble_eq_true rfl)) dX5_goesOn_8 ⟨Nat.le_of_ble_eq_true rfl, Nat.le_of_ble_eq_true rfl⟩) hS (fun r_2 ad1 w1 H locs hq hP hS => ?_)
  have hCD : cod3 (isN h.2.1 x0) (True) (True) = cdPt h.2.1 x0 := rfl
  obtain ⟨h91, h92⟩ := hq
  cases h91
  rw [hCD] at hP h92
  subst h92
  refine lv_if_eq (tgt := 27) hx hb dX5_goesOn_11 (by decide) (fun c_11 => ?_) (fun c_11 => ?_)
  · have hcd := bI_0.mp c_11
    refine lv_iconst (v := 0) hx hb dX5_goesOn_27 (by decide) ?_
    exact W.zret (v := 0) hx hb hr rfl (fun t ht hW => Qi_of ⟨fun z => absurd z hcd, fun _ => rfl⟩ hP hS ht) hS.2.2 dX5_goesOn_28
  · have hcd := bI_n0 c_11
    have hz := cod3_z (hCD.trans hcd)
    obtain ⟨pi, hpi, rfl⟩ := hz.1
    have hcl : nOf (nI pi) = pi := nI_clamp (by have := hI.1; have := hI.2.1; have := hI.2.2.1; omega)
    have h30 : pi < 30 := by have := hI.2.1; omega
    refine lv_aload_n hx hb dX5_goesOn_14 rfl (lv_at hl 0 rfl) ?_
    refine w_get hx hb hts (by decide +kernel) hown hC hP cW_5 rfl 14 (by decide) (hts (.fieldLink RX5 38 "BuildingPointsModel" "ended" "[Z") (by decide +kernel)) rfl dX5_goesOn_15 ?_
    refine lv_iload_n hx hb dX5_goesOn_18 rfl (lv_at hl 1 rfl) ?_
    refine w_zldN hx hb hC hP cW_12_9 (by omega) (by decide) (v := τ 11 pi 0) rfl dX5_goesOn_19 ?_
    refine lv_if_ne (tgt := 27) hx hb dX5_goesOn_20 (by decide) (fun c_20 => ?_) (fun c_20 => ?_)
    · refine lv_iconst (v := 0) hx hb dX5_goesOn_27 (by decide) ?_
      exact W.zret (v := 0) hx hb hr rfl (fun t ht hW => Qi_of ⟨fun _ => ⟨rfl, by rw [hcl]; rw [(hI.2.2.2.2.1 pi hpi).1.resolve_left c_20]; decide⟩, fun z => absurd hcd z⟩ hP hS ht) hS.2.2 dX5_goesOn_28
    · refine lv_iconst (v := 1) hx hb dX5_goesOn_23 (by decide) ?_
      refine lv_goto (tgt := 28) hx hb dX5_goesOn_24 (by decide) ?_
      exact W.zret (v := 1) hx hb hr rfl (fun t ht hW => Qi_of ⟨fun _ => ⟨rfl, by rw [hcl]; rw [c_20]; decide⟩, fun z => absurd hcd z⟩ hP hS ht) hS.2.2 dX5_goesOn_28
set_option maxHeartbeats 4000000 in
set_option maxRecDepth 100000 in
theorem c_X5_command (l : Launch) (D : va_G) (B : Nat) (ad : Ad) (S : GC × Me) (h : GC) (τ : Me) (th : Int32) (o : Int64) (hI : Ib h τ)  (x0 : Int32) (x1 : Int32) : Met l yX5_command wsX5_command ({ frames := 2, cells := 0, slots := 0, locals := 43 }) (Pre D B ad (cW D ad S (h, τ, th) o) [.ref (ad 5 0), .int x0, .int x1]) (Qi D B (fun r u => (cdCom h x0 x1 = 0 → u = (ad, cW D ad S (h, τ, nI (cdCom h x0 x1)) o) ∧ r = τ 6 (nOf x0) (nOf x1)) ∧ (¬ cdCom h x0 x1 = 0 → u = (ad, cW D ad S (h, τ, nI (cdCom h x0 x1)) o)))) 0 0 (ab B) := by
  refine Met.ofW (cc := cX5_command) (maxL := 3) (ret := (some .int)) (by decide) rfl ?_
  intro p e s m args below meth c s₁ Bd hml hv
  obtain ⟨rfl, hC, hP⟩ := hv
  have hx := Bd.exec
  have hb := Bd.bytes
  have hr := Bd.returns
  have hts := atoms_spec (ws := wsX5_command) Bd.pre
  have hown : s.vm.findClass RX5 = some m.cls := findClass_of_methodNamed Bd.named
  have hlocks := Bd.notSynchronized
  have hS : va_S (ab B) s.heap s.heap [] := va_S.rf
  have hl := lv_entry ([.ref (ad 5 0), .int x0, .int x1]) (n := 3) (Nat.le_of_ble_eq_true rfl)
  rw [lg_entry_eq]
  generalize (lg_sl ([.ref (ad 5 0), .int x0, .int x1]) ++ List.replicate (3 - (lg_sl ([.ref (ad 5 0), .int x0, .int x1])).length) Slot.unset).toArray = ls at hl ⊢
  have hl : lv_has ls 3 [(0, .ref (ad 5 0)), (1, .int x0), (2, .int x1)] := hl
  refine lv_aload_n hx hb dX5_command_0 rfl (lv_at hl 0 rfl) ?_
  refine lv_aload_n hx hb dX5_command_1 rfl (lv_at hl 0 rfl) ?_
  refine lv_iload_n hx hb dX5_command_2 rfl (lv_at hl 1 rfl) ?_
  refine w_calli (va_runV (As := [.int x0]) (rest := [.ref (ad 5 0)]) ⟨hx, hb, hml, hown, hts⟩ (c_X5_isPoint l D B ad S h τ th o hI.1 x0) (cwV 1 hts gX5_command_X5_isPoint rfl rfl rfl (by decide +kernel) ⟨Nat.le_of_ble_eq_true rfl, Nat.le_of_ble_eq_true rfl⟩) (w_preV hC hP hS cW_5 rfl) rfl rfl hl.1 rfl (lv_room (Nat.le_of_ble_eq_true rfl)) dX5_command_3 ⟨Nat.le_of_ble_eq_true rfl, Nat.le_of_ble_eq_true rfl⟩) hS (fun r_1 ad1 w1 H locs hq hP hS => ?_)
  obtain ⟨h91, h92⟩ := hq
  cases h91
  subst h92
  refine lv_iload_n hx hb dX5_command_6 rfl (lv_at hl 2 rfl) ?_
  refine lv_iconst (v := 1) hx hb dX5_command_7 (by decide) ?_
  refine lv_bipush (v := (16)) hx hb dX5_command_8 (by decide) ?_
  refine w_calli (va_runS (As := [.int x1, .int 1, .int 16]) (rest := [.int (bI (isN h.1 x0)), .ref (ad 5 0)]) ⟨hx, hb, hml, hown, hts⟩ (c_X5_in l D B ad (cW D ad S (h, τ, th) o) x1 1 16) (va_cwS 3 hts gX5_command_X5_in rfl rfl rfl (by decide +kernel) ⟨Nat.le_of_ble_eq_true rfl, Nat.le_of_ble_eq_true rfl⟩) (w_preS hC hP hS) rfl rfl hl.1 rfl (lv_room (Nat.le_of_ble_eq_true rfl)) dX5_command_10 ⟨Nat.le_of_ble_eq_true rfl, Nat.le_of_ble_eq_true rfl⟩) hS (fun r_2 ad1 w1 H locs hq hP hS => ?_)
  obtain ⟨h91, h92⟩ := hq
  cases h91
  subst h92
  refine lv_iconst (v := 1) hx hb dX5_command_13 (by decide) ?_
  refine w_top (v := bI True) (bI_t trivial).symm ?_
  refine w_calli (va_runV (As := [.int (bI (isN h.1 x0)), .int (bI (bt x1 1 16)), .int (bI True)]) (rest := []) ⟨hx, hb, hml, hown, hts⟩ (c_X5_goes l D B ad S h τ th o (isN h.1 x0) (bt x1 1 16) (True)) (cwV 3 hts gX5_command_X5_goes rfl rfl rfl (by decide +kernel) ⟨Nat.le_of_ble_eq_true rfl, Nat.le_of_ble_eq_true rfl⟩) (w_preV hC hP hS cW_5 rfl) rfl rfl hl.1 rfl (lv_room (Nat.le_of_ble_eq_true rfl)) dX5_command_14 ⟨Nat.le_of_ble_eq_true rfl, Nat.le_of_ble_eq_true rfl⟩) hS (fun r_3 ad1 w1 H locs hq hP hS => ?_)
  have hCD : cod3 (isN h.1 x0) (bt x1 1 16) (True) = cdCom h x0 x1 := rfl
  obtain ⟨h91, h92⟩ := hq
  cases h91
  rw [hCD] at hP h92
  subst h92
  refine lv_if_eq (tgt := 36) hx hb dX5_command_17 (by decide) (fun c_17 => ?_) (fun c_17 => ?_)
  · have hcd := bI_0.mp c_17
    refine lv_iconst (v := 0) hx hb dX5_command_36 (by decide) ?_
    exact W.iret (v := 0) hx hb hr (fun t ht hW => Qi_of ⟨fun z => absurd z hcd, fun _ => rfl⟩ hP hS ht) hS.2.2 dX5_command_37
  · have hcd := bI_n0 c_17
    have hz := cod3_z (hCD.trans hcd)
    obtain ⟨pi, hpi, rfl⟩ := hz.1
    have hcl : nOf (nI pi) = pi := nI_clamp (by have := hI.1; have := hI.2.1; have := hI.2.2.1; omega)
    have h16 : pi < 16 := by have := hI.1; omega
    obtain ⟨pj, rfl, pjl, pjh⟩ := bt_nat (lo := 1) (hi := 16) (by decide) (by decide) (by decide) hz.2.1
    refine lv_aload_n hx hb dX5_command_20 rfl (lv_at hl 0 rfl) ?_
    refine w_get hx hb hts (by decide +kernel) hown hC hP cW_5 rfl 10 (by decide) (hts (.fieldLink RX5 26 "BuildingPointsModel" "commands" "[I") (by decide +kernel)) rfl dX5_command_21 ?_
    refine lv_bipush (v := (16)) hx hb dX5_command_24 (by decide) ?_
    refine lv_iload_n hx hb dX5_command_26 rfl (lv_at hl 1 rfl) ?_
    refine lv_imul hx hb dX5_command_27 ?_
    refine w_top (v := nI (16 * pi)) (pk_mul 16 pi) ?_
    refine lv_iload_n hx hb dX5_command_28 rfl (lv_at hl 2 rfl) ?_
    refine lv_iadd hx hb dX5_command_29 ?_
    refine w_top (v := nI (16 * pi + pj)) (nI_add (16 * pi) pj) ?_
    refine lv_iconst (v := 1) hx hb dX5_command_30 (by decide) ?_
    refine lv_isub hx hb dX5_command_31 ?_
    refine w_top (v := nI (16 * pi + pj - 1)) (pk_sub (a := 16 * pi + pj) (b := 1) (by omega)) ?_
    refine w_ildN hx hb hC hP cW_12_5 (by omega) (by decide) (v := τ 6 pi pj) (by show τ 6 _ _ = _; rw [show (16 * pi + pj - 1) / 16 = pi by omega, show (16 * pi + pj - 1) % 16 + 1 = pj by omega]) dX5_command_32 ?_
    refine lv_goto (tgt := 37) hx hb dX5_command_33 (by decide) ?_
    exact W.iret (v := (τ 6 pi pj)) hx hb hr (fun t ht hW => Qi_of ⟨fun _ => ⟨rfl, by rw [hcl, show nOf (nI pj) = pj from nI_clamp (by omega)]⟩, fun z => absurd hcd z⟩ hP hS ht) hS.2.2 dX5_command_37
set_option maxHeartbeats 4000000 in
set_option maxRecDepth 100000 in
theorem c_X5_write (l : Launch) (D : va_G) (B : Nat) (ad : Ad) (S : GC × Me) (h : GC) (τ : Me) (th : Int32) (o : Int64) (hI : Ib h τ)  (x0 : Int32) (x1 : Int32) (x2 : Int32) : Met l yX5_write wsX5_write ({ frames := 3, cells := 0, slots := 0, locals := 70 }) (Pre D B ad (cW D ad S (h, τ, th) o) [.ref (ad 5 0), .int x0, .int x1, .int x2]) (Qi D B (fun r u => (cdWri h τ x0 x1 x2 = 0 → u = (ad, cW D ad S (h, setF h.2.1 (nOf x0) (nOf x1) x2 τ, nI (cdWri h τ x0 x1 x2)) o) ∧ r = vaO (setF h.2.1 (nOf x0) (nOf x1) x2 τ) (nOf x0)) ∧ (¬ cdWri h τ x0 x1 x2 = 0 → u = (ad, cW D ad S (h, τ, nI (cdWri h τ x0 x1 x2)) o)))) 0 0 (ab B) := by
  refine Met.ofW (cc := cX5_write) (maxL := 6) (ret := (some .int)) (by decide) rfl ?_
  intro p e s m args below meth c s₁ Bd hml hv
  obtain ⟨rfl, hC, hP⟩ := hv
  have hx := Bd.exec
  have hb := Bd.bytes
  have hr := Bd.returns
  have hts := atoms_spec (ws := wsX5_write) Bd.pre
  have hown : s.vm.findClass RX5 = some m.cls := findClass_of_methodNamed Bd.named
  have hlocks := Bd.notSynchronized
  have hS : va_S (ab B) s.heap s.heap [] := va_S.rf
  have hl := lv_entry ([.ref (ad 5 0), .int x0, .int x1, .int x2]) (n := 6) (Nat.le_of_ble_eq_true rfl)
  rw [lg_entry_eq]
  generalize (lg_sl ([.ref (ad 5 0), .int x0, .int x1, .int x2]) ++ List.replicate (6 - (lg_sl ([.ref (ad 5 0), .int x0, .int x1, .int x2])).length) Slot.unset).toArray = ls at hl ⊢
  have hl : lv_has ls 6 [(0, .ref (ad 5 0)), (1, .int x0), (2, .int x1), (3, .int x2)] := hl
  refine lv_aload_n hx hb dX5_write_0 rfl (lv_at hl 0 rfl) ?_
  refine lv_iload_n hx hb dX5_write_1 rfl (lv_at hl 1 rfl) ?_
  refine w_calli (va_runV (As := [.int x0]) (rest := []) ⟨hx, hb, hml, hown, hts⟩ (c_X5_isPoint l D B ad S h τ th o hI.1 x0) (cwV 1 hts gX5_write_X5_isPoint rfl rfl rfl (by decide +kernel) ⟨Nat.le_of_ble_eq_true rfl, Nat.le_of_ble_eq_true rfl⟩) (w_preV hC hP hS cW_5 rfl) rfl rfl hl.1 rfl (lv_room (Nat.le_of_ble_eq_true rfl)) dX5_write_2 ⟨Nat.le_of_ble_eq_true rfl, Nat.le_of_ble_eq_true rfl⟩) hS (fun r_1 ad1 w1 H locs hq hP hS => ?_)
  obtain ⟨h91, h92⟩ := hq
  cases h91
  subst h92
  refine lv_istore (lv' := [(4, .int (bI (isN h.1 x0))), (0, .ref (ad 5 0)), (1, .int x0), (2, .int x1), (3, .int x2)]) hx hb dX5_write_5 hl (by decide) rfl (fun ls hl => ?_)
  refine w_join (D := D) (B := B) (ad := ad) (w := cW D ad S (h, τ, th) o) (H0 := s.heap) (pcJ := 36) (ls := ls) (rest := []) (bI (isN h.1 x0 ∧ (bt x1 1 16 ∧ okV τ (nOf x0) x2))) (fun H locs hP hS => ?_) (fun hJ => ?_) hP hS
  · refine lv_istore (lv' := [(5, .int (bI (isN h.1 x0 ∧ (bt x1 1 16 ∧ okV τ (nOf x0) x2)))), (4, .int (bI (isN h.1 x0))), (0, .ref (ad 5 0)), (1, .int x0), (2, .int x1), (3, .int x2)]) hx hb dX5_write_36 hl (by decide) rfl (fun ls hl => ?_)
    refine lv_aload_n hx hb dX5_write_38 rfl (lv_at hl 2 rfl) ?_
    refine lv_iload hx hb dX5_write_39 (lv_at hl 1 rfl) ?_
    refine lv_iload hx hb dX5_write_41 (lv_at hl 0 rfl) ?_
    refine w_join (D := D) (B := B) (ad := ad) (w := cW D ad S (h, τ, th) o) (H0 := s.heap) (pcJ := 68) (ls := ls) (rest := [.int (bI (isN h.1 x0 ∧ (bt x1 1 16 ∧ okV τ (nOf x0) x2))), .int (bI (isN h.1 x0)), .ref (ad 5 0)]) (bI ((isN h.1 x0 ∧ (bt x1 1 16 ∧ okV τ (nOf x0) x2)) ∧ (x1 = 6 → τ 4 (nOf x0) 0 = 0))) (fun H locs hP hS => ?_) (fun hJ => ?_) hP hS
    · refine w_calli (va_runV (As := [.int (bI (isN h.1 x0)), .int (bI (isN h.1 x0 ∧ (bt x1 1 16 ∧ okV τ (nOf x0) x2))), .int (bI ((isN h.1 x0 ∧ (bt x1 1 16 ∧ okV τ (nOf x0) x2)) ∧ (x1 = 6 → τ 4 (nOf x0) 0 = 0)))]) (rest := []) ⟨hx, hb, hml, hown, hts⟩ (c_X5_goes l D B ad S h τ th o (isN h.1 x0) (isN h.1 x0 ∧ (bt x1 1 16 ∧ okV τ (nOf x0) x2)) ((isN h.1 x0 ∧ (bt x1 1 16 ∧ okV τ (nOf x0) x2)) ∧ (x1 = 6 → τ 4 (nOf x0) 0 = 0))) (cwV 3 hts gX5_write_X5_goes rfl rfl rfl (by decide +kernel) ⟨Nat.le_of_ble_eq_true rfl, Nat.le_of_ble_eq_true rfl⟩) (w_preV hC hP hS cW_5 rfl) rfl rfl hl.1 rfl (lv_room (Nat.le_of_ble_eq_true rfl)) dX5_write_68 ⟨Nat.le_of_ble_eq_true rfl, Nat.le_of_ble_eq_true rfl⟩) hS (fun r_2 ad1 w1 H locs hq hP hS => ?_)
      have hCD : cod3 (isN h.1 x0) (isN h.1 x0 ∧ (bt x1 1 16 ∧ okV τ (nOf x0) x2)) ((isN h.1 x0 ∧ (bt x1 1 16 ∧ okV τ (nOf x0) x2)) ∧ (x1 = 6 → τ 4 (nOf x0) 0 = 0)) = cdWri h τ x0 x1 x2 := (by unfold cdWri; exact cod3_eq Iff.rfl (fun z => ⟨fun y => y.2, fun y => ⟨z, y⟩⟩) (fun _ z => ⟨fun y => y.2, fun y => ⟨z, y⟩⟩))
      obtain ⟨h91, h92⟩ := hq
      cases h91
      rw [hCD] at hP h92
      subst h92
      refine lv_if_ne (tgt := 76) hx hb dX5_write_71 (by decide) (fun c_71 => ?_) (fun c_71 => ?_)
      · have hcd := bI_n0 c_71
        have hz := cod3_z (hCD.trans hcd)
        obtain ⟨⟨pi, hpi, rfl⟩, ⟨-, hz1, hz2⟩, -⟩ := hz
        obtain ⟨pj, rfl, pjl, pjh⟩ := bt_nat (lo := 1) (hi := 16) (by decide) (by decide) (by decide) hz1
        have hcl : nOf (nI pi) = pi := nI_clamp (by have := hI.1; omega)
        have h16 : pi < 16 := by have := hI.1; omega
        have hcj : nOf (nI pj) = pj := nI_clamp (by omega)
        refine lv_aload_n hx hb dX5_write_76 rfl (lv_at hl 2 rfl) ?_
        refine lv_iload_n hx hb dX5_write_77 rfl (lv_at hl 3 rfl) ?_
        refine lv_iload_n hx hb dX5_write_78 rfl (lv_at hl 4 rfl) ?_
        refine lv_iload_n hx hb dX5_write_79 rfl (lv_at hl 5 rfl) ?_
        refine w_callv (va_runV (As := [.int (nI pi), .int (nI pj), .int x2]) (rest := []) ⟨hx, hb, hml, hown, hts⟩ (c_X5_sets l D B ad S h τ (nI (cdWri h τ (nI pi) (nI pj) x2)) o pi pj h16 pjl pjh x2 hI.2.1) (cwV 3 hts gX5_write_X5_sets rfl rfl rfl (by decide +kernel) ⟨Nat.le_of_ble_eq_true rfl, Nat.le_of_ble_eq_true rfl⟩) (w_preV hC hP hS cW_5 rfl) rfl rfl hl.1 rfl (lv_room (Nat.le_of_ble_eq_true rfl)) dX5_write_80 ⟨Nat.le_of_ble_eq_true rfl, Nat.le_of_ble_eq_true rfl⟩) hS (fun ad1 w1 H locs hq hP hS => ?_)
        cases hq
        refine lv_aload_n hx hb dX5_write_83 rfl (lv_at hl 2 rfl) ?_
        refine lv_iload_n hx hb dX5_write_84 rfl (lv_at hl 3 rfl) ?_
        refine w_calli (va_runV (As := [.int (nI pi)]) (rest := []) ⟨hx, hb, hml, hown, hts⟩ (c_X5_valueOf l D B ad S h (setF h.2.1 pi pj x2 τ) (nI (cdWri h τ (nI pi) (nI pj) x2)) o pi h16) (cwV 1 hts gX5_write_X5_valueOf rfl rfl rfl (by decide +kernel) ⟨Nat.le_of_ble_eq_true rfl, Nat.le_of_ble_eq_true rfl⟩) (w_preV hC hP hS cW_5 rfl) rfl rfl hl.1 rfl (lv_room (Nat.le_of_ble_eq_true rfl)) dX5_write_85 ⟨Nat.le_of_ble_eq_true rfl, Nat.le_of_ble_eq_true rfl⟩) hS (fun r_4 ad1 w1 H locs hq hP hS => ?_)
        obtain ⟨h91, h92⟩ := hq
        cases h91
        subst h92
        exact W.iret (v := (vaO (setF h.2.1 pi pj x2 τ) pi)) hx hb hr (fun t ht hW => Qi_of ⟨fun _ => ⟨by rw [hcl, hcj], by rw [hcl, hcj]⟩, fun z => absurd hcd z⟩ hP hS ht) hS.2.2 dX5_write_88
      · have hcd := bI_0.mp c_71
        refine lv_iconst (v := 0) hx hb dX5_write_74 (by decide) ?_
        exact W.iret (v := 0) hx hb hr (fun t ht hW => Qi_of ⟨fun z => absurd z hcd, fun _ => rfl⟩ hP hS ht) hS.2.2 dX5_write_75
    · refine lv_iload hx hb dX5_write_43 (lv_at hl 0 rfl) ?_
      refine lv_if_eq (tgt := 67) hx hb dX5_write_45 (by decide) (fun c_45 => ?_) (fun c_45 => ?_)
      · refine lv_iconst (v := 0) hx hb dX5_write_67 (by decide) ?_
        exact hJ _ _ _ (bI_f (fun z => bI_0.mp c_45 z.1)).symm hP hS
      · have hp2 := bI_n0 c_45
        obtain ⟨⟨pi, hpi, rfl⟩, hp3⟩ := hp2
        have hcl : nOf (nI pi) = pi := nI_clamp (by have := hI.1; omega)
        have h16 : pi < 16 := by have := hI.1; omega
        refine lv_iload_n hx hb dX5_write_48 rfl (lv_at hl 4 rfl) ?_
        refine lv_bipush (v := (6)) hx hb dX5_write_49 (by decide) ?_
        refine lv_icmp_ne (tgt := 63) hx hb dX5_write_51 (by decide) (fun c_51 => ?_) (fun c_51 => ?_)
        · refine lv_iconst (v := 1) hx hb dX5_write_63 (by decide) ?_
          refine lv_goto (tgt := 68) hx hb dX5_write_64 (by decide) ?_
          exact hJ _ _ _ (bI_t ⟨⟨⟨pi, hpi, rfl⟩, hp3⟩, fun z => absurd z c_51⟩).symm hP hS
        · refine lv_aload_n hx hb dX5_write_54 rfl (lv_at hl 2 rfl) ?_
          refine w_get hx hb hts (by decide +kernel) hown hC hP cW_5 rfl 8 (by decide) (hts (.fieldLink RX5 20 "BuildingPointsModel" "until" "[I") (by decide +kernel)) rfl dX5_write_55 ?_
          refine lv_iload_n hx hb dX5_write_58 rfl (lv_at hl 3 rfl) ?_
          refine w_ildN hx hb hC hP cW_12_3 (by omega) (by decide) (v := τ 4 pi 0) rfl dX5_write_59 ?_
          refine lv_if_ne (tgt := 67) hx hb dX5_write_60 (by decide) (fun c_60 => ?_) (fun c_60 => ?_)
          · refine lv_iconst (v := 0) hx hb dX5_write_67 (by decide) ?_
            exact hJ _ _ _ (bI_f (fun z => c_60 (by have := z.2 c_51; rw [hcl] at this; exact this))).symm hP hS
          · refine lv_iconst (v := 1) hx hb dX5_write_63 (by decide) ?_
            refine lv_goto (tgt := 68) hx hb dX5_write_64 (by decide) ?_
            exact hJ _ _ _ (bI_t ⟨⟨⟨pi, hpi, rfl⟩, hp3⟩, fun _ => by rw [hcl]; exact c_60⟩).symm hP hS
  · refine lv_iload hx hb dX5_write_7 (lv_at hl 0 rfl) ?_
    refine lv_if_eq (tgt := 35) hx hb dX5_write_9 (by decide) (fun c_9 => ?_) (fun c_9 => ?_)
    · refine lv_iconst (v := 0) hx hb dX5_write_35 (by decide) ?_
      exact hJ _ _ _ (bI_f (fun z => bI_0.mp c_9 z.1)).symm hP hS
    · obtain ⟨pi, hpi, rfl⟩ := bI_n0 c_9
      have hcl : nOf (nI pi) = pi := nI_clamp (by have := hI.1; omega)
      have h16 : pi < 16 := by have := hI.1; omega
      refine lv_iload_n hx hb dX5_write_12 rfl (lv_at hl 3 rfl) ?_
      refine lv_iconst (v := 1) hx hb dX5_write_13 (by decide) ?_
      refine lv_bipush (v := (16)) hx hb dX5_write_14 (by decide) ?_
      refine w_calli (va_runS (As := [.int x1, .int 1, .int 16]) (rest := []) ⟨hx, hb, hml, hown, hts⟩ (c_X5_in l D B ad (cW D ad S (h, τ, th) o) x1 1 16) (va_cwS 3 hts gX5_write_X5_in rfl rfl rfl (by decide +kernel) ⟨Nat.le_of_ble_eq_true rfl, Nat.le_of_ble_eq_true rfl⟩) (w_preS hC hP hS) rfl rfl hl.1 rfl (lv_room (Nat.le_of_ble_eq_true rfl)) dX5_write_16 ⟨Nat.le_of_ble_eq_true rfl, Nat.le_of_ble_eq_true rfl⟩) hS (fun r_5 ad1 w1 H locs hq hP hS => ?_)
      obtain ⟨h91, h92⟩ := hq
      cases h91
      subst h92
      refine lv_if_eq (tgt := 35) hx hb dX5_write_19 (by decide) (fun c_19 => ?_) (fun c_19 => ?_)
      · refine lv_iconst (v := 0) hx hb dX5_write_35 (by decide) ?_
        exact hJ _ _ _ (bI_f (fun z => bI_0.mp c_19 z.2.1)).symm hP hS
      · refine lv_aload_n hx hb dX5_write_22 rfl (lv_at hl 1 rfl) ?_
        refine lv_iload_n hx hb dX5_write_23 rfl (lv_at hl 2 rfl) ?_
        refine lv_iload_n hx hb dX5_write_24 rfl (lv_at hl 4 rfl) ?_
        refine w_calli (va_runV (As := [.int (nI pi), .int x2]) (rest := []) ⟨hx, hb, hml, hown, hts⟩ (c_X5_canHave l D B ad S h τ th o pi h16 x2 (hI.2.2.2.1 pi hpi).1) (cwV 2 hts gX5_write_X5_canHave rfl rfl rfl (by decide +kernel) ⟨Nat.le_of_ble_eq_true rfl, Nat.le_of_ble_eq_true rfl⟩) (w_preV hC hP hS cW_5 rfl) rfl rfl hl.1 rfl (lv_room (Nat.le_of_ble_eq_true rfl)) dX5_write_25 ⟨Nat.le_of_ble_eq_true rfl, Nat.le_of_ble_eq_true rfl⟩) hS (fun r_6 ad1 w1 H locs hq hP hS => ?_)
        obtain ⟨h91, h92⟩ := hq
        cases h91
        subst h92
        refine lv_if_eq (tgt := 35) hx hb dX5_write_28 (by decide) (fun c_28 => ?_) (fun c_28 => ?_)
        · refine lv_iconst (v := 0) hx hb dX5_write_35 (by decide) ?_
          exact hJ _ _ _ (bI_f (fun z => bI_0.mp c_28 (by rw [hcl] at z; exact z.2.2))).symm hP hS
        · refine lv_iconst (v := 1) hx hb dX5_write_31 (by decide) ?_
          refine lv_goto (tgt := 36) hx hb dX5_write_32 (by decide) ?_
          exact hJ _ _ _ (bI_t ⟨⟨pi, hpi, rfl⟩, bI_n0 c_19, by rw [hcl]; exact bI_n0 c_28⟩).symm hP hS
set_option maxHeartbeats 4000000 in
set_option maxRecDepth 100000 in
theorem c_X5_end (l : Launch) (D : va_G) (B : Nat) (ad : Ad) (S : GC × Me) (h : GC) (τ : Me) (th : Int32) (o : Int64) (hI : Ib h τ)  (x0 : Int32) : Met l yX5_end wsX5_end ({ frames := 2, cells := 0, slots := 0, locals := 43 }) (Pre D B ad (cW D ad S (h, τ, th) o) [.ref (ad 5 0), .int x0]) (Qv D B (fun u => (cdEnd h τ x0 = 0 → u = (ad, cW D ad S (h, st3 τ 11 (nOf x0) 0 1, nI (cdEnd h τ x0)) o)) ∧ (¬ cdEnd h τ x0 = 0 → u = (ad, cW D ad S (h, τ, nI (cdEnd h τ x0)) o)))) 0 0 (ab B) := by
  refine Met.ofW (cc := cX5_end) (maxL := 3) (ret := none) (by decide) rfl ?_
  intro p e s m args below meth c s₁ Bd hml hv
  obtain ⟨rfl, hC, hP⟩ := hv
  have hx := Bd.exec
  have hb := Bd.bytes
  have hr := Bd.returns
  have hts := atoms_spec (ws := wsX5_end) Bd.pre
  have hown : s.vm.findClass RX5 = some m.cls := findClass_of_methodNamed Bd.named
  have hlocks := Bd.notSynchronized
  have hS : va_S (ab B) s.heap s.heap [] := va_S.rf
  have hl := lv_entry ([.ref (ad 5 0), .int x0]) (n := 3) (Nat.le_of_ble_eq_true rfl)
  rw [lg_entry_eq]
  generalize (lg_sl ([.ref (ad 5 0), .int x0]) ++ List.replicate (3 - (lg_sl ([.ref (ad 5 0), .int x0])).length) Slot.unset).toArray = ls at hl ⊢
  have hl : lv_has ls 3 [(0, .ref (ad 5 0)), (1, .int x0)] := hl
  refine lv_aload_n hx hb dX5_end_0 rfl (lv_at hl 0 rfl) ?_
  refine lv_iload_n hx hb dX5_end_1 rfl (lv_at hl 1 rfl) ?_
  refine w_calli (va_runV (As := [.int x0]) (rest := []) ⟨hx, hb, hml, hown, hts⟩ (c_X5_isSubscription l D B ad S h τ th o hI.2.1 x0) (cwV 1 hts gX5_end_X5_isSubscription rfl rfl rfl (by decide +kernel) ⟨Nat.le_of_ble_eq_true rfl, Nat.le_of_ble_eq_true rfl⟩) (w_preV hC hP hS cW_5 rfl) rfl rfl hl.1 rfl (lv_room (Nat.le_of_ble_eq_true rfl)) dX5_end_2 ⟨Nat.le_of_ble_eq_true rfl, Nat.le_of_ble_eq_true rfl⟩) hS (fun r_1 ad1 w1 H locs hq hP hS => ?_)
  obtain ⟨h91, h92⟩ := hq
  cases h91
  subst h92
  refine lv_istore_n (lv' := [(2, .int (bI (isN h.2.1 x0))), (0, .ref (ad 5 0)), (1, .int x0)]) hx hb dX5_end_5 rfl hl (by decide) rfl (fun ls hl => ?_)
  refine lv_aload_n hx hb dX5_end_6 rfl (lv_at hl 1 rfl) ?_
  refine lv_iload_n hx hb dX5_end_7 rfl (lv_at hl 0 rfl) ?_
  refine w_join (D := D) (B := B) (ad := ad) (w := cW D ad S (h, τ, th) o) (H0 := s.heap) (pcJ := 26) (ls := ls) (rest := [.int (bI (isN h.2.1 x0)), .ref (ad 5 0)]) (bI (isN h.2.1 x0 ∧ τ 11 (nOf x0) 0 = 0)) (fun H locs hP hS => ?_) (fun hJ => ?_) hP hS
  · refine lv_iconst (v := 1) hx hb dX5_end_26 (by decide) ?_
    refine w_top (v := bI True) (bI_t trivial).symm ?_
    refine w_calli (va_runV (As := [.int (bI (isN h.2.1 x0)), .int (bI (isN h.2.1 x0 ∧ τ 11 (nOf x0) 0 = 0)), .int (bI True)]) (rest := []) ⟨hx, hb, hml, hown, hts⟩ (c_X5_goes l D B ad S h τ th o (isN h.2.1 x0) (isN h.2.1 x0 ∧ τ 11 (nOf x0) 0 = 0) (True)) (cwV 3 hts gX5_end_X5_goes rfl rfl rfl (by decide +kernel) ⟨Nat.le_of_ble_eq_true rfl, Nat.le_of_ble_eq_true rfl⟩) (w_preV hC hP hS cW_5 rfl) rfl rfl hl.1 rfl (lv_room (Nat.le_of_ble_eq_true rfl)) dX5_end_27 ⟨Nat.le_of_ble_eq_true rfl, Nat.le_of_ble_eq_true rfl⟩) hS (fun r_2 ad1 w1 H locs hq hP hS => ?_)
    have hCD : cod3 (isN h.2.1 x0) (isN h.2.1 x0 ∧ τ 11 (nOf x0) 0 = 0) (True) = cdEnd h τ x0 := (by unfold cdEnd; exact cod3_eq Iff.rfl (fun z => ⟨fun y => y.2, fun y => ⟨z, y⟩⟩) (fun _ _ => Iff.rfl))
    obtain ⟨h91, h92⟩ := hq
    cases h91
    rw [hCD] at hP h92
    subst h92
    refine lv_if_eq (tgt := 40) hx hb dX5_end_30 (by decide) (fun c_30 => ?_) (fun c_30 => ?_)
    · have hcd := bI_0.mp c_30
      exact W.vret hx hb hr (fun t ht hW => Qv_of ⟨fun z => absurd z hcd, fun _ => rfl⟩ hP hS ht) hS.2.2 dX5_end_40
    · have hcd := bI_n0 c_30
      have hz := cod3_z (hCD.trans hcd)
      obtain ⟨pi, hpi, rfl⟩ := hz.1
      have hcl : nOf (nI pi) = pi := nI_clamp (by have := hI.1; have := hI.2.1; have := hI.2.2.1; omega)
      have h30 : pi < 30 := by have := hI.2.1; omega
      refine lv_aload_n hx hb dX5_end_33 rfl (lv_at hl 1 rfl) ?_
      refine w_get hx hb hts (by decide +kernel) hown hC hP cW_5 rfl 14 (by decide) (hts (.fieldLink RX5 38 "BuildingPointsModel" "ended" "[Z") (by decide +kernel)) rfl dX5_end_34 ?_
      refine lv_iload_n hx hb dX5_end_37 rfl (lv_at hl 2 rfl) ?_
      refine lv_iconst (v := 1) hx hb dX5_end_38 (by decide) ?_
      refine w_zstN hx hb hC hP hS cW_12_9 (by omega) (by decide) (Or.inr rfl) dX5_end_39 (fun H locs hP hS => ?_)
      have hP := hw_eq hP (pA9 pi _)
      exact W.vret hx hb hr (fun t ht hW => Qv_of ⟨fun _ => by rw [hcl], fun z => absurd hcd z⟩ hP hS ht) hS.2.2 dX5_end_40
  · refine lv_iload_n hx hb dX5_end_8 rfl (lv_at hl 0 rfl) ?_
    refine lv_if_eq (tgt := 25) hx hb dX5_end_9 (by decide) (fun c_9 => ?_) (fun c_9 => ?_)
    · refine lv_iconst (v := 0) hx hb dX5_end_25 (by decide) ?_
      exact hJ _ _ _ (bI_f (fun z => bI_0.mp c_9 z.1)).symm hP hS
    · obtain ⟨pi, hpi, rfl⟩ := bI_n0 c_9
      have hcl : nOf (nI pi) = pi := nI_clamp (by have := hI.2.1; omega)
      have h30 : pi < 30 := by have := hI.2.1; omega
      refine lv_aload_n hx hb dX5_end_12 rfl (lv_at hl 1 rfl) ?_
      refine w_get hx hb hts (by decide +kernel) hown hC hP cW_5 rfl 14 (by decide) (hts (.fieldLink RX5 38 "BuildingPointsModel" "ended" "[Z") (by decide +kernel)) rfl dX5_end_13 ?_
      refine lv_iload_n hx hb dX5_end_16 rfl (lv_at hl 2 rfl) ?_
      refine w_zldN hx hb hC hP cW_12_9 (by omega) (by decide) (v := τ 11 pi 0) rfl dX5_end_17 ?_
      refine lv_if_ne (tgt := 25) hx hb dX5_end_18 (by decide) (fun c_18 => ?_) (fun c_18 => ?_)
      · refine lv_iconst (v := 0) hx hb dX5_end_25 (by decide) ?_
        exact hJ _ _ _ (bI_f (fun z => c_18 (by have := z.2; rw [hcl] at this; exact this))).symm hP hS
      · refine lv_iconst (v := 1) hx hb dX5_end_21 (by decide) ?_
        refine lv_goto (tgt := 26) hx hb dX5_end_22 (by decide) ?_
        exact hJ _ _ _ (bI_t ⟨⟨pi, hpi, rfl⟩, by rw [hcl]; exact c_18⟩).symm hP hS
set_option maxHeartbeats 4000000 in
set_option maxRecDepth 100000 in
theorem c_X5_toldBy (l : Launch) (D : va_G) (B : Nat) (ad : Ad) (S : GC × Me) (h : GC) (τ : Me) (th : Int32) (o : Int64) (q n : Nat) (hq : q < 4) (hn : τ 17 q 0 = nI n) (h20 : n ≤ 20) (t : Int32) : Met l yX5_toldBy wsX5_toldBy ({ frames := 0, cells := 0, slots := 0, locals := 0 }) (Pre D B ad (cW D ad S (h, τ, th) o) [.ref (ad 5 0), .int (nI q), .int t]) (Qi D B (fun r u => u = (ad, cW D ad S (h, τ, th) o) ∧ r = tolF τ q n t)) 0 0 (ab B) := by
  refine Met.ofW (cc := cX5_toldBy) (maxL := 10) (ret := (some .int)) (by decide) rfl ?_
  intro p e s m args below meth c s₁ Bd hml hv
  obtain ⟨rfl, hC, hP⟩ := hv
  have hx := Bd.exec
  have hb := Bd.bytes
  have hr := Bd.returns
  have hts := atoms_spec (ws := wsX5_toldBy) Bd.pre
  have hown : s.vm.findClass RX5 = some m.cls := findClass_of_methodNamed Bd.named
  have hlocks := Bd.notSynchronized
  have hS : va_S (ab B) s.heap s.heap [] := va_S.rf
  have hl := lv_entry ([.ref (ad 5 0), .int (nI q), .int t]) (n := 10) (Nat.le_of_ble_eq_true rfl)
  rw [lg_entry_eq]
  generalize (lg_sl ([.ref (ad 5 0), .int (nI q), .int t]) ++ List.replicate (10 - (lg_sl ([.ref (ad 5 0), .int (nI q), .int t])).length) Slot.unset).toArray = ls at hl ⊢
  have hl : lv_has ls 10 [(0, .ref (ad 5 0)), (1, .int (nI q)), (2, .int t)] := hl
  refine lv_bipush (v := (10)) hx hb dX5_toldBy_0 (by decide) ?_
  refine lv_iload_n hx hb dX5_toldBy_2 rfl (lv_at hl 2 rfl) ?_
  refine lv_sipush (v := (1440)) hx hb dX5_toldBy_3 (by decide) ?_
  refine lv_idiv hx hb dX5_toldBy_6 (by decide) ?_
  refine lv_iadd hx hb dX5_toldBy_7 ?_
  refine lv_istore_n (lv' := [(3, .int (10 + (t / 1440))), (0, .ref (ad 5 0)), (1, .int (nI q)), (2, .int t)]) hx hb dX5_toldBy_8 rfl hl (by decide) rfl (fun ls hl => ?_)
  refine lv_iconst (v := 0) hx hb dX5_toldBy_9 (by decide) ?_
  refine lv_istore (lv' := [(4, .int 0), (3, .int (10 + (t / 1440))), (0, .ref (ad 5 0)), (1, .int (nI q)), (2, .int t)]) hx hb dX5_toldBy_10 hl (by decide) rfl (fun ls hl => ?_)
  refine lv_bipush (v := (20)) hx hb dX5_toldBy_12 (by decide) ?_
  refine lv_iload_n hx hb dX5_toldBy_14 rfl (lv_at hl 3 rfl) ?_
  refine lv_imul hx hb dX5_toldBy_15 ?_
  refine w_top (v := nI (20 * q)) (pk_mul 20 q) ?_
  refine lv_istore (lv' := [(5, .int (nI (20 * q))), (4, .int 0), (3, .int (10 + (t / 1440))), (0, .ref (ad 5 0)), (1, .int (nI q)), (2, .int t)]) hx hb dX5_toldBy_16 hl (by decide) rfl (fun ls hl => ?_)
  refine w_ind (fun n9 H locs ls => ∃ i : Nat, i + n9 = n ∧ hw D B ad (cW D ad S (h, τ, th) o) H ∧ va_S (ab B) s.heap H locs ∧ lv_has ls 10 [(5, .int (nI (20 * q + i))), (4, .int (bI (hasF (τ 18 q) (10 + t / 1440) i))), (0, .ref (ad 5 0)), (1, .int (nI q)), (2, .int t), (3, .int (10 + t / 1440))]) ?_ n _ _ _ ⟨0, by omega, hP, hS, by rw [bI_f (hasF_0 (w := τ 18 q) (d := 10 + t / 1440))]; exact lv_sub hl [0, 1, 3, 4, 5, 2] rfl⟩
  intro n9 H locs ls hJ ih
  obtain ⟨i, hi, hP, hS, hl⟩ := hJ
  refine lv_iload hx hb dX5_toldBy_18 (lv_at hl 0 rfl) ?_
  refine lv_bipush (v := (20)) hx hb dX5_toldBy_20 (by decide) ?_
  refine lv_iload_n hx hb dX5_toldBy_22 rfl (lv_at hl 3 rfl) ?_
  refine lv_imul hx hb dX5_toldBy_23 ?_
  refine w_top (v := nI (20 * q)) (pk_mul 20 q) ?_
  refine lv_aload_n hx hb dX5_toldBy_24 rfl (lv_at hl 2 rfl) ?_
  refine w_get hx hb hts (by decide +kernel) hown hC hP cW_5 rfl 20 (by decide) (hts (.fieldLink RX5 56 "BuildingPointsModel" "entries" "[I") (by decide +kernel)) rfl dX5_toldBy_25 ?_
  refine lv_iload_n hx hb dX5_toldBy_28 rfl (lv_at hl 3 rfl) ?_
  refine w_ildN hx hb hC hP cW_12_15 (by omega) (by decide) (v := τ 17 q 0) rfl dX5_toldBy_29 ?_
  refine w_top (v := nI n) hn ?_
  refine lv_iadd hx hb dX5_toldBy_30 ?_
  refine w_top (v := nI (20 * q + n)) (nI_add (20 * q) n) ?_
  refine lv_icmp_ge (tgt := 63) hx hb dX5_toldBy_31 (by decide) (fun c_31 => ?_) (fun c_31 => ?_)
  · have hin : n ≤ i := by have := Nat.not_lt.mp (fun z => absurd c_31 (nI_ge (a := 20 * q + i) (b := 20 * q + n) z (by omega))); omega
    refine w_join (D := D) (B := B) (ad := ad) (w := cW D ad S (h, τ, th) o) (H0 := s.heap) (pcJ := 80) (ls := ls) (rest := []) (dayF τ q n t) (fun H locs hP hS => ?_) (fun hJ => ?_) hP hS
    · refine lv_istore (lv' := [(5, .int (dayF τ q n t)), (4, .int (bI (hasF (τ 18 q) (10 + t / 1440) i))), (0, .ref (ad 5 0)), (1, .int (nI q)), (2, .int t), (3, .int (10 + t / 1440))]) hx hb dX5_toldBy_80 hl (by decide) rfl (fun ls hl => ?_)
      refine lv_iconst (v := (-1)) hx hb dX5_toldBy_82 (by decide) ?_
      refine lv_istore (lv' := [(6, .int (-1)), (5, .int (dayF τ q n t)), (4, .int (bI (hasF (τ 18 q) (10 + t / 1440) i))), (0, .ref (ad 5 0)), (1, .int (nI q)), (2, .int t), (3, .int (10 + t / 1440))]) hx hb dX5_toldBy_83 hl (by decide) rfl (fun ls hl => ?_)
      refine lv_ldc (v := (-100000)) hx hb hown (hts (.constant RX5 79 (-100000)) (by decide +kernel)) dX5_toldBy_85 ?_
      refine w_top (v := nth) rfl ?_
      refine lv_istore (lv' := [(7, .int nth), (6, .int (-1)), (5, .int (dayF τ q n t)), (4, .int (bI (hasF (τ 18 q) (10 + t / 1440) i))), (0, .ref (ad 5 0)), (1, .int (nI q)), (2, .int t), (3, .int (10 + t / 1440))]) hx hb dX5_toldBy_87 hl (by decide) rfl (fun ls hl => ?_)
      refine lv_bipush (v := (20)) hx hb dX5_toldBy_89 (by decide) ?_
      refine lv_iload_n hx hb dX5_toldBy_91 rfl (lv_at hl 5 rfl) ?_
      refine lv_imul hx hb dX5_toldBy_92 ?_
      refine w_top (v := nI (20 * q)) (pk_mul 20 q) ?_
      refine lv_istore (lv' := [(8, .int (nI (20 * q))), (7, .int nth), (6, .int (-1)), (5, .int (dayF τ q n t)), (4, .int (bI (hasF (τ 18 q) (10 + t / 1440) i))), (0, .ref (ad 5 0)), (1, .int (nI q)), (2, .int t), (3, .int (10 + t / 1440))]) hx hb dX5_toldBy_93 hl (by decide) rfl (fun ls hl => ?_)
      refine w_ind (fun n9 H locs ls => ∃ i : Nat, i + n9 = n ∧ hw D B ad (cW D ad S (h, τ, th) o) H ∧ va_S (ab B) s.heap H locs ∧ lv_has ls 10 [(8, .int (nI (20 * q + i))), (6, .int (latF (τ 18 q) (τ 19 q) (τ 20 q) (dayF τ q n t) (remF t 1440) i).1), (7, .int (latF (τ 18 q) (τ 19 q) (τ 20 q) (dayF τ q n t) (remF t 1440) i).2), (5, .int (dayF τ q n t)), (0, .ref (ad 5 0)), (1, .int (nI q)), (2, .int t)]) ?_ n _ _ _ ⟨0, by omega, hP, hS, lv_sub hl [0, 2, 1, 3, 5, 6, 7] rfl⟩
      clear ih
      intro n9 H locs ls hJ ih
      obtain ⟨i, hi, hP, hS, hl⟩ := hJ
      refine lv_iload hx hb dX5_toldBy_95 (lv_at hl 0 rfl) ?_
      refine lv_bipush (v := (20)) hx hb dX5_toldBy_97 (by decide) ?_
      refine lv_iload_n hx hb dX5_toldBy_99 rfl (lv_at hl 5 rfl) ?_
      refine lv_imul hx hb dX5_toldBy_100 ?_
      refine w_top (v := nI (20 * q)) (pk_mul 20 q) ?_
      refine lv_aload_n hx hb dX5_toldBy_101 rfl (lv_at hl 4 rfl) ?_
      refine w_get hx hb hts (by decide +kernel) hown hC hP cW_5 rfl 20 (by decide) (hts (.fieldLink RX5 56 "BuildingPointsModel" "entries" "[I") (by decide +kernel)) rfl dX5_toldBy_102 ?_
      refine lv_iload_n hx hb dX5_toldBy_105 rfl (lv_at hl 5 rfl) ?_
      refine w_ildN hx hb hC hP cW_12_15 (by omega) (by decide) (v := τ 17 q 0) rfl dX5_toldBy_106 ?_
      refine w_top (v := nI n) hn ?_
      refine lv_iadd hx hb dX5_toldBy_107 ?_
      refine w_top (v := nI (20 * q + n)) (nI_add (20 * q) n) ?_
      refine lv_icmp_ge (tgt := 201) hx hb dX5_toldBy_108 (by decide) (fun c_108 => ?_) (fun c_108 => ?_)
      · have hin : n ≤ i := by have := Nat.not_lt.mp (fun z => absurd c_108 (nI_ge (a := 20 * q + i) (b := 20 * q + n) z (by omega))); omega
        refine lv_iload hx hb dX5_toldBy_201 (lv_at hl 2 rfl) ?_
        exact W.iret (v := ((latF (τ 18 q) (τ 19 q) (τ 20 q) (dayF τ q n t) (remF t 1440) i).2)) hx hb hr (fun t ht hW => Qi_of ⟨rfl, by rw [tolF_eq, show i = n by omega]⟩ hP hS ht) hS.2.2 dX5_toldBy_203
      · have hin : i < n := by have := Nat.not_le.mp (fun z => c_108 (nI_le (a := 20 * q + n) (b := 20 * q + i) z (by omega))); omega
        refine w_join (D := D) (B := B) (ad := ad) (w := cW D ad S (h, τ, th) o) (H0 := s.heap) (pcJ := 155) (ls := ls) (rest := []) (bI (τ 18 q i = dayF τ q n t ∧ τ 19 q i ≤ remF t 1440 ∧ (latF (τ 18 q) (τ 19 q) (τ 20 q) (dayF τ q n t) (remF t 1440) i).1 ≤ τ 19 q i)) (fun H locs hP hS => ?_) (fun hJ => ?_) hP hS
        · refine lv_istore (lv' := [(9, .int (bI (τ 18 q i = dayF τ q n t ∧ τ 19 q i ≤ remF t 1440 ∧ (latF (τ 18 q) (τ 19 q) (τ 20 q) (dayF τ q n t) (remF t 1440) i).1 ≤ τ 19 q i))), (8, .int (nI (20 * q + i))), (6, .int ((latF (τ 18 q) (τ 19 q) (τ 20 q) (dayF τ q n t) (remF t 1440) i).1)), (7, .int ((latF (τ 18 q) (τ 19 q) (τ 20 q) (dayF τ q n t) (remF t 1440) i).2)), (5, .int (dayF τ q n t)), (0, .ref (ad 5 0)), (1, .int (nI q)), (2, .int t)]) hx hb dX5_toldBy_155 hl (by decide) rfl (fun ls hl => ?_)
          refine lv_iload hx hb dX5_toldBy_157 (lv_at hl 0 rfl) ?_
          refine lv_if_eq (tgt := 172) hx hb dX5_toldBy_159 (by decide) (fun c_159 => ?_) (fun c_159 => ?_)
          · refine lv_iload hx hb dX5_toldBy_172 (lv_at hl 2 rfl) ?_
            refine lv_istore (lv' := [(6, .int ((latF (τ 18 q) (τ 19 q) (τ 20 q) (dayF τ q n t) (remF t 1440) i).1)), (9, .int (bI (τ 18 q i = dayF τ q n t ∧ τ 19 q i ≤ remF t 1440 ∧ (latF (τ 18 q) (τ 19 q) (τ 20 q) (dayF τ q n t) (remF t 1440) i).1 ≤ τ 19 q i))), (8, .int (nI (20 * q + i))), (7, .int ((latF (τ 18 q) (τ 19 q) (τ 20 q) (dayF τ q n t) (remF t 1440) i).2)), (5, .int (dayF τ q n t)), (0, .ref (ad 5 0)), (1, .int (nI q)), (2, .int t)]) hx hb dX5_toldBy_174 hl (by decide) rfl (fun ls hl => ?_)
            refine lv_iload hx hb dX5_toldBy_176 (lv_at hl 1 rfl) ?_
            refine lv_if_eq (tgt := 191) hx hb dX5_toldBy_178 (by decide) (fun c_178 => ?_) (fun c_178 => ?_)
            · refine lv_iload hx hb dX5_toldBy_191 (lv_at hl 3 rfl) ?_
              refine lv_istore (lv' := [(7, .int ((latF (τ 18 q) (τ 19 q) (τ 20 q) (dayF τ q n t) (remF t 1440) i).2)), (6, .int ((latF (τ 18 q) (τ 19 q) (τ 20 q) (dayF τ q n t) (remF t 1440) i).1)), (9, .int (bI (τ 18 q i = dayF τ q n t ∧ τ 19 q i ≤ remF t 1440 ∧ (latF (τ 18 q) (τ 19 q) (τ 20 q) (dayF τ q n t) (remF t 1440) i).1 ≤ τ 19 q i))), (8, .int (nI (20 * q + i))), (5, .int (dayF τ q n t)), (0, .ref (ad 5 0)), (1, .int (nI q)), (2, .int t)]) hx hb dX5_toldBy_193 hl (by decide) rfl (fun ls hl => ?_)
              refine lv_iinc (v := nI (20 * q + i + 1)) (lv' := [(8, .int (nI (20 * q + i + 1))), (7, .int ((latF (τ 18 q) (τ 19 q) (τ 20 q) (dayF τ q n t) (remF t 1440) i).2)), (6, .int ((latF (τ 18 q) (τ 19 q) (τ 20 q) (dayF τ q n t) (remF t 1440) i).1)), (9, .int (bI (τ 18 q i = dayF τ q n t ∧ τ 19 q i ≤ remF t 1440 ∧ (latF (τ 18 q) (τ 19 q) (τ 20 q) (dayF τ q n t) (remF t 1440) i).1 ≤ τ 19 q i))), (5, .int (dayF τ q n t)), (0, .ref (ad 5 0)), (1, .int (nI q)), (2, .int t)]) hx hb dX5_toldBy_195 hl (k := 3) rfl (nI_add (20 * q + i) 1) (by decide) rfl (fun ls hl => ?_)
              refine lv_goto (tgt := 95) hx hb dX5_toldBy_198 (by decide) ?_
              have hE : latF (τ 18 q) (τ 19 q) (τ 20 q) (dayF τ q n t) (remF t 1440) (i + 1) = latF (τ 18 q) (τ 19 q) (τ 20 q) (dayF τ q n t) (remF t 1440) i := by
                simp only [latF]
                exact if_neg (bI_0.mp c_159)
              exact ih (n9 - 1) _ _ _ (by omega) ⟨i + 1, by omega, hP, hS, by rw [hE]; exact lv_sub hl [0, 2, 1, 4, 5, 6, 7] rfl⟩
            · exact absurd c_159 c_178
          · refine lv_aload_n hx hb dX5_toldBy_162 rfl (lv_at hl 5 rfl) ?_
            refine w_get hx hb hts (by decide +kernel) hown hC hP cW_5 rfl 22 (by decide) (hts (.fieldLink RX5 62 "BuildingPointsModel" "minute" "[I") (by decide +kernel)) rfl dX5_toldBy_163 ?_
            refine lv_iload hx hb dX5_toldBy_166 (lv_at hl 1 rfl) ?_
            refine w_ildN hx hb hC hP cW_12_17 (by omega) (by decide) (v := τ 19 q i) (by show τ 19 _ _ = _; rw [show (20 * q + i) / 20 = q by omega, show (20 * q + i) % 20 = i by omega]) dX5_toldBy_168 ?_
            refine lv_goto (tgt := 174) hx hb dX5_toldBy_169 (by decide) ?_
            refine lv_istore (lv' := [(6, .int (τ 19 q i)), (9, .int (bI (τ 18 q i = dayF τ q n t ∧ τ 19 q i ≤ remF t 1440 ∧ (latF (τ 18 q) (τ 19 q) (τ 20 q) (dayF τ q n t) (remF t 1440) i).1 ≤ τ 19 q i))), (8, .int (nI (20 * q + i))), (7, .int ((latF (τ 18 q) (τ 19 q) (τ 20 q) (dayF τ q n t) (remF t 1440) i).2)), (5, .int (dayF τ q n t)), (0, .ref (ad 5 0)), (1, .int (nI q)), (2, .int t)]) hx hb dX5_toldBy_174 hl (by decide) rfl (fun ls hl => ?_)
            refine lv_iload hx hb dX5_toldBy_176 (lv_at hl 1 rfl) ?_
            refine lv_if_eq (tgt := 191) hx hb dX5_toldBy_178 (by decide) (fun c_178 => ?_) (fun c_178 => ?_)
            · exact absurd c_178 c_159
            · refine lv_aload_n hx hb dX5_toldBy_181 rfl (lv_at hl 5 rfl) ?_
              refine w_get hx hb hts (by decide +kernel) hown hC hP cW_5 rfl 23 (by decide) (hts (.fieldLink RX5 65 "BuildingPointsModel" "tells" "[I") (by decide +kernel)) rfl dX5_toldBy_182 ?_
              refine lv_iload hx hb dX5_toldBy_185 (lv_at hl 2 rfl) ?_
              refine w_ildN hx hb hC hP cW_12_18 (by omega) (by decide) (v := τ 20 q i) (by show τ 20 _ _ = _; rw [show (20 * q + i) / 20 = q by omega, show (20 * q + i) % 20 = i by omega]) dX5_toldBy_187 ?_
              refine lv_goto (tgt := 193) hx hb dX5_toldBy_188 (by decide) ?_
              refine lv_istore (lv' := [(7, .int (τ 20 q i)), (6, .int (τ 19 q i)), (9, .int (bI (τ 18 q i = dayF τ q n t ∧ τ 19 q i ≤ remF t 1440 ∧ (latF (τ 18 q) (τ 19 q) (τ 20 q) (dayF τ q n t) (remF t 1440) i).1 ≤ τ 19 q i))), (8, .int (nI (20 * q + i))), (5, .int (dayF τ q n t)), (0, .ref (ad 5 0)), (1, .int (nI q)), (2, .int t)]) hx hb dX5_toldBy_193 hl (by decide) rfl (fun ls hl => ?_)
              refine lv_iinc (v := nI (20 * q + i + 1)) (lv' := [(8, .int (nI (20 * q + i + 1))), (7, .int (τ 20 q i)), (6, .int (τ 19 q i)), (9, .int (bI (τ 18 q i = dayF τ q n t ∧ τ 19 q i ≤ remF t 1440 ∧ (latF (τ 18 q) (τ 19 q) (τ 20 q) (dayF τ q n t) (remF t 1440) i).1 ≤ τ 19 q i))), (5, .int (dayF τ q n t)), (0, .ref (ad 5 0)), (1, .int (nI q)), (2, .int t)]) hx hb dX5_toldBy_195 hl (k := 3) rfl (nI_add (20 * q + i) 1) (by decide) rfl (fun ls hl => ?_)
              refine lv_goto (tgt := 95) hx hb dX5_toldBy_198 (by decide) ?_
              have hE : latF (τ 18 q) (τ 19 q) (τ 20 q) (dayF τ q n t) (remF t 1440) (i + 1) = (τ 19 q i, τ 20 q i) := by
                simp only [latF]
                exact if_pos (bI_n0 c_159)
              exact ih (n9 - 1) _ _ _ (by omega) ⟨i + 1, by omega, hP, hS, by rw [hE]; exact lv_sub hl [0, 2, 1, 4, 5, 6, 7] rfl⟩
        · refine lv_aload_n hx hb dX5_toldBy_111 rfl (lv_at hl 4 rfl) ?_
          refine w_get hx hb hts (by decide +kernel) hown hC hP cW_5 rfl 21 (by decide) (hts (.fieldLink RX5 59 "BuildingPointsModel" "when" "[I") (by decide +kernel)) rfl dX5_toldBy_112 ?_
          refine lv_iload hx hb dX5_toldBy_115 (lv_at hl 0 rfl) ?_
          refine w_ildN hx hb hC hP cW_12_16 (by omega) (by decide) (v := τ 18 q i) (by show τ 18 _ _ = _; rw [show (20 * q + i) / 20 = q by omega, show (20 * q + i) % 20 = i by omega]) dX5_toldBy_117 ?_
          refine lv_iload hx hb dX5_toldBy_118 (lv_at hl 3 rfl) ?_
          refine lv_icmp_ne (tgt := 154) hx hb dX5_toldBy_120 (by decide) (fun c_120 => ?_) (fun c_120 => ?_)
          · refine lv_iconst (v := 0) hx hb dX5_toldBy_154 (by decide) ?_
            exact hJ _ _ _ (bI_f (fun z => c_120 z.1)).symm hP hS
          · refine lv_aload_n hx hb dX5_toldBy_123 rfl (lv_at hl 4 rfl) ?_
            refine w_get hx hb hts (by decide +kernel) hown hC hP cW_5 rfl 22 (by decide) (hts (.fieldLink RX5 62 "BuildingPointsModel" "minute" "[I") (by decide +kernel)) rfl dX5_toldBy_124 ?_
            refine lv_iload hx hb dX5_toldBy_127 (lv_at hl 0 rfl) ?_
            refine w_ildN hx hb hC hP cW_12_17 (by omega) (by decide) (v := τ 19 q i) (by show τ 19 _ _ = _; rw [show (20 * q + i) / 20 = q by omega, show (20 * q + i) % 20 = i by omega]) dX5_toldBy_129 ?_
            refine lv_iload_n hx hb dX5_toldBy_130 rfl (lv_at hl 6 rfl) ?_
            refine lv_sipush (v := (1440)) hx hb dX5_toldBy_131 (by decide) ?_
            refine lv_irem hx hb dX5_toldBy_134 (by decide) ?_
            refine w_top (v := remF t 1440) rfl ?_
            refine lv_icmp_gt (tgt := 154) hx hb dX5_toldBy_135 (by decide) (fun c_135 => ?_) (fun c_135 => ?_)
            · refine lv_iconst (v := 0) hx hb dX5_toldBy_154 (by decide) ?_
              exact hJ _ _ _ (bI_f (fun z => absurd z.2.1 (Int32.not_le.mpr c_135))).symm hP hS
            · refine lv_aload_n hx hb dX5_toldBy_138 rfl (lv_at hl 4 rfl) ?_
              refine w_get hx hb hts (by decide +kernel) hown hC hP cW_5 rfl 22 (by decide) (hts (.fieldLink RX5 62 "BuildingPointsModel" "minute" "[I") (by decide +kernel)) rfl dX5_toldBy_139 ?_
              refine lv_iload hx hb dX5_toldBy_142 (lv_at hl 0 rfl) ?_
              refine w_ildN hx hb hC hP cW_12_17 (by omega) (by decide) (v := τ 19 q i) (by show τ 19 _ _ = _; rw [show (20 * q + i) / 20 = q by omega, show (20 * q + i) % 20 = i by omega]) dX5_toldBy_144 ?_
              refine lv_iload hx hb dX5_toldBy_145 (lv_at hl 1 rfl) ?_
              refine lv_icmp_lt (tgt := 154) hx hb dX5_toldBy_147 (by decide) (fun c_147 => ?_) (fun c_147 => ?_)
              · refine lv_iconst (v := 0) hx hb dX5_toldBy_154 (by decide) ?_
                exact hJ _ _ _ (bI_f (fun z => absurd z.2.2 (Int32.not_le.mpr c_147))).symm hP hS
              · refine lv_iconst (v := 1) hx hb dX5_toldBy_150 (by decide) ?_
                refine lv_goto (tgt := 155) hx hb dX5_toldBy_151 (by decide) ?_
                exact hJ _ _ _ (bI_t ⟨c_120, Int32.not_lt.mp c_135, Int32.not_lt.mp c_147⟩).symm hP hS
    · refine lv_iload hx hb dX5_toldBy_63 (lv_at hl 1 rfl) ?_
      refine lv_if_eq (tgt := 72) hx hb dX5_toldBy_65 (by decide) (fun c_65 => ?_) (fun c_65 => ?_)
      · refine lv_iload_n hx hb dX5_toldBy_72 rfl (lv_at hl 4 rfl) ?_
        refine lv_sipush (v := (1440)) hx hb dX5_toldBy_73 (by decide) ?_
        refine lv_idiv hx hb dX5_toldBy_76 (by decide) ?_
        refine lv_bipush (v := (7)) hx hb dX5_toldBy_77 (by decide) ?_
        refine lv_irem hx hb dX5_toldBy_79 (by decide) ?_
        refine w_top (v := remF (t / 1440) 7) rfl ?_
        exact hJ _ _ _ (dayF_f (by have := bI_0.mp c_65; rw [show i = n by omega] at this; exact this)).symm hP hS
      · refine lv_iload_n hx hb dX5_toldBy_68 rfl (lv_at hl 5 rfl) ?_
        refine lv_goto (tgt := 80) hx hb dX5_toldBy_69 (by decide) ?_
        exact hJ _ _ _ (dayF_t (by have := bI_n0 c_65; rw [show i = n by omega] at this; exact this)).symm hP hS
  · have hin : i < n := by have := Nat.not_le.mp (fun z => c_31 (nI_le (a := 20 * q + n) (b := 20 * q + i) z (by omega))); omega
    refine w_join (D := D) (B := B) (ad := ad) (w := cW D ad S (h, τ, th) o) (H0 := s.heap) (pcJ := 55) (ls := ls) (rest := []) (bI (hasF (τ 18 q) (10 + t / 1440) (i + 1))) (fun H locs hP hS => ?_) (fun hJ => ?_) hP hS
    · refine lv_istore (lv' := [(4, .int (bI (hasF (τ 18 q) (10 + t / 1440) (i + 1)))), (5, .int (nI (20 * q + i))), (0, .ref (ad 5 0)), (1, .int (nI q)), (2, .int t), (3, .int (10 + t / 1440))]) hx hb dX5_toldBy_55 hl (by decide) rfl (fun ls hl => ?_)
      refine lv_iinc (v := nI (20 * q + i + 1)) (lv' := [(5, .int (nI (20 * q + i + 1))), (4, .int (bI (hasF (τ 18 q) (10 + t / 1440) (i + 1)))), (0, .ref (ad 5 0)), (1, .int (nI q)), (2, .int t), (3, .int (10 + t / 1440))]) hx hb dX5_toldBy_57 hl (k := 1) rfl (nI_add (20 * q + i) 1) (by decide) rfl (fun ls hl => ?_)
      refine lv_goto (tgt := 18) hx hb dX5_toldBy_60 (by decide) ?_
      exact ih (n9 - 1) _ _ _ (by omega) ⟨i + 1, by omega, hP, hS, lv_sub hl [0, 1, 2, 3, 4, 5] rfl⟩
    · refine lv_iload hx hb dX5_toldBy_34 (lv_at hl 1 rfl) ?_
      refine lv_if_ne (tgt := 50) hx hb dX5_toldBy_36 (by decide) (fun c_36 => ?_) (fun c_36 => ?_)
      · refine lv_iconst (v := 1) hx hb dX5_toldBy_50 (by decide) ?_
        refine lv_goto (tgt := 55) hx hb dX5_toldBy_51 (by decide) ?_
        exact hJ _ _ _ (bI_t (hasF_s.mpr (Or.inl (bI_n0 c_36)))).symm hP hS
      · refine lv_aload_n hx hb dX5_toldBy_39 rfl (lv_at hl 2 rfl) ?_
        refine w_get hx hb hts (by decide +kernel) hown hC hP cW_5 rfl 21 (by decide) (hts (.fieldLink RX5 59 "BuildingPointsModel" "when" "[I") (by decide +kernel)) rfl dX5_toldBy_40 ?_
        refine lv_iload hx hb dX5_toldBy_43 (lv_at hl 0 rfl) ?_
        refine w_ildN hx hb hC hP cW_12_16 (by omega) (by decide) (v := τ 18 q i) (by show τ 18 _ _ = _; rw [show (20 * q + i) / 20 = q by omega, show (20 * q + i) % 20 = i by omega]) dX5_toldBy_45 ?_
        refine lv_iload_n hx hb dX5_toldBy_46 rfl (lv_at hl 5 rfl) ?_
        refine lv_icmp_ne (tgt := 54) hx hb dX5_toldBy_47 (by decide) (fun c_47 => ?_) (fun c_47 => ?_)
        · refine lv_iconst (v := 0) hx hb dX5_toldBy_54 (by decide) ?_
          exact hJ _ _ _ (bI_f (fun z => (hasF_s.mp z).elim (bI_0.mp c_36) c_47)).symm hP hS
        · refine lv_iconst (v := 1) hx hb dX5_toldBy_50 (by decide) ?_
          refine lv_goto (tgt := 55) hx hb dX5_toldBy_51 (by decide) ?_
          exact hJ _ _ _ (bI_t (hasF_s.mpr (Or.inr c_47))).symm hP hS
