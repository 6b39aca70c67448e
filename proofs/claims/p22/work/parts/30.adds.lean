/-! the class's calls that add -/
section CN9
variable {D : va_G} {ad : Ad} {g h : GC} {σ τ : Me} {S : GC × Me} {T : Wd} {o : Int64} {k : Nat}
theorem cN_1 (hk : ¬ k < g.1) : cW D ad (g, σ) T o 1 k = none := by show (if k < g.1 then _ else _) = _; rw [if_neg hk]
theorem cN_8 (hk : ¬ k < g.1) : cW D ad (g, σ) T o 8 k = none := by show (if k < g.1 then _ else _) = _; rw [if_neg hk]
theorem cN_3 (hk : ¬ k < g.2.1) : cW D ad (g, σ) T o 3 k = none := by show (if k < g.2.1 then _ else _) = _; rw [if_neg hk]
theorem cN_2 (hk : ¬ k < g.2.2) : cW D ad (g, σ) T o 2 k = none := by show (if k < g.2.2 then _ else _) = _; rw [if_neg hk]
theorem cN_e {f : Nat} (hf : f = 0 ∨ f = 9 ∨ f = 10 ∨ f = 11) (hk : ¬ k < 2 * g.2.2) : cW D ad (g, σ) T o f k = none := by
  rcases hf with rfl | rfl | rfl | rfl <;> (show (if k < 2 * g.2.2 then _ else _) = _; rw [if_neg hk])
theorem Ib_8 (h : Ib g σ) {s : Nat} (hs : s < g.2.1) : nOf (σ 8 s 0) < g.1 := by
  obtain ⟨-, ⟨i, hi, e⟩, -⟩ := h.2.2.2.2.1 s hs
  rw [e]
  show (nI i).toNatClampNeg < _
  rw [nI_clamp (by have := h.1; omega)]
  exact hi
theorem Ib_14 (h : Ib g σ) {c : Nat} (hc : c < g.2.2) : nOf (σ 14 c 0) < g.1 := by
  obtain ⟨i, j, n, n1, n2, hi, e, -⟩ := h.2.2.2.2.2 c hc
  rw [e]
  show (nI i).toNatClampNeg < _
  rw [nI_clamp (by have := h.1; omega)]
  exact hi
end CN9
set_option maxHeartbeats 4000000 in
set_option maxRecDepth 100000 in
theorem c_X4_addMeasure (l : Launch) (hns : l.stackTraces = false) (D : va_G) (B : Nat) (ad : Ad) (np ns nc : Nat) (σ : Me) (T : Wd) (o : Int64) (hI : Ib (np, ns, nc) σ) (hF : Fr (np, ns, nc) σ) (x0 : Int32) : vx_Met l yX4_addMeasure wsX4_addMeasure ({ frames := 7, cells := 4, slots := 37, locals := 112 }) (Pre D B ad (cW D ad ((np, ns, nc), σ) T o) [.ref (ad 4 0), .int x0]) (Qi D B (fun r u => ∃ ad9 : Ad, u = (ad9, cW D ad9 ((np + 1, ns, nc), addF np x0 0 0 σ) T o) ∧ (∀ f9 k9, f9 = 4 ∨ 13 ≤ f9 → ad9 f9 k9 = ad f9 k9) ∧ r = nI np ∧ cdAdM (np, ns, nc) x0 = 0)) (Xc D B (fun E u => u = (ad, cW D ad ((np, ns, nc), σ) T o) ∧ exA [exIA, exIS] (cdAdM (np, ns, nc) x0) E)) 4 37 (ab B) := by
  refine vx_ofW (cc := cX4_addMeasure) (maxL := 2) (ret := (some .int)) (by decide) rfl ?_
  intro p e s m args below meth c s₁ Bd hml hnt hv
  obtain ⟨rfl, hC, hP⟩ := hv
  have hx := Bd.exec
  have hb := Bd.bytes
  have hr := Bd.returns
  have hts := atoms_spec (ws := wsX4_addMeasure) Bd.pre
  have hown : s.vm.findClass RX4 = some m.cls := findClass_of_methodNamed Bd.named
  have hlocks := Bd.notSynchronized
  have hS : va_S (ab B) s.heap s.heap [] := va_S.rf
  have hl := lv_entry ([.ref (ad 4 0), .int x0]) (n := 2) (Nat.le_of_ble_eq_true rfl)
  rw [lg_entry_eq]
  generalize (lg_sl ([.ref (ad 4 0), .int x0]) ++ List.replicate (2 - (lg_sl ([.ref (ad 4 0), .int x0])).length) Slot.unset).toArray = ls at hl ⊢
  have hl : lv_has ls 2 [(0, .ref (ad 4 0)), (1, .int x0)] := hl
  refine lv_iload_n hx hb dX4_addMeasure_0 rfl (lv_at hl 1 rfl) ?_
  refine lv_sipush (v := (-1000)) hx hb dX4_addMeasure_1 (by decide) ?_
  refine lv_sipush (v := (1000)) hx hb dX4_addMeasure_4 (by decide) ?_
  refine y_callv (vx_runS (As := [.int x0, .int (-1000), .int 1000]) (rest := []) ⟨hx, hb, hml, hown, hts⟩ (c_X4_requireWithin l hns D B (ad) ((cW D ad ((np, ns, nc), σ) T o)) x0 (-1000) 1000) (va_cwS 3 hts gX4_addMeasure_X4_requireWithin rfl rfl rfl (by decide +kernel) ⟨Nat.le_of_ble_eq_true rfl, Nat.le_of_ble_eq_true rfl⟩) (w_preS hC hP hS) rfl rfl hl.1 rfl (lv_room (Nat.le_of_ble_eq_true rfl)) dX4_addMeasure_7 ⟨Nat.le_of_ble_eq_true rfl, Nat.le_of_ble_eq_true rfl⟩) hS (fun E9 ce9 q9 ad1 w1 H locs hq hP hS h91 h92 h93 => ?_) (fun ad1 w1 H locs hq hP hS => ?_)
  · obtain ⟨h84, h85, h86⟩ := hq
    cases h84
    subst h85
    exact w_thru (fun _ z => z) hnt hlocks hP hS h91 h92 h93 ⟨rfl, by unfold cdAdM; rw [cod3_1 h86]; exact ⟨by decide, rfl⟩⟩ (Nat.le_of_ble_eq_true rfl) (Nat.le_of_ble_eq_true rfl)
  · obtain ⟨h84, hb1⟩ := hq
    cases h84
    refine lv_aload_n hx hb dX4_addMeasure_10 rfl (lv_at hl 0 rfl) ?_
    refine w_getA (f := 4) (k := 0) hx hb hts (by decide +kernel) hown hC hP rfl (cW_4) rfl 3 (by decide) (hts (.fieldLink RX4 31 "BuildingPoints" "pointCount" "I") (by decide +kernel)) rfl dX4_addMeasure_11 ?_
    refine lv_aload_n hx hb dX4_addMeasure_14 rfl (lv_at hl 0 rfl) ?_
    refine w_getA (f := 4) (k := 0) hx hb hts (by decide +kernel) hown hC hP rfl (cW_4) rfl 0 (by decide) (hts (.fieldLink RX4 11 "BuildingPoints" "points" "[LBuildingPoints$Point;") (by decide +kernel)) rfl dX4_addMeasure_15 ?_
    refine w_alen hx hb hC hP 3 rfl (cW_70) (v := 16) rfl dX4_addMeasure_18 ?_
    refine y_callv (vx_runS (As := [.int (nI np), .int 16]) (rest := []) ⟨hx, hb, hml, hown, hts⟩ (c_X4_requireRoom l hns D B (ad) ((cW D ad ((np, ns, nc), σ) T o)) (nI np) 16) (va_cwS 2 hts gX4_addMeasure_X4_requireRoom rfl rfl rfl (by decide +kernel) ⟨Nat.le_of_ble_eq_true rfl, Nat.le_of_ble_eq_true rfl⟩) (w_preS hC hP hS) rfl rfl hl.1 rfl (lv_room (Nat.le_of_ble_eq_true rfl)) dX4_addMeasure_19 ⟨Nat.le_of_ble_eq_true rfl, Nat.le_of_ble_eq_true rfl⟩) hS (fun E9 ce9 q9 ad1 w1 H locs hq hP hS h91 h92 h93 => ?_) (fun ad1 w1 H locs hq hP hS => ?_)
    · obtain ⟨h84, h85, h86⟩ := hq
      cases h84
      subst h85
      exact w_thru (fun _ z => z) hnt hlocks hP hS h91 h92 h93 ⟨rfl, by unfold cdAdM; rw [cod3_2 hb1 (fun z => h86 (nI_lt z (by decide)))]; exact ⟨by decide, rfl⟩⟩ (Nat.le_of_ble_eq_true rfl) (Nat.le_of_ble_eq_true rfl)
    · obtain ⟨h84, hb2⟩ := hq
      cases h84
      have hlt : np < 16 := Nat.not_le.mp (fun z => absurd hb2 (nI_nlt z (by have : np ≤ 16 := hI.1; have : ns ≤ 30 := hI.2.1; have : nc ≤ 4 := hI.2.2.1; omega)))
      refine lv_aload_n hx hb dX4_addMeasure_22 rfl (lv_at hl 0 rfl) ?_
      refine w_getA (f := 4) (k := 0) hx hb hts (by decide +kernel) hown hC hP rfl (cW_4) rfl 0 (by decide) (hts (.fieldLink RX4 11 "BuildingPoints" "points" "[LBuildingPoints$Point;") (by decide +kernel)) rfl dX4_addMeasure_23 ?_
      refine lv_aload_n hx hb dX4_addMeasure_26 rfl (lv_at hl 0 rfl) ?_
      refine w_getA (f := 4) (k := 0) hx hb hts (by decide +kernel) hown hC hP rfl (cW_4) rfl 3 (by decide) (hts (.fieldLink RX4 31 "BuildingPoints" "pointCount" "I") (by decide +kernel)) rfl dX4_addMeasure_27 ?_
      refine w_new (ci := 1) hx hb hts (by decide +kernel) tyX1 tyX1_ok hown (hts (.classLink RX4 9 "BuildingPoints$Point") (by decide +kernel)) (hts (.instantiable "BuildingPoints$Point" 8) (by decide +kernel)) (hts (.initialized "BuildingPoints$Point") (by decide +kernel)) hC hP hS rfl (fs := [.int 0, .int 0, .int 0, .int 0, .null, .int 0, .int 0, .int 0]) (by decide) (Nat.le_of_ble_eq_true rfl) (Nat.le_of_ble_eq_true rfl) 1 np (cN_1 (Nat.lt_irrefl _)) dX4_addMeasure_30 (fun q_3 H hqq_3 hP hS => ?_)
      clear hqq_3
      refine lv_dup hx hb dX4_addMeasure_33 rfl ?_
      refine lv_sipush (v := (-1000)) hx hb dX4_addMeasure_34 (by decide) ?_
      refine lv_sipush (v := (1000)) hx hb dX4_addMeasure_37 (by decide) ?_
      refine lv_iload_n hx hb dX4_addMeasure_40 rfl (lv_at hl 1 rfl) ?_
      refine lv_iconst (v := 0) hx hb dX4_addMeasure_41 (by decide) ?_
      refine w_callv (va_runI (As := [.int (-1000), .int 1000, .int x0, .int 0]) (rest := [.ref q_3, .int (nI np), .ref (ad 7 0)]) ⟨hx, hb, hml, hown, hts⟩ (c_X1_init l D B (a2 ad 1 np q_3) (u2 ((cW D ad ((np, ns, nc), σ) T o)) 1 np (.inr (1, [.int 0, .int 0, .int 0, .int 0, .null, .int 0, .int 0, .int 0]))) np q_3 a2_s (u2_self _ _ _ _) ((u2_o (by omega)).trans (cN_8 (Nat.lt_irrefl _))) (-1000) 1000 x0 0) (cwI 4 hts gX4_addMeasure_X1_init rfl rfl rfl (hts (.initialized RX1) (by decide +kernel)) (hts (.methodLink RX4 39 yX1_init) (by decide +kernel)) (hts (.instanceMethod yX1_init) (by decide +kernel)) rfl (by decide +kernel) ⟨Nat.le_of_ble_eq_true rfl, Nat.le_of_ble_eq_true rfl⟩) (w_preS hC hP hS) rfl rfl hl.1 rfl (lv_room (Nat.le_of_ble_eq_true rfl)) dX4_addMeasure_42 ⟨Nat.le_of_ble_eq_true rfl, Nat.le_of_ble_eq_true rfl⟩) hS (fun ad1 w1 H locs hq hP hS => ?_)
      obtain ⟨z_5q, z_5w, hu, hz_51, hz_58, hz_5o⟩ := hq
      obtain ⟨h81, h82⟩ := Prod.mk.inj hu
      subst h81
      have h82 := h82.symm
      subst h82
      refine w_aastA hx hb hC hP hS 3 1 (r := (RX1, TX1, 8)) rfl rfl (a1 := 7) (k := 0) (f' := 1) (k' := np) ((a2_o (by omega)).trans ((a2_o (by omega)).trans rfl)) ((a2_o (by omega)).trans a2_s) ((hz_5o _ _ (by omega) (by omega)).trans ((u2_o (by omega)).trans (cW_70))) (hz_51) (j := np) hlt (by decide) dX4_addMeasure_45 (fun H locs hP hS => ?_)
      refine lv_aload_n hx hb dX4_addMeasure_46 rfl (lv_at hl 0 rfl) ?_
      refine lv_dup hx hb dX4_addMeasure_47 rfl ?_
      refine w_getA (f := 4) (k := 0) hx hb hts (by decide +kernel) hown hC hP ((a2_o (by omega)).trans ((a2_o (by omega)).trans rfl)) ((u2_o (by omega)).trans ((hz_5o _ _ (by omega) (by omega)).trans ((u2_o (by omega)).trans (cW_4)))) rfl 3 (by decide) (hts (.fieldLink RX4 31 "BuildingPoints" "pointCount" "I") (by decide +kernel)) rfl dX4_addMeasure_48 ?_
      refine lv_dup_x1 hx hb dX4_addMeasure_51 rfl rfl ?_
      refine lv_iconst (v := 1) hx hb dX4_addMeasure_52 (by decide) ?_
      refine lv_iadd hx hb dX4_addMeasure_53 ?_
      refine w_top (v := nI (np + 1)) (nI_1 np) ?_
      refine w_putA (f := 4) (k := 0) hx hb hts (by decide +kernel) tyX4 tyX4_ok nmX4 hown hC hP hS ((a2_o (by omega)).trans ((a2_o (by omega)).trans rfl)) ((u2_o (by omega)).trans ((hz_5o _ _ (by omega) (by omega)).trans ((u2_o (by omega)).trans (cW_4)))) rfl 3 (by decide) (hts (.fieldLink RX4 31 "BuildingPoints" "pointCount" "I") (by decide +kernel)) rfl rfl rfl (Nat.le_of_ble_eq_true rfl) rfl dX4_addMeasure_54 (fun H locs hP hS => ?_)
      refine vx_ret ?_
      exact W.iret (v := (nI np)) hx hb hr (fun t ht hW => Qi_of ⟨_, congrArg (Prod.mk _) (cW_addP hF (fun s9 z => Ib_8 hI z) (fun c9 z => Ib_14 hI z) rfl (by rw [show loF 0 = -1000 by decide, show hiF 0 = 1000 by decide]; exact ((u2_o (by omega)).trans ((u2_o (by omega)).trans (hz_51)))) ((u2_o (by omega)).trans ((u2_o (by omega)).trans (hz_58))) ((u2_o (by omega)).trans (u2_self _ _ _ _)) (u2_self _ _ _ _) (fun f9 j9 y1 y2 y3 y4 => ((u2_o (by omega)).trans ((u2_o (by omega)).trans ((hz_5o _ _ (by omega) (by omega)).trans ((u2_o (by omega)).trans rfl)))))), fun f9 k9 y9 => ((a2_o (by omega)).trans ((a2_o (by omega)).trans rfl)), rfl, by unfold cdAdM; exact cod3_0 hb1 hlt trivial⟩ hP hS ht) hS.2.2 dX4_addMeasure_57
set_option maxHeartbeats 4000000 in
set_option maxRecDepth 100000 in
theorem c_X4_addSwitch (l : Launch) (hns : l.stackTraces = false) (D : va_G) (B : Nat) (ad : Ad) (np ns nc : Nat) (σ : Me) (T : Wd) (o : Int64) (hI : Ib (np, ns, nc) σ) (hF : Fr (np, ns, nc) σ) (x0 : Int32) (x1 : Int32) : vx_Met l yX4_addSwitch wsX4_addSwitch ({ frames := 7, cells := 5, slots := 43, locals := 112 }) (Pre D B ad (cW D ad ((np, ns, nc), σ) T o) [.ref (ad 4 0), .int x0, .int x1]) (Qi D B (fun r u => ∃ ad9 : Ad, u = (ad9, cW D ad9 ((np + 1, ns, nc), addF np x0 1 x1 σ) T o) ∧ (∀ f9 k9, f9 = 4 ∨ 13 ≤ f9 → ad9 f9 k9 = ad f9 k9) ∧ r = nI np ∧ cdAdS (np, ns, nc) x0 x1 = 0)) (Xc D B (fun E u => u = (ad, cW D ad ((np, ns, nc), σ) T o) ∧ exA [exIA, exIS] (cdAdS (np, ns, nc) x0 x1) E)) 5 43 (ab B) := by
  refine vx_ofW (cc := cX4_addSwitch) (maxL := 3) (ret := (some .int)) (by decide) rfl ?_
  intro p e s m args below meth c s₁ Bd hml hnt hv
  obtain ⟨rfl, hC, hP⟩ := hv
  have hx := Bd.exec
  have hb := Bd.bytes
  have hr := Bd.returns
  have hts := atoms_spec (ws := wsX4_addSwitch) Bd.pre
  have hown : s.vm.findClass RX4 = some m.cls := findClass_of_methodNamed Bd.named
  have hlocks := Bd.notSynchronized
  have hS : va_S (ab B) s.heap s.heap [] := va_S.rf
  have hl := lv_entry ([.ref (ad 4 0), .int x0, .int x1]) (n := 3) (Nat.le_of_ble_eq_true rfl)
  rw [lg_entry_eq]
  generalize (lg_sl ([.ref (ad 4 0), .int x0, .int x1]) ++ List.replicate (3 - (lg_sl ([.ref (ad 4 0), .int x0, .int x1])).length) Slot.unset).toArray = ls at hl ⊢
  have hl : lv_has ls 3 [(0, .ref (ad 4 0)), (1, .int x0), (2, .int x1)] := hl
  refine lv_iload_n hx hb dX4_addSwitch_0 rfl (lv_at hl 1 rfl) ?_
  refine lv_iconst (v := 0) hx hb dX4_addSwitch_1 (by decide) ?_
  refine lv_iconst (v := 1) hx hb dX4_addSwitch_2 (by decide) ?_
  refine y_callv (vx_runS (As := [.int x0, .int 0, .int 1]) (rest := []) ⟨hx, hb, hml, hown, hts⟩ (c_X4_requireWithin l hns D B (ad) ((cW D ad ((np, ns, nc), σ) T o)) x0 0 1) (va_cwS 3 hts gX4_addSwitch_X4_requireWithin rfl rfl rfl (by decide +kernel) ⟨Nat.le_of_ble_eq_true rfl, Nat.le_of_ble_eq_true rfl⟩) (w_preS hC hP hS) rfl rfl hl.1 rfl (lv_room (Nat.le_of_ble_eq_true rfl)) dX4_addSwitch_3 ⟨Nat.le_of_ble_eq_true rfl, Nat.le_of_ble_eq_true rfl⟩) hS (fun E9 ce9 q9 ad1 w1 H locs hq hP hS h91 h92 h93 => ?_) (fun ad1 w1 H locs hq hP hS => ?_)
  · obtain ⟨h84, h85, h86⟩ := hq
    cases h84
    subst h85
    exact w_thru (fun _ z => z) hnt hlocks hP hS h91 h92 h93 ⟨rfl, by unfold cdAdS; rw [cod3_1 (fun z => h86 z.1)]; exact ⟨by decide, rfl⟩⟩ (Nat.le_of_ble_eq_true rfl) (Nat.le_of_ble_eq_true rfl)
  · obtain ⟨h84, hb1⟩ := hq
    cases h84
    refine lv_iload_n hx hb dX4_addSwitch_6 rfl (lv_at hl 2 rfl) ?_
    refine lv_iconst (v := 0) hx hb dX4_addSwitch_7 (by decide) ?_
    refine lv_sipush (v := (1000)) hx hb dX4_addSwitch_8 (by decide) ?_
    refine y_callv (vx_runS (As := [.int x1, .int 0, .int 1000]) (rest := []) ⟨hx, hb, hml, hown, hts⟩ (c_X4_requireWithin l hns D B (ad) ((cW D ad ((np, ns, nc), σ) T o)) x1 0 1000) (va_cwS 3 hts gX4_addSwitch_X4_requireWithin rfl rfl rfl (by decide +kernel) ⟨Nat.le_of_ble_eq_true rfl, Nat.le_of_ble_eq_true rfl⟩) (w_preS hC hP hS) rfl rfl hl.1 rfl (lv_room (Nat.le_of_ble_eq_true rfl)) dX4_addSwitch_11 ⟨Nat.le_of_ble_eq_true rfl, Nat.le_of_ble_eq_true rfl⟩) hS (fun E9 ce9 q9 ad1 w1 H locs hq hP hS h91 h92 h93 => ?_) (fun ad1 w1 H locs hq hP hS => ?_)
    · obtain ⟨h84, h85, h86⟩ := hq
      cases h84
      subst h85
      exact w_thru (fun _ z => z) hnt hlocks hP hS h91 h92 h93 ⟨rfl, by unfold cdAdS; rw [cod3_1 (fun z => h86 z.2)]; exact ⟨by decide, rfl⟩⟩ (Nat.le_of_ble_eq_true rfl) (Nat.le_of_ble_eq_true rfl)
    · obtain ⟨h84, hb0⟩ := hq
      cases h84
      refine lv_aload_n hx hb dX4_addSwitch_14 rfl (lv_at hl 0 rfl) ?_
      refine w_getA (f := 4) (k := 0) hx hb hts (by decide +kernel) hown hC hP rfl (cW_4) rfl 3 (by decide) (hts (.fieldLink RX4 31 "BuildingPoints" "pointCount" "I") (by decide +kernel)) rfl dX4_addSwitch_15 ?_
      refine lv_aload_n hx hb dX4_addSwitch_18 rfl (lv_at hl 0 rfl) ?_
      refine w_getA (f := 4) (k := 0) hx hb hts (by decide +kernel) hown hC hP rfl (cW_4) rfl 0 (by decide) (hts (.fieldLink RX4 11 "BuildingPoints" "points" "[LBuildingPoints$Point;") (by decide +kernel)) rfl dX4_addSwitch_19 ?_
      refine w_alen hx hb hC hP 3 rfl (cW_70) (v := 16) rfl dX4_addSwitch_22 ?_
      refine y_callv (vx_runS (As := [.int (nI np), .int 16]) (rest := []) ⟨hx, hb, hml, hown, hts⟩ (c_X4_requireRoom l hns D B (ad) ((cW D ad ((np, ns, nc), σ) T o)) (nI np) 16) (va_cwS 2 hts gX4_addSwitch_X4_requireRoom rfl rfl rfl (by decide +kernel) ⟨Nat.le_of_ble_eq_true rfl, Nat.le_of_ble_eq_true rfl⟩) (w_preS hC hP hS) rfl rfl hl.1 rfl (lv_room (Nat.le_of_ble_eq_true rfl)) dX4_addSwitch_23 ⟨Nat.le_of_ble_eq_true rfl, Nat.le_of_ble_eq_true rfl⟩) hS (fun E9 ce9 q9 ad1 w1 H locs hq hP hS h91 h92 h93 => ?_) (fun ad1 w1 H locs hq hP hS => ?_)
      · obtain ⟨h84, h85, h86⟩ := hq
        cases h84
        subst h85
        exact w_thru (fun _ z => z) hnt hlocks hP hS h91 h92 h93 ⟨rfl, by unfold cdAdS; rw [cod3_2 ⟨hb1, hb0⟩ (fun z => h86 (nI_lt z (by decide)))]; exact ⟨by decide, rfl⟩⟩ (Nat.le_of_ble_eq_true rfl) (Nat.le_of_ble_eq_true rfl)
      · obtain ⟨h84, hb2⟩ := hq
        cases h84
        have hlt : np < 16 := Nat.not_le.mp (fun z => absurd hb2 (nI_nlt z (by have : np ≤ 16 := hI.1; have : ns ≤ 30 := hI.2.1; have : nc ≤ 4 := hI.2.2.1; omega)))
        refine lv_aload_n hx hb dX4_addSwitch_26 rfl (lv_at hl 0 rfl) ?_
        refine w_getA (f := 4) (k := 0) hx hb hts (by decide +kernel) hown hC hP rfl (cW_4) rfl 0 (by decide) (hts (.fieldLink RX4 11 "BuildingPoints" "points" "[LBuildingPoints$Point;") (by decide +kernel)) rfl dX4_addSwitch_27 ?_
        refine lv_aload_n hx hb dX4_addSwitch_30 rfl (lv_at hl 0 rfl) ?_
        refine w_getA (f := 4) (k := 0) hx hb hts (by decide +kernel) hown hC hP rfl (cW_4) rfl 3 (by decide) (hts (.fieldLink RX4 31 "BuildingPoints" "pointCount" "I") (by decide +kernel)) rfl dX4_addSwitch_31 ?_
        refine w_new (ci := 1) hx hb hts (by decide +kernel) tyX1 tyX1_ok hown (hts (.classLink RX4 9 "BuildingPoints$Point") (by decide +kernel)) (hts (.instantiable "BuildingPoints$Point" 8) (by decide +kernel)) (hts (.initialized "BuildingPoints$Point") (by decide +kernel)) hC hP hS rfl (fs := [.int 0, .int 0, .int 0, .int 0, .null, .int 0, .int 0, .int 0]) (by decide) (Nat.le_of_ble_eq_true rfl) (Nat.le_of_ble_eq_true rfl) 1 np (cN_1 (Nat.lt_irrefl _)) dX4_addSwitch_34 (fun q_4 H hqq_4 hP hS => ?_)
        clear hqq_4
        refine lv_dup hx hb dX4_addSwitch_37 rfl ?_
        refine lv_iconst (v := 0) hx hb dX4_addSwitch_38 (by decide) ?_
        refine lv_iconst (v := 1) hx hb dX4_addSwitch_39 (by decide) ?_
        refine lv_iload_n hx hb dX4_addSwitch_40 rfl (lv_at hl 1 rfl) ?_
        refine lv_iload_n hx hb dX4_addSwitch_41 rfl (lv_at hl 2 rfl) ?_
        refine w_callv (va_runI (As := [.int 0, .int 1, .int x0, .int x1]) (rest := [.ref q_4, .int (nI np), .ref (ad 7 0)]) ⟨hx, hb, hml, hown, hts⟩ (c_X1_init l D B (a2 ad 1 np q_4) (u2 ((cW D ad ((np, ns, nc), σ) T o)) 1 np (.inr (1, [.int 0, .int 0, .int 0, .int 0, .null, .int 0, .int 0, .int 0]))) np q_4 a2_s (u2_self _ _ _ _) ((u2_o (by omega)).trans (cN_8 (Nat.lt_irrefl _))) 0 1 x0 x1) (cwI 4 hts gX4_addSwitch_X1_init rfl rfl rfl (hts (.initialized RX1) (by decide +kernel)) (hts (.methodLink RX4 39 yX1_init) (by decide +kernel)) (hts (.instanceMethod yX1_init) (by decide +kernel)) rfl (by decide +kernel) ⟨Nat.le_of_ble_eq_true rfl, Nat.le_of_ble_eq_true rfl⟩) (w_preS hC hP hS) rfl rfl hl.1 rfl (lv_room (Nat.le_of_ble_eq_true rfl)) dX4_addSwitch_42 ⟨Nat.le_of_ble_eq_true rfl, Nat.le_of_ble_eq_true rfl⟩) hS (fun ad1 w1 H locs hq hP hS => ?_)
        obtain ⟨z_6q, z_6w, hu, hz_61, hz_68, hz_6o⟩ := hq
        obtain ⟨h81, h82⟩ := Prod.mk.inj hu
        subst h81
        have h82 := h82.symm
        subst h82
        refine w_aastA hx hb hC hP hS 3 1 (r := (RX1, TX1, 8)) rfl rfl (a1 := 7) (k := 0) (f' := 1) (k' := np) ((a2_o (by omega)).trans ((a2_o (by omega)).trans rfl)) ((a2_o (by omega)).trans a2_s) ((hz_6o _ _ (by omega) (by omega)).trans ((u2_o (by omega)).trans (cW_70))) (hz_61) (j := np) hlt (by decide) dX4_addSwitch_45 (fun H locs hP hS => ?_)
        refine lv_aload_n hx hb dX4_addSwitch_46 rfl (lv_at hl 0 rfl) ?_
        refine lv_dup hx hb dX4_addSwitch_47 rfl ?_
        refine w_getA (f := 4) (k := 0) hx hb hts (by decide +kernel) hown hC hP ((a2_o (by omega)).trans ((a2_o (by omega)).trans rfl)) ((u2_o (by omega)).trans ((hz_6o _ _ (by omega) (by omega)).trans ((u2_o (by omega)).trans (cW_4)))) rfl 3 (by decide) (hts (.fieldLink RX4 31 "BuildingPoints" "pointCount" "I") (by decide +kernel)) rfl dX4_addSwitch_48 ?_
        refine lv_dup_x1 hx hb dX4_addSwitch_51 rfl rfl ?_
        refine lv_iconst (v := 1) hx hb dX4_addSwitch_52 (by decide) ?_
        refine lv_iadd hx hb dX4_addSwitch_53 ?_
        refine w_top (v := nI (np + 1)) (nI_1 np) ?_
        refine w_putA (f := 4) (k := 0) hx hb hts (by decide +kernel) tyX4 tyX4_ok nmX4 hown hC hP hS ((a2_o (by omega)).trans ((a2_o (by omega)).trans rfl)) ((u2_o (by omega)).trans ((hz_6o _ _ (by omega) (by omega)).trans ((u2_o (by omega)).trans (cW_4)))) rfl 3 (by decide) (hts (.fieldLink RX4 31 "BuildingPoints" "pointCount" "I") (by decide +kernel)) rfl rfl rfl (Nat.le_of_ble_eq_true rfl) rfl dX4_addSwitch_54 (fun H locs hP hS => ?_)
        refine vx_ret ?_
        exact W.iret (v := (nI np)) hx hb hr (fun t ht hW => Qi_of ⟨_, congrArg (Prod.mk _) (cW_addP hF (fun s9 z => Ib_8 hI z) (fun c9 z => Ib_14 hI z) rfl (by rw [show loF 1 = 0 by decide, show hiF 1 = 1 by decide]; exact ((u2_o (by omega)).trans ((u2_o (by omega)).trans (hz_61)))) ((u2_o (by omega)).trans ((u2_o (by omega)).trans (hz_68))) ((u2_o (by omega)).trans (u2_self _ _ _ _)) (u2_self _ _ _ _) (fun f9 j9 y1 y2 y3 y4 => ((u2_o (by omega)).trans ((u2_o (by omega)).trans ((hz_6o _ _ (by omega) (by omega)).trans ((u2_o (by omega)).trans rfl)))))), fun f9 k9 y9 => ((a2_o (by omega)).trans ((a2_o (by omega)).trans rfl)), rfl, by unfold cdAdS; exact cod3_0 ⟨hb1, hb0⟩ hlt trivial⟩ hP hS ht) hS.2.2 dX4_addSwitch_57
set_option maxHeartbeats 4000000 in
set_option maxRecDepth 100000 in
theorem c_X4_subscribe (l : Launch) (hns : l.stackTraces = false) (D : va_G) (B : Nat) (ad : Ad) (np ns nc : Nat) (σ : Me) (T : Wd) (o : Int64) (hI : Ib (np, ns, nc) σ) (hF : Fr (np, ns, nc) σ) (x0 : Int32) (x1 : Int32) (x2 : Int32) : vx_Met l yX4_subscribe wsX4_subscribe ({ frames := 7, cells := 5, slots := 30, locals := 112 }) (Pre D B ad (cW D ad ((np, ns, nc), σ) T o) [.ref (ad 4 0), .int x0, .int x1, .int x2]) (Qi D B (fun r u => ∃ ad9 : Ad, u = (ad9, cW D ad9 ((np, ns + 1, nc), subF ns x0 x1 (σ 25 0 0 + x2) (σ 7 (nOf x0) 0) σ) T o) ∧ (∀ f9 k9, f9 = 4 ∨ 13 ≤ f9 → ad9 f9 k9 = ad f9 k9) ∧ r = nI ns ∧ cdSub (np, ns, nc) x0 x1 x2 = 0)) (Xc D B (fun E u => u = (ad, cW D ad ((np, ns, nc), σ) T o) ∧ exA [exIO, exIA, exIS] (cdSub (np, ns, nc) x0 x1 x2) E)) 5 30 (ab B) := by
  refine vx_ofW (cc := cX4_subscribe) (maxL := 5) (ret := (some .int)) (by decide) rfl ?_
  intro p e s m args below meth c s₁ Bd hml hnt hv
  obtain ⟨rfl, hC, hP⟩ := hv
  have hx := Bd.exec
  have hb := Bd.bytes
  have hr := Bd.returns
  have hts := atoms_spec (ws := wsX4_subscribe) Bd.pre
  have hown : s.vm.findClass RX4 = some m.cls := findClass_of_methodNamed Bd.named
  have hlocks := Bd.notSynchronized
  have hS : va_S (ab B) s.heap s.heap [] := va_S.rf
  have hl := lv_entry ([.ref (ad 4 0), .int x0, .int x1, .int x2]) (n := 5) (Nat.le_of_ble_eq_true rfl)
  rw [lg_entry_eq]
  generalize (lg_sl ([.ref (ad 4 0), .int x0, .int x1, .int x2]) ++ List.replicate (5 - (lg_sl ([.ref (ad 4 0), .int x0, .int x1, .int x2])).length) Slot.unset).toArray = ls at hl ⊢
  have hl : lv_has ls 5 [(0, .ref (ad 4 0)), (1, .int x0), (2, .int x1), (3, .int x2)] := hl
  refine lv_aload_n hx hb dX4_subscribe_0 rfl (lv_at hl 0 rfl) ?_
  refine lv_iload_n hx hb dX4_subscribe_1 rfl (lv_at hl 1 rfl) ?_
  refine y_callr (vx_runV (As := [.int x0]) (rest := []) ⟨hx, hb, hml, hown, hts⟩ (c_X4_pointAt l hns D B ad (np, ns, nc) σ T o hI.1 x0) (cwV 1 hts gX4_subscribe_X4_pointAt rfl rfl rfl (by decide +kernel) ⟨Nat.le_of_ble_eq_true rfl, Nat.le_of_ble_eq_true rfl⟩) (w_preV hC hP hS cW_4 rfl) rfl rfl hl.1 rfl (lv_room (Nat.le_of_ble_eq_true rfl)) dX4_subscribe_2 ⟨Nat.le_of_ble_eq_true rfl, Nat.le_of_ble_eq_true rfl⟩) hS (fun E9 ce9 q9 ad1 w1 H locs hq hP hS h91 h92 h93 => ?_) (fun r_1 ad1 w1 H locs hq hP hS => ?_)
  · obtain ⟨h84, h85, h86⟩ := hq
    cases h84
    subst h85
    exact w_thru (fun _ z => z) hnt hlocks hP hS h91 h92 h93 ⟨rfl, by unfold cdSub; rw [cod3_1 h86]; exact ⟨by decide, rfl⟩⟩ (Nat.le_of_ble_eq_true rfl) (Nat.le_of_ble_eq_true rfl)
  · obtain ⟨h84, pi, hpi, h85, h86⟩ := hq
    cases h84
    subst h86
    subst h85
    have hpi : pi < np := hpi
    have hcl : nOf (nI pi) = pi := nI_clamp (by have : np ≤ 16 := hI.1; omega)
    refine lv_astore (lv' := [(4, .ref (ad 1 pi)), (0, .ref (ad 4 0)), (1, .int (nI pi)), (2, .int x1), (3, .int x2)]) hx hb dX4_subscribe_5 hl (by decide) rfl (fun ls hl => ?_)
    refine lv_iload_n hx hb dX4_subscribe_7 rfl (lv_at hl 3 rfl) ?_
    refine lv_iconst (v := 1) hx hb dX4_subscribe_8 (by decide) ?_
    refine lv_sipush (v := (2000)) hx hb dX4_subscribe_9 (by decide) ?_
    refine y_callv (vx_runS (As := [.int x1, .int 1, .int 2000]) (rest := []) ⟨hx, hb, hml, hown, hts⟩ (c_X4_requireWithin l hns D B (ad) ((cW D ad ((np, ns, nc), σ) T o)) x1 1 2000) (va_cwS 3 hts gX4_subscribe_X4_requireWithin rfl rfl rfl (by decide +kernel) ⟨Nat.le_of_ble_eq_true rfl, Nat.le_of_ble_eq_true rfl⟩) (w_preS hC hP hS) rfl rfl hl.1 rfl (lv_room (Nat.le_of_ble_eq_true rfl)) dX4_subscribe_12 ⟨Nat.le_of_ble_eq_true rfl, Nat.le_of_ble_eq_true rfl⟩) hS (fun E9 ce9 q9 ad1 w1 H locs hq hP hS h91 h92 h93 => ?_) (fun ad1 w1 H locs hq hP hS => ?_)
    · obtain ⟨h84, h85, h86⟩ := hq
      cases h84
      subst h85
      exact w_thru (fun _ z => z) hnt hlocks hP hS h91 h92 h93 ⟨rfl, by unfold cdSub; rw [cod3_2 ⟨pi, hpi, rfl⟩ (fun z => h86 z.1)]; exact ⟨by decide, rfl⟩⟩ (Nat.le_of_ble_eq_true rfl) (Nat.le_of_ble_eq_true rfl)
    · obtain ⟨h84, hb1⟩ := hq
      cases h84
      refine lv_iload_n hx hb dX4_subscribe_15 rfl (lv_at hl 4 rfl) ?_
      refine lv_iconst (v := 1) hx hb dX4_subscribe_16 (by decide) ?_
      refine lv_ldc (v := (100000)) hx hb hown (hts (.constant RX4 85 (100000)) (by decide +kernel)) dX4_subscribe_17 ?_
      refine y_callv (vx_runS (As := [.int x2, .int 1, .int 100000]) (rest := []) ⟨hx, hb, hml, hown, hts⟩ (c_X4_requireWithin l hns D B (ad) ((cW D ad ((np, ns, nc), σ) T o)) x2 1 100000) (va_cwS 3 hts gX4_subscribe_X4_requireWithin rfl rfl rfl (by decide +kernel) ⟨Nat.le_of_ble_eq_true rfl, Nat.le_of_ble_eq_true rfl⟩) (w_preS hC hP hS) rfl rfl hl.1 rfl (lv_room (Nat.le_of_ble_eq_true rfl)) dX4_subscribe_19 ⟨Nat.le_of_ble_eq_true rfl, Nat.le_of_ble_eq_true rfl⟩) hS (fun E9 ce9 q9 ad1 w1 H locs hq hP hS h91 h92 h93 => ?_) (fun ad1 w1 H locs hq hP hS => ?_)
      · obtain ⟨h84, h85, h86⟩ := hq
        cases h84
        subst h85
        exact w_thru (fun _ z => z) hnt hlocks hP hS h91 h92 h93 ⟨rfl, by unfold cdSub; rw [cod3_2 ⟨pi, hpi, rfl⟩ (fun z => h86 z.2)]; exact ⟨by decide, rfl⟩⟩ (Nat.le_of_ble_eq_true rfl) (Nat.le_of_ble_eq_true rfl)
      · obtain ⟨h84, hb0⟩ := hq
        cases h84
        refine lv_aload_n hx hb dX4_subscribe_22 rfl (lv_at hl 1 rfl) ?_
        refine w_getA (f := 4) (k := 0) hx hb hts (by decide +kernel) hown hC hP rfl (cW_4) rfl 4 (by decide) (hts (.fieldLink RX4 86 "BuildingPoints" "subscriptionCount" "I") (by decide +kernel)) rfl dX4_subscribe_23 ?_
        refine lv_aload_n hx hb dX4_subscribe_26 rfl (lv_at hl 1 rfl) ?_
        refine w_getA (f := 4) (k := 0) hx hb hts (by decide +kernel) hown hC hP rfl (cW_4) rfl 1 (by decide) (hts (.fieldLink RX4 17 "BuildingPoints" "subscriptions" "[LBuildingPoints$Subscription;") (by decide +kernel)) rfl dX4_subscribe_27 ?_
        refine w_alen hx hb hC hP 4 rfl (cW_71) (v := 30) rfl dX4_subscribe_30 ?_
        refine y_callv (vx_runS (As := [.int (nI ns), .int 30]) (rest := []) ⟨hx, hb, hml, hown, hts⟩ (c_X4_requireRoom l hns D B (ad) ((cW D ad ((np, ns, nc), σ) T o)) (nI ns) 30) (va_cwS 2 hts gX4_subscribe_X4_requireRoom rfl rfl rfl (by decide +kernel) ⟨Nat.le_of_ble_eq_true rfl, Nat.le_of_ble_eq_true rfl⟩) (w_preS hC hP hS) rfl rfl hl.1 rfl (lv_room (Nat.le_of_ble_eq_true rfl)) dX4_subscribe_31 ⟨Nat.le_of_ble_eq_true rfl, Nat.le_of_ble_eq_true rfl⟩) hS (fun E9 ce9 q9 ad1 w1 H locs hq hP hS h91 h92 h93 => ?_) (fun ad1 w1 H locs hq hP hS => ?_)
        · obtain ⟨h84, h85, h86⟩ := hq
          cases h84
          subst h85
          exact w_thru (fun _ z => z) hnt hlocks hP hS h91 h92 h93 ⟨rfl, by unfold cdSub; rw [cod3_3 ⟨pi, hpi, rfl⟩ ⟨hb1, hb0⟩ (fun z => h86 (nI_lt z (by decide)))]; exact ⟨by decide, rfl⟩⟩ (Nat.le_of_ble_eq_true rfl) (Nat.le_of_ble_eq_true rfl)
        · obtain ⟨h84, hb2⟩ := hq
          cases h84
          have hlt : ns < 30 := Nat.not_le.mp (fun z => absurd hb2 (nI_nlt z (by have : np ≤ 16 := hI.1; have : ns ≤ 30 := hI.2.1; have : nc ≤ 4 := hI.2.2.1; omega)))
          refine lv_aload_n hx hb dX4_subscribe_34 rfl (lv_at hl 1 rfl) ?_
          refine w_getA (f := 4) (k := 0) hx hb hts (by decide +kernel) hown hC hP rfl (cW_4) rfl 1 (by decide) (hts (.fieldLink RX4 17 "BuildingPoints" "subscriptions" "[LBuildingPoints$Subscription;") (by decide +kernel)) rfl dX4_subscribe_35 ?_
          refine lv_aload_n hx hb dX4_subscribe_38 rfl (lv_at hl 1 rfl) ?_
          refine w_getA (f := 4) (k := 0) hx hb hts (by decide +kernel) hown hC hP rfl (cW_4) rfl 4 (by decide) (hts (.fieldLink RX4 86 "BuildingPoints" "subscriptionCount" "I") (by decide +kernel)) rfl dX4_subscribe_39 ?_
          refine w_new (ci := 3) hx hb hts (by decide +kernel) tyX3 tyX3_ok hown (hts (.classLink RX4 15 "BuildingPoints$Subscription") (by decide +kernel)) (hts (.instantiable "BuildingPoints$Subscription" 6) (by decide +kernel)) (hts (.initialized "BuildingPoints$Subscription") (by decide +kernel)) hC hP hS rfl (fs := [.null, .int 0, .int 0, .int 0, .int 0, .int 0]) (by decide) (Nat.le_of_ble_eq_true rfl) (Nat.le_of_ble_eq_true rfl) 3 ns (cN_3 (Nat.lt_irrefl _)) dX4_subscribe_42 (fun q_5 H hqq_5 hP hS => ?_)
          clear hqq_5
          refine lv_dup hx hb dX4_subscribe_45 rfl ?_
          refine lv_aload hx hb dX4_subscribe_46 (lv_at hl 0 rfl) ?_
          refine lv_iload_n hx hb dX4_subscribe_48 rfl (lv_at hl 3 rfl) ?_
          refine lv_aload_n hx hb dX4_subscribe_49 rfl (lv_at hl 1 rfl) ?_
          refine w_getA (f := 4) (k := 0) hx hb hts (by decide +kernel) hown hC hP ((a2_o (by omega)).trans rfl) ((u2_o (by omega)).trans (cW_4)) rfl 6 (by decide) (hts (.fieldLink RX4 79 "BuildingPoints" "now" "I") (by decide +kernel)) rfl dX4_subscribe_50 ?_
          refine lv_iload_n hx hb dX4_subscribe_53 rfl (lv_at hl 4 rfl) ?_
          refine lv_iadd hx hb dX4_subscribe_54 ?_
          refine w_callv (va_runI (As := [.ref (ad 1 pi), .int x1, .int ((σ 25 0 0) + x2)]) (rest := [.ref q_5, .int (nI ns), .ref (ad 7 1)]) ⟨hx, hb, hml, hown, hts⟩ (c_X3_init l D B (a2 ad 3 ns q_5) (u2 ((cW D ad ((np, ns, nc), σ) T o)) 3 ns (.inr (3, [.null, .int 0, .int 0, .int 0, .int 0, .int 0]))) ns q_5 pi (ad 1 pi) a2_s ((a2_o (by omega)).trans rfl) (u2_self _ _ _ _) _ _ _ _ (σ 7 pi 0) _ _ _ ((u2_o (by omega)).trans (cW_1 hpi)) x1 ((σ 25 0 0) + x2)) (cwI 3 hts gX4_subscribe_X3_init rfl rfl rfl (hts (.initialized RX3) (by decide +kernel)) (hts (.methodLink RX4 89 yX3_init) (by decide +kernel)) (hts (.instanceMethod yX3_init) (by decide +kernel)) rfl (by decide +kernel) ⟨Nat.le_of_ble_eq_true rfl, Nat.le_of_ble_eq_true rfl⟩) (w_preS hC hP hS) rfl rfl hl.1 rfl (lv_room (Nat.le_of_ble_eq_true rfl)) dX4_subscribe_55 ⟨Nat.le_of_ble_eq_true rfl, Nat.le_of_ble_eq_true rfl⟩) hS (fun ad1 w1 H locs hq hP hS => ?_)
          obtain ⟨z_7w, hu, hz_73, hz_7o⟩ := hq
          obtain ⟨h81, h82⟩ := Prod.mk.inj hu
          subst h81
          have h82 := h82.symm
          subst h82
          refine w_aastA hx hb hC hP hS 4 3 (r := (RX3, TX3, 6)) rfl rfl (a1 := 7) (k := 1) (f' := 3) (k' := ns) ((a2_o (by omega)).trans rfl) a2_s ((hz_7o _ _ (by omega)).trans ((u2_o (by omega)).trans (cW_71))) (hz_73) (j := ns) hlt (by decide) dX4_subscribe_58 (fun H locs hP hS => ?_)
          refine lv_aload_n hx hb dX4_subscribe_59 rfl (lv_at hl 1 rfl) ?_
          refine lv_dup hx hb dX4_subscribe_60 rfl ?_
          refine w_getA (f := 4) (k := 0) hx hb hts (by decide +kernel) hown hC hP ((a2_o (by omega)).trans rfl) ((u2_o (by omega)).trans ((hz_7o _ _ (by omega)).trans ((u2_o (by omega)).trans (cW_4)))) rfl 4 (by decide) (hts (.fieldLink RX4 86 "BuildingPoints" "subscriptionCount" "I") (by decide +kernel)) rfl dX4_subscribe_61 ?_
          refine lv_dup_x1 hx hb dX4_subscribe_64 rfl rfl ?_
          refine lv_iconst (v := 1) hx hb dX4_subscribe_65 (by decide) ?_
          refine lv_iadd hx hb dX4_subscribe_66 ?_
          refine w_top (v := nI (ns + 1)) (nI_1 ns) ?_
          refine w_putA (f := 4) (k := 0) hx hb hts (by decide +kernel) tyX4 tyX4_ok nmX4 hown hC hP hS ((a2_o (by omega)).trans rfl) ((u2_o (by omega)).trans ((hz_7o _ _ (by omega)).trans ((u2_o (by omega)).trans (cW_4)))) rfl 4 (by decide) (hts (.fieldLink RX4 86 "BuildingPoints" "subscriptionCount" "I") (by decide +kernel)) rfl rfl rfl (Nat.le_of_ble_eq_true rfl) rfl dX4_subscribe_67 (fun H locs hP hS => ?_)
          refine vx_ret ?_
          exact W.iret (v := (nI ns)) hx hb hr (fun t ht hW => Qi_of ⟨_, congrArg (Prod.mk _) (by rw [hcl]; exact cW_addS hF rfl (by rw [hcl]; exact ((u2_o (by omega)).trans ((u2_o (by omega)).trans (hz_73)))) ((u2_o (by omega)).trans (u2_self _ _ _ _)) (u2_self _ _ _ _) (fun f9 j9 y1 y2 y3 => ((u2_o (by omega)).trans ((u2_o (by omega)).trans ((hz_7o _ _ (by omega)).trans ((u2_o (by omega)).trans rfl)))))), fun f9 k9 y9 => ((a2_o (by omega)).trans rfl), rfl, by unfold cdSub; exact cod3_0 ⟨pi, hpi, rfl⟩ ⟨hb1, hb0⟩ hlt⟩ hP hS ht) hS.2.2 dX4_subscribe_70
set_option maxHeartbeats 4000000 in
set_option maxRecDepth 100000 in
theorem c_X4_addSchedule (l : Launch) (hns : l.stackTraces = false) (D : va_G) (B : Nat) (ad : Ad) (np ns nc : Nat) (σ : Me) (T : Wd) (o : Int64) (hI : Ib (np, ns, nc) σ) (hF : Fr (np, ns, nc) σ) (x0 : Int32) (x1 : Int32) : vx_Met l yX4_addSchedule wsX4_addSchedule ({ frames := 7, cells := 12, slots := 151, locals := 112 }) (Pre D B ad (cW D ad ((np, ns, nc), σ) T o) [.ref (ad 4 0), .int x0, .int x1]) (Qi D B (fun r u => ∃ ad9 : Ad, u = (ad9, cW D ad9 ((np, ns, nc + 1), schF nc x0 x1 σ) T o) ∧ (∀ f9 k9, f9 = 4 ∨ 13 ≤ f9 → ad9 f9 k9 = ad f9 k9) ∧ r = nI nc ∧ cdAdC (np, ns, nc) x0 x1 = 0)) (Xc D B (fun E u => u = (ad, cW D ad ((np, ns, nc), σ) T o) ∧ exA [exIO, exIA, exIS] (cdAdC (np, ns, nc) x0 x1) E)) 12 151 (ab B) := by
  refine vx_ofW (cc := cX4_addSchedule) (maxL := 4) (ret := (some .int)) (by decide) rfl ?_
  intro p e s m args below meth c s₁ Bd hml hnt hv
  obtain ⟨rfl, hC, hP⟩ := hv
  have hx := Bd.exec
  have hb := Bd.bytes
  have hr := Bd.returns
  have hts := atoms_spec (ws := wsX4_addSchedule) Bd.pre
  have hown : s.vm.findClass RX4 = some m.cls := findClass_of_methodNamed Bd.named
  have hlocks := Bd.notSynchronized
  have hS : va_S (ab B) s.heap s.heap [] := va_S.rf
  have hl := lv_entry ([.ref (ad 4 0), .int x0, .int x1]) (n := 4) (Nat.le_of_ble_eq_true rfl)
  rw [lg_entry_eq]
  generalize (lg_sl ([.ref (ad 4 0), .int x0, .int x1]) ++ List.replicate (4 - (lg_sl ([.ref (ad 4 0), .int x0, .int x1])).length) Slot.unset).toArray = ls at hl ⊢
  have hl : lv_has ls 4 [(0, .ref (ad 4 0)), (1, .int x0), (2, .int x1)] := hl
  refine lv_aload_n hx hb dX4_addSchedule_0 rfl (lv_at hl 0 rfl) ?_
  refine lv_iload_n hx hb dX4_addSchedule_1 rfl (lv_at hl 1 rfl) ?_
  refine y_callr (vx_runV (As := [.int x0]) (rest := []) ⟨hx, hb, hml, hown, hts⟩ (c_X4_pointAt l hns D B ad (np, ns, nc) σ T o hI.1 x0) (cwV 1 hts gX4_addSchedule_X4_pointAt rfl rfl rfl (by decide +kernel) ⟨Nat.le_of_ble_eq_true rfl, Nat.le_of_ble_eq_true rfl⟩) (w_preV hC hP hS cW_4 rfl) rfl rfl hl.1 rfl (lv_room (Nat.le_of_ble_eq_true rfl)) dX4_addSchedule_2 ⟨Nat.le_of_ble_eq_true rfl, Nat.le_of_ble_eq_true rfl⟩) hS (fun E9 ce9 q9 ad1 w1 H locs hq hP hS h91 h92 h93 => ?_) (fun r_1 ad1 w1 H locs hq hP hS => ?_)
  · obtain ⟨h84, h85, h86⟩ := hq
    cases h84
    subst h85
    exact w_thru (fun _ z => z) hnt hlocks hP hS h91 h92 h93 ⟨rfl, by unfold cdAdC; rw [cod3_1 h86]; exact ⟨by decide, rfl⟩⟩ (Nat.le_of_ble_eq_true rfl) (Nat.le_of_ble_eq_true rfl)
  · obtain ⟨h84, pi, hpi, h85, h86⟩ := hq
    cases h84
    subst h86
    subst h85
    have hpi : pi < np := hpi
    have hcl : nOf (nI pi) = pi := nI_clamp (by have : np ≤ 16 := hI.1; omega)
    refine lv_astore_n (lv' := [(3, .ref (ad 1 pi)), (0, .ref (ad 4 0)), (1, .int (nI pi)), (2, .int x1)]) hx hb dX4_addSchedule_5 rfl hl (by decide) rfl (fun ls hl => ?_)
    refine lv_iload_n hx hb dX4_addSchedule_6 rfl (lv_at hl 3 rfl) ?_
    refine lv_bipush (v := (7)) hx hb dX4_addSchedule_7 (by decide) ?_
    refine lv_bipush (v := (16)) hx hb dX4_addSchedule_9 (by decide) ?_
    refine y_callv (vx_runS (As := [.int x1, .int 7, .int 16]) (rest := []) ⟨hx, hb, hml, hown, hts⟩ (c_X4_requireWithin l hns D B (ad) ((cW D ad ((np, ns, nc), σ) T o)) x1 7 16) (va_cwS 3 hts gX4_addSchedule_X4_requireWithin rfl rfl rfl (by decide +kernel) ⟨Nat.le_of_ble_eq_true rfl, Nat.le_of_ble_eq_true rfl⟩) (w_preS hC hP hS) rfl rfl hl.1 rfl (lv_room (Nat.le_of_ble_eq_true rfl)) dX4_addSchedule_11 ⟨Nat.le_of_ble_eq_true rfl, Nat.le_of_ble_eq_true rfl⟩) hS (fun E9 ce9 q9 ad1 w1 H locs hq hP hS h91 h92 h93 => ?_) (fun ad1 w1 H locs hq hP hS => ?_)
    · obtain ⟨h84, h85, h86⟩ := hq
      cases h84
      subst h85
      exact w_thru (fun _ z => z) hnt hlocks hP hS h91 h92 h93 ⟨rfl, by unfold cdAdC; rw [cod3_2 ⟨pi, hpi, rfl⟩ h86]; exact ⟨by decide, rfl⟩⟩ (Nat.le_of_ble_eq_true rfl) (Nat.le_of_ble_eq_true rfl)
    · obtain ⟨h84, hb1⟩ := hq
      cases h84
      refine lv_aload_n hx hb dX4_addSchedule_14 rfl (lv_at hl 1 rfl) ?_
      refine w_getA (f := 4) (k := 0) hx hb hts (by decide +kernel) hown hC hP rfl (cW_4) rfl 5 (by decide) (hts (.fieldLink RX4 107 "BuildingPoints" "scheduleCount" "I") (by decide +kernel)) rfl dX4_addSchedule_15 ?_
      refine lv_aload_n hx hb dX4_addSchedule_18 rfl (lv_at hl 1 rfl) ?_
      refine w_getA (f := 4) (k := 0) hx hb hts (by decide +kernel) hown hC hP rfl (cW_4) rfl 2 (by decide) (hts (.fieldLink RX4 23 "BuildingPoints" "schedules" "[LBuildingPoints$Schedule;") (by decide +kernel)) rfl dX4_addSchedule_19 ?_
      refine w_alen hx hb hC hP 5 rfl (cW_72) (v := 4) rfl dX4_addSchedule_22 ?_
      refine y_callv (vx_runS (As := [.int (nI nc), .int 4]) (rest := []) ⟨hx, hb, hml, hown, hts⟩ (c_X4_requireRoom l hns D B (ad) ((cW D ad ((np, ns, nc), σ) T o)) (nI nc) 4) (va_cwS 2 hts gX4_addSchedule_X4_requireRoom rfl rfl rfl (by decide +kernel) ⟨Nat.le_of_ble_eq_true rfl, Nat.le_of_ble_eq_true rfl⟩) (w_preS hC hP hS) rfl rfl hl.1 rfl (lv_room (Nat.le_of_ble_eq_true rfl)) dX4_addSchedule_23 ⟨Nat.le_of_ble_eq_true rfl, Nat.le_of_ble_eq_true rfl⟩) hS (fun E9 ce9 q9 ad1 w1 H locs hq hP hS h91 h92 h93 => ?_) (fun ad1 w1 H locs hq hP hS => ?_)
      · obtain ⟨h84, h85, h86⟩ := hq
        cases h84
        subst h85
        exact w_thru (fun _ z => z) hnt hlocks hP hS h91 h92 h93 ⟨rfl, by unfold cdAdC; rw [cod3_3 ⟨pi, hpi, rfl⟩ hb1 (fun z => h86 (nI_lt z (by decide)))]; exact ⟨by decide, rfl⟩⟩ (Nat.le_of_ble_eq_true rfl) (Nat.le_of_ble_eq_true rfl)
      · obtain ⟨h84, hb2⟩ := hq
        cases h84
        have hlt : nc < 4 := Nat.not_le.mp (fun z => absurd hb2 (nI_nlt z (by have : np ≤ 16 := hI.1; have : ns ≤ 30 := hI.2.1; have : nc ≤ 4 := hI.2.2.1; omega)))
        refine lv_aload_n hx hb dX4_addSchedule_26 rfl (lv_at hl 1 rfl) ?_
        refine w_getA (f := 4) (k := 0) hx hb hts (by decide +kernel) hown hC hP rfl (cW_4) rfl 2 (by decide) (hts (.fieldLink RX4 23 "BuildingPoints" "schedules" "[LBuildingPoints$Schedule;") (by decide +kernel)) rfl dX4_addSchedule_27 ?_
        refine lv_aload_n hx hb dX4_addSchedule_30 rfl (lv_at hl 1 rfl) ?_
        refine w_getA (f := 4) (k := 0) hx hb hts (by decide +kernel) hown hC hP rfl (cW_4) rfl 5 (by decide) (hts (.fieldLink RX4 107 "BuildingPoints" "scheduleCount" "I") (by decide +kernel)) rfl dX4_addSchedule_31 ?_
        refine w_new (ci := 2) hx hb hts (by decide +kernel) tyX2 tyX2_ok hown (hts (.classLink RX4 21 "BuildingPoints$Schedule") (by decide +kernel)) (hts (.instantiable "BuildingPoints$Schedule" 5) (by decide +kernel)) (hts (.initialized "BuildingPoints$Schedule") (by decide +kernel)) hC hP hS rfl (fs := [.null, .int 0, .null, .null, .int 0]) (by decide) (Nat.le_of_ble_eq_true rfl) (Nat.le_of_ble_eq_true rfl) 2 nc (cN_2 (Nat.lt_irrefl _)) dX4_addSchedule_34 (fun q_4 H hqq_4 hP hS => ?_)
        clear hqq_4
        refine lv_dup hx hb dX4_addSchedule_37 rfl ?_
        refine lv_aload_n hx hb dX4_addSchedule_38 rfl (lv_at hl 0 rfl) ?_
        refine lv_iload_n hx hb dX4_addSchedule_39 rfl (lv_at hl 3 rfl) ?_
        refine w_callv (va_runI (As := [.ref (ad 1 pi), .int x1]) (rest := [.ref q_4, .int (nI nc), .ref (ad 7 2)]) ⟨hx, hb, hml, hown, hts⟩ (c_X2_init l D B (a2 (ad) 2 nc q_4) (u2 ((cW D ad ((np, ns, nc), σ) T o)) 2 nc (.inr (2, [.null, .int 0, .null, .null, .int 0]))) nc q_4 pi (ad 1 pi) a2_s (u2_self _ _ _ _) (fun f9 j9 y1 y2 => (u2_o (by omega)).trans (cN_e y1 (by show ¬ _ < 2 * nc; omega))) x1) (cwI 2 hts gX4_addSchedule_X2_init rfl rfl rfl (hts (.initialized RX2) (by decide +kernel)) (hts (.methodLink RX4 110 yX2_init) (by decide +kernel)) (hts (.instanceMethod yX2_init) (by decide +kernel)) rfl (by decide +kernel) ⟨Nat.le_of_ble_eq_true rfl, Nat.le_of_ble_eq_true rfl⟩) (w_preS hC hP hS) rfl rfl hl.1 rfl (lv_room (Nat.le_of_ble_eq_true rfl)) dX4_addSchedule_40 ⟨Nat.le_of_ble_eq_true rfl, Nat.le_of_ble_eq_true rfl⟩) hS (fun ad1 w1 H locs hq hP hS => ?_)
        obtain ⟨z_6a, z_6w, hu, hz_6a, hz_62, hz_60, hz_6o⟩ := hq
        obtain ⟨h81, h82⟩ := Prod.mk.inj hu
        have h81 := h81.symm
        subst h81
        have h82 := h82.symm
        subst h82
        refine w_aastA hx hb hC hP hS 5 2 (r := (RX2, TX2, 5)) rfl rfl (a1 := 7) (k := 2) (f' := 2) (k' := nc) ((hz_6a _ _ (by omega)).trans ((a2_o (by omega)).trans rfl)) ((hz_6a _ _ (by omega)).trans a2_s) ((hz_6o _ _ (by omega) (by omega)).trans ((u2_o (by omega)).trans (cW_72))) (hz_62) (j := nc) hlt (by decide) dX4_addSchedule_43 (fun H locs hP hS => ?_)
        refine lv_aload_n hx hb dX4_addSchedule_44 rfl (lv_at hl 1 rfl) ?_
        refine lv_dup hx hb dX4_addSchedule_45 rfl ?_
        refine w_getA (f := 4) (k := 0) hx hb hts (by decide +kernel) hown hC hP ((hz_6a _ _ (by omega)).trans ((a2_o (by omega)).trans rfl)) ((u2_o (by omega)).trans ((hz_6o _ _ (by omega) (by omega)).trans ((u2_o (by omega)).trans (cW_4)))) rfl 5 (by decide) (hts (.fieldLink RX4 107 "BuildingPoints" "scheduleCount" "I") (by decide +kernel)) rfl dX4_addSchedule_46 ?_
        refine lv_dup_x1 hx hb dX4_addSchedule_49 rfl rfl ?_
        refine lv_iconst (v := 1) hx hb dX4_addSchedule_50 (by decide) ?_
        refine lv_iadd hx hb dX4_addSchedule_51 ?_
        refine w_top (v := nI (nc + 1)) (nI_1 nc) ?_
        refine w_putA (f := 4) (k := 0) hx hb hts (by decide +kernel) tyX4 tyX4_ok nmX4 hown hC hP hS ((hz_6a _ _ (by omega)).trans ((a2_o (by omega)).trans rfl)) ((u2_o (by omega)).trans ((hz_6o _ _ (by omega) (by omega)).trans ((u2_o (by omega)).trans (cW_4)))) rfl 5 (by decide) (hts (.fieldLink RX4 107 "BuildingPoints" "scheduleCount" "I") (by decide +kernel)) rfl rfl rfl (Nat.le_of_ble_eq_true rfl) rfl dX4_addSchedule_52 (fun H locs hP hS => ?_)
        refine vx_ret ?_
        exact W.iret (v := (nI nc)) hx hb hr (fun t ht hW => Qi_of ⟨_, congrArg (Prod.mk _) (cW_addC hF (fun f9 j9 y1 y2 => (hz_6a f9 j9 y2).trans (a2_o (by omega))) ((hz_6a _ _ (by omega)).trans a2_s) (by rw [hcl]; exact ((u2_o (by omega)).trans ((u2_o (by omega)).trans (hz_62)))) (fun e9 y => ⟨((u2_o (by omega)).trans ((u2_o (by omega)).trans (hz_60 e9 y).1)), ((u2_o (by omega)).trans ((u2_o (by omega)).trans (hz_60 e9 y).2.1)), ((u2_o (by omega)).trans ((u2_o (by omega)).trans (hz_60 e9 y).2.2.1)), ((u2_o (by omega)).trans ((u2_o (by omega)).trans (hz_60 e9 y).2.2.2))⟩) ((u2_o (by omega)).trans (u2_self _ _ _ _)) (u2_self _ _ _ _) (fun f9 j9 y1 y2 y3 y4 => ((u2_o (by omega)).trans ((u2_o (by omega)).trans ((hz_6o _ _ (by omega) (by omega)).trans ((u2_o (by omega)).trans rfl)))))), fun f9 k9 y9 => (hz_6a _ _ (by omega)).trans (a2_o (by omega)), rfl, by unfold cdAdC; exact cod3_0 ⟨pi, hpi, rfl⟩ hb1 hlt⟩ hP hS ht) hS.2.2 dX4_addSchedule_55
