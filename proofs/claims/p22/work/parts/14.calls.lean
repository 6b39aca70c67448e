set_option maxHeartbeats 4000000 in
set_option maxRecDepth 100000 in
theorem c_X4_requireWithin (l : Launch) (hns : l.stackTraces = false) (D : va_G) (B : Nat) (ad : Ad) (w : Wd) (x lo hi : Int32) : vx_Met l yX4_requireWithin wsX4_requireWithin ({ frames := 6, cells := 1, slots := 6, locals := 90 }) (Pre D B ad (w) [.int x, .int lo, .int hi]) (Qv D B (fun u => u = (ad, w) ∧ bt x lo hi)) (Xc D B (fun E u => u = (ad, w) ∧ E = exIA ∧ ¬ bt x lo hi)) 1 6 (ab B) := by
  refine vx_ofW (cc := cX4_requireWithin) (maxL := 3) (ret := none) (by decide) rfl ?_
  intro p e s m args below meth c s₁ Bd hml hnt hv
  obtain ⟨rfl, hC, hP⟩ := hv
  have hx := Bd.exec
  have hb := Bd.bytes
  have hr := Bd.returns
  have hts := atoms_spec (ws := wsX4_requireWithin) Bd.pre
  have hown : s.vm.findClass RX4 = some m.cls := findClass_of_methodNamed Bd.named
  have hlocks := Bd.notSynchronized
  have hS : va_S (ab B) s.heap s.heap [] := va_S.rf
  have hl := lv_entry ([.int x, .int lo, .int hi]) (n := 3) (Nat.le_of_ble_eq_true rfl)
  rw [lg_entry_eq]
  generalize (lg_sl ([.int x, .int lo, .int hi]) ++ List.replicate (3 - (lg_sl ([.int x, .int lo, .int hi])).length) Slot.unset).toArray = ls at hl ⊢
  have hl : lv_has ls 3 [(0, .int x), (1, .int lo), (2, .int hi)] := hl
  refine lv_iload_n hx hb dX4_requireWithin_0 rfl (lv_at hl 0 rfl) ?_
  refine lv_iload_n hx hb dX4_requireWithin_1 rfl (lv_at hl 1 rfl) ?_
  refine lv_icmp_lt (tgt := 10) hx hb dX4_requireWithin_2 (by decide) (fun c_2 => ?_) (fun c_2 => ?_)
  · exact w_thIA hx hb hns (is := 154) (text := "an argument is out of range") (by decide) hown (hts (.classLink RX4 152 exIA) (by decide +kernel)) (hts (.initialized exIA) (by decide +kernel)) (fun w hw => hts w ((show ∀ w ∈ (vx_atS RX4 156 exIA ["java/lang/RuntimeException", "java/lang/Exception"]).filter goodWord, w ∈ wsX4_requireWithin from by decide +kernel) w hw)) hC hP hS (by rw [hml]; exact hl.1) hnt dX4_requireWithin_10 dX4_requireWithin_13 dX4_requireWithin_14 dX4_requireWithin_16 dX4_requireWithin_19 (show 6 ≤ _ from (Nat.le_of_ble_eq_true rfl)) (Nat.le_of_ble_eq_true rfl) (Nat.le_of_ble_eq_true rfl) (Nat.le_of_ble_eq_true rfl) hlocks ⟨rfl, rfl, fun z => absurd z.1 (Int32.not_le.mpr c_2)⟩ (Nat.le_of_ble_eq_true rfl) (Nat.le_of_ble_eq_true rfl)
  · refine lv_iload_n hx hb dX4_requireWithin_5 rfl (lv_at hl 0 rfl) ?_
    refine lv_iload_n hx hb dX4_requireWithin_6 rfl (lv_at hl 2 rfl) ?_
    refine lv_icmp_le (tgt := 20) hx hb dX4_requireWithin_7 (by decide) (fun c_7 => ?_) (fun c_7 => ?_)
    · refine W.widen (k := 1) (n := 6) (Nat.le_of_ble_eq_true rfl) (Nat.le_of_ble_eq_true rfl) ?_
      refine vx_ret ?_
      exact W.vret hx hb hr (fun t ht hW => Qv_of ⟨rfl, Int32.not_lt.mp c_2, c_7⟩ hP hS ht) hS.2.2 dX4_requireWithin_20
    · exact w_thIA hx hb hns (is := 154) (text := "an argument is out of range") (by decide) hown (hts (.classLink RX4 152 exIA) (by decide +kernel)) (hts (.initialized exIA) (by decide +kernel)) (fun w hw => hts w ((show ∀ w ∈ (vx_atS RX4 156 exIA ["java/lang/RuntimeException", "java/lang/Exception"]).filter goodWord, w ∈ wsX4_requireWithin from by decide +kernel) w hw)) hC hP hS (by rw [hml]; exact hl.1) hnt dX4_requireWithin_10 dX4_requireWithin_13 dX4_requireWithin_14 dX4_requireWithin_16 dX4_requireWithin_19 (show 6 ≤ _ from (Nat.le_of_ble_eq_true rfl)) (Nat.le_of_ble_eq_true rfl) (Nat.le_of_ble_eq_true rfl) (Nat.le_of_ble_eq_true rfl) hlocks ⟨rfl, rfl, fun z => c_7 z.2⟩ (Nat.le_of_ble_eq_true rfl) (Nat.le_of_ble_eq_true rfl)
set_option maxHeartbeats 4000000 in
set_option maxRecDepth 100000 in
theorem c_X4_requireRoom (l : Launch) (hns : l.stackTraces = false) (D : va_G) (B : Nat) (ad : Ad) (w : Wd) (x lo : Int32) : vx_Met l yX4_requireRoom wsX4_requireRoom ({ frames := 6, cells := 1, slots := 6, locals := 90 }) (Pre D B ad (w) [.int x, .int lo]) (Qv D B (fun u => u = (ad, w) ∧ x < lo)) (Xc D B (fun E u => u = (ad, w) ∧ E = exIS ∧ ¬ x < lo)) 1 6 (ab B) := by
  refine vx_ofW (cc := cX4_requireRoom) (maxL := 2) (ret := none) (by decide) rfl ?_
  intro p e s m args below meth c s₁ Bd hml hnt hv
  obtain ⟨rfl, hC, hP⟩ := hv
  have hx := Bd.exec
  have hb := Bd.bytes
  have hr := Bd.returns
  have hts := atoms_spec (ws := wsX4_requireRoom) Bd.pre
  have hown : s.vm.findClass RX4 = some m.cls := findClass_of_methodNamed Bd.named
  have hlocks := Bd.notSynchronized
  have hS : va_S (ab B) s.heap s.heap [] := va_S.rf
  have hl := lv_entry ([.int x, .int lo]) (n := 2) (Nat.le_of_ble_eq_true rfl)
  rw [lg_entry_eq]
  generalize (lg_sl ([.int x, .int lo]) ++ List.replicate (2 - (lg_sl ([.int x, .int lo])).length) Slot.unset).toArray = ls at hl ⊢
  have hl : lv_has ls 2 [(0, .int x), (1, .int lo)] := hl
  refine lv_iload_n hx hb dX4_requireRoom_0 rfl (lv_at hl 0 rfl) ?_
  refine lv_iload_n hx hb dX4_requireRoom_1 rfl (lv_at hl 1 rfl) ?_
  refine lv_icmp_lt (tgt := 15) hx hb dX4_requireRoom_2 (by decide) (fun c_2 => ?_) (fun c_2 => ?_)
  · refine W.widen (k := 1) (n := 6) (Nat.le_of_ble_eq_true rfl) (Nat.le_of_ble_eq_true rfl) ?_
    refine vx_ret ?_
    exact W.vret hx hb hr (fun t ht hW => Qv_of ⟨rfl, c_2⟩ hP hS ht) hS.2.2 dX4_requireRoom_15
  · exact w_thIS hx hb hns (is := 164) (text := "there are as many as there may be") (by decide) hown (hts (.classLink RX4 54 exIS) (by decide +kernel)) (hts (.initialized exIS) (by decide +kernel)) (fun w hw => hts w ((show ∀ w ∈ (vx_atS RX4 58 exIS ["java/lang/RuntimeException", "java/lang/Exception"]).filter goodWord, w ∈ wsX4_requireRoom from by decide +kernel) w hw)) hC hP hS (by rw [hml]; exact hl.1) hnt dX4_requireRoom_5 dX4_requireRoom_8 dX4_requireRoom_9 dX4_requireRoom_11 dX4_requireRoom_14 (show 6 ≤ _ from (Nat.le_of_ble_eq_true rfl)) (Nat.le_of_ble_eq_true rfl) (Nat.le_of_ble_eq_true rfl) (Nat.le_of_ble_eq_true rfl) hlocks ⟨rfl, rfl, c_2⟩ (Nat.le_of_ble_eq_true rfl) (Nat.le_of_ble_eq_true rfl)
set_option maxHeartbeats 4000000 in
set_option maxRecDepth 100000 in
theorem c_X4_requireCommand (l : Launch) (hns : l.stackTraces = false) (D : va_G) (B : Nat) (ad : Ad) (g : GC) (σ : Me) (T : Wd) (o : Int64) (k : Nat) (hk : k < g.1) (v : Int32) : vx_Met l yX4_requireCommand wsX4_requireCommand ({ frames := 6, cells := 1, slots := 6, locals := 90 }) (Pre D B ad (cW D ad (g, σ) T o) [.ref (ad 1 k), .int v]) (Qv D B (fun u => u = (ad, cW D ad (g, σ) T o) ∧ okV σ k v)) (Xc D B (fun E u => u = (ad, cW D ad (g, σ) T o) ∧ E = exIA ∧ ¬ okV σ k v)) 1 6 (ab B) := by
  refine vx_ofW (cc := cX4_requireCommand) (maxL := 2) (ret := none) (by decide) rfl ?_
  intro p e s m args below meth c s₁ Bd hml hnt hv
  obtain ⟨rfl, hC, hP⟩ := hv
  have hx := Bd.exec
  have hb := Bd.bytes
  have hr := Bd.returns
  have hts := atoms_spec (ws := wsX4_requireCommand) Bd.pre
  have hown : s.vm.findClass RX4 = some m.cls := findClass_of_methodNamed Bd.named
  have hlocks := Bd.notSynchronized
  have hS : va_S (ab B) s.heap s.heap [] := va_S.rf
  have hl := lv_entry ([.ref (ad 1 k), .int v]) (n := 2) (Nat.le_of_ble_eq_true rfl)
  rw [lg_entry_eq]
  generalize (lg_sl ([.ref (ad 1 k), .int v]) ++ List.replicate (2 - (lg_sl ([.ref (ad 1 k), .int v])).length) Slot.unset).toArray = ls at hl ⊢
  have hl : lv_has ls 2 [(0, .ref (ad 1 k)), (1, .int v)] := hl
  refine lv_iload_n hx hb dX4_requireCommand_0 rfl (lv_at hl 1 rfl) ?_
  refine lv_ldc (v := (-100000)) hx hb hown (hts (.constant RX4 157 (-100000)) (by decide +kernel)) dX4_requireCommand_1 ?_
  refine w_top (v := nth) rfl ?_
  refine lv_icmp_eq (tgt := 24) hx hb dX4_requireCommand_3 (by decide) (fun c_3 => ?_) (fun c_3 => ?_)
  · refine W.widen (k := 1) (n := 6) (Nat.le_of_ble_eq_true rfl) (Nat.le_of_ble_eq_true rfl) ?_
    refine vx_ret ?_
    exact W.vret hx hb hr (fun t ht hW => Qv_of ⟨rfl, Or.inl c_3⟩ hP hS ht) hS.2.2 dX4_requireCommand_24
  · refine lv_aload_n hx hb dX4_requireCommand_6 rfl (lv_at hl 0 rfl) ?_
    refine lv_iload_n hx hb dX4_requireCommand_7 rfl (lv_at hl 1 rfl) ?_
    refine w_calli (va_runV (As := [.int v]) (rest := []) ⟨hx, hb, hml, hown, hts⟩ (c_X1_canHave l D B ad g σ T o k hk v) (cwV 1 hts gX4_requireCommand_X1_canHave rfl rfl rfl (by decide +kernel) ⟨Nat.le_of_ble_eq_true rfl, Nat.le_of_ble_eq_true rfl⟩) (w_preV hC hP hS (cW_1 hk) rfl) rfl rfl hl.1 rfl (lv_room (Nat.le_of_ble_eq_true rfl)) dX4_requireCommand_8 ⟨Nat.le_of_ble_eq_true rfl, Nat.le_of_ble_eq_true rfl⟩) hS (fun r_1 ad1 w1 H locs hq hP hS => ?_)
    obtain ⟨h91, h92⟩ := hq
    cases h91
    subst h92
    refine lv_if_ne (tgt := 24) hx hb dX4_requireCommand_11 (by decide) (fun c_11 => ?_) (fun c_11 => ?_)
    · refine W.widen (k := 1) (n := 6) (Nat.le_of_ble_eq_true rfl) (Nat.le_of_ble_eq_true rfl) ?_
      refine vx_ret ?_
      exact W.vret hx hb hr (fun t ht hW => Qv_of ⟨rfl, Or.inr (Classical.not_not.mp (fun z => c_11 (bI_0.mpr z)))⟩ hP hS ht) hS.2.2 dX4_requireCommand_24
    · exact w_thIA hx hb hns (is := 162) (text := "the point cannot have this value") (by decide) hown (hts (.classLink RX4 152 exIA) (by decide +kernel)) (hts (.initialized exIA) (by decide +kernel)) (fun w hw => hts w ((show ∀ w ∈ (vx_atS RX4 156 exIA ["java/lang/RuntimeException", "java/lang/Exception"]).filter goodWord, w ∈ wsX4_requireCommand from by decide +kernel) w hw)) hC hP hS (by rw [hml]; exact hl.1) hnt dX4_requireCommand_14 dX4_requireCommand_17 dX4_requireCommand_18 dX4_requireCommand_20 dX4_requireCommand_23 (show 6 ≤ _ from (Nat.le_of_ble_eq_true rfl)) (Nat.le_of_ble_eq_true rfl) (Nat.le_of_ble_eq_true rfl) (Nat.le_of_ble_eq_true rfl) hlocks ⟨rfl, rfl, fun z => z.elim c_3 (bI_0.mp c_11)⟩ (Nat.le_of_ble_eq_true rfl) (Nat.le_of_ble_eq_true rfl)
set_option maxHeartbeats 4000000 in
set_option maxRecDepth 100000 in
theorem c_X4_requireEntry (l : Launch) (hns : l.stackTraces = false) (D : va_G) (B : Nat) (ad : Ad) (g : GC) (σ : Me) (T : Wd) (o : Int64) (k : Nat) (hk : k < g.2.2) (hI : Ib g σ) (x v : Int32) : vx_Met l yX4_requireEntry wsX4_requireEntry ({ frames := 7, cells := 3, slots := 18, locals := 112 }) (Pre D B ad (cW D ad (g, σ) T o) [.ref (ad 2 k), .int x, .int v]) (Qv D B (fun u => u = (ad, cW D ad (g, σ) T o) ∧ (bt x 0 1439 ∧ okV σ (nOf (σ 14 k 0)) v) ∧ nOf (σ 17 k 0) < 20)) (Xc D B (fun E u => u = (ad, cW D ad (g, σ) T o) ∧ ((E = exIA ∧ ¬ (bt x 0 1439 ∧ okV σ (nOf (σ 14 k 0)) v)) ∨ (E = exIS ∧ (bt x 0 1439 ∧ okV σ (nOf (σ 14 k 0)) v) ∧ ¬ nOf (σ 17 k 0) < 20)))) 3 18 (ab B) := by
  refine vx_ofW (cc := cX4_requireEntry) (maxL := 3) (ret := none) (by decide) rfl ?_
  intro p e s m args below meth c s₁ Bd hml hnt hv
  obtain ⟨rfl, hC, hP⟩ := hv
  have hx := Bd.exec
  have hb := Bd.bytes
  have hr := Bd.returns
  have hts := atoms_spec (ws := wsX4_requireEntry) Bd.pre
  have hown : s.vm.findClass RX4 = some m.cls := findClass_of_methodNamed Bd.named
  have hlocks := Bd.notSynchronized
  have hS : va_S (ab B) s.heap s.heap [] := va_S.rf
  have hl := lv_entry ([.ref (ad 2 k), .int x, .int v]) (n := 3) (Nat.le_of_ble_eq_true rfl)
  rw [lg_entry_eq]
  generalize (lg_sl ([.ref (ad 2 k), .int x, .int v]) ++ List.replicate (3 - (lg_sl ([.ref (ad 2 k), .int x, .int v])).length) Slot.unset).toArray = ls at hl ⊢
  have hl : lv_has ls 3 [(0, .ref (ad 2 k)), (1, .int x), (2, .int v)] := hl
  obtain ⟨i, j, n, n1, n2, h1, h2, h3, h4, h5, h6, h7, h8, h9, h10, -⟩ := hI.2.2.2.2.2 k hk
  have h14 : (σ 14 k 0).toNatClampNeg < g.1 := by rw [h2, nI_clamp (by have := hI.1; omega)]; exact h1
  have h17 : nOf (σ 17 k 0) = n := by rw [h6]; exact nI_clamp (by omega)
  have hsum : σ 21 (2 * k) 0 + σ 21 (2 * k + 1) 0 = nI n := by rw [h7, h8, nI_add, h9]
  refine lv_iload_n hx hb dX4_requireEntry_0 rfl (lv_at hl 1 rfl) ?_
  refine lv_iconst (v := 0) hx hb dX4_requireEntry_1 (by decide) ?_
  refine lv_sipush (v := (1439)) hx hb dX4_requireEntry_2 (by decide) ?_
  refine y_callv (vx_runS (As := [.int x, .int 0, .int 1439]) (rest := []) ⟨hx, hb, hml, hown, hts⟩ (c_X4_requireWithin l hns D B ad (cW D ad (g, σ) T o) x 0 1439) (va_cwS 3 hts gX4_requireEntry_X4_requireWithin rfl rfl rfl (by decide +kernel) ⟨Nat.le_of_ble_eq_true rfl, Nat.le_of_ble_eq_true rfl⟩) (w_preS hC hP hS) rfl rfl hl.1 rfl (lv_room (Nat.le_of_ble_eq_true rfl)) dX4_requireEntry_5 ⟨Nat.le_of_ble_eq_true rfl, Nat.le_of_ble_eq_true rfl⟩) hS (fun E9 ce9 q9 ad1 w1 H locs hq hP hS h91 h92 h93 => ?_) (fun ad1 w1 H locs hq hP hS => ?_)
  · obtain ⟨h84, h85, h86⟩ := hq
    cases h84
    subst h85
    exact w_thru (fun _ z => z) hnt hlocks hP hS h91 h92 h93 ⟨rfl, Or.inl ⟨rfl, fun z => h86 z.1⟩⟩ (Nat.le_of_ble_eq_true rfl) (Nat.le_of_ble_eq_true rfl)
  · obtain ⟨h84, hb1⟩ := hq
    cases h84
    refine lv_aload_n hx hb dX4_requireEntry_8 rfl (lv_at hl 0 rfl) ?_
    refine w_get hx hb hts (by decide +kernel) hown hC hP (cW_2 hk) rfl 0 (by decide) (hts (.fieldLink RX4 166 "BuildingPoints$Schedule" "point" "LBuildingPoints$Point;") (by decide +kernel)) rfl dX4_requireEntry_9 ?_
    refine lv_iload_n hx hb dX4_requireEntry_12 rfl (lv_at hl 2 rfl) ?_
    refine y_callv (vx_runS (As := [.ref (ad 1 ((σ 14 k 0).toNatClampNeg)), .int v]) (rest := []) ⟨hx, hb, hml, hown, hts⟩ (c_X4_requireCommand l hns D B ad g σ T o ((σ 14 k 0).toNatClampNeg) h14 v) (va_cwS 2 hts gX4_requireEntry_X4_requireCommand rfl rfl rfl (by decide +kernel) ⟨Nat.le_of_ble_eq_true rfl, Nat.le_of_ble_eq_true rfl⟩) (w_preS hC hP hS) rfl rfl hl.1 rfl (lv_room (Nat.le_of_ble_eq_true rfl)) dX4_requireEntry_13 ⟨Nat.le_of_ble_eq_true rfl, Nat.le_of_ble_eq_true rfl⟩) hS (fun E9 ce9 q9 ad1 w1 H locs hq hP hS h91 h92 h93 => ?_) (fun ad1 w1 H locs hq hP hS => ?_)
    · obtain ⟨h84, h85, h86⟩ := hq
      cases h84
      subst h85
      exact w_thru (fun _ z => z) hnt hlocks hP hS h91 h92 h93 ⟨rfl, Or.inl ⟨rfl, fun z => h86 z.2⟩⟩ (Nat.le_of_ble_eq_true rfl) (Nat.le_of_ble_eq_true rfl)
    · obtain ⟨h84, hb2⟩ := hq
      cases h84
      refine lv_aload_n hx hb dX4_requireEntry_16 rfl (lv_at hl 0 rfl) ?_
      refine w_calli (va_runV (As := []) (rest := []) ⟨hx, hb, hml, hown, hts⟩ (c_X2_entryCount l D B ad g σ T o k hk) (cwV 0 hts gX4_requireEntry_X2_entryCount rfl rfl rfl (by decide +kernel) ⟨Nat.le_of_ble_eq_true rfl, Nat.le_of_ble_eq_true rfl⟩) (w_preV hC hP hS (cW_2 hk) rfl) rfl rfl hl.1 rfl (lv_room (Nat.le_of_ble_eq_true rfl)) dX4_requireEntry_17 ⟨Nat.le_of_ble_eq_true rfl, Nat.le_of_ble_eq_true rfl⟩) hS (fun r_3 ad1 w1 H locs hq hP hS => ?_)
      obtain ⟨h91, h92⟩ := hq
      cases h91
      subst h92
      refine lv_bipush (v := (20)) hx hb dX4_requireEntry_20 (by decide) ?_
      refine y_callv (vx_runS (As := [.int (σ 21 (2 * k) 0 + σ 21 (2 * k + 1) 0), .int 20]) (rest := []) ⟨hx, hb, hml, hown, hts⟩ (c_X4_requireRoom l hns D B ad (cW D ad (g, σ) T o) (σ 21 (2 * k) 0 + σ 21 (2 * k + 1) 0) 20) (va_cwS 2 hts gX4_requireEntry_X4_requireRoom rfl rfl rfl (by decide +kernel) ⟨Nat.le_of_ble_eq_true rfl, Nat.le_of_ble_eq_true rfl⟩) (w_preS hC hP hS) rfl rfl hl.1 rfl (lv_room (Nat.le_of_ble_eq_true rfl)) dX4_requireEntry_22 ⟨Nat.le_of_ble_eq_true rfl, Nat.le_of_ble_eq_true rfl⟩) hS (fun E9 ce9 q9 ad1 w1 H locs hq hP hS h91 h92 h93 => ?_) (fun ad1 w1 H locs hq hP hS => ?_)
      · obtain ⟨h84, h85, h86⟩ := hq
        cases h84
        subst h85
        exact w_thru (fun _ z => z) hnt hlocks hP hS h91 h92 h93 ⟨rfl, Or.inr ⟨rfl, ⟨hb1, hb2⟩, fun z => h86 (by rw [h17] at z; rw [hsum]; exact nI_lt z (by decide))⟩⟩ (Nat.le_of_ble_eq_true rfl) (Nat.le_of_ble_eq_true rfl)
      · obtain ⟨h84, hb4⟩ := hq
        cases h84
        have hb3 : nOf (σ 17 k 0) < 20 := by rw [h17]; rw [hsum] at hb4; exact Nat.not_le.mp (fun z => absurd hb4 (nI_nlt z (by omega)))
        refine vx_ret ?_
        exact W.vret hx hb hr (fun t ht hW => Qv_of ⟨rfl, ⟨hb1, hb2⟩, hb3⟩ hP hS ht) hS.2.2 dX4_requireEntry_25
set_option maxHeartbeats 4000000 in
set_option maxRecDepth 100000 in
theorem c_X4_pointAt (l : Launch) (hns : l.stackTraces = false) (D : va_G) (B : Nat) (ad : Ad) (g : GC) (σ : Me) (T : Wd) (o : Int64) (hg : g.1 ≤ 16) (x : Int32) : vx_Met l yX4_pointAt wsX4_pointAt ({ frames := 6, cells := 1, slots := 6, locals := 90 }) (Pre D B ad (cW D ad (g, σ) T o) [.ref (ad 4 0), .int x]) (Qr D B (fun a u => u = (ad, cW D ad (g, σ) T o) ∧ ∃ i, i < g.1 ∧ x = nI i ∧ a = ad 1 i)) (Xc D B (fun E u => u = (ad, cW D ad (g, σ) T o) ∧ E = exIO ∧ ¬ isN g.1 x)) 1 6 (ab B) := by
  refine vx_ofW (cc := cX4_pointAt) (maxL := 2) (ret := (some (.object "BuildingPoints$Point"))) (by decide) rfl ?_
  intro p e s m args below meth c s₁ Bd hml hnt hv
  obtain ⟨rfl, hC, hP⟩ := hv
  have hx := Bd.exec
  have hb := Bd.bytes
  have hr := Bd.returns
  have hts := atoms_spec (ws := wsX4_pointAt) Bd.pre
  have hown : s.vm.findClass RX4 = some m.cls := findClass_of_methodNamed Bd.named
  have hlocks := Bd.notSynchronized
  have hS : va_S (ab B) s.heap s.heap [] := va_S.rf
  have hl := lv_entry ([.ref (ad 4 0), .int x]) (n := 2) (Nat.le_of_ble_eq_true rfl)
  rw [lg_entry_eq]
  generalize (lg_sl ([.ref (ad 4 0), .int x]) ++ List.replicate (2 - (lg_sl ([.ref (ad 4 0), .int x])).length) Slot.unset).toArray = ls at hl ⊢
  have hl : lv_has ls 2 [(0, .ref (ad 4 0)), (1, .int x)] := hl
  refine lv_iload_n hx hb dX4_pointAt_0 rfl (lv_at hl 1 rfl) ?_
  refine lv_if_lt (tgt := 22) hx hb dX4_pointAt_1 (by decide) (fun c_1 => ?_) (fun c_1 => ?_)
  · exact w_thIO hx hb hns (is := 175) (text := "there is no such point") (by decide) hown (hts (.classLink RX4 173 exIO) (by decide +kernel)) (hts (.initialized exIO) (by decide +kernel)) (fun w hw => hts w ((show ∀ w ∈ (vx_atS RX4 177 exIO ["java/lang/RuntimeException", "java/lang/Exception"]).filter goodWord, w ∈ wsX4_pointAt from by decide +kernel) w hw)) hC hP hS (by rw [hml]; exact hl.1) hnt dX4_pointAt_22 dX4_pointAt_25 dX4_pointAt_26 dX4_pointAt_28 dX4_pointAt_31 (show 6 ≤ _ from (Nat.le_of_ble_eq_true rfl)) (Nat.le_of_ble_eq_true rfl) (Nat.le_of_ble_eq_true rfl) (Nat.le_of_ble_eq_true rfl) hlocks ⟨rfl, rfl, fun ⟨z, h1, h2⟩ => absurd c_1 (by rw [h2]; exact nI_pos (by omega))⟩ (Nat.le_of_ble_eq_true rfl) (Nat.le_of_ble_eq_true rfl)
  · obtain ⟨i, hi31, rfl⟩ := nI_of c_1
    refine lv_iload_n hx hb dX4_pointAt_4 rfl (lv_at hl 1 rfl) ?_
    refine lv_aload_n hx hb dX4_pointAt_5 rfl (lv_at hl 0 rfl) ?_
    refine w_get hx hb hts (by decide +kernel) hown hC hP cW_4 rfl 0 (by decide) (hts (.fieldLink RX4 11 "BuildingPoints" "points" "[LBuildingPoints$Point;") (by decide +kernel)) rfl dX4_pointAt_6 ?_
    refine w_alen hx hb hC hP 3 rfl cW_70 (v := 16) rfl dX4_pointAt_9 ?_
    refine lv_icmp_ge (tgt := 22) hx hb dX4_pointAt_10 (by decide) (fun c_10 => ?_) (fun c_10 => ?_)
    · exact w_thIO hx hb hns (is := 175) (text := "there is no such point") (by decide) hown (hts (.classLink RX4 173 exIO) (by decide +kernel)) (hts (.initialized exIO) (by decide +kernel)) (fun w hw => hts w ((show ∀ w ∈ (vx_atS RX4 177 exIO ["java/lang/RuntimeException", "java/lang/Exception"]).filter goodWord, w ∈ wsX4_pointAt from by decide +kernel) w hw)) hC hP hS (by rw [hml]; exact hl.1) hnt dX4_pointAt_22 dX4_pointAt_25 dX4_pointAt_26 dX4_pointAt_28 dX4_pointAt_31 (show 6 ≤ _ from (Nat.le_of_ble_eq_true rfl)) (Nat.le_of_ble_eq_true rfl) (Nat.le_of_ble_eq_true rfl) (Nat.le_of_ble_eq_true rfl) hlocks ⟨rfl, rfl, fun ⟨z, h1, h2⟩ => absurd c_10 (by rw [h2]; exact nI_ge (show z < 16 by omega) (by decide))⟩ (Nat.le_of_ble_eq_true rfl) (Nat.le_of_ble_eq_true rfl)
    · have hlt : i < 16 := Nat.not_le.mp (fun z => c_10 (nI_le z (by omega)))
      refine lv_aload_n hx hb dX4_pointAt_13 rfl (lv_at hl 0 rfl) ?_
      refine w_get hx hb hts (by decide +kernel) hown hC hP cW_4 rfl 0 (by decide) (hts (.fieldLink RX4 11 "BuildingPoints" "points" "[LBuildingPoints$Point;") (by decide +kernel)) rfl dX4_pointAt_14 ?_
      refine lv_iload_n hx hb dX4_pointAt_17 rfl (lv_at hl 1 rfl) ?_
      rcases Nat.lt_or_ge i g.1 with hin | hin
      · refine w_aldN hx hb hC hP 3 rfl cW_70 (by omega) (by decide) dX4_pointAt_18 (r := .ref (ad 1 i)) (by simp only [fP, if_pos hin]; rfl) ?_
        refine lv_ifnonnull (tgt := 32) hx hb dX4_pointAt_19 (by decide) ?_
        refine lv_aload_n hx hb dX4_pointAt_32 rfl (lv_at hl 0 rfl) ?_
        refine w_get hx hb hts (by decide +kernel) hown hC hP cW_4 rfl 0 (by decide) (hts (.fieldLink RX4 11 "BuildingPoints" "points" "[LBuildingPoints$Point;") (by decide +kernel)) rfl dX4_pointAt_33 ?_
        refine lv_iload_n hx hb dX4_pointAt_36 rfl (lv_at hl 1 rfl) ?_
        refine w_aldN hx hb hC hP 3 rfl cW_70 (by omega) (by decide) dX4_pointAt_37 (r := .ref (ad 1 i)) (by simp only [fP, if_pos hin]; rfl) ?_
        refine W.widen (k := 1) (n := 6) (Nat.le_of_ble_eq_true rfl) (Nat.le_of_ble_eq_true rfl) ?_
        refine vx_ret ?_
        exact W.aret hx hb hr (Or.inl ⟨_, rfl⟩) (Or.inr ⟨_, rfl⟩) (fun t ht hW => Qr_of ⟨rfl, i, hin, rfl, rfl⟩ hP hS ht) hS.2.2 dX4_pointAt_38
      · refine w_aldN hx hb hC hP 3 rfl cW_70 (by omega) (by decide) dX4_pointAt_18 (r := .null) (by simp only [fP, if_neg (Nat.not_lt.mpr hin)]; rfl) ?_
        refine lv_ifnonnullN hx hb dX4_pointAt_19 ?_
        exact w_thIO hx hb hns (is := 175) (text := "there is no such point") (by decide) hown (hts (.classLink RX4 173 exIO) (by decide +kernel)) (hts (.initialized exIO) (by decide +kernel)) (fun w hw => hts w ((show ∀ w ∈ (vx_atS RX4 177 exIO ["java/lang/RuntimeException", "java/lang/Exception"]).filter goodWord, w ∈ wsX4_pointAt from by decide +kernel) w hw)) hC hP hS (by rw [hml]; exact hl.1) hnt dX4_pointAt_22 dX4_pointAt_25 dX4_pointAt_26 dX4_pointAt_28 dX4_pointAt_31 (show 6 ≤ _ from (Nat.le_of_ble_eq_true rfl)) (Nat.le_of_ble_eq_true rfl) (Nat.le_of_ble_eq_true rfl) (Nat.le_of_ble_eq_true rfl) hlocks ⟨rfl, rfl, fun ⟨z, h1, h2⟩ => absurd (nI_inj (by omega) (by omega) h2) (by omega)⟩ (Nat.le_of_ble_eq_true rfl) (Nat.le_of_ble_eq_true rfl)
set_option maxHeartbeats 4000000 in
set_option maxRecDepth 100000 in
theorem c_X4_subscriptionAt (l : Launch) (hns : l.stackTraces = false) (D : va_G) (B : Nat) (ad : Ad) (g : GC) (σ : Me) (T : Wd) (o : Int64) (hg : g.2.1 ≤ 30) (x : Int32) : vx_Met l yX4_subscriptionAt wsX4_subscriptionAt ({ frames := 6, cells := 1, slots := 6, locals := 90 }) (Pre D B ad (cW D ad (g, σ) T o) [.ref (ad 4 0), .int x]) (Qr D B (fun a u => u = (ad, cW D ad (g, σ) T o) ∧ ∃ i, i < g.2.1 ∧ x = nI i ∧ a = ad 3 i)) (Xc D B (fun E u => u = (ad, cW D ad (g, σ) T o) ∧ E = exIO ∧ ¬ isN g.2.1 x)) 1 6 (ab B) := by
  refine vx_ofW (cc := cX4_subscriptionAt) (maxL := 2) (ret := (some (.object "BuildingPoints$Subscription"))) (by decide) rfl ?_
  intro p e s m args below meth c s₁ Bd hml hnt hv
  obtain ⟨rfl, hC, hP⟩ := hv
  have hx := Bd.exec
  have hb := Bd.bytes
  have hr := Bd.returns
  have hts := atoms_spec (ws := wsX4_subscriptionAt) Bd.pre
  have hown : s.vm.findClass RX4 = some m.cls := findClass_of_methodNamed Bd.named
  have hlocks := Bd.notSynchronized
  have hS : va_S (ab B) s.heap s.heap [] := va_S.rf
  have hl := lv_entry ([.ref (ad 4 0), .int x]) (n := 2) (Nat.le_of_ble_eq_true rfl)
  rw [lg_entry_eq]
  generalize (lg_sl ([.ref (ad 4 0), .int x]) ++ List.replicate (2 - (lg_sl ([.ref (ad 4 0), .int x])).length) Slot.unset).toArray = ls at hl ⊢
  have hl : lv_has ls 2 [(0, .ref (ad 4 0)), (1, .int x)] := hl
  refine lv_iload_n hx hb dX4_subscriptionAt_0 rfl (lv_at hl 1 rfl) ?_
  refine lv_if_lt (tgt := 22) hx hb dX4_subscriptionAt_1 (by decide) (fun c_1 => ?_) (fun c_1 => ?_)
  · exact w_thIO hx hb hns (is := 178) (text := "there is no such subscription") (by decide) hown (hts (.classLink RX4 173 exIO) (by decide +kernel)) (hts (.initialized exIO) (by decide +kernel)) (fun w hw => hts w ((show ∀ w ∈ (vx_atS RX4 177 exIO ["java/lang/RuntimeException", "java/lang/Exception"]).filter goodWord, w ∈ wsX4_subscriptionAt from by decide +kernel) w hw)) hC hP hS (by rw [hml]; exact hl.1) hnt dX4_subscriptionAt_22 dX4_subscriptionAt_25 dX4_subscriptionAt_26 dX4_subscriptionAt_28 dX4_subscriptionAt_31 (show 6 ≤ _ from (Nat.le_of_ble_eq_true rfl)) (Nat.le_of_ble_eq_true rfl) (Nat.le_of_ble_eq_true rfl) (Nat.le_of_ble_eq_true rfl) hlocks ⟨rfl, rfl, fun ⟨z, h1, h2⟩ => absurd c_1 (by rw [h2]; exact nI_pos (by omega))⟩ (Nat.le_of_ble_eq_true rfl) (Nat.le_of_ble_eq_true rfl)
  · obtain ⟨i, hi31, rfl⟩ := nI_of c_1
    refine lv_iload_n hx hb dX4_subscriptionAt_4 rfl (lv_at hl 1 rfl) ?_
    refine lv_aload_n hx hb dX4_subscriptionAt_5 rfl (lv_at hl 0 rfl) ?_
    refine w_get hx hb hts (by decide +kernel) hown hC hP cW_4 rfl 1 (by decide) (hts (.fieldLink RX4 17 "BuildingPoints" "subscriptions" "[LBuildingPoints$Subscription;") (by decide +kernel)) rfl dX4_subscriptionAt_6 ?_
    refine w_alen hx hb hC hP 4 rfl cW_71 (v := 30) rfl dX4_subscriptionAt_9 ?_
    refine lv_icmp_ge (tgt := 22) hx hb dX4_subscriptionAt_10 (by decide) (fun c_10 => ?_) (fun c_10 => ?_)
    · exact w_thIO hx hb hns (is := 178) (text := "there is no such subscription") (by decide) hown (hts (.classLink RX4 173 exIO) (by decide +kernel)) (hts (.initialized exIO) (by decide +kernel)) (fun w hw => hts w ((show ∀ w ∈ (vx_atS RX4 177 exIO ["java/lang/RuntimeException", "java/lang/Exception"]).filter goodWord, w ∈ wsX4_subscriptionAt from by decide +kernel) w hw)) hC hP hS (by rw [hml]; exact hl.1) hnt dX4_subscriptionAt_22 dX4_subscriptionAt_25 dX4_subscriptionAt_26 dX4_subscriptionAt_28 dX4_subscriptionAt_31 (show 6 ≤ _ from (Nat.le_of_ble_eq_true rfl)) (Nat.le_of_ble_eq_true rfl) (Nat.le_of_ble_eq_true rfl) (Nat.le_of_ble_eq_true rfl) hlocks ⟨rfl, rfl, fun ⟨z, h1, h2⟩ => absurd c_10 (by rw [h2]; exact nI_ge (show z < 30 by omega) (by decide))⟩ (Nat.le_of_ble_eq_true rfl) (Nat.le_of_ble_eq_true rfl)
    · have hlt : i < 30 := Nat.not_le.mp (fun z => c_10 (nI_le z (by omega)))
      refine lv_aload_n hx hb dX4_subscriptionAt_13 rfl (lv_at hl 0 rfl) ?_
      refine w_get hx hb hts (by decide +kernel) hown hC hP cW_4 rfl 1 (by decide) (hts (.fieldLink RX4 17 "BuildingPoints" "subscriptions" "[LBuildingPoints$Subscription;") (by decide +kernel)) rfl dX4_subscriptionAt_14 ?_
      refine lv_iload_n hx hb dX4_subscriptionAt_17 rfl (lv_at hl 1 rfl) ?_
      rcases Nat.lt_or_ge i g.2.1 with hin | hin
      · refine w_aldN hx hb hC hP 4 rfl cW_71 (by omega) (by decide) dX4_subscriptionAt_18 (r := .ref (ad 3 i)) (by simp only [fP, if_pos hin]; rfl) ?_
        refine lv_ifnonnull (tgt := 32) hx hb dX4_subscriptionAt_19 (by decide) ?_
        refine lv_aload_n hx hb dX4_subscriptionAt_32 rfl (lv_at hl 0 rfl) ?_
        refine w_get hx hb hts (by decide +kernel) hown hC hP cW_4 rfl 1 (by decide) (hts (.fieldLink RX4 17 "BuildingPoints" "subscriptions" "[LBuildingPoints$Subscription;") (by decide +kernel)) rfl dX4_subscriptionAt_33 ?_
        refine lv_iload_n hx hb dX4_subscriptionAt_36 rfl (lv_at hl 1 rfl) ?_
        refine w_aldN hx hb hC hP 4 rfl cW_71 (by omega) (by decide) dX4_subscriptionAt_37 (r := .ref (ad 3 i)) (by simp only [fP, if_pos hin]; rfl) ?_
        refine W.widen (k := 1) (n := 6) (Nat.le_of_ble_eq_true rfl) (Nat.le_of_ble_eq_true rfl) ?_
        refine vx_ret ?_
        exact W.aret hx hb hr (Or.inl ⟨_, rfl⟩) (Or.inr ⟨_, rfl⟩) (fun t ht hW => Qr_of ⟨rfl, i, hin, rfl, rfl⟩ hP hS ht) hS.2.2 dX4_subscriptionAt_38
      · refine w_aldN hx hb hC hP 4 rfl cW_71 (by omega) (by decide) dX4_subscriptionAt_18 (r := .null) (by simp only [fP, if_neg (Nat.not_lt.mpr hin)]; rfl) ?_
        refine lv_ifnonnullN hx hb dX4_subscriptionAt_19 ?_
        exact w_thIO hx hb hns (is := 178) (text := "there is no such subscription") (by decide) hown (hts (.classLink RX4 173 exIO) (by decide +kernel)) (hts (.initialized exIO) (by decide +kernel)) (fun w hw => hts w ((show ∀ w ∈ (vx_atS RX4 177 exIO ["java/lang/RuntimeException", "java/lang/Exception"]).filter goodWord, w ∈ wsX4_subscriptionAt from by decide +kernel) w hw)) hC hP hS (by rw [hml]; exact hl.1) hnt dX4_subscriptionAt_22 dX4_subscriptionAt_25 dX4_subscriptionAt_26 dX4_subscriptionAt_28 dX4_subscriptionAt_31 (show 6 ≤ _ from (Nat.le_of_ble_eq_true rfl)) (Nat.le_of_ble_eq_true rfl) (Nat.le_of_ble_eq_true rfl) (Nat.le_of_ble_eq_true rfl) hlocks ⟨rfl, rfl, fun ⟨z, h1, h2⟩ => absurd (nI_inj (by omega) (by omega) h2) (by omega)⟩ (Nat.le_of_ble_eq_true rfl) (Nat.le_of_ble_eq_true rfl)
set_option maxHeartbeats 4000000 in
set_option maxRecDepth 100000 in
theorem c_X4_scheduleAt (l : Launch) (hns : l.stackTraces = false) (D : va_G) (B : Nat) (ad : Ad) (g : GC) (σ : Me) (T : Wd) (o : Int64) (hg : g.2.2 ≤ 4) (x : Int32) : vx_Met l yX4_scheduleAt wsX4_scheduleAt ({ frames := 6, cells := 1, slots := 6, locals := 90 }) (Pre D B ad (cW D ad (g, σ) T o) [.ref (ad 4 0), .int x]) (Qr D B (fun a u => u = (ad, cW D ad (g, σ) T o) ∧ ∃ i, i < g.2.2 ∧ x = nI i ∧ a = ad 2 i)) (Xc D B (fun E u => u = (ad, cW D ad (g, σ) T o) ∧ E = exIO ∧ ¬ isN g.2.2 x)) 1 6 (ab B) := by
  refine vx_ofW (cc := cX4_scheduleAt) (maxL := 2) (ret := (some (.object "BuildingPoints$Schedule"))) (by decide) rfl ?_
  intro p e s m args below meth c s₁ Bd hml hnt hv
  obtain ⟨rfl, hC, hP⟩ := hv
  have hx := Bd.exec
  have hb := Bd.bytes
  have hr := Bd.returns
  have hts := atoms_spec (ws := wsX4_scheduleAt) Bd.pre
  have hown : s.vm.findClass RX4 = some m.cls := findClass_of_methodNamed Bd.named
  have hlocks := Bd.notSynchronized
  have hS : va_S (ab B) s.heap s.heap [] := va_S.rf
  have hl := lv_entry ([.ref (ad 4 0), .int x]) (n := 2) (Nat.le_of_ble_eq_true rfl)
  rw [lg_entry_eq]
  generalize (lg_sl ([.ref (ad 4 0), .int x]) ++ List.replicate (2 - (lg_sl ([.ref (ad 4 0), .int x])).length) Slot.unset).toArray = ls at hl ⊢
  have hl : lv_has ls 2 [(0, .ref (ad 4 0)), (1, .int x)] := hl
  refine lv_iload_n hx hb dX4_scheduleAt_0 rfl (lv_at hl 1 rfl) ?_
  refine lv_if_lt (tgt := 22) hx hb dX4_scheduleAt_1 (by decide) (fun c_1 => ?_) (fun c_1 => ?_)
  · exact w_thIO hx hb hns (is := 180) (text := "there is no such schedule") (by decide) hown (hts (.classLink RX4 173 exIO) (by decide +kernel)) (hts (.initialized exIO) (by decide +kernel)) (fun w hw => hts w ((show ∀ w ∈ (vx_atS RX4 177 exIO ["java/lang/RuntimeException", "java/lang/Exception"]).filter goodWord, w ∈ wsX4_scheduleAt from by decide +kernel) w hw)) hC hP hS (by rw [hml]; exact hl.1) hnt dX4_scheduleAt_22 dX4_scheduleAt_25 dX4_scheduleAt_26 dX4_scheduleAt_28 dX4_scheduleAt_31 (show 6 ≤ _ from (Nat.le_of_ble_eq_true rfl)) (Nat.le_of_ble_eq_true rfl) (Nat.le_of_ble_eq_true rfl) (Nat.le_of_ble_eq_true rfl) hlocks ⟨rfl, rfl, fun ⟨z, h1, h2⟩ => absurd c_1 (by rw [h2]; exact nI_pos (by omega))⟩ (Nat.le_of_ble_eq_true rfl) (Nat.le_of_ble_eq_true rfl)
  · obtain ⟨i, hi31, rfl⟩ := nI_of c_1
    refine lv_iload_n hx hb dX4_scheduleAt_4 rfl (lv_at hl 1 rfl) ?_
    refine lv_aload_n hx hb dX4_scheduleAt_5 rfl (lv_at hl 0 rfl) ?_
    refine w_get hx hb hts (by decide +kernel) hown hC hP cW_4 rfl 2 (by decide) (hts (.fieldLink RX4 23 "BuildingPoints" "schedules" "[LBuildingPoints$Schedule;") (by decide +kernel)) rfl dX4_scheduleAt_6 ?_
    refine w_alen hx hb hC hP 5 rfl cW_72 (v := 4) rfl dX4_scheduleAt_9 ?_
    refine lv_icmp_ge (tgt := 22) hx hb dX4_scheduleAt_10 (by decide) (fun c_10 => ?_) (fun c_10 => ?_)
    · exact w_thIO hx hb hns (is := 180) (text := "there is no such schedule") (by decide) hown (hts (.classLink RX4 173 exIO) (by decide +kernel)) (hts (.initialized exIO) (by decide +kernel)) (fun w hw => hts w ((show ∀ w ∈ (vx_atS RX4 177 exIO ["java/lang/RuntimeException", "java/lang/Exception"]).filter goodWord, w ∈ wsX4_scheduleAt from by decide +kernel) w hw)) hC hP hS (by rw [hml]; exact hl.1) hnt dX4_scheduleAt_22 dX4_scheduleAt_25 dX4_scheduleAt_26 dX4_scheduleAt_28 dX4_scheduleAt_31 (show 6 ≤ _ from (Nat.le_of_ble_eq_true rfl)) (Nat.le_of_ble_eq_true rfl) (Nat.le_of_ble_eq_true rfl) (Nat.le_of_ble_eq_true rfl) hlocks ⟨rfl, rfl, fun ⟨z, h1, h2⟩ => absurd c_10 (by rw [h2]; exact nI_ge (show z < 4 by omega) (by decide))⟩ (Nat.le_of_ble_eq_true rfl) (Nat.le_of_ble_eq_true rfl)
    · have hlt : i < 4 := Nat.not_le.mp (fun z => c_10 (nI_le z (by omega)))
      refine lv_aload_n hx hb dX4_scheduleAt_13 rfl (lv_at hl 0 rfl) ?_
      refine w_get hx hb hts (by decide +kernel) hown hC hP cW_4 rfl 2 (by decide) (hts (.fieldLink RX4 23 "BuildingPoints" "schedules" "[LBuildingPoints$Schedule;") (by decide +kernel)) rfl dX4_scheduleAt_14 ?_
      refine lv_iload_n hx hb dX4_scheduleAt_17 rfl (lv_at hl 1 rfl) ?_
      rcases Nat.lt_or_ge i g.2.2 with hin | hin
      · refine w_aldN hx hb hC hP 5 rfl cW_72 (by omega) (by decide) dX4_scheduleAt_18 (r := .ref (ad 2 i)) (by simp only [fP, if_pos hin]; rfl) ?_
        refine lv_ifnonnull (tgt := 32) hx hb dX4_scheduleAt_19 (by decide) ?_
        refine lv_aload_n hx hb dX4_scheduleAt_32 rfl (lv_at hl 0 rfl) ?_
        refine w_get hx hb hts (by decide +kernel) hown hC hP cW_4 rfl 2 (by decide) (hts (.fieldLink RX4 23 "BuildingPoints" "schedules" "[LBuildingPoints$Schedule;") (by decide +kernel)) rfl dX4_scheduleAt_33 ?_
        refine lv_iload_n hx hb dX4_scheduleAt_36 rfl (lv_at hl 1 rfl) ?_
        refine w_aldN hx hb hC hP 5 rfl cW_72 (by omega) (by decide) dX4_scheduleAt_37 (r := .ref (ad 2 i)) (by simp only [fP, if_pos hin]; rfl) ?_
        refine W.widen (k := 1) (n := 6) (Nat.le_of_ble_eq_true rfl) (Nat.le_of_ble_eq_true rfl) ?_
        refine vx_ret ?_
        exact W.aret hx hb hr (Or.inl ⟨_, rfl⟩) (Or.inr ⟨_, rfl⟩) (fun t ht hW => Qr_of ⟨rfl, i, hin, rfl, rfl⟩ hP hS ht) hS.2.2 dX4_scheduleAt_38
      · refine w_aldN hx hb hC hP 5 rfl cW_72 (by omega) (by decide) dX4_scheduleAt_18 (r := .null) (by simp only [fP, if_neg (Nat.not_lt.mpr hin)]; rfl) ?_
        refine lv_ifnonnullN hx hb dX4_scheduleAt_19 ?_
        exact w_thIO hx hb hns (is := 180) (text := "there is no such schedule") (by decide) hown (hts (.classLink RX4 173 exIO) (by decide +kernel)) (hts (.initialized exIO) (by decide +kernel)) (fun w hw => hts w ((show ∀ w ∈ (vx_atS RX4 177 exIO ["java/lang/RuntimeException", "java/lang/Exception"]).filter goodWord, w ∈ wsX4_scheduleAt from by decide +kernel) w hw)) hC hP hS (by rw [hml]; exact hl.1) hnt dX4_scheduleAt_22 dX4_scheduleAt_25 dX4_scheduleAt_26 dX4_scheduleAt_28 dX4_scheduleAt_31 (show 6 ≤ _ from (Nat.le_of_ble_eq_true rfl)) (Nat.le_of_ble_eq_true rfl) (Nat.le_of_ble_eq_true rfl) (Nat.le_of_ble_eq_true rfl) hlocks ⟨rfl, rfl, fun ⟨z, h1, h2⟩ => absurd (nI_inj (by omega) (by omega) h2) (by omega)⟩ (Nat.le_of_ble_eq_true rfl) (Nat.le_of_ble_eq_true rfl)
set_option maxHeartbeats 4000000 in
set_option maxRecDepth 100000 in
theorem c_X4_value (l : Launch) (hns : l.stackTraces = false) (D : va_G) (B : Nat) (ad : Ad) (g : GC) (σ : Me) (T : Wd) (o : Int64) (hI : Ib g σ)  (x0 : Int32) : vx_Met l yX4_value wsX4_value ({ frames := 7, cells := 1, slots := 6, locals := 111 }) (Pre D B ad (cW D ad (g, σ) T o) [.ref (ad 4 0), .int x0]) (Qi D B (fun r u => u = (ad, cW D ad (g, σ) T o) ∧ r = vaO σ (nOf x0) ∧ cdPt g.1 x0 = 0)) (Xc D B (fun E u => u = (ad, cW D ad (g, σ) T o) ∧ exA [exIO] (cdPt g.1 x0) E)) 1 6 (ab B) := by
  refine vx_ofW (cc := cX4_value) (maxL := 2) (ret := (some .int)) (by decide) rfl ?_
  intro p e s m args below meth c s₁ Bd hml hnt hv
  obtain ⟨rfl, hC, hP⟩ := hv
  have hx := Bd.exec
  have hb := Bd.bytes
  have hr := Bd.returns
  have hts := atoms_spec (ws := wsX4_value) Bd.pre
  have hown : s.vm.findClass RX4 = some m.cls := findClass_of_methodNamed Bd.named
  have hlocks := Bd.notSynchronized
  have hS : va_S (ab B) s.heap s.heap [] := va_S.rf
  have hl := lv_entry ([.ref (ad 4 0), .int x0]) (n := 2) (Nat.le_of_ble_eq_true rfl)
  rw [lg_entry_eq]
  generalize (lg_sl ([.ref (ad 4 0), .int x0]) ++ List.replicate (2 - (lg_sl ([.ref (ad 4 0), .int x0])).length) Slot.unset).toArray = ls at hl ⊢
  have hl : lv_has ls 2 [(0, .ref (ad 4 0)), (1, .int x0)] := hl
  refine lv_aload_n hx hb dX4_value_0 rfl (lv_at hl 0 rfl) ?_
  refine lv_iload_n hx hb dX4_value_1 rfl (lv_at hl 1 rfl) ?_
  refine y_callr (vx_runV (As := [.int x0]) (rest := []) ⟨hx, hb, hml, hown, hts⟩ (c_X4_pointAt l hns D B ad g σ T o hI.1 x0) (cwV 1 hts gX4_value_X4_pointAt rfl rfl rfl (by decide +kernel) ⟨Nat.le_of_ble_eq_true rfl, Nat.le_of_ble_eq_true rfl⟩) (w_preV hC hP hS cW_4 rfl) rfl rfl hl.1 rfl (lv_room (Nat.le_of_ble_eq_true rfl)) dX4_value_2 ⟨Nat.le_of_ble_eq_true rfl, Nat.le_of_ble_eq_true rfl⟩) hS (fun E9 ce9 q9 ad1 w1 H locs hq hP hS h91 h92 h93 => ?_) (fun r_1 ad1 w1 H locs hq hP hS => ?_)
  · obtain ⟨h84, h85, h86⟩ := hq
    cases h84
    subst h85
    exact w_thru (fun _ z => z) hnt hlocks hP hS h91 h92 h93 ⟨rfl, by unfold cdPt; rw [cod3_1 h86]; exact ⟨by decide, rfl⟩⟩ (Nat.le_of_ble_eq_true rfl) (Nat.le_of_ble_eq_true rfl)
  · obtain ⟨h84, pi, hpi, h85, h86⟩ := hq
    cases h84
    subst h86
    subst h85
    have hcl : nOf (nI pi) = pi := nI_clamp (by have := hI.1; have := hI.2.1; have := hI.2.2.1; omega)
    refine w_get hx hb hts (by decide +kernel) hown hC hP (cW_1 hpi) rfl 5 (by decide) (hts (.fieldLink RX4 65 "BuildingPoints$Point" "present" "I") (by decide +kernel)) rfl dX4_value_5 ?_
    refine vx_ret ?_
    exact W.iret (v := (σ 7 pi 0)) hx hb hr (fun t ht hW => Qi_of ⟨rfl, by rw [hcl]; exact (hI.2.2.2.1 pi hpi).2.2.2.2, by unfold cdPt; exact cod3_0 ⟨pi, hpi, rfl⟩ trivial trivial⟩ hP hS ht) hS.2.2 dX4_value_8
set_option maxHeartbeats 4000000 in
set_option maxRecDepth 100000 in
theorem c_X4_standing (l : Launch) (hns : l.stackTraces = false) (D : va_G) (B : Nat) (ad : Ad) (g : GC) (σ : Me) (T : Wd) (o : Int64) (hI : Ib g σ)  (x0 : Int32) : vx_Met l yX4_standing wsX4_standing ({ frames := 7, cells := 1, slots := 6, locals := 111 }) (Pre D B ad (cW D ad (g, σ) T o) [.ref (ad 4 0), .int x0]) (Qi D B (fun r u => u = (ad, cW D ad (g, σ) T o) ∧ r = nI (stO σ (nOf x0)) ∧ cdPt g.1 x0 = 0)) (Xc D B (fun E u => u = (ad, cW D ad (g, σ) T o) ∧ exA [exIO] (cdPt g.1 x0) E)) 1 6 (ab B) := by
  refine vx_ofW (cc := cX4_standing) (maxL := 2) (ret := (some .int)) (by decide) rfl ?_
  intro p e s m args below meth c s₁ Bd hml hnt hv
  obtain ⟨rfl, hC, hP⟩ := hv
  have hx := Bd.exec
  have hb := Bd.bytes
  have hr := Bd.returns
  have hts := atoms_spec (ws := wsX4_standing) Bd.pre
  have hown : s.vm.findClass RX4 = some m.cls := findClass_of_methodNamed Bd.named
  have hlocks := Bd.notSynchronized
  have hS : va_S (ab B) s.heap s.heap [] := va_S.rf
  have hl := lv_entry ([.ref (ad 4 0), .int x0]) (n := 2) (Nat.le_of_ble_eq_true rfl)
  rw [lg_entry_eq]
  generalize (lg_sl ([.ref (ad 4 0), .int x0]) ++ List.replicate (2 - (lg_sl ([.ref (ad 4 0), .int x0])).length) Slot.unset).toArray = ls at hl ⊢
  have hl : lv_has ls 2 [(0, .ref (ad 4 0)), (1, .int x0)] := hl
  refine lv_aload_n hx hb dX4_standing_0 rfl (lv_at hl 0 rfl) ?_
  refine lv_iload_n hx hb dX4_standing_1 rfl (lv_at hl 1 rfl) ?_
  refine y_callr (vx_runV (As := [.int x0]) (rest := []) ⟨hx, hb, hml, hown, hts⟩ (c_X4_pointAt l hns D B ad g σ T o hI.1 x0) (cwV 1 hts gX4_standing_X4_pointAt rfl rfl rfl (by decide +kernel) ⟨Nat.le_of_ble_eq_true rfl, Nat.le_of_ble_eq_true rfl⟩) (w_preV hC hP hS cW_4 rfl) rfl rfl hl.1 rfl (lv_room (Nat.le_of_ble_eq_true rfl)) dX4_standing_2 ⟨Nat.le_of_ble_eq_true rfl, Nat.le_of_ble_eq_true rfl⟩) hS (fun E9 ce9 q9 ad1 w1 H locs hq hP hS h91 h92 h93 => ?_) (fun r_1 ad1 w1 H locs hq hP hS => ?_)
  · obtain ⟨h84, h85, h86⟩ := hq
    cases h84
    subst h85
    exact w_thru (fun _ z => z) hnt hlocks hP hS h91 h92 h93 ⟨rfl, by unfold cdPt; rw [cod3_1 h86]; exact ⟨by decide, rfl⟩⟩ (Nat.le_of_ble_eq_true rfl) (Nat.le_of_ble_eq_true rfl)
  · obtain ⟨h84, pi, hpi, h85, h86⟩ := hq
    cases h84
    subst h86
    subst h85
    have hcl : nOf (nI pi) = pi := nI_clamp (by have := hI.1; have := hI.2.1; have := hI.2.2.1; omega)
    refine w_calli (va_runV (As := []) (rest := []) ⟨hx, hb, hml, hown, hts⟩ (c_X1_lowestCommanded l D B ad g σ T o pi hpi) (cwV 0 hts gX4_standing_X1_lowestCommanded rfl rfl rfl (by decide +kernel) ⟨Nat.le_of_ble_eq_true rfl, Nat.le_of_ble_eq_true rfl⟩) (w_preV hC hP hS (cW_1 hpi) rfl) rfl rfl hl.1 rfl (lv_room (Nat.le_of_ble_eq_true rfl)) dX4_standing_5 ⟨Nat.le_of_ble_eq_true rfl, Nat.le_of_ble_eq_true rfl⟩) hS (fun r_2 ad1 w1 H locs hq hP hS => ?_)
    obtain ⟨h91, h92⟩ := hq
    cases h91
    subst h92
    refine vx_ret ?_
    exact W.iret (v := (nI (stO σ pi))) hx hb hr (fun t ht hW => Qi_of ⟨rfl, by rw [hcl], by unfold cdPt; exact cod3_0 ⟨pi, hpi, rfl⟩ trivial trivial⟩ hP hS ht) hS.2.2 dX4_standing_8
set_option maxHeartbeats 4000000 in
set_option maxRecDepth 100000 in
theorem c_X4_changes (l : Launch) (hns : l.stackTraces = false) (D : va_G) (B : Nat) (ad : Ad) (g : GC) (σ : Me) (T : Wd) (o : Int64) (hI : Ib g σ)  (x0 : Int32) : vx_Met l yX4_changes wsX4_changes ({ frames := 7, cells := 1, slots := 6, locals := 111 }) (Pre D B ad (cW D ad (g, σ) T o) [.ref (ad 4 0), .int x0]) (Qi D B (fun r u => u = (ad, cW D ad (g, σ) T o) ∧ r = σ 5 (nOf x0) 0 ∧ cdPt g.1 x0 = 0)) (Xc D B (fun E u => u = (ad, cW D ad (g, σ) T o) ∧ exA [exIO] (cdPt g.1 x0) E)) 1 6 (ab B) := by
  refine vx_ofW (cc := cX4_changes) (maxL := 2) (ret := (some .int)) (by decide) rfl ?_
  intro p e s m args below meth c s₁ Bd hml hnt hv
  obtain ⟨rfl, hC, hP⟩ := hv
  have hx := Bd.exec
  have hb := Bd.bytes
  have hr := Bd.returns
  have hts := atoms_spec (ws := wsX4_changes) Bd.pre
  have hown : s.vm.findClass RX4 = some m.cls := findClass_of_methodNamed Bd.named
  have hlocks := Bd.notSynchronized
  have hS : va_S (ab B) s.heap s.heap [] := va_S.rf
  have hl := lv_entry ([.ref (ad 4 0), .int x0]) (n := 2) (Nat.le_of_ble_eq_true rfl)
  rw [lg_entry_eq]
  generalize (lg_sl ([.ref (ad 4 0), .int x0]) ++ List.replicate (2 - (lg_sl ([.ref (ad 4 0), .int x0])).length) Slot.unset).toArray = ls at hl ⊢
  have hl : lv_has ls 2 [(0, .ref (ad 4 0)), (1, .int x0)] := hl
  refine lv_aload_n hx hb dX4_changes_0 rfl (lv_at hl 0 rfl) ?_
  refine lv_iload_n hx hb dX4_changes_1 rfl (lv_at hl 1 rfl) ?_
  refine y_callr (vx_runV (As := [.int x0]) (rest := []) ⟨hx, hb, hml, hown, hts⟩ (c_X4_pointAt l hns D B ad g σ T o hI.1 x0) (cwV 1 hts gX4_changes_X4_pointAt rfl rfl rfl (by decide +kernel) ⟨Nat.le_of_ble_eq_true rfl, Nat.le_of_ble_eq_true rfl⟩) (w_preV hC hP hS cW_4 rfl) rfl rfl hl.1 rfl (lv_room (Nat.le_of_ble_eq_true rfl)) dX4_changes_2 ⟨Nat.le_of_ble_eq_true rfl, Nat.le_of_ble_eq_true rfl⟩) hS (fun E9 ce9 q9 ad1 w1 H locs hq hP hS h91 h92 h93 => ?_) (fun r_1 ad1 w1 H locs hq hP hS => ?_)
  · obtain ⟨h84, h85, h86⟩ := hq
    cases h84
    subst h85
    exact w_thru (fun _ z => z) hnt hlocks hP hS h91 h92 h93 ⟨rfl, by unfold cdPt; rw [cod3_1 h86]; exact ⟨by decide, rfl⟩⟩ (Nat.le_of_ble_eq_true rfl) (Nat.le_of_ble_eq_true rfl)
  · obtain ⟨h84, pi, hpi, h85, h86⟩ := hq
    cases h84
    subst h86
    subst h85
    have hcl : nOf (nI pi) = pi := nI_clamp (by have := hI.1; have := hI.2.1; have := hI.2.2.1; omega)
    refine w_get hx hb hts (by decide +kernel) hown hC hP (cW_1 hpi) rfl 7 (by decide) (hts (.fieldLink RX4 82 "BuildingPoints$Point" "changeCount" "I") (by decide +kernel)) rfl dX4_changes_5 ?_
    refine vx_ret ?_
    exact W.iret (v := (σ 5 pi 0)) hx hb hr (fun t ht hW => Qi_of ⟨rfl, by rw [hcl], by unfold cdPt; exact cod3_0 ⟨pi, hpi, rfl⟩ trivial trivial⟩ hP hS ht) hS.2.2 dX4_changes_8
set_option maxHeartbeats 4000000 in
set_option maxRecDepth 100000 in
theorem c_X4_reports (l : Launch) (hns : l.stackTraces = false) (D : va_G) (B : Nat) (ad : Ad) (g : GC) (σ : Me) (T : Wd) (o : Int64) (hI : Ib g σ)  (x0 : Int32) : vx_Met l yX4_reports wsX4_reports ({ frames := 7, cells := 1, slots := 6, locals := 111 }) (Pre D B ad (cW D ad (g, σ) T o) [.ref (ad 4 0), .int x0]) (Qi D B (fun r u => u = (ad, cW D ad (g, σ) T o) ∧ r = σ 12 (nOf x0) 0 ∧ cdPt g.2.1 x0 = 0)) (Xc D B (fun E u => u = (ad, cW D ad (g, σ) T o) ∧ exA [exIO] (cdPt g.2.1 x0) E)) 1 6 (ab B) := by
  refine vx_ofW (cc := cX4_reports) (maxL := 2) (ret := (some .int)) (by decide) rfl ?_
  intro p e s m args below meth c s₁ Bd hml hnt hv
  obtain ⟨rfl, hC, hP⟩ := hv
  have hx := Bd.exec
  have hb := Bd.bytes
  have hr := Bd.returns
  have hts := atoms_spec (ws := wsX4_reports) Bd.pre
  have hown : s.vm.findClass RX4 = some m.cls := findClass_of_methodNamed Bd.named
  have hlocks := Bd.notSynchronized
  have hS : va_S (ab B) s.heap s.heap [] := va_S.rf
  have hl := lv_entry ([.ref (ad 4 0), .int x0]) (n := 2) (Nat.le_of_ble_eq_true rfl)
  rw [lg_entry_eq]
  generalize (lg_sl ([.ref (ad 4 0), .int x0]) ++ List.replicate (2 - (lg_sl ([.ref (ad 4 0), .int x0])).length) Slot.unset).toArray = ls at hl ⊢
  have hl : lv_has ls 2 [(0, .ref (ad 4 0)), (1, .int x0)] := hl
  refine lv_aload_n hx hb dX4_reports_0 rfl (lv_at hl 0 rfl) ?_
  refine lv_iload_n hx hb dX4_reports_1 rfl (lv_at hl 1 rfl) ?_
  refine y_callr (vx_runV (As := [.int x0]) (rest := []) ⟨hx, hb, hml, hown, hts⟩ (c_X4_subscriptionAt l hns D B ad g σ T o hI.2.1 x0) (cwV 1 hts gX4_reports_X4_subscriptionAt rfl rfl rfl (by decide +kernel) ⟨Nat.le_of_ble_eq_true rfl, Nat.le_of_ble_eq_true rfl⟩) (w_preV hC hP hS cW_4 rfl) rfl rfl hl.1 rfl (lv_room (Nat.le_of_ble_eq_true rfl)) dX4_reports_2 ⟨Nat.le_of_ble_eq_true rfl, Nat.le_of_ble_eq_true rfl⟩) hS (fun E9 ce9 q9 ad1 w1 H locs hq hP hS h91 h92 h93 => ?_) (fun r_1 ad1 w1 H locs hq hP hS => ?_)
  · obtain ⟨h84, h85, h86⟩ := hq
    cases h84
    subst h85
    exact w_thru (fun _ z => z) hnt hlocks hP hS h91 h92 h93 ⟨rfl, by unfold cdPt; rw [cod3_1 h86]; exact ⟨by decide, rfl⟩⟩ (Nat.le_of_ble_eq_true rfl) (Nat.le_of_ble_eq_true rfl)
  · obtain ⟨h84, pi, hpi, h85, h86⟩ := hq
    cases h84
    subst h86
    subst h85
    have hcl : nOf (nI pi) = pi := nI_clamp (by have := hI.1; have := hI.2.1; have := hI.2.2.1; omega)
    refine w_get hx hb hts (by decide +kernel) hown hC hP (cW_3 hpi) rfl 4 (by decide) (hts (.fieldLink RX4 101 "BuildingPoints$Subscription" "reportCount" "I") (by decide +kernel)) rfl dX4_reports_5 ?_
    refine vx_ret ?_
    exact W.iret (v := (σ 12 pi 0)) hx hb hr (fun t ht hW => Qi_of ⟨rfl, by rw [hcl], by unfold cdPt; exact cod3_0 ⟨pi, hpi, rfl⟩ trivial trivial⟩ hP hS ht) hS.2.2 dX4_reports_8
set_option maxHeartbeats 4000000 in
set_option maxRecDepth 100000 in
theorem c_X4_reported (l : Launch) (hns : l.stackTraces = false) (D : va_G) (B : Nat) (ad : Ad) (g : GC) (σ : Me) (T : Wd) (o : Int64) (hI : Ib g σ)  (x0 : Int32) : vx_Met l yX4_reported wsX4_reported ({ frames := 7, cells := 1, slots := 6, locals := 111 }) (Pre D B ad (cW D ad (g, σ) T o) [.ref (ad 4 0), .int x0]) (Qi D B (fun r u => u = (ad, cW D ad (g, σ) T o) ∧ r = σ 13 (nOf x0) 0 ∧ cdPt g.2.1 x0 = 0)) (Xc D B (fun E u => u = (ad, cW D ad (g, σ) T o) ∧ exA [exIO] (cdPt g.2.1 x0) E)) 1 6 (ab B) := by
  refine vx_ofW (cc := cX4_reported) (maxL := 2) (ret := (some .int)) (by decide) rfl ?_
  intro p e s m args below meth c s₁ Bd hml hnt hv
  obtain ⟨rfl, hC, hP⟩ := hv
  have hx := Bd.exec
  have hb := Bd.bytes
  have hr := Bd.returns
  have hts := atoms_spec (ws := wsX4_reported) Bd.pre
  have hown : s.vm.findClass RX4 = some m.cls := findClass_of_methodNamed Bd.named
  have hlocks := Bd.notSynchronized
  have hS : va_S (ab B) s.heap s.heap [] := va_S.rf
  have hl := lv_entry ([.ref (ad 4 0), .int x0]) (n := 2) (Nat.le_of_ble_eq_true rfl)
  rw [lg_entry_eq]
  generalize (lg_sl ([.ref (ad 4 0), .int x0]) ++ List.replicate (2 - (lg_sl ([.ref (ad 4 0), .int x0])).length) Slot.unset).toArray = ls at hl ⊢
  have hl : lv_has ls 2 [(0, .ref (ad 4 0)), (1, .int x0)] := hl
  refine lv_aload_n hx hb dX4_reported_0 rfl (lv_at hl 0 rfl) ?_
  refine lv_iload_n hx hb dX4_reported_1 rfl (lv_at hl 1 rfl) ?_
  refine y_callr (vx_runV (As := [.int x0]) (rest := []) ⟨hx, hb, hml, hown, hts⟩ (c_X4_subscriptionAt l hns D B ad g σ T o hI.2.1 x0) (cwV 1 hts gX4_reported_X4_subscriptionAt rfl rfl rfl (by decide +kernel) ⟨Nat.le_of_ble_eq_true rfl, Nat.le_of_ble_eq_true rfl⟩) (w_preV hC hP hS cW_4 rfl) rfl rfl hl.1 rfl (lv_room (Nat.le_of_ble_eq_true rfl)) dX4_reported_2 ⟨Nat.le_of_ble_eq_true rfl, Nat.le_of_ble_eq_true rfl⟩) hS (fun E9 ce9 q9 ad1 w1 H locs hq hP hS h91 h92 h93 => ?_) (fun r_1 ad1 w1 H locs hq hP hS => ?_)
  · obtain ⟨h84, h85, h86⟩ := hq
    cases h84
    subst h85
    exact w_thru (fun _ z => z) hnt hlocks hP hS h91 h92 h93 ⟨rfl, by unfold cdPt; rw [cod3_1 h86]; exact ⟨by decide, rfl⟩⟩ (Nat.le_of_ble_eq_true rfl) (Nat.le_of_ble_eq_true rfl)
  · obtain ⟨h84, pi, hpi, h85, h86⟩ := hq
    cases h84
    subst h86
    subst h85
    have hcl : nOf (nI pi) = pi := nI_clamp (by have := hI.1; have := hI.2.1; have := hI.2.2.1; omega)
    refine w_get hx hb hts (by decide +kernel) hown hC hP (cW_3 hpi) rfl 3 (by decide) (hts (.fieldLink RX4 104 "BuildingPoints$Subscription" "kept" "I") (by decide +kernel)) rfl dX4_reported_5 ?_
    refine vx_ret ?_
    exact W.iret (v := (σ 13 pi 0)) hx hb hr (fun t ht hW => Qi_of ⟨rfl, by rw [hcl], by unfold cdPt; exact cod3_0 ⟨pi, hpi, rfl⟩ trivial trivial⟩ hP hS ht) hS.2.2 dX4_reported_8
set_option maxHeartbeats 4000000 in
set_option maxRecDepth 100000 in
theorem c_X4_goesOn (l : Launch) (hns : l.stackTraces = false) (D : va_G) (B : Nat) (ad : Ad) (g : GC) (σ : Me) (T : Wd) (o : Int64) (hI : Ib g σ)  (x0 : Int32) : vx_Met l yX4_goesOn wsX4_goesOn ({ frames := 7, cells := 1, slots := 6, locals := 111 }) (Pre D B ad (cW D ad (g, σ) T o) [.ref (ad 4 0), .int x0]) (Qi D B (fun r u => u = (ad, cW D ad (g, σ) T o) ∧ r = 1 - σ 11 (nOf x0) 0 ∧ cdPt g.2.1 x0 = 0)) (Xc D B (fun E u => u = (ad, cW D ad (g, σ) T o) ∧ exA [exIO] (cdPt g.2.1 x0) E)) 1 6 (ab B) := by
  refine vx_ofW (cc := cX4_goesOn) (maxL := 2) (ret := (some .boolean)) (by decide) rfl ?_
  intro p e s m args below meth c s₁ Bd hml hnt hv
  obtain ⟨rfl, hC, hP⟩ := hv
  have hx := Bd.exec
  have hb := Bd.bytes
  have hr := Bd.returns
  have hts := atoms_spec (ws := wsX4_goesOn) Bd.pre
  have hown : s.vm.findClass RX4 = some m.cls := findClass_of_methodNamed Bd.named
  have hlocks := Bd.notSynchronized
  have hS : va_S (ab B) s.heap s.heap [] := va_S.rf
  have hl := lv_entry ([.ref (ad 4 0), .int x0]) (n := 2) (Nat.le_of_ble_eq_true rfl)
  rw [lg_entry_eq]
  generalize (lg_sl ([.ref (ad 4 0), .int x0]) ++ List.replicate (2 - (lg_sl ([.ref (ad 4 0), .int x0])).length) Slot.unset).toArray = ls at hl ⊢
  have hl : lv_has ls 2 [(0, .ref (ad 4 0)), (1, .int x0)] := hl
  refine lv_aload_n hx hb dX4_goesOn_0 rfl (lv_at hl 0 rfl) ?_
  refine lv_iload_n hx hb dX4_goesOn_1 rfl (lv_at hl 1 rfl) ?_
  refine y_callr (vx_runV (As := [.int x0]) (rest := []) ⟨hx, hb, hml, hown, hts⟩ (c_X4_subscriptionAt l hns D B ad g σ T o hI.2.1 x0) (cwV 1 hts gX4_goesOn_X4_subscriptionAt rfl rfl rfl (by decide +kernel) ⟨Nat.le_of_ble_eq_true rfl, Nat.le_of_ble_eq_true rfl⟩) (w_preV hC hP hS cW_4 rfl) rfl rfl hl.1 rfl (lv_room (Nat.le_of_ble_eq_true rfl)) dX4_goesOn_2 ⟨Nat.le_of_ble_eq_true rfl, Nat.le_of_ble_eq_true rfl⟩) hS (fun E9 ce9 q9 ad1 w1 H locs hq hP hS h91 h92 h93 => ?_) (fun r_1 ad1 w1 H locs hq hP hS => ?_)
  · obtain ⟨h84, h85, h86⟩ := hq
    cases h84
    subst h85
    exact w_thru (fun _ z => z) hnt hlocks hP hS h91 h92 h93 ⟨rfl, by unfold cdPt; rw [cod3_1 h86]; exact ⟨by decide, rfl⟩⟩ (Nat.le_of_ble_eq_true rfl) (Nat.le_of_ble_eq_true rfl)
  · obtain ⟨h84, pi, hpi, h85, h86⟩ := hq
    cases h84
    subst h86
    subst h85
    have hcl : nOf (nI pi) = pi := nI_clamp (by have := hI.1; have := hI.2.1; have := hI.2.2.1; omega)
    refine w_get hx hb hts (by decide +kernel) hown hC hP (cW_3 hpi) rfl 5 (by decide) (hts (.fieldLink RX4 95 "BuildingPoints$Subscription" "isOpen" "Z") (by decide +kernel)) rfl dX4_goesOn_5 ?_
    refine vx_ret ?_
    exact W.zret (v := (1 - σ 11 pi 0)) hx hb hr (by rcases (hI.2.2.2.2.1 pi hpi).1 with z | z <;> rw [z] <;> rfl) (fun t ht hW => Qi_of ⟨rfl, by rw [hcl], by unfold cdPt; exact cod3_0 ⟨pi, hpi, rfl⟩ trivial trivial⟩ hP hS ht) hS.2.2 dX4_goesOn_8
set_option maxHeartbeats 4000000 in
set_option maxRecDepth 100000 in
theorem c_X4_held (l : Launch) (hns : l.stackTraces = false) (D : va_G) (B : Nat) (ad : Ad) (g : GC) (σ : Me) (T : Wd) (o : Int64) (hI : Ib g σ)  (x0 : Int32) : vx_Met l yX4_held wsX4_held ({ frames := 7, cells := 1, slots := 6, locals := 111 }) (Pre D B ad (cW D ad (g, σ) T o) [.ref (ad 4 0), .int x0]) (Qi D B (fun r u => u = (ad, cW D ad (g, σ) T o) ∧ r = (if σ 4 (nOf x0) 0 = 0 then 0 else σ 4 (nOf x0) 0 - σ 25 0 0) ∧ cdPt g.1 x0 = 0)) (Xc D B (fun E u => u = (ad, cW D ad (g, σ) T o) ∧ exA [exIO] (cdPt g.1 x0) E)) 1 6 (ab B) := by
  refine vx_ofW (cc := cX4_held) (maxL := 3) (ret := (some .int)) (by decide) rfl ?_
  intro p e s m args below meth c s₁ Bd hml hnt hv
  obtain ⟨rfl, hC, hP⟩ := hv
  have hx := Bd.exec
  have hb := Bd.bytes
  have hr := Bd.returns
  have hts := atoms_spec (ws := wsX4_held) Bd.pre
  have hown : s.vm.findClass RX4 = some m.cls := findClass_of_methodNamed Bd.named
  have hlocks := Bd.notSynchronized
  have hS : va_S (ab B) s.heap s.heap [] := va_S.rf
  have hl := lv_entry ([.ref (ad 4 0), .int x0]) (n := 3) (Nat.le_of_ble_eq_true rfl)
  rw [lg_entry_eq]
  generalize (lg_sl ([.ref (ad 4 0), .int x0]) ++ List.replicate (3 - (lg_sl ([.ref (ad 4 0), .int x0])).length) Slot.unset).toArray = ls at hl ⊢
  have hl : lv_has ls 3 [(0, .ref (ad 4 0)), (1, .int x0)] := hl
  refine lv_aload_n hx hb dX4_held_0 rfl (lv_at hl 0 rfl) ?_
  refine lv_iload_n hx hb dX4_held_1 rfl (lv_at hl 1 rfl) ?_
  refine y_callr (vx_runV (As := [.int x0]) (rest := []) ⟨hx, hb, hml, hown, hts⟩ (c_X4_pointAt l hns D B ad g σ T o hI.1 x0) (cwV 1 hts gX4_held_X4_pointAt rfl rfl rfl (by decide +kernel) ⟨Nat.le_of_ble_eq_true rfl, Nat.le_of_ble_eq_true rfl⟩) (w_preV hC hP hS cW_4 rfl) rfl rfl hl.1 rfl (lv_room (Nat.le_of_ble_eq_true rfl)) dX4_held_2 ⟨Nat.le_of_ble_eq_true rfl, Nat.le_of_ble_eq_true rfl⟩) hS (fun E9 ce9 q9 ad1 w1 H locs hq hP hS h91 h92 h93 => ?_) (fun r_1 ad1 w1 H locs hq hP hS => ?_)
  · obtain ⟨h84, h85, h86⟩ := hq
    cases h84
    subst h85
    exact w_thru (fun _ z => z) hnt hlocks hP hS h91 h92 h93 ⟨rfl, by unfold cdPt; rw [cod3_1 h86]; exact ⟨by decide, rfl⟩⟩ (Nat.le_of_ble_eq_true rfl) (Nat.le_of_ble_eq_true rfl)
  · obtain ⟨h84, pi, hpi, h85, h86⟩ := hq
    cases h84
    subst h86
    subst h85
    have hcl : nOf (nI pi) = pi := nI_clamp (by have := hI.1; have := hI.2.1; have := hI.2.2.1; omega)
    refine lv_astore_n (lv' := [(2, .ref (ad 1 pi)), (0, .ref (ad 4 0)), (1, .int (nI pi))]) hx hb dX4_held_5 rfl hl (by decide) rfl (fun ls hl => ?_)
    refine lv_aload_n hx hb dX4_held_6 rfl (lv_at hl 0 rfl) ?_
    refine w_calli (va_runV (As := []) (rest := []) ⟨hx, hb, hml, hown, hts⟩ (c_X1_isHeld l D B ad g σ T o pi hpi) (cwV 0 hts gX4_held_X1_isHeld rfl rfl rfl (by decide +kernel) ⟨Nat.le_of_ble_eq_true rfl, Nat.le_of_ble_eq_true rfl⟩) (w_preV hC hP hS (cW_1 hpi) rfl) rfl rfl hl.1 rfl (lv_room (Nat.le_of_ble_eq_true rfl)) dX4_held_7 ⟨Nat.le_of_ble_eq_true rfl, Nat.le_of_ble_eq_true rfl⟩) hS (fun r_2 ad1 w1 H locs hq hP hS => ?_)
    obtain ⟨h91, h92⟩ := hq
    cases h91
    subst h92
    refine lv_if_eq (tgt := 25) hx hb dX4_held_10 (by decide) (fun c_10 => ?_) (fun c_10 => ?_)
    · refine lv_iconst (v := 0) hx hb dX4_held_25 (by decide) ?_
      refine vx_ret ?_
      exact W.iret (v := 0) hx hb hr (fun t ht hW => Qi_of ⟨rfl, by rw [hcl, if_pos (Classical.not_not.mp (bI_0.mp c_10))], by unfold cdPt; exact cod3_0 ⟨pi, hpi, rfl⟩ trivial trivial⟩ hP hS ht) hS.2.2 dX4_held_26
    · refine lv_aload_n hx hb dX4_held_13 rfl (lv_at hl 0 rfl) ?_
      refine w_get hx hb hts (by decide +kernel) hown hC hP (cW_1 hpi) rfl 6 (by decide) (hts (.fieldLink RX4 76 "BuildingPoints$Point" "heldUntil" "I") (by decide +kernel)) rfl dX4_held_14 ?_
      refine lv_aload_n hx hb dX4_held_17 rfl (lv_at hl 1 rfl) ?_
      refine w_get hx hb hts (by decide +kernel) hown hC hP cW_4 rfl 6 (by decide) (hts (.fieldLink RX4 79 "BuildingPoints" "now" "I") (by decide +kernel)) rfl dX4_held_18 ?_
      refine lv_isub hx hb dX4_held_21 ?_
      refine lv_goto (tgt := 26) hx hb dX4_held_22 (by decide) ?_
      refine vx_ret ?_
      exact W.iret (v := ((σ 4 pi 0) - (σ 25 0 0))) hx hb hr (fun t ht hW => Qi_of ⟨rfl, by rw [hcl, if_neg (fun z => c_10 (bI_0.mpr (fun y => y z)))], by unfold cdPt; exact cod3_0 ⟨pi, hpi, rfl⟩ trivial trivial⟩ hP hS ht) hS.2.2 dX4_held_26
set_option maxHeartbeats 4000000 in
set_option maxRecDepth 100000 in
theorem c_X4_command (l : Launch) (hns : l.stackTraces = false) (D : va_G) (B : Nat) (ad : Ad) (g : GC) (σ : Me) (T : Wd) (o : Int64) (hI : Ib g σ)  (x0 : Int32) (x1 : Int32) : vx_Met l yX4_command wsX4_command ({ frames := 7, cells := 2, slots := 12, locals := 112 }) (Pre D B ad (cW D ad (g, σ) T o) [.ref (ad 4 0), .int x0, .int x1]) (Qi D B (fun r u => u = (ad, cW D ad (g, σ) T o) ∧ r = σ 6 (nOf x0) (nOf x1) ∧ cdCom g x0 x1 = 0)) (Xc D B (fun E u => u = (ad, cW D ad (g, σ) T o) ∧ exA [exIO, exIA] (cdCom g x0 x1) E)) 2 12 (ab B) := by
  refine vx_ofW (cc := cX4_command) (maxL := 4) (ret := (some .int)) (by decide) rfl ?_
  intro p e s m args below meth c s₁ Bd hml hnt hv
  obtain ⟨rfl, hC, hP⟩ := hv
  have hx := Bd.exec
  have hb := Bd.bytes
  have hr := Bd.returns
  have hts := atoms_spec (ws := wsX4_command) Bd.pre
  have hown : s.vm.findClass RX4 = some m.cls := findClass_of_methodNamed Bd.named
  have hlocks := Bd.notSynchronized
  have hS : va_S (ab B) s.heap s.heap [] := va_S.rf
  have hl := lv_entry ([.ref (ad 4 0), .int x0, .int x1]) (n := 4) (Nat.le_of_ble_eq_true rfl)
  rw [lg_entry_eq]
  generalize (lg_sl ([.ref (ad 4 0), .int x0, .int x1]) ++ List.replicate (4 - (lg_sl ([.ref (ad 4 0), .int x0, .int x1])).length) Slot.unset).toArray = ls at hl ⊢
  have hl : lv_has ls 4 [(0, .ref (ad 4 0)), (1, .int x0), (2, .int x1)] := hl
  refine lv_aload_n hx hb dX4_command_0 rfl (lv_at hl 0 rfl) ?_
  refine lv_iload_n hx hb dX4_command_1 rfl (lv_at hl 1 rfl) ?_
  refine y_callr (vx_runV (As := [.int x0]) (rest := []) ⟨hx, hb, hml, hown, hts⟩ (c_X4_pointAt l hns D B ad g σ T o hI.1 x0) (cwV 1 hts gX4_command_X4_pointAt rfl rfl rfl (by decide +kernel) ⟨Nat.le_of_ble_eq_true rfl, Nat.le_of_ble_eq_true rfl⟩) (w_preV hC hP hS cW_4 rfl) rfl rfl hl.1 rfl (lv_room (Nat.le_of_ble_eq_true rfl)) dX4_command_2 ⟨Nat.le_of_ble_eq_true rfl, Nat.le_of_ble_eq_true rfl⟩) hS (fun E9 ce9 q9 ad1 w1 H locs hq hP hS h91 h92 h93 => ?_) (fun r_1 ad1 w1 H locs hq hP hS => ?_)
  · obtain ⟨h84, h85, h86⟩ := hq
    cases h84
    subst h85
    exact w_thru (fun _ z => z) hnt hlocks hP hS h91 h92 h93 ⟨rfl, by unfold cdCom; rw [cod3_1 h86]; exact ⟨by decide, rfl⟩⟩ (Nat.le_of_ble_eq_true rfl) (Nat.le_of_ble_eq_true rfl)
  · obtain ⟨h84, pi, hpi, h85, h86⟩ := hq
    cases h84
    subst h86
    subst h85
    have hcl : nOf (nI pi) = pi := nI_clamp (by have := hI.1; have := hI.2.1; have := hI.2.2.1; omega)
    refine lv_astore_n (lv' := [(3, .ref (ad 1 pi)), (0, .ref (ad 4 0)), (1, .int (nI pi)), (2, .int x1)]) hx hb dX4_command_5 rfl hl (by decide) rfl (fun ls hl => ?_)
    refine lv_iload_n hx hb dX4_command_6 rfl (lv_at hl 3 rfl) ?_
    refine lv_iconst (v := 1) hx hb dX4_command_7 (by decide) ?_
    refine lv_bipush (v := (16)) hx hb dX4_command_8 (by decide) ?_
    refine y_callv (vx_runS (As := [.int x1, .int 1, .int 16]) (rest := []) ⟨hx, hb, hml, hown, hts⟩ (c_X4_requireWithin l hns D B ad (cW D ad (g, σ) T o) x1 1 16) (va_cwS 3 hts gX4_command_X4_requireWithin rfl rfl rfl (by decide +kernel) ⟨Nat.le_of_ble_eq_true rfl, Nat.le_of_ble_eq_true rfl⟩) (w_preS hC hP hS) rfl rfl hl.1 rfl (lv_room (Nat.le_of_ble_eq_true rfl)) dX4_command_10 ⟨Nat.le_of_ble_eq_true rfl, Nat.le_of_ble_eq_true rfl⟩) hS (fun E9 ce9 q9 ad1 w1 H locs hq hP hS h91 h92 h93 => ?_) (fun ad1 w1 H locs hq hP hS => ?_)
    · obtain ⟨h84, h85, h86⟩ := hq
      cases h84
      subst h85
      exact w_thru (fun _ z => z) hnt hlocks hP hS h91 h92 h93 ⟨rfl, by unfold cdCom; rw [cod3_2 ⟨pi, hpi, rfl⟩ h86]; exact ⟨by decide, rfl⟩⟩ (Nat.le_of_ble_eq_true rfl) (Nat.le_of_ble_eq_true rfl)
    · obtain ⟨h84, hb1⟩ := hq
      cases h84
      obtain ⟨pj, rfl, pjl, pjh⟩ := bt_nat (lo := 1) (hi := 16) (by decide) (by decide) (by decide) hb1
      refine lv_aload_n hx hb dX4_command_13 rfl (lv_at hl 0 rfl) ?_
      refine w_get hx hb hts (by decide +kernel) hown hC hP (cW_1 hpi) rfl 4 (by decide) (hts (.fieldLink RX4 68 "BuildingPoints$Point" "commands" "[I") (by decide +kernel)) rfl dX4_command_14 ?_
      refine lv_iload_n hx hb dX4_command_17 rfl (lv_at hl 3 rfl) ?_
      refine w_ildN hx hb hC hP (cW_8 hpi) (by omega) (by decide) (v := σ 6 pi pj) rfl dX4_command_18 ?_
      refine vx_ret ?_
      exact W.iret (v := (σ 6 pi pj)) hx hb hr (fun t ht hW => Qi_of ⟨rfl, by rw [hcl, show nOf (nI pj) = pj from nI_clamp (by omega)], by unfold cdCom; exact cod3_0 ⟨pi, hpi, rfl⟩ hb1 trivial⟩ hP hS ht) hS.2.2 dX4_command_19
set_option maxHeartbeats 4000000 in
set_option maxRecDepth 100000 in
theorem c_X4_write (l : Launch) (hns : l.stackTraces = false) (D : va_G) (B : Nat) (ad : Ad) (g : GC) (σ : Me) (T : Wd) (o : Int64) (hI : Ib g σ)  (x0 : Int32) (x1 : Int32) (x2 : Int32) : vx_Met l yX4_write wsX4_write ({ frames := 7, cells := 4, slots := 24, locals := 112 }) (Pre D B ad (cW D ad (g, σ) T o) [.ref (ad 4 0), .int x0, .int x1, .int x2]) (Qi D B (fun r u => u = (ad, cW D ad (g, setF g.2.1 (nOf x0) (nOf x1) x2 σ) T o) ∧ r = vaO (setF g.2.1 (nOf x0) (nOf x1) x2 σ) (nOf x0) ∧ cdWri g σ x0 x1 x2 = 0)) (Xc D B (fun E u => u = (ad, cW D ad (g, σ) T o) ∧ exA [exIO, exIA, exIS] (cdWri g σ x0 x1 x2) E)) 4 24 (ab B) := by
  refine vx_ofW (cc := cX4_write) (maxL := 5) (ret := (some .int)) (by decide) rfl ?_
  intro p e s m args below meth c s₁ Bd hml hnt hv
  obtain ⟨rfl, hC, hP⟩ := hv
  have hx := Bd.exec
  have hb := Bd.bytes
  have hr := Bd.returns
  have hts := atoms_spec (ws := wsX4_write) Bd.pre
  have hown : s.vm.findClass RX4 = some m.cls := findClass_of_methodNamed Bd.named
  have hlocks := Bd.notSynchronized
  have hS : va_S (ab B) s.heap s.heap [] := va_S.rf
  have hl := lv_entry ([.ref (ad 4 0), .int x0, .int x1, .int x2]) (n := 5) (Nat.le_of_ble_eq_true rfl)
  rw [lg_entry_eq]
  generalize (lg_sl ([.ref (ad 4 0), .int x0, .int x1, .int x2]) ++ List.replicate (5 - (lg_sl ([.ref (ad 4 0), .int x0, .int x1, .int x2])).length) Slot.unset).toArray = ls at hl ⊢
  have hl : lv_has ls 5 [(0, .ref (ad 4 0)), (1, .int x0), (2, .int x1), (3, .int x2)] := hl
  refine lv_aload_n hx hb dX4_write_0 rfl (lv_at hl 0 rfl) ?_
  refine lv_iload_n hx hb dX4_write_1 rfl (lv_at hl 1 rfl) ?_
  refine y_callr (vx_runV (As := [.int x0]) (rest := []) ⟨hx, hb, hml, hown, hts⟩ (c_X4_pointAt l hns D B ad g σ T o hI.1 x0) (cwV 1 hts gX4_write_X4_pointAt rfl rfl rfl (by decide +kernel) ⟨Nat.le_of_ble_eq_true rfl, Nat.le_of_ble_eq_true rfl⟩) (w_preV hC hP hS cW_4 rfl) rfl rfl hl.1 rfl (lv_room (Nat.le_of_ble_eq_true rfl)) dX4_write_2 ⟨Nat.le_of_ble_eq_true rfl, Nat.le_of_ble_eq_true rfl⟩) hS (fun E9 ce9 q9 ad1 w1 H locs hq hP hS h91 h92 h93 => ?_) (fun r_1 ad1 w1 H locs hq hP hS => ?_)
  · obtain ⟨h84, h85, h86⟩ := hq
    cases h84
    subst h85
    exact w_thru (fun _ z => z) hnt hlocks hP hS h91 h92 h93 ⟨rfl, by unfold cdWri; rw [cod3_1 h86]; exact ⟨by decide, rfl⟩⟩ (Nat.le_of_ble_eq_true rfl) (Nat.le_of_ble_eq_true rfl)
  · obtain ⟨h84, pi, hpi, h85, h86⟩ := hq
    cases h84
    subst h86
    subst h85
    have hcl : nOf (nI pi) = pi := nI_clamp (by have := hI.1; have := hI.2.1; have := hI.2.2.1; omega)
    refine lv_astore (lv' := [(4, .ref (ad 1 pi)), (0, .ref (ad 4 0)), (1, .int (nI pi)), (2, .int x1), (3, .int x2)]) hx hb dX4_write_5 hl (by decide) rfl (fun ls hl => ?_)
    refine lv_iload_n hx hb dX4_write_7 rfl (lv_at hl 3 rfl) ?_
    refine lv_iconst (v := 1) hx hb dX4_write_8 (by decide) ?_
    refine lv_bipush (v := (16)) hx hb dX4_write_9 (by decide) ?_
    refine y_callv (vx_runS (As := [.int x1, .int 1, .int 16]) (rest := []) ⟨hx, hb, hml, hown, hts⟩ (c_X4_requireWithin l hns D B ad (cW D ad (g, σ) T o) x1 1 16) (va_cwS 3 hts gX4_write_X4_requireWithin rfl rfl rfl (by decide +kernel) ⟨Nat.le_of_ble_eq_true rfl, Nat.le_of_ble_eq_true rfl⟩) (w_preS hC hP hS) rfl rfl hl.1 rfl (lv_room (Nat.le_of_ble_eq_true rfl)) dX4_write_11 ⟨Nat.le_of_ble_eq_true rfl, Nat.le_of_ble_eq_true rfl⟩) hS (fun E9 ce9 q9 ad1 w1 H locs hq hP hS h91 h92 h93 => ?_) (fun ad1 w1 H locs hq hP hS => ?_)
    · obtain ⟨h84, h85, h86⟩ := hq
      cases h84
      subst h85
      exact w_thru (fun _ z => z) hnt hlocks hP hS h91 h92 h93 ⟨rfl, by unfold cdWri; rw [cod3_2 ⟨pi, hpi, rfl⟩ (fun z => h86 z.1)]; exact ⟨by decide, rfl⟩⟩ (Nat.le_of_ble_eq_true rfl) (Nat.le_of_ble_eq_true rfl)
    · obtain ⟨h84, hb1⟩ := hq
      cases h84
      obtain ⟨pj, rfl, pjl, pjh⟩ := bt_nat (lo := 1) (hi := 16) (by decide) (by decide) (by decide) hb1
      refine lv_aload hx hb dX4_write_14 (lv_at hl 0 rfl) ?_
      refine lv_iload_n hx hb dX4_write_16 rfl (lv_at hl 4 rfl) ?_
      refine y_callv (vx_runS (As := [.ref (ad 1 pi), .int x2]) (rest := []) ⟨hx, hb, hml, hown, hts⟩ (c_X4_requireCommand l hns D B ad g σ T o pi hpi x2) (va_cwS 2 hts gX4_write_X4_requireCommand rfl rfl rfl (by decide +kernel) ⟨Nat.le_of_ble_eq_true rfl, Nat.le_of_ble_eq_true rfl⟩) (w_preS hC hP hS) rfl rfl hl.1 rfl (lv_room (Nat.le_of_ble_eq_true rfl)) dX4_write_17 ⟨Nat.le_of_ble_eq_true rfl, Nat.le_of_ble_eq_true rfl⟩) hS (fun E9 ce9 q9 ad1 w1 H locs hq hP hS h91 h92 h93 => ?_) (fun ad1 w1 H locs hq hP hS => ?_)
      · obtain ⟨h84, h85, h86⟩ := hq
        cases h84
        subst h85
        exact w_thru (fun _ z => z) hnt hlocks hP hS h91 h92 h93 ⟨rfl, by unfold cdWri; rw [cod3_2 ⟨pi, hpi, rfl⟩ (fun z => h86 (by rw [hcl] at z; exact z.2))]; exact ⟨by decide, rfl⟩⟩ (Nat.le_of_ble_eq_true rfl) (Nat.le_of_ble_eq_true rfl)
      · obtain ⟨h84, hb2⟩ := hq
        cases h84
        refine lv_iload_n hx hb dX4_write_20 rfl (lv_at hl 3 rfl) ?_
        refine lv_bipush (v := (6)) hx hb dX4_write_21 (by decide) ?_
        refine lv_icmp_ne (tgt := 44) hx hb dX4_write_23 (by decide) (fun c_23 => ?_) (fun c_23 => ?_)
        · refine lv_aload_n hx hb dX4_write_44 rfl (lv_at hl 1 rfl) ?_
          refine lv_aload hx hb dX4_write_45 (lv_at hl 0 rfl) ?_
          refine lv_iload_n hx hb dX4_write_47 rfl (lv_at hl 3 rfl) ?_
          refine lv_iload_n hx hb dX4_write_48 rfl (lv_at hl 4 rfl) ?_
          refine w_callv (va_runV (As := [.ref (ad 1 pi), .int (nI pj), .int x2]) (rest := []) ⟨hx, hb, hml, hown, hts⟩ (c_X4_put l D B ad g σ T o pi pj hpi pjl pjh x2 hI hb2) (cwV 3 hts gX4_write_X4_put rfl rfl rfl (by decide +kernel) ⟨Nat.le_of_ble_eq_true rfl, Nat.le_of_ble_eq_true rfl⟩) (w_preV hC hP hS cW_4 rfl) rfl rfl hl.1 rfl (lv_room (Nat.le_of_ble_eq_true rfl)) dX4_write_49 ⟨Nat.le_of_ble_eq_true rfl, Nat.le_of_ble_eq_true rfl⟩) hS (fun ad1 w1 H locs hq hP hS => ?_)
          cases hq
          refine lv_aload hx hb dX4_write_52 (lv_at hl 0 rfl) ?_
          refine w_get hx hb hts (by decide +kernel) hown hC hP (cW_1 hpi) rfl 5 (by decide) (hts (.fieldLink RX4 65 "BuildingPoints$Point" "present" "I") (by decide +kernel)) rfl dX4_write_54 ?_
          refine W.widen (k := 4) (n := 24) (Nat.le_of_ble_eq_true rfl) (Nat.le_of_ble_eq_true rfl) ?_
          refine vx_ret ?_
          exact W.iret (v := ((setF g.2.1 pi pj x2 σ) 7 pi 0)) hx hb hr (fun t ht hW => Qi_of ⟨by rw [hcl, show nOf (nI pj) = pj from nI_clamp (by omega)], by rw [hcl, show nOf (nI pj) = pj from nI_clamp (by omega)]; exact (Ip_setF hI.2.2.2.1 hpi (by omega) hb2 pi hpi).2.2.2.2, by unfold cdWri; rw [hcl]; exact cod3_0 ⟨pi, hpi, rfl⟩ ⟨hb1, hb2⟩ (fun z => absurd z c_23)⟩ hP hS ht) hS.2.2 dX4_write_57
        · refine lv_aload hx hb dX4_write_26 (lv_at hl 0 rfl) ?_
          refine w_calli (va_runV (As := []) (rest := []) ⟨hx, hb, hml, hown, hts⟩ (c_X1_isHeld l D B ad g σ T o pi hpi) (cwV 0 hts gX4_write_X1_isHeld rfl rfl rfl (by decide +kernel) ⟨Nat.le_of_ble_eq_true rfl, Nat.le_of_ble_eq_true rfl⟩) (w_preV hC hP hS (cW_1 hpi) rfl) rfl rfl hl.1 rfl (lv_room (Nat.le_of_ble_eq_true rfl)) dX4_write_28 ⟨Nat.le_of_ble_eq_true rfl, Nat.le_of_ble_eq_true rfl⟩) hS (fun r_5 ad1 w1 H locs hq hP hS => ?_)
          obtain ⟨h91, h92⟩ := hq
          cases h91
          subst h92
          refine lv_if_eq (tgt := 44) hx hb dX4_write_31 (by decide) (fun c_31 => ?_) (fun c_31 => ?_)
          · refine lv_aload_n hx hb dX4_write_44 rfl (lv_at hl 1 rfl) ?_
            refine lv_aload hx hb dX4_write_45 (lv_at hl 0 rfl) ?_
            refine lv_iload_n hx hb dX4_write_47 rfl (lv_at hl 3 rfl) ?_
            refine lv_iload_n hx hb dX4_write_48 rfl (lv_at hl 4 rfl) ?_
            refine w_callv (va_runV (As := [.ref (ad 1 pi), .int (nI pj), .int x2]) (rest := []) ⟨hx, hb, hml, hown, hts⟩ (c_X4_put l D B ad g σ T o pi pj hpi pjl pjh x2 hI hb2) (cwV 3 hts gX4_write_X4_put rfl rfl rfl (by decide +kernel) ⟨Nat.le_of_ble_eq_true rfl, Nat.le_of_ble_eq_true rfl⟩) (w_preV hC hP hS cW_4 rfl) rfl rfl hl.1 rfl (lv_room (Nat.le_of_ble_eq_true rfl)) dX4_write_49 ⟨Nat.le_of_ble_eq_true rfl, Nat.le_of_ble_eq_true rfl⟩) hS (fun ad1 w1 H locs hq hP hS => ?_)
            cases hq
            refine lv_aload hx hb dX4_write_52 (lv_at hl 0 rfl) ?_
            refine w_get hx hb hts (by decide +kernel) hown hC hP (cW_1 hpi) rfl 5 (by decide) (hts (.fieldLink RX4 65 "BuildingPoints$Point" "present" "I") (by decide +kernel)) rfl dX4_write_54 ?_
            refine W.widen (k := 4) (n := 24) (Nat.le_of_ble_eq_true rfl) (Nat.le_of_ble_eq_true rfl) ?_
            refine vx_ret ?_
            exact W.iret (v := ((setF g.2.1 pi pj x2 σ) 7 pi 0)) hx hb hr (fun t ht hW => Qi_of ⟨by rw [hcl, show nOf (nI pj) = pj from nI_clamp (by omega)], by rw [hcl, show nOf (nI pj) = pj from nI_clamp (by omega)]; exact (Ip_setF hI.2.2.2.1 hpi (by omega) hb2 pi hpi).2.2.2.2, by unfold cdWri; rw [hcl]; exact cod3_0 ⟨pi, hpi, rfl⟩ ⟨hb1, hb2⟩ (fun _ => Classical.not_not.mp (bI_0.mp c_31))⟩ hP hS ht) hS.2.2 dX4_write_57
          · exact w_thIS hx hb hns (is := 56) (text := "a command is held at this priority") (by decide) hown (hts (.classLink RX4 54 exIS) (by decide +kernel)) (hts (.initialized exIS) (by decide +kernel)) (fun w hw => hts w ((show ∀ w ∈ (vx_atS RX4 58 exIS ["java/lang/RuntimeException", "java/lang/Exception"]).filter goodWord, w ∈ wsX4_write from by decide +kernel) w hw)) hC hP hS (by rw [hml]; exact hl.1) hnt dX4_write_34 dX4_write_37 dX4_write_38 dX4_write_40 dX4_write_43 (show 6 ≤ _ from (Nat.le_of_ble_eq_true rfl)) (Nat.le_of_ble_eq_true rfl) (Nat.le_of_ble_eq_true rfl) (Nat.le_of_ble_eq_true rfl) hlocks ⟨rfl, by unfold cdWri; rw [hcl, cod3_3 ⟨pi, hpi, rfl⟩ ⟨hb1, hb2⟩ (fun z => c_31 (bI_0.mpr (fun y => y (z c_23))))]; exact ⟨by decide, rfl⟩⟩ (Nat.le_of_ble_eq_true rfl) (Nat.le_of_ble_eq_true rfl)
set_option maxHeartbeats 4000000 in
set_option maxRecDepth 100000 in
theorem c_X4_end (l : Launch) (hns : l.stackTraces = false) (D : va_G) (B : Nat) (ad : Ad) (g : GC) (σ : Me) (T : Wd) (o : Int64) (hI : Ib g σ)  (x0 : Int32) : vx_Met l yX4_end wsX4_end ({ frames := 7, cells := 2, slots := 12, locals := 111 }) (Pre D B ad (cW D ad (g, σ) T o) [.ref (ad 4 0), .int x0]) (Qv D B (fun u => u = (ad, cW D ad (g, st3 σ 11 (nOf x0) 0 1) T o) ∧ cdEnd g σ x0 = 0)) (Xc D B (fun E u => u = (ad, cW D ad (g, σ) T o) ∧ exA [exIO, exIS] (cdEnd g σ x0) E)) 2 12 (ab B) := by
  refine vx_ofW (cc := cX4_end) (maxL := 3) (ret := none) (by decide) rfl ?_
  intro p e s m args below meth c s₁ Bd hml hnt hv
  obtain ⟨rfl, hC, hP⟩ := hv
  have hx := Bd.exec
  have hb := Bd.bytes
  have hr := Bd.returns
  have hts := atoms_spec (ws := wsX4_end) Bd.pre
  have hown : s.vm.findClass RX4 = some m.cls := findClass_of_methodNamed Bd.named
  have hlocks := Bd.notSynchronized
  have hS : va_S (ab B) s.heap s.heap [] := va_S.rf
  have hl := lv_entry ([.ref (ad 4 0), .int x0]) (n := 3) (Nat.le_of_ble_eq_true rfl)
  rw [lg_entry_eq]
  generalize (lg_sl ([.ref (ad 4 0), .int x0]) ++ List.replicate (3 - (lg_sl ([.ref (ad 4 0), .int x0])).length) Slot.unset).toArray = ls at hl ⊢
  have hl : lv_has ls 3 [(0, .ref (ad 4 0)), (1, .int x0)] := hl
  refine lv_aload_n hx hb dX4_end_0 rfl (lv_at hl 0 rfl) ?_
  refine lv_iload_n hx hb dX4_end_1 rfl (lv_at hl 1 rfl) ?_
  refine y_callr (vx_runV (As := [.int x0]) (rest := []) ⟨hx, hb, hml, hown, hts⟩ (c_X4_subscriptionAt l hns D B ad g σ T o hI.2.1 x0) (cwV 1 hts gX4_end_X4_subscriptionAt rfl rfl rfl (by decide +kernel) ⟨Nat.le_of_ble_eq_true rfl, Nat.le_of_ble_eq_true rfl⟩) (w_preV hC hP hS cW_4 rfl) rfl rfl hl.1 rfl (lv_room (Nat.le_of_ble_eq_true rfl)) dX4_end_2 ⟨Nat.le_of_ble_eq_true rfl, Nat.le_of_ble_eq_true rfl⟩) hS (fun E9 ce9 q9 ad1 w1 H locs hq hP hS h91 h92 h93 => ?_) (fun r_1 ad1 w1 H locs hq hP hS => ?_)
  · obtain ⟨h84, h85, h86⟩ := hq
    cases h84
    subst h85
    exact w_thru (fun _ z => z) hnt hlocks hP hS h91 h92 h93 ⟨rfl, by unfold cdEnd; rw [cod3_1 h86]; exact ⟨by decide, rfl⟩⟩ (Nat.le_of_ble_eq_true rfl) (Nat.le_of_ble_eq_true rfl)
  · obtain ⟨h84, pi, hpi, h85, h86⟩ := hq
    cases h84
    subst h86
    subst h85
    have hcl : nOf (nI pi) = pi := nI_clamp (by have := hI.1; have := hI.2.1; have := hI.2.2.1; omega)
    refine lv_astore_n (lv' := [(2, .ref (ad 3 pi)), (0, .ref (ad 4 0)), (1, .int (nI pi))]) hx hb dX4_end_5 rfl hl (by decide) rfl (fun ls hl => ?_)
    refine lv_aload_n hx hb dX4_end_6 rfl (lv_at hl 0 rfl) ?_
    refine w_get hx hb hts (by decide +kernel) hown hC hP (cW_3 hpi) rfl 5 (by decide) (hts (.fieldLink RX4 95 "BuildingPoints$Subscription" "isOpen" "Z") (by decide +kernel)) rfl dX4_end_7 ?_
    refine lv_if_ne (tgt := 23) hx hb dX4_end_10 (by decide) (fun c_10 => ?_) (fun c_10 => ?_)
    · refine lv_aload_n hx hb dX4_end_23 rfl (lv_at hl 0 rfl) ?_
      refine lv_iconst (v := 0) hx hb dX4_end_24 (by decide) ?_
      refine w_put hx hb hts (by decide +kernel) tyX3 tyX3_ok nmX3 hown hC hP hS (cW_3 hpi) rfl 5 (by decide) (hts (.fieldLink RX4 95 "BuildingPoints$Subscription" "isOpen" "Z") (by decide +kernel)) rfl rfl rfl (Nat.le_of_ble_eq_true rfl) rfl dX4_end_25 (fun H locs hP hS => ?_)
      have hP := hw_eq hP (pS5 hpi 1)
      refine W.widen (k := 2) (n := 12) (Nat.le_of_ble_eq_true rfl) (Nat.le_of_ble_eq_true rfl) ?_
      refine vx_ret ?_
      exact W.vret hx hb hr (fun t ht hW => Qv_of ⟨by rw [hcl], by unfold cdEnd; rw [hcl]; exact cod3_0 ⟨pi, hpi, rfl⟩ (by rcases (hI.2.2.2.2.1 pi hpi).1 with z | z; exact z; exact absurd (by rw [z]; decide) c_10) trivial⟩ hP hS ht) hS.2.2 dX4_end_28
    · exact w_thIS hx hb hns (is := 99) (text := "the subscription has ended") (by decide) hown (hts (.classLink RX4 54 exIS) (by decide +kernel)) (hts (.initialized exIS) (by decide +kernel)) (fun w hw => hts w ((show ∀ w ∈ (vx_atS RX4 58 exIS ["java/lang/RuntimeException", "java/lang/Exception"]).filter goodWord, w ∈ wsX4_end from by decide +kernel) w hw)) hC hP hS (by rw [hml]; exact hl.1) hnt dX4_end_13 dX4_end_16 dX4_end_17 dX4_end_19 dX4_end_22 (show 6 ≤ _ from (Nat.le_of_ble_eq_true rfl)) (Nat.le_of_ble_eq_true rfl) (Nat.le_of_ble_eq_true rfl) (Nat.le_of_ble_eq_true rfl) hlocks ⟨rfl, by unfold cdEnd; rw [hcl, cod3_2 ⟨pi, hpi, rfl⟩ (fun z => absurd (by rw [z] at c_10; exact c_10) (by decide))]; exact ⟨by decide, rfl⟩⟩ (Nat.le_of_ble_eq_true rfl) (Nat.le_of_ble_eq_true rfl)
set_option maxHeartbeats 4000000 in
set_option maxRecDepth 100000 in
theorem c_X4_tells (l : Launch) (hns : l.stackTraces = false) (D : va_G) (B : Nat) (ad : Ad) (g : GC) (σ : Me) (T : Wd) (o : Int64) (hI : Ib g σ)  (x0 : Int32) (x1 : Int32) : vx_Met l yX4_tells wsX4_tells ({ frames := 7, cells := 2, slots := 12, locals := 112 }) (Pre D B ad (cW D ad (g, σ) T o) [.ref (ad 4 0), .int x0, .int x1]) (Qi D B (fun r u => u = (ad, cW D ad (g, σ) T o) ∧ r = tolO σ (nOf x0) x1 ∧ cdTel g x0 x1 = 0)) (Xc D B (fun E u => u = (ad, cW D ad (g, σ) T o) ∧ exA [exIO, exIA] (cdTel g x0 x1) E)) 2 12 (ab B) := by
  refine vx_ofW (cc := cX4_tells) (maxL := 4) (ret := (some .int)) (by decide) rfl ?_
  intro p e s m args below meth c s₁ Bd hml hnt hv
  obtain ⟨rfl, hC, hP⟩ := hv
  have hx := Bd.exec
  have hb := Bd.bytes
  have hr := Bd.returns
  have hts := atoms_spec (ws := wsX4_tells) Bd.pre
  have hown : s.vm.findClass RX4 = some m.cls := findClass_of_methodNamed Bd.named
  have hlocks := Bd.notSynchronized
  have hS : va_S (ab B) s.heap s.heap [] := va_S.rf
  have hl := lv_entry ([.ref (ad 4 0), .int x0, .int x1]) (n := 4) (Nat.le_of_ble_eq_true rfl)
  rw [lg_entry_eq]
  generalize (lg_sl ([.ref (ad 4 0), .int x0, .int x1]) ++ List.replicate (4 - (lg_sl ([.ref (ad 4 0), .int x0, .int x1])).length) Slot.unset).toArray = ls at hl ⊢
  have hl : lv_has ls 4 [(0, .ref (ad 4 0)), (1, .int x0), (2, .int x1)] := hl
  refine lv_aload_n hx hb dX4_tells_0 rfl (lv_at hl 0 rfl) ?_
  refine lv_iload_n hx hb dX4_tells_1 rfl (lv_at hl 1 rfl) ?_
  refine y_callr (vx_runV (As := [.int x0]) (rest := []) ⟨hx, hb, hml, hown, hts⟩ (c_X4_scheduleAt l hns D B ad g σ T o hI.2.2.1 x0) (cwV 1 hts gX4_tells_X4_scheduleAt rfl rfl rfl (by decide +kernel) ⟨Nat.le_of_ble_eq_true rfl, Nat.le_of_ble_eq_true rfl⟩) (w_preV hC hP hS cW_4 rfl) rfl rfl hl.1 rfl (lv_room (Nat.le_of_ble_eq_true rfl)) dX4_tells_2 ⟨Nat.le_of_ble_eq_true rfl, Nat.le_of_ble_eq_true rfl⟩) hS (fun E9 ce9 q9 ad1 w1 H locs hq hP hS h91 h92 h93 => ?_) (fun r_1 ad1 w1 H locs hq hP hS => ?_)
  · obtain ⟨h84, h85, h86⟩ := hq
    cases h84
    subst h85
    exact w_thru (fun _ z => z) hnt hlocks hP hS h91 h92 h93 ⟨rfl, by unfold cdTel; rw [cod3_1 h86]; exact ⟨by decide, rfl⟩⟩ (Nat.le_of_ble_eq_true rfl) (Nat.le_of_ble_eq_true rfl)
  · obtain ⟨h84, pi, hpi, h85, h86⟩ := hq
    cases h84
    subst h86
    subst h85
    have hcl : nOf (nI pi) = pi := nI_clamp (by have := hI.1; have := hI.2.1; have := hI.2.2.1; omega)
    obtain ⟨i, j, n, n1, n2, h1, h2, h3, h4, h5, h6, h7, h8, h9, h10, h11, h12⟩ := hI.2.2.2.2.2 pi hpi
    refine lv_astore_n (lv' := [(3, .ref (ad 2 pi)), (0, .ref (ad 4 0)), (1, .int (nI pi)), (2, .int x1)]) hx hb dX4_tells_5 rfl hl (by decide) rfl (fun ls hl => ?_)
    refine lv_iload_n hx hb dX4_tells_6 rfl (lv_at hl 3 rfl) ?_
    refine lv_iconst (v := 0) hx hb dX4_tells_7 (by decide) ?_
    refine lv_ldc (v := (1000000)) hx hb hown (hts (.constant RX4 139 (1000000)) (by decide +kernel)) dX4_tells_8 ?_
    refine y_callv (vx_runS (As := [.int x1, .int 0, .int 1000000]) (rest := []) ⟨hx, hb, hml, hown, hts⟩ (c_X4_requireWithin l hns D B ad (cW D ad (g, σ) T o) x1 0 1000000) (va_cwS 3 hts gX4_tells_X4_requireWithin rfl rfl rfl (by decide +kernel) ⟨Nat.le_of_ble_eq_true rfl, Nat.le_of_ble_eq_true rfl⟩) (w_preS hC hP hS) rfl rfl hl.1 rfl (lv_room (Nat.le_of_ble_eq_true rfl)) dX4_tells_10 ⟨Nat.le_of_ble_eq_true rfl, Nat.le_of_ble_eq_true rfl⟩) hS (fun E9 ce9 q9 ad1 w1 H locs hq hP hS h91 h92 h93 => ?_) (fun ad1 w1 H locs hq hP hS => ?_)
    · obtain ⟨h84, h85, h86⟩ := hq
      cases h84
      subst h85
      exact w_thru (fun _ z => z) hnt hlocks hP hS h91 h92 h93 ⟨rfl, by unfold cdTel; rw [cod3_2 ⟨pi, hpi, rfl⟩ h86]; exact ⟨by decide, rfl⟩⟩ (Nat.le_of_ble_eq_true rfl) (Nat.le_of_ble_eq_true rfl)
    · obtain ⟨h84, hb1⟩ := hq
      cases h84
      obtain ⟨pj, rfl, pjl, pjh⟩ := bt_nat (lo := 0) (hi := 1000000) (by decide) (by decide) (by decide) hb1
      refine lv_aload_n hx hb dX4_tells_13 rfl (lv_at hl 0 rfl) ?_
      refine lv_iload_n hx hb dX4_tells_14 rfl (lv_at hl 3 rfl) ?_
      refine w_calli (va_runV (As := [.int (nI pj)]) (rest := []) ⟨hx, hb, hml, hown, hts⟩ (c_X2_toldAt l D B ad g σ T o pi n1 n2 hpi h7 (by omega) h8 (by omega) (nI pj)) (cwV 1 hts gX4_tells_X2_toldAt rfl rfl rfl (by decide +kernel) ⟨Nat.le_of_ble_eq_true rfl, Nat.le_of_ble_eq_true rfl⟩) (w_preV hC hP hS (cW_2 hpi) rfl) rfl rfl hl.1 rfl (lv_room (Nat.le_of_ble_eq_true rfl)) dX4_tells_15 ⟨Nat.le_of_ble_eq_true rfl, Nat.le_of_ble_eq_true rfl⟩) hS (fun r_3 ad1 w1 H locs hq hP hS => ?_)
      obtain ⟨h91, h92⟩ := hq
      cases h91
      subst h92
      refine vx_ret ?_
      exact W.iret (v := (tolC σ pi n1 n2 (nI pj))) hx hb hr (fun t ht hW => Qi_of ⟨rfl, by rw [hcl, tol_eq h6 h10 h12 pjh], by unfold cdTel; exact cod3_0 ⟨pi, hpi, rfl⟩ hb1 trivial⟩ hP hS ht) hS.2.2 dX4_tells_18
