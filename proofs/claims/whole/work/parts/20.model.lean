set_option maxHeartbeats 4000000 in
set_option maxRecDepth 100000 in
theorem c_X5_in (l : Launch) (D : va_G) (B : Nat) (ad : Ad) (w : Wd) (x lo hi : Int32) : Met l yX5_in wsX5_in ({ frames := 0, cells := 0, slots := 0, locals := 0 }) (Pre D B ad (w) [.int x, .int lo, .int hi]) (Qi D B (fun r u => u = (ad, w) ∧ r = bI (bt x lo hi))) 0 0 (ab B) := by
  refine Met.ofW (cc := cX5_in) (maxL := 3) (ret := (some .boolean)) (by decide) rfl ?_
  intro p e s m args below meth c s₁ Bd hml hv
  obtain ⟨rfl, hC, hP⟩ := hv
  have hx := Bd.exec
  have hb := Bd.bytes
  have hr := Bd.returns
  have hts := atoms_spec (ws := wsX5_in) Bd.pre
  have hown : s.vm.findClass RX5 = some m.cls := findClass_of_methodNamed Bd.named
  have hlocks := Bd.notSynchronized
  have hS : va_S (ab B) s.heap s.heap [] := va_S.rf
  have hl := lv_entry ([.int x, .int lo, .int hi]) (n := 3) (Nat.le_of_ble_eq_true rfl)
  rw [lg_entry_eq]
  generalize (lg_sl ([.int x, .int lo, .int hi]) ++ List.replicate (3 - (lg_sl ([.int x, .int lo, .int hi])).length) Slot.unset).toArray = ls at hl ⊢
  have hl : lv_has ls 3 [(0, .int x), (1, .int lo), (2, .int hi)] := hl
  refine lv_iload_n hx hb dX5_in_0 rfl (lv_at hl 0 rfl) ?_
  refine lv_iload_n hx hb dX5_in_1 rfl (lv_at hl 1 rfl) ?_
  refine lv_icmp_lt (tgt := 14) hx hb dX5_in_2 (by decide) (fun c_2 => ?_) (fun c_2 => ?_)
  · refine lv_iconst (v := 0) hx hb dX5_in_14 (by decide) ?_
    exact W.zret (v := 0) hx hb hr rfl (fun t ht hW => Qi_of ⟨rfl, (bI_f (fun z => absurd z.1 (Int32.not_le.mpr c_2))).symm⟩ hP hS ht) hS.2.2 dX5_in_15
  · refine lv_iload_n hx hb dX5_in_5 rfl (lv_at hl 0 rfl) ?_
    refine lv_iload_n hx hb dX5_in_6 rfl (lv_at hl 2 rfl) ?_
    refine lv_icmp_gt (tgt := 14) hx hb dX5_in_7 (by decide) (fun c_7 => ?_) (fun c_7 => ?_)
    · refine lv_iconst (v := 0) hx hb dX5_in_14 (by decide) ?_
      exact W.zret (v := 0) hx hb hr rfl (fun t ht hW => Qi_of ⟨rfl, (bI_f (fun z => absurd z.2 (Int32.not_le.mpr c_7))).symm⟩ hP hS ht) hS.2.2 dX5_in_15
    · refine lv_iconst (v := 1) hx hb dX5_in_10 (by decide) ?_
      refine lv_goto (tgt := 15) hx hb dX5_in_11 (by decide) ?_
      exact W.zret (v := 1) hx hb hr rfl (fun t ht hW => Qi_of ⟨rfl, (bI_t ⟨Int32.not_lt.mp c_2, Int32.not_lt.mp c_7⟩).symm⟩ hP hS ht) hS.2.2 dX5_in_15
set_option maxHeartbeats 4000000 in
set_option maxRecDepth 100000 in
theorem c_X5_thrown (l : Launch) (D : va_G) (B : Nat) (ad : Ad) (S : GC × Me) (h : GC) (τ : Me) (th : Int32) (o : Int64)  : Met l yX5_thrown wsX5_thrown ({ frames := 0, cells := 0, slots := 0, locals := 0 }) (Pre D B ad (cW D ad S (h, τ, th) o) [.ref (ad 5 0)]) (Qi D B (fun r u => u = (ad, cW D ad S (h, τ, th) o) ∧ r = th)) 0 0 (ab B) := by
  refine Met.ofW (cc := cX5_thrown) (maxL := 1) (ret := (some .int)) (by decide) rfl ?_
  intro p e s m args below meth c s₁ Bd hml hv
  obtain ⟨rfl, hC, hP⟩ := hv
  have hx := Bd.exec
  have hb := Bd.bytes
  have hr := Bd.returns
  have hts := atoms_spec (ws := wsX5_thrown) Bd.pre
  have hown : s.vm.findClass RX5 = some m.cls := findClass_of_methodNamed Bd.named
  have hlocks := Bd.notSynchronized
  have hS : va_S (ab B) s.heap s.heap [] := va_S.rf
  have hl := lv_entry ([.ref (ad 5 0)]) (n := 1) (Nat.le_of_ble_eq_true rfl)
  rw [lg_entry_eq]
  generalize (lg_sl ([.ref (ad 5 0)]) ++ List.replicate (1 - (lg_sl ([.ref (ad 5 0)])).length) Slot.unset).toArray = ls at hl ⊢
  have hl : lv_has ls 1 [(0, .ref (ad 5 0))] := hl
  refine lv_aload_n hx hb dX5_thrown_0 rfl (lv_at hl 0 rfl) ?_
  refine w_get hx hb hts (by decide +kernel) hown hC hP cW_5 rfl 24 (by decide) (hts (.fieldLink RX5 68 "BuildingPointsModel" "thrown" "I") (by decide +kernel)) rfl dX5_thrown_1 ?_
  exact W.iret (v := th) hx hb hr (fun t ht hW => Qi_of ⟨rfl, rfl⟩ hP hS ht) hS.2.2 dX5_thrown_4
set_option maxHeartbeats 4000000 in
set_option maxRecDepth 100000 in
theorem c_X5_goes (l : Launch) (D : va_G) (B : Nat) (ad : Ad) (S : GC × Me) (h : GC) (τ : Me) (th : Int32) (o : Int64) (p1 p2 p3 : Prop) : Met l yX5_goes wsX5_goes ({ frames := 0, cells := 0, slots := 0, locals := 0 }) (Pre D B ad (cW D ad S (h, τ, th) o) [.ref (ad 5 0), .int (bI p1), .int (bI p2), .int (bI p3)]) (Qi D B (fun r u => u = (ad, cW D ad S (h, τ, nI (cod3 p1 p2 p3)) o) ∧ r = bI (cod3 p1 p2 p3 = 0))) 0 0 (ab B) := by
  refine Met.ofW (cc := cX5_goes) (maxL := 4) (ret := (some .boolean)) (by decide) rfl ?_
  intro p e s m args below meth c s₁ Bd hml hv
  obtain ⟨rfl, hC, hP⟩ := hv
  have hx := Bd.exec
  have hb := Bd.bytes
  have hr := Bd.returns
  have hts := atoms_spec (ws := wsX5_goes) Bd.pre
  have hown : s.vm.findClass RX5 = some m.cls := findClass_of_methodNamed Bd.named
  have hlocks := Bd.notSynchronized
  have hS : va_S (ab B) s.heap s.heap [] := va_S.rf
  have hl := lv_entry ([.ref (ad 5 0), .int (bI p1), .int (bI p2), .int (bI p3)]) (n := 4) (Nat.le_of_ble_eq_true rfl)
  rw [lg_entry_eq]
  generalize (lg_sl ([.ref (ad 5 0), .int (bI p1), .int (bI p2), .int (bI p3)]) ++ List.replicate (4 - (lg_sl ([.ref (ad 5 0), .int (bI p1), .int (bI p2), .int (bI p3)])).length) Slot.unset).toArray = ls at hl ⊢
  have hl : lv_has ls 4 [(0, .ref (ad 5 0)), (1, .int (bI p1)), (2, .int (bI p2)), (3, .int (bI p3))] := hl
  refine lv_aload_n hx hb dX5_goes_0 rfl (lv_at hl 0 rfl) ?_
  refine lv_iload_n hx hb dX5_goes_1 rfl (lv_at hl 1 rfl) ?_
  refine lv_if_ne (tgt := 9) hx hb dX5_goes_2 (by decide) (fun c_2 => ?_) (fun c_2 => ?_)
  · refine lv_iload_n hx hb dX5_goes_9 rfl (lv_at hl 2 rfl) ?_
    refine lv_if_ne (tgt := 17) hx hb dX5_goes_10 (by decide) (fun c_10 => ?_) (fun c_10 => ?_)
    · refine lv_iload_n hx hb dX5_goes_17 rfl (lv_at hl 3 rfl) ?_
      refine lv_if_ne (tgt := 25) hx hb dX5_goes_18 (by decide) (fun c_18 => ?_) (fun c_18 => ?_)
      · refine lv_iconst (v := 0) hx hb dX5_goes_25 (by decide) ?_
        have hcd : cod3 p1 p2 p3 = 0 := cod3_0 (bI_n0 c_2) (bI_n0 c_10) (bI_n0 c_18)
        refine w_top (v := nI (cod3 p1 p2 p3)) (by rw [hcd]; rfl) ?_
        refine w_put hx hb hts (by decide +kernel) tyX5 tyX5_ok nmX5 hown hC hP hS cW_5 rfl 24 (by decide) (hts (.fieldLink RX5 68 "BuildingPointsModel" "thrown" "I") (by decide +kernel)) rfl rfl rfl (Nat.le_of_ble_eq_true rfl) rfl dX5_goes_26 (fun H locs hP hS => ?_)
        have hP := hw_eq hP (pM24 _)
        refine lv_aload_n hx hb dX5_goes_29 rfl (lv_at hl 0 rfl) ?_
        refine w_get hx hb hts (by decide +kernel) hown hC hP cW_5 rfl 24 (by decide) (hts (.fieldLink RX5 68 "BuildingPointsModel" "thrown" "I") (by decide +kernel)) rfl dX5_goes_30 ?_
        refine lv_if_ne (tgt := 40) hx hb dX5_goes_33 (by decide) (fun c_33 => ?_) (fun c_33 => ?_)
        · exact absurd (by rw [hcd]; rfl) c_33
        · refine lv_iconst (v := 1) hx hb dX5_goes_36 (by decide) ?_
          refine lv_goto (tgt := 41) hx hb dX5_goes_37 (by decide) ?_
          exact W.zret (v := 1) hx hb hr rfl (fun t ht hW => Qi_of ⟨rfl, (bI_t hcd).symm⟩ hP hS ht) hS.2.2 dX5_goes_41
      · refine lv_iconst (v := 3) hx hb dX5_goes_21 (by decide) ?_
        refine lv_goto (tgt := 26) hx hb dX5_goes_22 (by decide) ?_
        have hcd : cod3 p1 p2 p3 = 3 := cod3_3 (bI_n0 c_2) (bI_n0 c_10) (bI_0.mp c_18)
        refine w_top (v := nI (cod3 p1 p2 p3)) (by rw [hcd]; rfl) ?_
        refine w_put hx hb hts (by decide +kernel) tyX5 tyX5_ok nmX5 hown hC hP hS cW_5 rfl 24 (by decide) (hts (.fieldLink RX5 68 "BuildingPointsModel" "thrown" "I") (by decide +kernel)) rfl rfl rfl (Nat.le_of_ble_eq_true rfl) rfl dX5_goes_26 (fun H locs hP hS => ?_)
        have hP := hw_eq hP (pM24 _)
        refine lv_aload_n hx hb dX5_goes_29 rfl (lv_at hl 0 rfl) ?_
        refine w_get hx hb hts (by decide +kernel) hown hC hP cW_5 rfl 24 (by decide) (hts (.fieldLink RX5 68 "BuildingPointsModel" "thrown" "I") (by decide +kernel)) rfl dX5_goes_30 ?_
        refine lv_if_ne (tgt := 40) hx hb dX5_goes_33 (by decide) (fun c_33 => ?_) (fun c_33 => ?_)
        · refine lv_iconst (v := 0) hx hb dX5_goes_40 (by decide) ?_
          exact W.zret (v := 0) hx hb hr rfl (fun t ht hW => Qi_of ⟨rfl, (bI_f (by rw [hcd]; decide)).symm⟩ hP hS ht) hS.2.2 dX5_goes_41
        · exact absurd c_33 (by rw [hcd]; decide)
    · refine lv_iconst (v := 2) hx hb dX5_goes_13 (by decide) ?_
      refine lv_goto (tgt := 26) hx hb dX5_goes_14 (by decide) ?_
      have hcd : cod3 p1 p2 p3 = 2 := cod3_2 (bI_n0 c_2) (bI_0.mp c_10)
      refine w_top (v := nI (cod3 p1 p2 p3)) (by rw [hcd]; rfl) ?_
      refine w_put hx hb hts (by decide +kernel) tyX5 tyX5_ok nmX5 hown hC hP hS cW_5 rfl 24 (by decide) (hts (.fieldLink RX5 68 "BuildingPointsModel" "thrown" "I") (by decide +kernel)) rfl rfl rfl (Nat.le_of_ble_eq_true rfl) rfl dX5_goes_26 (fun H locs hP hS => ?_)
      have hP := hw_eq hP (pM24 _)
      refine lv_aload_n hx hb dX5_goes_29 rfl (lv_at hl 0 rfl) ?_
      refine w_get hx hb hts (by decide +kernel) hown hC hP cW_5 rfl 24 (by decide) (hts (.fieldLink RX5 68 "BuildingPointsModel" "thrown" "I") (by decide +kernel)) rfl dX5_goes_30 ?_
      refine lv_if_ne (tgt := 40) hx hb dX5_goes_33 (by decide) (fun c_33 => ?_) (fun c_33 => ?_)
      · refine lv_iconst (v := 0) hx hb dX5_goes_40 (by decide) ?_
        exact W.zret (v := 0) hx hb hr rfl (fun t ht hW => Qi_of ⟨rfl, (bI_f (by rw [hcd]; decide)).symm⟩ hP hS ht) hS.2.2 dX5_goes_41
      · exact absurd c_33 (by rw [hcd]; decide)
  · refine lv_iconst (v := 1) hx hb dX5_goes_5 (by decide) ?_
    refine lv_goto (tgt := 26) hx hb dX5_goes_6 (by decide) ?_
    have hcd : cod3 p1 p2 p3 = 1 := cod3_1 (bI_0.mp c_2)
    refine w_top (v := nI (cod3 p1 p2 p3)) (by rw [hcd]; rfl) ?_
    refine w_put hx hb hts (by decide +kernel) tyX5 tyX5_ok nmX5 hown hC hP hS cW_5 rfl 24 (by decide) (hts (.fieldLink RX5 68 "BuildingPointsModel" "thrown" "I") (by decide +kernel)) rfl rfl rfl (Nat.le_of_ble_eq_true rfl) rfl dX5_goes_26 (fun H locs hP hS => ?_)
    have hP := hw_eq hP (pM24 _)
    refine lv_aload_n hx hb dX5_goes_29 rfl (lv_at hl 0 rfl) ?_
    refine w_get hx hb hts (by decide +kernel) hown hC hP cW_5 rfl 24 (by decide) (hts (.fieldLink RX5 68 "BuildingPointsModel" "thrown" "I") (by decide +kernel)) rfl dX5_goes_30 ?_
    refine lv_if_ne (tgt := 40) hx hb dX5_goes_33 (by decide) (fun c_33 => ?_) (fun c_33 => ?_)
    · refine lv_iconst (v := 0) hx hb dX5_goes_40 (by decide) ?_
      exact W.zret (v := 0) hx hb hr rfl (fun t ht hW => Qi_of ⟨rfl, (bI_f (by rw [hcd]; decide)).symm⟩ hP hS ht) hS.2.2 dX5_goes_41
    · exact absurd c_33 (by rw [hcd]; decide)
set_option maxHeartbeats 4000000 in
set_option maxRecDepth 100000 in
theorem c_X5_isPoint (l : Launch) (D : va_G) (B : Nat) (ad : Ad) (S : GC × Me) (h : GC) (τ : Me) (th : Int32) (o : Int64) (hg : h.1 ≤ 16) (x : Int32) : Met l yX5_isPoint wsX5_isPoint ({ frames := 1, cells := 0, slots := 0, locals := 22 }) (Pre D B ad (cW D ad S (h, τ, th) o) [.ref (ad 5 0), .int x]) (Qi D B (fun r u => u = (ad, cW D ad S (h, τ, th) o) ∧ r = bI (isN h.1 x))) 0 0 (ab B) := by
  refine Met.ofW (cc := cX5_isPoint) (maxL := 2) (ret := (some .boolean)) (by decide) rfl ?_
  intro p e s m args below meth c s₁ Bd hml hv
  obtain ⟨rfl, hC, hP⟩ := hv
  have hx := Bd.exec
  have hb := Bd.bytes
  have hr := Bd.returns
  have hts := atoms_spec (ws := wsX5_isPoint) Bd.pre
  have hown : s.vm.findClass RX5 = some m.cls := findClass_of_methodNamed Bd.named
  have hlocks := Bd.notSynchronized
  have hS : va_S (ab B) s.heap s.heap [] := va_S.rf
  have hl := lv_entry ([.ref (ad 5 0), .int x]) (n := 2) (Nat.le_of_ble_eq_true rfl)
  rw [lg_entry_eq]
  generalize (lg_sl ([.ref (ad 5 0), .int x]) ++ List.replicate (2 - (lg_sl ([.ref (ad 5 0), .int x])).length) Slot.unset).toArray = ls at hl ⊢
  have hl : lv_has ls 2 [(0, .ref (ad 5 0)), (1, .int x)] := hl
  refine lv_iload_n hx hb dX5_isPoint_0 rfl (lv_at hl 1 rfl) ?_
  refine lv_iconst (v := 0) hx hb dX5_isPoint_1 (by decide) ?_
  refine lv_aload_n hx hb dX5_isPoint_2 rfl (lv_at hl 0 rfl) ?_
  refine w_get hx hb hts (by decide +kernel) hown hC hP cW_5 rfl 1 (by decide) (hts (.fieldLink RX5 72 "BuildingPointsModel" "points" "I") (by decide +kernel)) rfl dX5_isPoint_3 ?_
  refine lv_iconst (v := 1) hx hb dX5_isPoint_6 (by decide) ?_
  refine lv_isub hx hb dX5_isPoint_7 ?_
  refine w_calli (va_runS (As := [.int x, .int 0, .int ((nI h.1) - 1)]) (rest := []) ⟨hx, hb, hml, hown, hts⟩ (c_X5_in l D B ad (cW D ad S (h, τ, th) o) x 0 ((nI h.1) - 1)) (va_cwS 3 hts gX5_isPoint_X5_in rfl rfl rfl (by decide +kernel) ⟨Nat.le_of_ble_eq_true rfl, Nat.le_of_ble_eq_true rfl⟩) (w_preS hC hP hS) rfl rfl hl.1 rfl (lv_room (Nat.le_of_ble_eq_true rfl)) dX5_isPoint_8 ⟨Nat.le_of_ble_eq_true rfl, Nat.le_of_ble_eq_true rfl⟩) hS (fun r_1 ad1 w1 H locs hq hP hS => ?_)
  obtain ⟨h91, h92⟩ := hq
  cases h91
  subst h92
  exact W.zret (v := (bI (bt x 0 ((nI h.1) - 1)))) hx hb hr (by rcases bI_01 (bt x 0 (nI h.1 - 1)) with z | z <;> rw [z] <;> rfl) (fun t ht hW => Qi_of ⟨rfl, bI_eq (in_isN (n := h.1) (by omega))⟩ hP hS ht) hS.2.2 dX5_isPoint_11
set_option maxHeartbeats 4000000 in
set_option maxRecDepth 100000 in
theorem c_X5_isSubscription (l : Launch) (D : va_G) (B : Nat) (ad : Ad) (S : GC × Me) (h : GC) (τ : Me) (th : Int32) (o : Int64) (hg : h.2.1 ≤ 30) (x : Int32) : Met l yX5_isSubscription wsX5_isSubscription ({ frames := 1, cells := 0, slots := 0, locals := 22 }) (Pre D B ad (cW D ad S (h, τ, th) o) [.ref (ad 5 0), .int x]) (Qi D B (fun r u => u = (ad, cW D ad S (h, τ, th) o) ∧ r = bI (isN h.2.1 x))) 0 0 (ab B) := by
  refine Met.ofW (cc := cX5_isSubscription) (maxL := 2) (ret := (some .boolean)) (by decide) rfl ?_
  intro p e s m args below meth c s₁ Bd hml hv
  obtain ⟨rfl, hC, hP⟩ := hv
  have hx := Bd.exec
  have hb := Bd.bytes
  have hr := Bd.returns
  have hts := atoms_spec (ws := wsX5_isSubscription) Bd.pre
  have hown : s.vm.findClass RX5 = some m.cls := findClass_of_methodNamed Bd.named
  have hlocks := Bd.notSynchronized
  have hS : va_S (ab B) s.heap s.heap [] := va_S.rf
  have hl := lv_entry ([.ref (ad 5 0), .int x]) (n := 2) (Nat.le_of_ble_eq_true rfl)
  rw [lg_entry_eq]
  generalize (lg_sl ([.ref (ad 5 0), .int x]) ++ List.replicate (2 - (lg_sl ([.ref (ad 5 0), .int x])).length) Slot.unset).toArray = ls at hl ⊢
  have hl : lv_has ls 2 [(0, .ref (ad 5 0)), (1, .int x)] := hl
  refine lv_iload_n hx hb dX5_isSubscription_0 rfl (lv_at hl 1 rfl) ?_
  refine lv_iconst (v := 0) hx hb dX5_isSubscription_1 (by decide) ?_
  refine lv_aload_n hx hb dX5_isSubscription_2 rfl (lv_at hl 0 rfl) ?_
  refine w_get hx hb hts (by decide +kernel) hown hC hP cW_5 rfl 2 (by decide) (hts (.fieldLink RX5 92 "BuildingPointsModel" "subscriptions" "I") (by decide +kernel)) rfl dX5_isSubscription_3 ?_
  refine lv_iconst (v := 1) hx hb dX5_isSubscription_6 (by decide) ?_
  refine lv_isub hx hb dX5_isSubscription_7 ?_
  refine w_calli (va_runS (As := [.int x, .int 0, .int ((nI h.2.1) - 1)]) (rest := []) ⟨hx, hb, hml, hown, hts⟩ (c_X5_in l D B ad (cW D ad S (h, τ, th) o) x 0 ((nI h.2.1) - 1)) (va_cwS 3 hts gX5_isSubscription_X5_in rfl rfl rfl (by decide +kernel) ⟨Nat.le_of_ble_eq_true rfl, Nat.le_of_ble_eq_true rfl⟩) (w_preS hC hP hS) rfl rfl hl.1 rfl (lv_room (Nat.le_of_ble_eq_true rfl)) dX5_isSubscription_8 ⟨Nat.le_of_ble_eq_true rfl, Nat.le_of_ble_eq_true rfl⟩) hS (fun r_1 ad1 w1 H locs hq hP hS => ?_)
  obtain ⟨h91, h92⟩ := hq
  cases h91
  subst h92
  exact W.zret (v := (bI (bt x 0 ((nI h.2.1) - 1)))) hx hb hr (by rcases bI_01 (bt x 0 (nI h.2.1 - 1)) with z | z <;> rw [z] <;> rfl) (fun t ht hW => Qi_of ⟨rfl, bI_eq (in_isN (n := h.2.1) (by omega))⟩ hP hS ht) hS.2.2 dX5_isSubscription_11
set_option maxHeartbeats 4000000 in
set_option maxRecDepth 100000 in
theorem c_X5_isSchedule (l : Launch) (D : va_G) (B : Nat) (ad : Ad) (S : GC × Me) (h : GC) (τ : Me) (th : Int32) (o : Int64) (hg : h.2.2 ≤ 4) (x : Int32) : Met l yX5_isSchedule wsX5_isSchedule ({ frames := 1, cells := 0, slots := 0, locals := 22 }) (Pre D B ad (cW D ad S (h, τ, th) o) [.ref (ad 5 0), .int x]) (Qi D B (fun r u => u = (ad, cW D ad S (h, τ, th) o) ∧ r = bI (isN h.2.2 x))) 0 0 (ab B) := by
  refine Met.ofW (cc := cX5_isSchedule) (maxL := 2) (ret := (some .boolean)) (by decide) rfl ?_
  intro p e s m args below meth c s₁ Bd hml hv
  obtain ⟨rfl, hC, hP⟩ := hv
  have hx := Bd.exec
  have hb := Bd.bytes
  have hr := Bd.returns
  have hts := atoms_spec (ws := wsX5_isSchedule) Bd.pre
  have hown : s.vm.findClass RX5 = some m.cls := findClass_of_methodNamed Bd.named
  have hlocks := Bd.notSynchronized
  have hS : va_S (ab B) s.heap s.heap [] := va_S.rf
  have hl := lv_entry ([.ref (ad 5 0), .int x]) (n := 2) (Nat.le_of_ble_eq_true rfl)
  rw [lg_entry_eq]
  generalize (lg_sl ([.ref (ad 5 0), .int x]) ++ List.replicate (2 - (lg_sl ([.ref (ad 5 0), .int x])).length) Slot.unset).toArray = ls at hl ⊢
  have hl : lv_has ls 2 [(0, .ref (ad 5 0)), (1, .int x)] := hl
  refine lv_iload_n hx hb dX5_isSchedule_0 rfl (lv_at hl 1 rfl) ?_
  refine lv_iconst (v := 0) hx hb dX5_isSchedule_1 (by decide) ?_
  refine lv_aload_n hx hb dX5_isSchedule_2 rfl (lv_at hl 0 rfl) ?_
  refine w_get hx hb hts (by decide +kernel) hown hC hP cW_5 rfl 3 (by decide) (hts (.fieldLink RX5 124 "BuildingPointsModel" "schedules" "I") (by decide +kernel)) rfl dX5_isSchedule_3 ?_
  refine lv_iconst (v := 1) hx hb dX5_isSchedule_6 (by decide) ?_
  refine lv_isub hx hb dX5_isSchedule_7 ?_
  refine w_calli (va_runS (As := [.int x, .int 0, .int ((nI h.2.2) - 1)]) (rest := []) ⟨hx, hb, hml, hown, hts⟩ (c_X5_in l D B ad (cW D ad S (h, τ, th) o) x 0 ((nI h.2.2) - 1)) (va_cwS 3 hts gX5_isSchedule_X5_in rfl rfl rfl (by decide +kernel) ⟨Nat.le_of_ble_eq_true rfl, Nat.le_of_ble_eq_true rfl⟩) (w_preS hC hP hS) rfl rfl hl.1 rfl (lv_room (Nat.le_of_ble_eq_true rfl)) dX5_isSchedule_8 ⟨Nat.le_of_ble_eq_true rfl, Nat.le_of_ble_eq_true rfl⟩) hS (fun r_1 ad1 w1 H locs hq hP hS => ?_)
  obtain ⟨h91, h92⟩ := hq
  cases h91
  subst h92
  exact W.zret (v := (bI (bt x 0 ((nI h.2.2) - 1)))) hx hb hr (by rcases bI_01 (bt x 0 (nI h.2.2 - 1)) with z | z <;> rw [z] <;> rfl) (fun t ht hW => Qi_of ⟨rfl, bI_eq (in_isN (n := h.2.2) (by omega))⟩ hP hS ht) hS.2.2 dX5_isSchedule_11
set_option maxHeartbeats 4000000 in
set_option maxRecDepth 100000 in
theorem c_X5_canHave (l : Launch) (D : va_G) (B : Nat) (ad : Ad) (S : GC × Me) (h : GC) (τ : Me) (th : Int32) (o : Int64) (k : Nat) (hk : k < 16) (v : Int32) (h01 : τ 1 k 0 = 0 ∨ τ 1 k 0 = 1) : Met l yX5_canHave wsX5_canHave ({ frames := 1, cells := 0, slots := 0, locals := 22 }) (Pre D B ad (cW D ad S (h, τ, th) o) [.ref (ad 5 0), .int (nI k), .int v]) (Qi D B (fun r u => u = (ad, cW D ad S (h, τ, th) o) ∧ r = bI (okV τ k v))) 0 0 (ab B) := by
  refine Met.ofW (cc := cX5_canHave) (maxL := 3) (ret := (some .boolean)) (by decide) rfl ?_
  intro p e s m args below meth c s₁ Bd hml hv
  obtain ⟨rfl, hC, hP⟩ := hv
  have hx := Bd.exec
  have hb := Bd.bytes
  have hr := Bd.returns
  have hts := atoms_spec (ws := wsX5_canHave) Bd.pre
  have hown : s.vm.findClass RX5 = some m.cls := findClass_of_methodNamed Bd.named
  have hlocks := Bd.notSynchronized
  have hS : va_S (ab B) s.heap s.heap [] := va_S.rf
  have hl := lv_entry ([.ref (ad 5 0), .int (nI k), .int v]) (n := 3) (Nat.le_of_ble_eq_true rfl)
  rw [lg_entry_eq]
  generalize (lg_sl ([.ref (ad 5 0), .int (nI k), .int v]) ++ List.replicate (3 - (lg_sl ([.ref (ad 5 0), .int (nI k), .int v])).length) Slot.unset).toArray = ls at hl ⊢
  have hl : lv_has ls 3 [(0, .ref (ad 5 0)), (1, .int (nI k)), (2, .int v)] := hl
  refine w_join (D := D) (B := B) (ad := ad) (w := cW D ad S (h, τ, th) o) (H0 := s.heap) (pcJ := 45) (ls := ls) (rest := []) (bI (okV τ k v)) (fun H locs hP hS => ?_) (fun hJ => ?_) hP hS
  · exact W.zret (v := (bI (okV τ k v))) hx hb hr (by rcases bI_01 (okV τ k v) with z | z <;> rw [z] <;> rfl) (fun t ht hW => Qi_of ⟨rfl, rfl⟩ hP hS ht) hS.2.2 dX5_canHave_45
  · refine lv_iload_n hx hb dX5_canHave_0 rfl (lv_at hl 2 rfl) ?_
    refine lv_ldc (v := (-100000)) hx hb hown (hts (.constant RX5 79 (-100000)) (by decide +kernel)) dX5_canHave_1 ?_
    refine w_top (v := nth) rfl ?_
    refine lv_icmp_eq (tgt := 40) hx hb dX5_canHave_3 (by decide) (fun c_3 => ?_) (fun c_3 => ?_)
    · refine lv_iconst (v := 1) hx hb dX5_canHave_40 (by decide) ?_
      refine lv_goto (tgt := 45) hx hb dX5_canHave_41 (by decide) ?_
      exact hJ _ _ _ (bI_t (Or.inl c_3)).symm hP hS
    · refine lv_aload_n hx hb dX5_canHave_6 rfl (lv_at hl 0 rfl) ?_
      refine w_get hx hb hts (by decide +kernel) hown hC hP cW_5 rfl 5 (by decide) (hts (.fieldLink RX5 7 "BuildingPointsModel" "isSwitch" "[Z") (by decide +kernel)) rfl dX5_canHave_7 ?_
      refine lv_iload_n hx hb dX5_canHave_10 rfl (lv_at hl 1 rfl) ?_
      refine w_zldN hx hb hC hP cW_12_0 (by omega) (by decide) (v := τ 1 k 0) rfl dX5_canHave_11 ?_
      refine lv_if_eq (tgt := 27) hx hb dX5_canHave_12 (by decide) (fun c_12 => ?_) (fun c_12 => ?_)
      · have hlh : loF (τ 1 k 0) = -1000 ∧ hiF (τ 1 k 0) = 1000 := by rw [c_12]; exact ⟨by decide, by decide⟩
        refine lv_iload_n hx hb dX5_canHave_27 rfl (lv_at hl 2 rfl) ?_
        refine lv_sipush (v := (-1000)) hx hb dX5_canHave_28 (by decide) ?_
        refine lv_sipush (v := (1000)) hx hb dX5_canHave_31 (by decide) ?_
        refine w_calli (va_runS (As := [.int v, .int (-1000), .int 1000]) (rest := []) ⟨hx, hb, hml, hown, hts⟩ (c_X5_in l D B ad (cW D ad S (h, τ, th) o) v (-1000) 1000) (va_cwS 3 hts gX5_canHave_X5_in rfl rfl rfl (by decide +kernel) ⟨Nat.le_of_ble_eq_true rfl, Nat.le_of_ble_eq_true rfl⟩) (w_preS hC hP hS) rfl rfl hl.1 rfl (lv_room (Nat.le_of_ble_eq_true rfl)) dX5_canHave_34 ⟨Nat.le_of_ble_eq_true rfl, Nat.le_of_ble_eq_true rfl⟩) hS (fun r_1 ad1 w1 H locs hq hP hS => ?_)
        obtain ⟨h91, h92⟩ := hq
        cases h91
        subst h92
        refine lv_if_eq (tgt := 44) hx hb dX5_canHave_37 (by decide) (fun c_37 => ?_) (fun c_37 => ?_)
        · refine lv_iconst (v := 0) hx hb dX5_canHave_44 (by decide) ?_
          exact hJ _ _ _ (bI_f (fun z => z.elim c_3 (fun y => bI_0.mp c_37 (by unfold inP at y; rw [hlh.1, hlh.2] at y; exact y)))).symm hP hS
        · refine lv_iconst (v := 1) hx hb dX5_canHave_40 (by decide) ?_
          refine lv_goto (tgt := 45) hx hb dX5_canHave_41 (by decide) ?_
          exact hJ _ _ _ (bI_t (Or.inr (by unfold inP; rw [hlh.1, hlh.2]; exact bI_n0 c_37))).symm hP hS
      · have hlh : loF (τ 1 k 0) = 0 ∧ hiF (τ 1 k 0) = 1 := by rw [h01.resolve_left c_12]; exact ⟨by decide, by decide⟩
        refine lv_iload_n hx hb dX5_canHave_15 rfl (lv_at hl 2 rfl) ?_
        refine lv_iconst (v := 0) hx hb dX5_canHave_16 (by decide) ?_
        refine lv_iconst (v := 1) hx hb dX5_canHave_17 (by decide) ?_
        refine w_calli (va_runS (As := [.int v, .int 0, .int 1]) (rest := []) ⟨hx, hb, hml, hown, hts⟩ (c_X5_in l D B ad (cW D ad S (h, τ, th) o) v 0 1) (va_cwS 3 hts gX5_canHave_X5_in rfl rfl rfl (by decide +kernel) ⟨Nat.le_of_ble_eq_true rfl, Nat.le_of_ble_eq_true rfl⟩) (w_preS hC hP hS) rfl rfl hl.1 rfl (lv_room (Nat.le_of_ble_eq_true rfl)) dX5_canHave_18 ⟨Nat.le_of_ble_eq_true rfl, Nat.le_of_ble_eq_true rfl⟩) hS (fun r_2 ad1 w1 H locs hq hP hS => ?_)
        obtain ⟨h91, h92⟩ := hq
        cases h91
        subst h92
        refine lv_if_eq (tgt := 44) hx hb dX5_canHave_21 (by decide) (fun c_21 => ?_) (fun c_21 => ?_)
        · refine lv_iconst (v := 0) hx hb dX5_canHave_44 (by decide) ?_
          exact hJ _ _ _ (bI_f (fun z => z.elim c_3 (fun y => bI_0.mp c_21 (by unfold inP at y; rw [hlh.1, hlh.2] at y; exact y)))).symm hP hS
        · refine lv_goto (tgt := 40) hx hb dX5_canHave_24 (by decide) ?_
          refine lv_iconst (v := 1) hx hb dX5_canHave_40 (by decide) ?_
          refine lv_goto (tgt := 45) hx hb dX5_canHave_41 (by decide) ?_
          exact hJ _ _ _ (bI_t (Or.inr (by unfold inP; rw [hlh.1, hlh.2]; exact bI_n0 c_21))).symm hP hS
set_option maxHeartbeats 4000000 in
set_option maxRecDepth 100000 in
theorem c_X5_standingOf (l : Launch) (D : va_G) (B : Nat) (ad : Ad) (S : GC × Me) (h : GC) (τ : Me) (th : Int32) (o : Int64) (pi : Nat) (hpi : pi < 16) : Met l yX5_standingOf wsX5_standingOf ({ frames := 0, cells := 0, slots := 0, locals := 0 }) (Pre D B ad (cW D ad S (h, τ, th) o) [.ref (ad 5 0), .int (nI pi)]) (Qi D B (fun r u => u = (ad, cW D ad S (h, τ, th) o) ∧ r = nI (stO τ pi))) 0 0 (ab B) := by
  refine Met.ofW (cc := cX5_standingOf) (maxL := 4) (ret := (some .int)) (by decide) rfl ?_
  intro p e s m args below meth c s₁ Bd hml hv
  obtain ⟨rfl, hC, hP⟩ := hv
  have hx := Bd.exec
  have hb := Bd.bytes
  have hr := Bd.returns
  have hts := atoms_spec (ws := wsX5_standingOf) Bd.pre
  have hown : s.vm.findClass RX5 = some m.cls := findClass_of_methodNamed Bd.named
  have hlocks := Bd.notSynchronized
  have hS : va_S (ab B) s.heap s.heap [] := va_S.rf
  have hl := lv_entry ([.ref (ad 5 0), .int (nI pi)]) (n := 4) (Nat.le_of_ble_eq_true rfl)
  rw [lg_entry_eq]
  generalize (lg_sl ([.ref (ad 5 0), .int (nI pi)]) ++ List.replicate (4 - (lg_sl ([.ref (ad 5 0), .int (nI pi)])).length) Slot.unset).toArray = ls at hl ⊢
  have hl : lv_has ls 4 [(0, .ref (ad 5 0)), (1, .int (nI pi))] := hl
  refine lv_bipush (v := (17)) hx hb dX5_standingOf_0 (by decide) ?_
  refine lv_istore_n (lv' := [(2, .int 17), (0, .ref (ad 5 0)), (1, .int (nI pi))]) hx hb dX5_standingOf_2 rfl hl (by decide) rfl (fun ls hl => ?_)
  refine lv_bipush (v := (16)) hx hb dX5_standingOf_3 (by decide) ?_
  refine lv_istore_n (lv' := [(3, .int 16), (2, .int 17), (0, .ref (ad 5 0)), (1, .int (nI pi))]) hx hb dX5_standingOf_5 rfl hl (by decide) rfl (fun ls hl => ?_)
  refine w_ind (fun n9 H locs ls => ∃ k : Nat, k = n9 ∧ k ≤ 16 ∧ hw D B ad (cW D ad S (h, τ, th) o) H ∧ va_S (ab B) s.heap H locs ∧ lv_has ls 4 [(3, .int (nI k)), (2, .int (nI (stF (τ 6 pi) (16 - k) (k + 1)))), (0, .ref (ad 5 0)), (1, .int (nI pi))]) ?_ 16 _ _ _ ⟨16, rfl, by decide, hP, hS, lv_sub hl [0, 1, 2, 3] rfl⟩
  intro n9 H locs ls hJ ih
  obtain ⟨k, hkn, hk16, hP, hS, hl⟩ := hJ
  refine lv_iload_n hx hb dX5_standingOf_6 rfl (lv_at hl 0 rfl) ?_
  refine lv_iconst (v := 1) hx hb dX5_standingOf_7 (by decide) ?_
  refine lv_icmp_lt (tgt := 41) hx hb dX5_standingOf_8 (by decide) (fun c_8 => ?_) (fun c_8 => ?_)
  · have hk0 : k < 1 := Nat.not_le.mp (fun z => nI_nlt (a := k) (b := 1) z (by omega) c_8)
    refine lv_iload_n hx hb dX5_standingOf_41 rfl (lv_at hl 1 rfl) ?_
    exact W.iret (v := (nI (stF (τ 6 pi) (16 - k) (k + 1)))) hx hb hr (fun t ht hW => Qi_of ⟨rfl, by rw [show k = 0 by omega]; rfl⟩ hP hS ht) hS.2.2 dX5_standingOf_42
  · obtain ⟨k1, rfl⟩ : ∃ k1, k = k1 + 1 := ⟨k - 1, by have : ¬ k < 1 := fun z => c_8 (nI_lt (a := k) (b := 1) z (by decide)); omega⟩
    refine lv_aload_n hx hb dX5_standingOf_11 rfl (lv_at hl 2 rfl) ?_
    refine w_get hx hb hts (by decide +kernel) hown hC hP cW_5 rfl 10 (by decide) (hts (.fieldLink RX5 26 "BuildingPointsModel" "commands" "[I") (by decide +kernel)) rfl dX5_standingOf_12 ?_
    refine lv_bipush (v := (16)) hx hb dX5_standingOf_15 (by decide) ?_
    refine lv_iload_n hx hb dX5_standingOf_17 rfl (lv_at hl 3 rfl) ?_
    refine lv_imul hx hb dX5_standingOf_18 ?_
    refine w_top (v := nI (16 * pi)) (pk_mul 16 pi) ?_
    refine lv_iload_n hx hb dX5_standingOf_19 rfl (lv_at hl 0 rfl) ?_
    refine lv_iadd hx hb dX5_standingOf_20 ?_
    refine w_top (v := nI (16 * pi + (k1 + 1))) (nI_add (16 * pi) (k1 + 1)) ?_
    refine lv_iconst (v := 1) hx hb dX5_standingOf_21 (by decide) ?_
    refine lv_isub hx hb dX5_standingOf_22 ?_
    refine w_top (v := nI (16 * pi + (k1 + 1) - 1)) (pk_sub (a := 16 * pi + (k1 + 1)) (b := 1) (by omega)) ?_
    refine w_ildN hx hb hC hP cW_12_5 (by omega) (by decide) (v := τ 6 pi (k1 + 1)) (by show τ 6 _ _ = _; rw [show (16 * pi + (k1 + 1) - 1) / 16 = pi by omega, show (16 * pi + (k1 + 1) - 1) % 16 + 1 = (k1 + 1) by omega]) dX5_standingOf_23 ?_
    refine lv_ldc (v := (-100000)) hx hb hown (hts (.constant RX5 79 (-100000)) (by decide +kernel)) dX5_standingOf_24 ?_
    refine w_top (v := nth) rfl ?_
    refine lv_icmp_eq (tgt := 33) hx hb dX5_standingOf_26 (by decide) (fun c_26 => ?_) (fun c_26 => ?_)
    · refine lv_iload_n hx hb dX5_standingOf_33 rfl (lv_at hl 1 rfl) ?_
      refine lv_istore_n (lv' := [(2, .int (nI (stF (τ 6 pi) (16 - (k1 + 1)) (k1 + 1 + 1)))), (3, .int (nI (k1 + 1))), (0, .ref (ad 5 0)), (1, .int (nI pi))]) hx hb dX5_standingOf_34 rfl hl (by decide) rfl (fun ls hl => ?_)
      refine lv_iinc (v := nI k1) (lv' := [(3, .int (nI k1)), (2, .int (nI (stF (τ 6 pi) (16 - (k1 + 1)) (k1 + 1 + 1)))), (0, .ref (ad 5 0)), (1, .int (nI pi))]) hx hb dX5_standingOf_35 hl (k := 1) rfl (pk_m1 k1) (by decide) rfl (fun ls hl => ?_)
      refine lv_goto (tgt := 6) hx hb dX5_standingOf_38 (by decide) ?_
      have hE : stF (τ 6 pi) (16 - k1) (k1 + 1) = stF (τ 6 pi) (16 - (k1 + 1)) (k1 + 1 + 1) := by
        rw [show 16 - k1 = (16 - (k1 + 1)) + 1 by omega]
        simp only [stF]
        exact if_pos c_26
      exact ih k1 _ _ _ (by omega) ⟨k1, rfl, by omega, hP, hS, by rw [hE]; exact lv_sub hl [0, 1, 2, 3] rfl⟩
    · refine lv_iload_n hx hb dX5_standingOf_29 rfl (lv_at hl 0 rfl) ?_
      refine lv_goto (tgt := 34) hx hb dX5_standingOf_30 (by decide) ?_
      refine lv_istore_n (lv' := [(2, .int (nI (k1 + 1))), (3, .int (nI (k1 + 1))), (0, .ref (ad 5 0)), (1, .int (nI pi))]) hx hb dX5_standingOf_34 rfl hl (by decide) rfl (fun ls hl => ?_)
      refine lv_iinc (v := nI k1) (lv' := [(3, .int (nI k1)), (2, .int (nI (k1 + 1))), (0, .ref (ad 5 0)), (1, .int (nI pi))]) hx hb dX5_standingOf_35 hl (k := 1) rfl (pk_m1 k1) (by decide) rfl (fun ls hl => ?_)
      refine lv_goto (tgt := 6) hx hb dX5_standingOf_38 (by decide) ?_
      have hE : stF (τ 6 pi) (16 - k1) (k1 + 1) = k1 + 1 := by
        rw [show 16 - k1 = (16 - (k1 + 1)) + 1 by omega]
        simp only [stF]
        exact if_neg c_26
      exact ih k1 _ _ _ (by omega) ⟨k1, rfl, by omega, hP, hS, by rw [hE]; exact lv_sub hl [0, 1, 2, 3] rfl⟩
set_option maxHeartbeats 4000000 in
set_option maxRecDepth 100000 in
theorem c_X5_valueOf (l : Launch) (D : va_G) (B : Nat) (ad : Ad) (S : GC × Me) (h : GC) (τ : Me) (th : Int32) (o : Int64) (pi : Nat) (h16 : pi < 16) : Met l yX5_valueOf wsX5_valueOf ({ frames := 1, cells := 0, slots := 0, locals := 23 }) (Pre D B ad (cW D ad S (h, τ, th) o) [.ref (ad 5 0), .int (nI pi)]) (Qi D B (fun r u => u = (ad, cW D ad S (h, τ, th) o) ∧ r = vaO τ pi)) 0 0 (ab B) := by
  refine Met.ofW (cc := cX5_valueOf) (maxL := 3) (ret := (some .int)) (by decide) rfl ?_
  intro p e s m args below meth c s₁ Bd hml hv
  obtain ⟨rfl, hC, hP⟩ := hv
  have hx := Bd.exec
  have hb := Bd.bytes
  have hr := Bd.returns
  have hts := atoms_spec (ws := wsX5_valueOf) Bd.pre
  have hown : s.vm.findClass RX5 = some m.cls := findClass_of_methodNamed Bd.named
  have hlocks := Bd.notSynchronized
  have hS : va_S (ab B) s.heap s.heap [] := va_S.rf
  have hl := lv_entry ([.ref (ad 5 0), .int (nI pi)]) (n := 3) (Nat.le_of_ble_eq_true rfl)
  rw [lg_entry_eq]
  generalize (lg_sl ([.ref (ad 5 0), .int (nI pi)]) ++ List.replicate (3 - (lg_sl ([.ref (ad 5 0), .int (nI pi)])).length) Slot.unset).toArray = ls at hl ⊢
  have hl : lv_has ls 3 [(0, .ref (ad 5 0)), (1, .int (nI pi))] := hl
  have hso := stO_le τ pi
  refine lv_aload_n hx hb dX5_valueOf_0 rfl (lv_at hl 0 rfl) ?_
  refine lv_iload_n hx hb dX5_valueOf_1 rfl (lv_at hl 1 rfl) ?_
  refine w_calli (va_runV (As := [.int (nI pi)]) (rest := []) ⟨hx, hb, hml, hown, hts⟩ (c_X5_standingOf l D B ad S h τ th o pi h16) (cwV 1 hts gX5_valueOf_X5_standingOf rfl rfl rfl (by decide +kernel) ⟨Nat.le_of_ble_eq_true rfl, Nat.le_of_ble_eq_true rfl⟩) (w_preV hC hP hS cW_5 rfl) rfl rfl hl.1 rfl (lv_room (Nat.le_of_ble_eq_true rfl)) dX5_valueOf_2 ⟨Nat.le_of_ble_eq_true rfl, Nat.le_of_ble_eq_true rfl⟩) hS (fun r_1 ad1 w1 H locs hq hP hS => ?_)
  obtain ⟨h91, h92⟩ := hq
  cases h91
  subst h92
  refine lv_istore_n (lv' := [(2, .int (nI (stO τ pi))), (0, .ref (ad 5 0)), (1, .int (nI pi))]) hx hb dX5_valueOf_5 rfl hl (by decide) rfl (fun ls hl => ?_)
  refine lv_iload_n hx hb dX5_valueOf_6 rfl (lv_at hl 0 rfl) ?_
  refine lv_bipush (v := (16)) hx hb dX5_valueOf_7 (by decide) ?_
  refine lv_icmp_le (tgt := 21) hx hb dX5_valueOf_9 (by decide) (fun c_9 => ?_) (fun c_9 => ?_)
  · have hlt : stO τ pi < 17 := Nat.not_le.mp (fun z => absurd c_9 (nI_ge (a := 16) (b := stO τ pi) (by omega) (by omega)))
    refine lv_aload_n hx hb dX5_valueOf_21 rfl (lv_at hl 1 rfl) ?_
    refine w_get hx hb hts (by decide +kernel) hown hC hP cW_5 rfl 10 (by decide) (hts (.fieldLink RX5 26 "BuildingPointsModel" "commands" "[I") (by decide +kernel)) rfl dX5_valueOf_22 ?_
    refine lv_bipush (v := (16)) hx hb dX5_valueOf_25 (by decide) ?_
    refine lv_iload_n hx hb dX5_valueOf_27 rfl (lv_at hl 2 rfl) ?_
    refine lv_imul hx hb dX5_valueOf_28 ?_
    refine w_top (v := nI (16 * pi)) (pk_mul 16 pi) ?_
    refine lv_iload_n hx hb dX5_valueOf_29 rfl (lv_at hl 0 rfl) ?_
    refine lv_iadd hx hb dX5_valueOf_30 ?_
    refine w_top (v := nI (16 * pi + (stO τ pi))) (nI_add (16 * pi) (stO τ pi)) ?_
    refine lv_iconst (v := 1) hx hb dX5_valueOf_31 (by decide) ?_
    refine lv_isub hx hb dX5_valueOf_32 ?_
    refine w_top (v := nI (16 * pi + (stO τ pi) - 1)) (pk_sub (a := 16 * pi + (stO τ pi)) (b := 1) (by omega)) ?_
    refine w_ildN hx hb hC hP cW_12_5 (by omega) (by decide) (v := τ 6 pi (stO τ pi)) (by show τ 6 _ _ = _; rw [show (16 * pi + (stO τ pi) - 1) / 16 = pi by omega, show (16 * pi + (stO τ pi) - 1) % 16 + 1 = (stO τ pi) by omega]) dX5_valueOf_33 ?_
    exact W.iret (v := (τ 6 pi (stO τ pi))) hx hb hr (fun t ht hW => Qi_of ⟨rfl, by unfold vaO; rw [if_pos hlt]⟩ hP hS ht) hS.2.2 dX5_valueOf_34
  · have hlt : ¬ stO τ pi < 17 := fun z => c_9 (nI_le (a := stO τ pi) (b := 16) (by omega) (by decide))
    refine lv_aload_n hx hb dX5_valueOf_12 rfl (lv_at hl 1 rfl) ?_
    refine w_get hx hb hts (by decide +kernel) hown hC hP cW_5 rfl 6 (by decide) (hts (.fieldLink RX5 13 "BuildingPointsModel" "first" "[I") (by decide +kernel)) rfl dX5_valueOf_13 ?_
    refine lv_iload_n hx hb dX5_valueOf_16 rfl (lv_at hl 2 rfl) ?_
    refine w_ildN hx hb hC hP cW_12_1 (by omega) (by decide) (v := τ 2 pi 0) rfl dX5_valueOf_17 ?_
    refine lv_goto (tgt := 34) hx hb dX5_valueOf_18 (by decide) ?_
    exact W.iret (v := (τ 2 pi 0)) hx hb hr (fun t ht hW => Qi_of ⟨rfl, by unfold vaO; rw [if_neg hlt]⟩ hP hS ht) hS.2.2 dX5_valueOf_34
set_option maxHeartbeats 4000000 in
set_option maxRecDepth 100000 in
theorem c_X5_informs (l : Launch) (D : va_G) (B : Nat) (ad : Ad) (S : GC × Me) (h : GC) (τ : Me) (th : Int32) (o : Int64) (pi : Nat) (v : Int32) (h30 : h.2.1 ≤ 30) : Met l yX5_informs wsX5_informs ({ frames := 0, cells := 0, slots := 0, locals := 0 }) (Pre D B ad (cW D ad S (h, τ, th) o) [.ref (ad 5 0), .int (nI pi), .int v]) (Qv D B (fun u => u = (ad, cW D ad S (h, infF pi v h.2.1 0 τ, th) o))) 0 0 (ab B) := by
  refine Met.ofW (cc := cX5_informs) (maxL := 5) (ret := none) (by decide) rfl ?_
  intro p e s m args below meth c s₁ Bd hml hv
  obtain ⟨rfl, hC, hP⟩ := hv
  have hx := Bd.exec
  have hb := Bd.bytes
  have hr := Bd.returns
  have hts := atoms_spec (ws := wsX5_informs) Bd.pre
  have hown : s.vm.findClass RX5 = some m.cls := findClass_of_methodNamed Bd.named
  have hlocks := Bd.notSynchronized
  have hS : va_S (ab B) s.heap s.heap [] := va_S.rf
  have hl := lv_entry ([.ref (ad 5 0), .int (nI pi), .int v]) (n := 5) (Nat.le_of_ble_eq_true rfl)
  rw [lg_entry_eq]
  generalize (lg_sl ([.ref (ad 5 0), .int (nI pi), .int v]) ++ List.replicate (5 - (lg_sl ([.ref (ad 5 0), .int (nI pi), .int v])).length) Slot.unset).toArray = ls at hl ⊢
  have hl : lv_has ls 5 [(0, .ref (ad 5 0)), (1, .int (nI pi)), (2, .int v)] := hl
  refine lv_iconst (v := 0) hx hb dX5_informs_0 (by decide) ?_
  refine lv_istore_n (lv' := [(3, .int 0), (0, .ref (ad 5 0)), (1, .int (nI pi)), (2, .int v)]) hx hb dX5_informs_1 rfl hl (by decide) rfl (fun ls hl => ?_)
  refine w_ind (fun n9 H locs ls => ∃ (i : Nat) (τ1 : Me), i + n9 = h.2.1 ∧ infF pi v h.2.1 0 τ = infF pi v n9 i τ1 ∧ hw D B ad (cW D ad S (h, τ1, th) o) H ∧ va_S (ab B) s.heap H locs ∧ lv_has ls 5 [(3, .int (nI i)), (0, .ref (ad 5 0)), (1, .int (nI pi)), (2, .int v)]) ?_ h.2.1 _ _ _ ⟨0, τ, by omega, rfl, hP, hS, lv_sub hl [0, 1, 2, 3] rfl⟩
  intro n9 H locs ls hJ ih
  obtain ⟨i, τ1, hi, hst, hP, hS, hl⟩ := hJ
  refine lv_iload_n hx hb dX5_informs_2 rfl (lv_at hl 0 rfl) ?_
  refine lv_aload_n hx hb dX5_informs_3 rfl (lv_at hl 1 rfl) ?_
  refine w_get hx hb hts (by decide +kernel) hown hC hP cW_5 rfl 2 (by decide) (hts (.fieldLink RX5 92 "BuildingPointsModel" "subscriptions" "I") (by decide +kernel)) rfl dX5_informs_4 ?_
  refine lv_icmp_ge (tgt := 104) hx hb dX5_informs_7 (by decide) (fun c_7 => ?_) (fun c_7 => ?_)
  · have hin : h.2.1 ≤ i := Nat.not_lt.mp (fun z => absurd c_7 (nI_ge z (by omega)))
    exact W.vret hx hb hr (fun t ht hW => Qv_of (by rw [hst, show n9 = 0 by omega]; rfl) hP hS ht) hS.2.2 dX5_informs_104
  · have hin : i < h.2.1 := Nat.not_le.mp (fun z => c_7 (nI_le z (by omega)))
    refine w_join (D := D) (B := B) (ad := ad) (w := cW D ad S (h, τ1, th) o) (H0 := s.heap) (pcJ := 39) (ls := ls) (rest := []) (farO v (τ1 13 i 0)) (fun H locs hP hS => ?_) (fun hJ => ?_) hP hS
    · refine lv_istore (lv' := [(4, .int (farO v (τ1 13 i 0))), (3, .int (nI i)), (0, .ref (ad 5 0)), (1, .int (nI pi)), (2, .int v)]) hx hb dX5_informs_39 hl (by decide) rfl (fun ls hl => ?_)
      refine lv_aload_n hx hb dX5_informs_41 rfl (lv_at hl 2 rfl) ?_
      refine w_get hx hb hts (by decide +kernel) hown hC hP cW_5 rfl 11 (by decide) (hts (.fieldLink RX5 29 "BuildingPointsModel" "of" "[I") (by decide +kernel)) rfl dX5_informs_42 ?_
      refine lv_iload_n hx hb dX5_informs_45 rfl (lv_at hl 1 rfl) ?_
      refine w_ildN hx hb hC hP cW_12_6 (by omega) (by decide) (v := τ1 8 i 0) rfl dX5_informs_46 ?_
      refine lv_iload_n hx hb dX5_informs_47 rfl (lv_at hl 3 rfl) ?_
      refine lv_icmp_ne (tgt := 98) hx hb dX5_informs_48 (by decide) (fun c_48 => ?_) (fun c_48 => ?_)
      · refine lv_iinc (v := nI (i + 1)) (lv' := [(3, .int (nI (i + 1))), (4, .int (farO v (τ1 13 i 0))), (0, .ref (ad 5 0)), (1, .int (nI pi)), (2, .int v)]) hx hb dX5_informs_98 hl (k := 1) rfl (nI_add i 1) (by decide) rfl (fun ls hl => ?_)
        refine lv_goto (tgt := 2) hx hb dX5_informs_101 (by decide) ?_
        obtain ⟨n8, rfl⟩ : ∃ n8, n9 = n8 + 1 := ⟨n9 - 1, by omega⟩
        have hE : infS pi v i τ1 = τ1 := by
          unfold infS
          rw [if_neg (fun z => c_48 z.1)]
        exact ih n8 _ _ _ (by omega) ⟨i + 1, τ1, by omega, by rw [hst]; show infF pi v n8 (i + 1) (infS pi v i τ1) = _; rw [hE], hP, hS, lv_sub hl [0, 2, 3, 4] rfl⟩
      · refine lv_aload_n hx hb dX5_informs_51 rfl (lv_at hl 2 rfl) ?_
        refine w_get hx hb hts (by decide +kernel) hown hC hP cW_5 rfl 14 (by decide) (hts (.fieldLink RX5 38 "BuildingPointsModel" "ended" "[Z") (by decide +kernel)) rfl dX5_informs_52 ?_
        refine lv_iload_n hx hb dX5_informs_55 rfl (lv_at hl 1 rfl) ?_
        refine w_zldN hx hb hC hP cW_12_9 (by omega) (by decide) (v := τ1 11 i 0) rfl dX5_informs_56 ?_
        refine lv_if_ne (tgt := 98) hx hb dX5_informs_57 (by decide) (fun c_57 => ?_) (fun c_57 => ?_)
        · refine lv_iinc (v := nI (i + 1)) (lv' := [(3, .int (nI (i + 1))), (4, .int (farO v (τ1 13 i 0))), (0, .ref (ad 5 0)), (1, .int (nI pi)), (2, .int v)]) hx hb dX5_informs_98 hl (k := 1) rfl (nI_add i 1) (by decide) rfl (fun ls hl => ?_)
          refine lv_goto (tgt := 2) hx hb dX5_informs_101 (by decide) ?_
          obtain ⟨n8, rfl⟩ : ∃ n8, n9 = n8 + 1 := ⟨n9 - 1, by omega⟩
          have hE : infS pi v i τ1 = τ1 := by
            unfold infS
            rw [if_neg (fun z => c_57 z.2.1)]
          exact ih n8 _ _ _ (by omega) ⟨i + 1, τ1, by omega, by rw [hst]; show infF pi v n8 (i + 1) (infS pi v i τ1) = _; rw [hE], hP, hS, lv_sub hl [0, 2, 3, 4] rfl⟩
        · refine lv_iload hx hb dX5_informs_60 (lv_at hl 0 rfl) ?_
          refine lv_aload_n hx hb dX5_informs_62 rfl (lv_at hl 2 rfl) ?_
          refine w_get hx hb hts (by decide +kernel) hown hC hP cW_5 rfl 12 (by decide) (hts (.fieldLink RX5 32 "BuildingPointsModel" "increment" "[I") (by decide +kernel)) rfl dX5_informs_63 ?_
          refine lv_iload_n hx hb dX5_informs_66 rfl (lv_at hl 1 rfl) ?_
          refine w_ildN hx hb hC hP cW_12_7 (by omega) (by decide) (v := τ1 9 i 0) rfl dX5_informs_67 ?_
          refine lv_icmp_lt (tgt := 98) hx hb dX5_informs_68 (by decide) (fun c_68 => ?_) (fun c_68 => ?_)
          · refine lv_iinc (v := nI (i + 1)) (lv' := [(3, .int (nI (i + 1))), (4, .int (farO v (τ1 13 i 0))), (0, .ref (ad 5 0)), (1, .int (nI pi)), (2, .int v)]) hx hb dX5_informs_98 hl (k := 1) rfl (nI_add i 1) (by decide) rfl (fun ls hl => ?_)
            refine lv_goto (tgt := 2) hx hb dX5_informs_101 (by decide) ?_
            obtain ⟨n8, rfl⟩ : ∃ n8, n9 = n8 + 1 := ⟨n9 - 1, by omega⟩
            have hE : infS pi v i τ1 = τ1 := by
              unfold infS
              rw [if_neg (fun z => absurd z.2.2 (Int32.not_le.mpr c_68))]
            exact ih n8 _ _ _ (by omega) ⟨i + 1, τ1, by omega, by rw [hst]; show infF pi v n8 (i + 1) (infS pi v i τ1) = _; rw [hE], hP, hS, lv_sub hl [0, 2, 3, 4] rfl⟩
          · refine lv_aload_n hx hb dX5_informs_71 rfl (lv_at hl 2 rfl) ?_
            refine w_get hx hb hts (by decide +kernel) hown hC hP cW_5 rfl 16 (by decide) (hts (.fieldLink RX5 44 "BuildingPointsModel" "kept" "[I") (by decide +kernel)) rfl dX5_informs_72 ?_
            refine lv_iload_n hx hb dX5_informs_75 rfl (lv_at hl 1 rfl) ?_
            refine lv_iload_n hx hb dX5_informs_76 rfl (lv_at hl 4 rfl) ?_
            refine w_istN hx hb hC hP hS cW_12_11 (by omega) (by decide) dX5_informs_77 (fun H locs hP hS => ?_)
            have hP := hw_eq hP (pA11 i _)
            refine lv_aload_n hx hb dX5_informs_78 rfl (lv_at hl 2 rfl) ?_
            refine w_get hx hb hts (by decide +kernel) hown hC hP cW_5 rfl 15 (by decide) (hts (.fieldLink RX5 41 "BuildingPointsModel" "sent" "[I") (by decide +kernel)) rfl dX5_informs_79 ?_
            refine lv_iload_n hx hb dX5_informs_82 rfl (lv_at hl 1 rfl) ?_
            refine lv_dup2_11 hx hb dX5_informs_83 rfl rfl ?_
            refine w_ildN hx hb hC hP cW_12_10 (by omega) (by decide) (v := (st3 τ1 13 i 0 v) 12 i 0) rfl dX5_informs_84 ?_
            refine lv_iconst (v := 1) hx hb dX5_informs_85 (by decide) ?_
            refine lv_iadd hx hb dX5_informs_86 ?_
            refine w_istN hx hb hC hP hS cW_12_10 (by omega) (by decide) dX5_informs_87 (fun H locs hP hS => ?_)
            have hP := hw_eq hP (pA10 i _)
            refine lv_aload_n hx hb dX5_informs_88 rfl (lv_at hl 2 rfl) ?_
            refine lv_dup hx hb dX5_informs_89 rfl ?_
            refine w_get hx hb hts (by decide +kernel) hown hC hP cW_5 rfl 4 (by decide) (hts (.fieldLink RX5 95 "BuildingPointsModel" "told" "I") (by decide +kernel)) rfl dX5_informs_90 ?_
            refine lv_iconst (v := 1) hx hb dX5_informs_93 (by decide) ?_
            refine lv_iadd hx hb dX5_informs_94 ?_
            refine w_put hx hb hts (by decide +kernel) tyX5 tyX5_ok nmX5 hown hC hP hS cW_5 rfl 4 (by decide) (hts (.fieldLink RX5 95 "BuildingPointsModel" "told" "I") (by decide +kernel)) rfl rfl rfl (Nat.le_of_ble_eq_true rfl) rfl dX5_informs_95 (fun H locs hP hS => ?_)
            have hP := hw_eq hP (pM4 _)
            refine lv_iinc (v := nI (i + 1)) (lv' := [(3, .int (nI (i + 1))), (4, .int (farO v (τ1 13 i 0))), (0, .ref (ad 5 0)), (1, .int (nI pi)), (2, .int v)]) hx hb dX5_informs_98 hl (k := 1) rfl (nI_add i 1) (by decide) rfl (fun ls hl => ?_)
            refine lv_goto (tgt := 2) hx hb dX5_informs_101 (by decide) ?_
            obtain ⟨n8, rfl⟩ : ∃ n8, n9 = n8 + 1 := ⟨n9 - 1, by omega⟩
            have hE : infS pi v i τ1 = st3 (st3 (st3 τ1 13 i 0 v) 12 i 0 (((st3 τ1 13 i 0 v) 12 i 0) + 1)) 26 0 0 (((st3 (st3 τ1 13 i 0 v) 12 i 0 (((st3 τ1 13 i 0 v) 12 i 0) + 1)) 26 0 0) + 1) := by
              unfold infS
              rw [if_pos ⟨c_48, c_57, Int32.not_lt.mp c_68⟩]; simp [st3]
            exact ih n8 _ _ _ (by omega) ⟨i + 1, (st3 (st3 (st3 τ1 13 i 0 v) 12 i 0 (((st3 τ1 13 i 0 v) 12 i 0) + 1)) 26 0 0 (((st3 (st3 τ1 13 i 0 v) 12 i 0 (((st3 τ1 13 i 0 v) 12 i 0) + 1)) 26 0 0) + 1)), by omega, by rw [hst]; show infF pi v n8 (i + 1) (infS pi v i τ1) = _; rw [hE], hP, hS, lv_sub hl [0, 2, 3, 4] rfl⟩
    · refine lv_iload_n hx hb dX5_informs_10 rfl (lv_at hl 3 rfl) ?_
      refine lv_aload_n hx hb dX5_informs_11 rfl (lv_at hl 1 rfl) ?_
      refine w_get hx hb hts (by decide +kernel) hown hC hP cW_5 rfl 16 (by decide) (hts (.fieldLink RX5 44 "BuildingPointsModel" "kept" "[I") (by decide +kernel)) rfl dX5_informs_12 ?_
      refine lv_iload_n hx hb dX5_informs_15 rfl (lv_at hl 0 rfl) ?_
      refine w_ildN hx hb hC hP cW_12_11 (by omega) (by decide) (v := τ1 13 i 0) rfl dX5_informs_16 ?_
      refine lv_icmp_le (tgt := 31) hx hb dX5_informs_17 (by decide) (fun c_17 => ?_) (fun c_17 => ?_)
      · refine lv_aload_n hx hb dX5_informs_31 rfl (lv_at hl 1 rfl) ?_
        refine w_get hx hb hts (by decide +kernel) hown hC hP cW_5 rfl 16 (by decide) (hts (.fieldLink RX5 44 "BuildingPointsModel" "kept" "[I") (by decide +kernel)) rfl dX5_informs_32 ?_
        refine lv_iload_n hx hb dX5_informs_35 rfl (lv_at hl 0 rfl) ?_
        refine w_ildN hx hb hC hP cW_12_11 (by omega) (by decide) (v := τ1 13 i 0) rfl dX5_informs_36 ?_
        refine lv_iload_n hx hb dX5_informs_37 rfl (lv_at hl 3 rfl) ?_
        refine lv_isub hx hb dX5_informs_38 ?_
        exact hJ _ _ _ (by unfold farO; rw [if_neg (Int32.not_lt.mpr c_17)]) hP hS
      · refine lv_iload_n hx hb dX5_informs_20 rfl (lv_at hl 3 rfl) ?_
        refine lv_aload_n hx hb dX5_informs_21 rfl (lv_at hl 1 rfl) ?_
        refine w_get hx hb hts (by decide +kernel) hown hC hP cW_5 rfl 16 (by decide) (hts (.fieldLink RX5 44 "BuildingPointsModel" "kept" "[I") (by decide +kernel)) rfl dX5_informs_22 ?_
        refine lv_iload_n hx hb dX5_informs_25 rfl (lv_at hl 0 rfl) ?_
        refine w_ildN hx hb hC hP cW_12_11 (by omega) (by decide) (v := τ1 13 i 0) rfl dX5_informs_26 ?_
        refine lv_isub hx hb dX5_informs_27 ?_
        refine lv_goto (tgt := 39) hx hb dX5_informs_28 (by decide) ?_
        exact hJ _ _ _ (by unfold farO; rw [if_pos (Int32.not_le.mp c_17)]) hP hS
set_option maxHeartbeats 4000000 in
set_option maxRecDepth 100000 in
theorem c_X5_sets (l : Launch) (D : va_G) (B : Nat) (ad : Ad) (S : GC × Me) (h : GC) (τ : Me) (th : Int32) (o : Int64) (pi pj : Nat) (h16 : pi < 16) (hj1 : 1 ≤ pj) (hj : pj ≤ 16) (v : Int32) (h30 : h.2.1 ≤ 30) : Met l yX5_sets wsX5_sets ({ frames := 2, cells := 0, slots := 0, locals := 45 }) (Pre D B ad (cW D ad S (h, τ, th) o) [.ref (ad 5 0), .int (nI pi), .int (nI pj), .int v]) (Qv D B (fun u => u = (ad, cW D ad S (h, setF h.2.1 pi pj v τ, th) o))) 0 0 (ab B) := by
  refine Met.ofW (cc := cX5_sets) (maxL := 6) (ret := none) (by decide) rfl ?_
  intro p e s m args below meth c s₁ Bd hml hv
  obtain ⟨rfl, hC, hP⟩ := hv
  have hx := Bd.exec
  have hb := Bd.bytes
  have hr := Bd.returns
  have hts := atoms_spec (ws := wsX5_sets) Bd.pre
  have hown : s.vm.findClass RX5 = some m.cls := findClass_of_methodNamed Bd.named
  have hlocks := Bd.notSynchronized
  have hS : va_S (ab B) s.heap s.heap [] := va_S.rf
  have hl := lv_entry ([.ref (ad 5 0), .int (nI pi), .int (nI pj), .int v]) (n := 6) (Nat.le_of_ble_eq_true rfl)
  rw [lg_entry_eq]
  generalize (lg_sl ([.ref (ad 5 0), .int (nI pi), .int (nI pj), .int v]) ++ List.replicate (6 - (lg_sl ([.ref (ad 5 0), .int (nI pi), .int (nI pj), .int v])).length) Slot.unset).toArray = ls at hl ⊢
  have hl : lv_has ls 6 [(0, .ref (ad 5 0)), (1, .int (nI pi)), (2, .int (nI pj)), (3, .int v)] := hl
  refine lv_aload_n hx hb dX5_sets_0 rfl (lv_at hl 0 rfl) ?_
  refine lv_iload_n hx hb dX5_sets_1 rfl (lv_at hl 1 rfl) ?_
  refine w_calli (va_runV (As := [.int (nI pi)]) (rest := []) ⟨hx, hb, hml, hown, hts⟩ (c_X5_valueOf l D B ad S h τ th o pi h16) (cwV 1 hts gX5_sets_X5_valueOf rfl rfl rfl (by decide +kernel) ⟨Nat.le_of_ble_eq_true rfl, Nat.le_of_ble_eq_true rfl⟩) (w_preV hC hP hS cW_5 rfl) rfl rfl hl.1 rfl (lv_room (Nat.le_of_ble_eq_true rfl)) dX5_sets_2 ⟨Nat.le_of_ble_eq_true rfl, Nat.le_of_ble_eq_true rfl⟩) hS (fun r_1 ad1 w1 H locs hq hP hS => ?_)
  obtain ⟨h91, h92⟩ := hq
  cases h91
  subst h92
  refine lv_istore (lv' := [(4, .int (vaO τ pi)), (0, .ref (ad 5 0)), (1, .int (nI pi)), (2, .int (nI pj)), (3, .int v)]) hx hb dX5_sets_5 hl (by decide) rfl (fun ls hl => ?_)
  refine lv_aload_n hx hb dX5_sets_7 rfl (lv_at hl 1 rfl) ?_
  refine w_get hx hb hts (by decide +kernel) hown hC hP cW_5 rfl 10 (by decide) (hts (.fieldLink RX5 26 "BuildingPointsModel" "commands" "[I") (by decide +kernel)) rfl dX5_sets_8 ?_
  refine lv_bipush (v := (16)) hx hb dX5_sets_11 (by decide) ?_
  refine lv_iload_n hx hb dX5_sets_13 rfl (lv_at hl 2 rfl) ?_
  refine lv_imul hx hb dX5_sets_14 ?_
  refine w_top (v := nI (16 * pi)) (pk_mul 16 pi) ?_
  refine lv_iload_n hx hb dX5_sets_15 rfl (lv_at hl 3 rfl) ?_
  refine lv_iadd hx hb dX5_sets_16 ?_
  refine w_top (v := nI (16 * pi + pj)) (nI_add (16 * pi) pj) ?_
  refine lv_iconst (v := 1) hx hb dX5_sets_17 (by decide) ?_
  refine lv_isub hx hb dX5_sets_18 ?_
  refine w_top (v := nI (16 * pi + pj - 1)) (pk_sub (a := 16 * pi + pj) (b := 1) (by omega)) ?_
  refine lv_iload_n hx hb dX5_sets_19 rfl (lv_at hl 4 rfl) ?_
  refine w_istN hx hb hC hP hS cW_12_5 (by omega) (by decide) dX5_sets_20 (fun H locs hP hS => ?_)
  have hP := hw_eq hP (pA5k (p := pi) (k := pj) (by omega) (by omega) _)
  refine lv_aload_n hx hb dX5_sets_21 rfl (lv_at hl 1 rfl) ?_
  refine lv_iload_n hx hb dX5_sets_22 rfl (lv_at hl 2 rfl) ?_
  refine w_calli (va_runV (As := [.int (nI pi)]) (rest := []) ⟨hx, hb, hml, hown, hts⟩ (c_X5_valueOf l D B ad S h (st3 τ 6 pi pj v) th o pi h16) (cwV 1 hts gX5_sets_X5_valueOf rfl rfl rfl (by decide +kernel) ⟨Nat.le_of_ble_eq_true rfl, Nat.le_of_ble_eq_true rfl⟩) (w_preV hC hP hS cW_5 rfl) rfl rfl hl.1 rfl (lv_room (Nat.le_of_ble_eq_true rfl)) dX5_sets_23 ⟨Nat.le_of_ble_eq_true rfl, Nat.le_of_ble_eq_true rfl⟩) hS (fun r_2 ad1 w1 H locs hq hP hS => ?_)
  obtain ⟨h91, h92⟩ := hq
  cases h91
  subst h92
  refine lv_istore (lv' := [(5, .int (vaO (st3 τ 6 pi pj v) pi)), (4, .int (vaO τ pi)), (0, .ref (ad 5 0)), (1, .int (nI pi)), (2, .int (nI pj)), (3, .int v)]) hx hb dX5_sets_26 hl (by decide) rfl (fun ls hl => ?_)
  refine lv_iload hx hb dX5_sets_28 (lv_at hl 0 rfl) ?_
  refine lv_iload hx hb dX5_sets_30 (lv_at hl 1 rfl) ?_
  refine lv_icmp_eq (tgt := 94) hx hb dX5_sets_32 (by decide) (fun c_32 => ?_) (fun c_32 => ?_)
  · exact W.vret hx hb hr (fun t ht hW => Qv_of (by unfold setF; rw [if_pos c_32]) hP hS ht) hS.2.2 dX5_sets_94
  · have hP := hw_eq hP (cW_m (a := 7) (i := pi) (j := 0) (v := (vaO (st3 τ 6 pi pj v) pi)) (by omega)).symm
    refine lv_aload_n hx hb dX5_sets_35 rfl (lv_at hl 2 rfl) ?_
    refine w_get hx hb hts (by decide +kernel) hown hC hP cW_5 rfl 9 (by decide) (hts (.fieldLink RX5 23 "BuildingPointsModel" "changed" "[I") (by decide +kernel)) rfl dX5_sets_36 ?_
    refine lv_iload_n hx hb dX5_sets_39 rfl (lv_at hl 3 rfl) ?_
    refine lv_dup2_11 hx hb dX5_sets_40 rfl rfl ?_
    refine w_ildN hx hb hC hP cW_12_4 (by omega) (by decide) (v := (st3 (st3 τ 6 pi pj v) 7 pi 0 (vaO (st3 τ 6 pi pj v) pi)) 5 pi 0) rfl dX5_sets_41 ?_
    refine lv_iconst (v := 1) hx hb dX5_sets_42 (by decide) ?_
    refine lv_iadd hx hb dX5_sets_43 ?_
    refine w_istN hx hb hC hP hS cW_12_4 (by omega) (by decide) dX5_sets_44 (fun H locs hP hS => ?_)
    have hP := hw_eq hP (pA4 pi _)
    refine lv_aload_n hx hb dX5_sets_45 rfl (lv_at hl 2 rfl) ?_
    refine w_get hx hb hts (by decide +kernel) hown hC hP cW_5 rfl 7 (by decide) (hts (.fieldLink RX5 17 "BuildingPointsModel" "least" "[I") (by decide +kernel)) rfl dX5_sets_46 ?_
    refine lv_iload_n hx hb dX5_sets_49 rfl (lv_at hl 3 rfl) ?_
    refine w_ildN hx hb hC hP cW_12_2 (by omega) (by decide) (v := (st3 (st3 (st3 τ 6 pi pj v) 7 pi 0 (vaO (st3 τ 6 pi pj v) pi)) 5 pi 0 (((st3 (st3 τ 6 pi pj v) 7 pi 0 (vaO (st3 τ 6 pi pj v) pi)) 5 pi 0) + 1)) 3 pi 0) rfl dX5_sets_50 ?_
    refine lv_if_le (tgt := 87) hx hb dX5_sets_51 (by decide) (fun c_51 => ?_) (fun c_51 => ?_)
    · have hP := hw_eq hP (show cW D ad S (h, st3 (st3 (st3 τ 6 pi pj v) 7 pi 0 (vaO (st3 τ 6 pi pj v) pi)) 5 pi 0 (((st3 (st3 τ 6 pi pj v) 7 pi 0 (vaO (st3 τ 6 pi pj v) pi)) 5 pi 0) + 1), th) o = cW D ad S (h, chgF pi (vaO (st3 τ 6 pi pj v) pi) (τ 25 0 0) (st3 τ 6 pi pj v), th) o from by unfold chgF; rw [if_neg (Int32.not_lt.mpr (by simpa [st3] using c_51))]; simp [st3])
      refine lv_aload_n hx hb dX5_sets_87 rfl (lv_at hl 2 rfl) ?_
      refine lv_iload_n hx hb dX5_sets_88 rfl (lv_at hl 3 rfl) ?_
      refine lv_iload hx hb dX5_sets_89 (lv_at hl 0 rfl) ?_
      refine w_callv (va_runV (As := [.int (nI pi), .int (vaO (st3 τ 6 pi pj v) pi)]) (rest := []) ⟨hx, hb, hml, hown, hts⟩ (c_X5_informs l D B ad S h (chgF pi (vaO (st3 τ 6 pi pj v) pi) (τ 25 0 0) (st3 τ 6 pi pj v)) th o pi (vaO (st3 τ 6 pi pj v) pi) h30) (cwV 2 hts gX5_sets_X5_informs rfl rfl rfl (by decide +kernel) ⟨Nat.le_of_ble_eq_true rfl, Nat.le_of_ble_eq_true rfl⟩) (w_preV hC hP hS cW_5 rfl) rfl rfl hl.1 rfl (lv_room (Nat.le_of_ble_eq_true rfl)) dX5_sets_91 ⟨Nat.le_of_ble_eq_true rfl, Nat.le_of_ble_eq_true rfl⟩) hS (fun ad1 w1 H locs hq hP hS => ?_)
      cases hq
      exact W.vret hx hb hr (fun t ht hW => Qv_of (by unfold setF; rw [if_neg c_32]) hP hS ht) hS.2.2 dX5_sets_94
    · refine lv_aload_n hx hb dX5_sets_54 rfl (lv_at hl 2 rfl) ?_
      refine w_get hx hb hts (by decide +kernel) hown hC hP cW_5 rfl 10 (by decide) (hts (.fieldLink RX5 26 "BuildingPointsModel" "commands" "[I") (by decide +kernel)) rfl dX5_sets_55 ?_
      refine lv_bipush (v := (16)) hx hb dX5_sets_58 (by decide) ?_
      refine lv_iload_n hx hb dX5_sets_60 rfl (lv_at hl 3 rfl) ?_
      refine lv_imul hx hb dX5_sets_61 ?_
      refine w_top (v := nI (16 * pi)) (pk_mul 16 pi) ?_
      refine lv_bipush (v := (6)) hx hb dX5_sets_62 (by decide) ?_
      refine lv_iadd hx hb dX5_sets_64 ?_
      refine w_top (v := nI (16 * pi + 6)) (nI_add (16 * pi) 6) ?_
      refine lv_iconst (v := 1) hx hb dX5_sets_65 (by decide) ?_
      refine lv_isub hx hb dX5_sets_66 ?_
      refine w_top (v := nI (16 * pi + 6 - 1)) (pk_sub (a := 16 * pi + 6) (b := 1) (by omega)) ?_
      refine lv_iload hx hb dX5_sets_67 (lv_at hl 0 rfl) ?_
      refine w_istN hx hb hC hP hS cW_12_5 (by omega) (by decide) dX5_sets_69 (fun H locs hP hS => ?_)
      have hP := hw_eq hP (pA5k (p := pi) (k := 6) (by omega) (by omega) _)
      refine lv_aload_n hx hb dX5_sets_70 rfl (lv_at hl 2 rfl) ?_
      refine w_get hx hb hts (by decide +kernel) hown hC hP cW_5 rfl 8 (by decide) (hts (.fieldLink RX5 20 "BuildingPointsModel" "until" "[I") (by decide +kernel)) rfl dX5_sets_71 ?_
      refine lv_iload_n hx hb dX5_sets_74 rfl (lv_at hl 3 rfl) ?_
      refine lv_aload_n hx hb dX5_sets_75 rfl (lv_at hl 2 rfl) ?_
      refine w_get hx hb hts (by decide +kernel) hown hC hP cW_5 rfl 0 (by decide) (hts (.fieldLink RX5 101 "BuildingPointsModel" "clock" "I") (by decide +kernel)) rfl dX5_sets_76 ?_
      refine lv_aload_n hx hb dX5_sets_79 rfl (lv_at hl 2 rfl) ?_
      refine w_get hx hb hts (by decide +kernel) hown hC hP cW_5 rfl 7 (by decide) (hts (.fieldLink RX5 17 "BuildingPointsModel" "least" "[I") (by decide +kernel)) rfl dX5_sets_80 ?_
      refine lv_iload_n hx hb dX5_sets_83 rfl (lv_at hl 3 rfl) ?_
      refine w_ildN hx hb hC hP cW_12_2 (by omega) (by decide) (v := (st3 (st3 (st3 (st3 τ 6 pi pj v) 7 pi 0 (vaO (st3 τ 6 pi pj v) pi)) 5 pi 0 (((st3 (st3 τ 6 pi pj v) 7 pi 0 (vaO (st3 τ 6 pi pj v) pi)) 5 pi 0) + 1)) 6 pi 6 (vaO (st3 τ 6 pi pj v) pi)) 3 pi 0) rfl dX5_sets_84 ?_
      refine lv_iadd hx hb dX5_sets_85 ?_
      refine w_istN hx hb hC hP hS cW_12_3 (by omega) (by decide) dX5_sets_86 (fun H locs hP hS => ?_)
      have hP := hw_eq hP (pA3 pi _)
      have hP := hw_eq hP (show cW D ad S (h, st3 (st3 (st3 (st3 (st3 τ 6 pi pj v) 7 pi 0 (vaO (st3 τ 6 pi pj v) pi)) 5 pi 0 (((st3 (st3 τ 6 pi pj v) 7 pi 0 (vaO (st3 τ 6 pi pj v) pi)) 5 pi 0) + 1)) 6 pi 6 (vaO (st3 τ 6 pi pj v) pi)) 4 pi 0 (((st3 (st3 (st3 (st3 τ 6 pi pj v) 7 pi 0 (vaO (st3 τ 6 pi pj v) pi)) 5 pi 0 (((st3 (st3 τ 6 pi pj v) 7 pi 0 (vaO (st3 τ 6 pi pj v) pi)) 5 pi 0) + 1)) 6 pi 6 (vaO (st3 τ 6 pi pj v) pi)) 25 0 0) + ((st3 (st3 (st3 (st3 τ 6 pi pj v) 7 pi 0 (vaO (st3 τ 6 pi pj v) pi)) 5 pi 0 (((st3 (st3 τ 6 pi pj v) 7 pi 0 (vaO (st3 τ 6 pi pj v) pi)) 5 pi 0) + 1)) 6 pi 6 (vaO (st3 τ 6 pi pj v) pi)) 3 pi 0)), th) o = cW D ad S (h, chgF pi (vaO (st3 τ 6 pi pj v) pi) (τ 25 0 0) (st3 τ 6 pi pj v), th) o from by unfold chgF; rw [if_pos (Int32.not_le.mp (by simpa [st3] using c_51))]; simp [st3])
      refine lv_aload_n hx hb dX5_sets_87 rfl (lv_at hl 2 rfl) ?_
      refine lv_iload_n hx hb dX5_sets_88 rfl (lv_at hl 3 rfl) ?_
      refine lv_iload hx hb dX5_sets_89 (lv_at hl 0 rfl) ?_
      refine w_callv (va_runV (As := [.int (nI pi), .int (vaO (st3 τ 6 pi pj v) pi)]) (rest := []) ⟨hx, hb, hml, hown, hts⟩ (c_X5_informs l D B ad S h (chgF pi (vaO (st3 τ 6 pi pj v) pi) (τ 25 0 0) (st3 τ 6 pi pj v)) th o pi (vaO (st3 τ 6 pi pj v) pi) h30) (cwV 2 hts gX5_sets_X5_informs rfl rfl rfl (by decide +kernel) ⟨Nat.le_of_ble_eq_true rfl, Nat.le_of_ble_eq_true rfl⟩) (w_preV hC hP hS cW_5 rfl) rfl rfl hl.1 rfl (lv_room (Nat.le_of_ble_eq_true rfl)) dX5_sets_91 ⟨Nat.le_of_ble_eq_true rfl, Nat.le_of_ble_eq_true rfl⟩) hS (fun ad1 w1 H locs hq hP hS => ?_)
      cases hq
      exact W.vret hx hb hr (fun t ht hW => Qv_of (by unfold setF; rw [if_neg c_32]) hP hS ht) hS.2.2 dX5_sets_94
