set_option maxHeartbeats 4000000 in
set_option maxRecDepth 100000 in
theorem c_X4_reportChange (l : Launch) (D : va_G) (B : Nat) (ad : Ad) (g : GC) (σ : Me) (T : Wd) (o : Int64) (k : Nat) (hk : k < g.1) (hg : g.1 ≤ 16) (h30 : g.2.1 ≤ 30) (hIs : Is g σ) (hv : rg (σ 7 k 0)) : Met l yX4_reportChange wsX4_reportChange ({ frames := 2, cells := 0, slots := 0, locals := 45 }) (Pre D B ad (cW D ad (g, σ) T o) [.ref (ad 4 0), .ref (ad 1 k)]) (Qv D B (fun u => u = (ad, cW D ad (g, infF k (σ 7 k 0) g.2.1 0 σ) T o))) 0 0 (ab B) := by
  refine Met.ofW (cc := cX4_reportChange) (maxL := 6) (ret := none) (by decide) rfl ?_
  intro p e s m args below meth c s₁ Bd hml hv
  obtain ⟨rfl, hC, hP⟩ := hv
  have hx := Bd.exec
  have hb := Bd.bytes
  have hr := Bd.returns
  have hts := atoms_spec (ws := wsX4_reportChange) Bd.pre
  have hown : s.vm.findClass RX4 = some m.cls := findClass_of_methodNamed Bd.named
  have hlocks := Bd.notSynchronized
  have hS : va_S (ab B) s.heap s.heap [] := va_S.rf
  have hl := lv_entry ([.ref (ad 4 0), .ref (ad 1 k)]) (n := 6) (Nat.le_of_ble_eq_true rfl)
  rw [lg_entry_eq]
  generalize (lg_sl ([.ref (ad 4 0), .ref (ad 1 k)]) ++ List.replicate (6 - (lg_sl ([.ref (ad 4 0), .ref (ad 1 k)])).length) Slot.unset).toArray = ls at hl ⊢
  have hl : lv_has ls 6 [(0, .ref (ad 4 0)), (1, .ref (ad 1 k))] := hl
  refine lv_aload_n hx hb dX4_reportChange_0 rfl (lv_at hl 0 rfl) ?_
  refine w_get hx hb hts (by decide +kernel) hown hC hP cW_4 rfl 1 (by decide) (hts (.fieldLink RX4 17 "BuildingPoints" "subscriptions" "[LBuildingPoints$Subscription;") (by decide +kernel)) rfl dX4_reportChange_1 ?_
  refine lv_astore_n (lv' := [(2, .ref (ad 7 1)), (0, .ref (ad 4 0)), (1, .ref (ad 1 k))]) hx hb dX4_reportChange_4 rfl hl (by decide) rfl (fun ls hl => ?_)
  refine lv_aload_n hx hb dX4_reportChange_5 rfl (lv_at hl 0 rfl) ?_
  refine w_alen hx hb hC hP 4 rfl cW_71 (v := 30) rfl dX4_reportChange_6 ?_
  refine lv_istore_n (lv' := [(3, .int 30), (2, .ref (ad 7 1)), (0, .ref (ad 4 0)), (1, .ref (ad 1 k))]) hx hb dX4_reportChange_7 rfl hl (by decide) rfl (fun ls hl => ?_)
  refine lv_iconst (v := 0) hx hb dX4_reportChange_8 (by decide) ?_
  refine lv_istore (lv' := [(4, .int 0), (3, .int 30), (2, .ref (ad 7 1)), (0, .ref (ad 4 0)), (1, .ref (ad 1 k))]) hx hb dX4_reportChange_9 hl (by decide) rfl (fun ls hl => ?_)
  refine w_ind (fun n9 H locs ls => ∃ (i : Nat) (σ1 : Me), i + n9 = g.2.1 ∧ infF k (σ 7 k 0) g.2.1 0 σ = infF k (σ 7 k 0) n9 i σ1 ∧ Is g σ1 ∧ σ1 7 k 0 = σ 7 k 0 ∧ hw D B ad (cW D ad (g, σ1) T o) H ∧ va_S (ab B) s.heap H locs ∧ lv_has ls 6 [(4, .int (nI i)), (0, .ref (ad 4 0)), (1, .ref (ad 1 k)), (2, .ref (ad 7 1)), (3, .int 30)]) ?_ g.2.1 _ _ _ ⟨0, σ, by omega, rfl, hIs, rfl, hP, hS, lv_sub hl [0, 3, 4, 2, 1] rfl⟩
  intro n9 H locs ls hI ih
  obtain ⟨i, σ1, hi, hst, hIs1, h71, hP, hS, hl⟩ := hI
  refine lv_iload hx hb dX4_reportChange_11 (lv_at hl 0 rfl) ?_
  refine lv_iload_n hx hb dX4_reportChange_13 rfl (lv_at hl 4 rfl) ?_
  refine lv_icmp_ge (tgt := 85) hx hb dX4_reportChange_14 (by decide) (fun c_14 => ?_) (fun c_14 => ?_)
  · have hin : 30 ≤ i := Nat.not_lt.mp (fun z => absurd c_14 (nI_ge z (by decide)))
    exact W.vret hx hb hr (fun t ht hW => Qv_of (by rw [hst, show n9 = 0 by omega]; rfl) hP hS ht) hS.2.2 dX4_reportChange_85
  · have hlt : i < 30 := Nat.not_le.mp (fun z => c_14 (nI_le z (by omega)))
    refine lv_aload_n hx hb dX4_reportChange_17 rfl (lv_at hl 3 rfl) ?_
    refine lv_iload hx hb dX4_reportChange_18 (lv_at hl 0 rfl) ?_
    rcases Nat.lt_or_ge i g.2.1 with hin | hin
    · refine w_aldN hx hb hC hP 4 rfl cW_71 (by omega) (by decide) dX4_reportChange_20 (r := .ref (ad 3 i)) (by simp only [fP, if_pos hin]; rfl) ?_
      refine lv_astore (lv' := [(5, .ref (ad 3 i)), (4, .int (nI i)), (0, .ref (ad 4 0)), (1, .ref (ad 1 k)), (2, .ref (ad 7 1)), (3, .int 30)]) hx hb dX4_reportChange_21 hl (by decide) rfl (fun ls hl => ?_)
      refine lv_aload hx hb dX4_reportChange_23 (lv_at hl 0 rfl) ?_
      refine lv_ifnonnull (tgt := 31) hx hb dX4_reportChange_25 (by decide) ?_
      refine lv_aload hx hb dX4_reportChange_31 (lv_at hl 0 rfl) ?_
      refine w_get hx hb hts (by decide +kernel) hown hC hP (cW_3 hin) rfl 5 (by decide) (hts (.fieldLink RX4 95 "BuildingPoints$Subscription" "isOpen" "Z") (by decide +kernel)) rfl dX4_reportChange_33 ?_
      refine lv_if_eq (tgt := 79) hx hb dX4_reportChange_36 (by decide) (fun c_36 => ?_) (fun c_36 => ?_)
      · have h111 : ¬ σ1 11 i 0 = 0 := fun z => absurd (by rw [z] at c_36; exact c_36) (by decide)
        refine lv_iinc (v := nI (i + 1)) (lv' := [(4, .int (nI (i + 1))), (5, .ref (ad 3 i)), (0, .ref (ad 4 0)), (1, .ref (ad 1 k)), (2, .ref (ad 7 1)), (3, .int 30)]) hx hb dX4_reportChange_79 hl (k := 1) rfl (nI_add i 1) (by decide) rfl (fun ls hl => ?_)
        refine lv_goto (tgt := 11) hx hb dX4_reportChange_82 (by decide) ?_
        obtain ⟨n8, rfl⟩ : ∃ n8, n9 = n8 + 1 := ⟨n9 - 1, by omega⟩
        have hE : infS k (σ 7 k 0) i σ1 = σ1 := by
          unfold infS
          rw [if_neg (fun z => h111 z.2.1)]
        exact ih n8 _ _ _ (by omega) ⟨i + 1, σ1, by omega, by rw [hst]; show infF k (σ 7 k 0) n8 (i + 1) (infS k (σ 7 k 0) i σ1) = _; rw [hE], hE ▸ Is_infS hIs1 hv, by rw [← hE, infS_n (by decide) (by decide) (by decide)]; exact h71, hP, hS, lv_sub hl [0, 2, 3, 4, 5] rfl⟩
      · obtain ⟨h11, ⟨i8, hi8, e8⟩, hrg⟩ := hIs1 i hin
        have e8n : (σ1 8 i 0).toNatClampNeg = i8 := by rw [e8]; exact nI_clamp (by omega)
        have h110 : σ1 11 i 0 = 0 := by rcases h11 with z | z; exact z; exact absurd (by rw [z]; decide) c_36
        refine lv_aload hx hb dX4_reportChange_39 (lv_at hl 0 rfl) ?_
        refine w_get hx hb hts (by decide +kernel) hown hC hP (cW_3 hin) rfl 0 (by decide) (hts (.fieldLink RX4 192 "BuildingPoints$Subscription" "point" "LBuildingPoints$Point;") (by decide +kernel)) rfl dX4_reportChange_41 ?_
        refine lv_aload_n hx hb dX4_reportChange_44 rfl (lv_at hl 3 rfl) ?_
        have hin8 := hw_inj hP (cW_1 (k := (σ1 8 i 0).toNatClampNeg) (by rw [e8n]; exact hi8)) (cW_1 hk)
        refine lv_acmp_ne (rx := some (ad 1 (σ1 8 i 0).toNatClampNeg)) (ry := some (ad 1 k)) (tgt := 79) hx hb dX4_reportChange_45 (by decide) (fun c_45 => ?_) (fun c_45 => ?_)
        · have h8 : ¬ σ1 8 i 0 = nI k := fun z => c_45 (hin8.mpr (by rw [z]; exact nI_clamp (by omega)))
          refine lv_iinc (v := nI (i + 1)) (lv' := [(4, .int (nI (i + 1))), (5, .ref (ad 3 i)), (0, .ref (ad 4 0)), (1, .ref (ad 1 k)), (2, .ref (ad 7 1)), (3, .int 30)]) hx hb dX4_reportChange_79 hl (k := 1) rfl (nI_add i 1) (by decide) rfl (fun ls hl => ?_)
          refine lv_goto (tgt := 11) hx hb dX4_reportChange_82 (by decide) ?_
          obtain ⟨n8, rfl⟩ : ∃ n8, n9 = n8 + 1 := ⟨n9 - 1, by omega⟩
          have hE : infS k (σ 7 k 0) i σ1 = σ1 := by
            unfold infS
            rw [if_neg (fun z => h8 z.1)]
          exact ih n8 _ _ _ (by omega) ⟨i + 1, σ1, by omega, by rw [hst]; show infF k (σ 7 k 0) n8 (i + 1) (infS k (σ 7 k 0) i σ1) = _; rw [hE], hE ▸ Is_infS hIs1 hv, by rw [← hE, infS_n (by decide) (by decide) (by decide)]; exact h71, hP, hS, lv_sub hl [0, 2, 3, 4, 5] rfl⟩
        · have h8 : σ1 8 i 0 = nI k := by rw [e8, ← e8n, hin8.mp c_45]
          refine lv_aload hx hb dX4_reportChange_48 (lv_at hl 0 rfl) ?_
          refine lv_aload_n hx hb dX4_reportChange_50 rfl (lv_at hl 3 rfl) ?_
          refine w_get hx hb hts (by decide +kernel) hown hC hP (cW_1 hk) rfl 5 (by decide) (hts (.fieldLink RX4 65 "BuildingPoints$Point" "present" "I") (by decide +kernel)) rfl dX4_reportChange_51 ?_
          refine w_calli (va_runV (As := [.int (σ1 7 k 0)]) (rest := []) ⟨hx, hb, hml, hown, hts⟩ (c_X3_isFarFrom l D B ad g σ1 T o i hin (σ1 7 k 0)) (cwV 1 hts gX4_reportChange_X3_isFarFrom rfl rfl rfl (by decide +kernel) ⟨Nat.le_of_ble_eq_true rfl, Nat.le_of_ble_eq_true rfl⟩) (w_preV hC hP hS (cW_3 hin) rfl) rfl rfl hl.1 rfl (lv_room (Nat.le_of_ble_eq_true rfl)) dX4_reportChange_54 ⟨Nat.le_of_ble_eq_true rfl, Nat.le_of_ble_eq_true rfl⟩) hS (fun r_1 ad1 w1 H locs hq hP hS => ?_)
          obtain ⟨h91, h92⟩ := hq
          cases h91
          subst h92
          refine lv_if_eq (tgt := 79) hx hb dX4_reportChange_57 (by decide) (fun c_57 => ?_) (fun c_57 => ?_)
          · rw [h71, far_eq hv hrg, bI_0] at c_57
            refine lv_iinc (v := nI (i + 1)) (lv' := [(4, .int (nI (i + 1))), (5, .ref (ad 3 i)), (0, .ref (ad 4 0)), (1, .ref (ad 1 k)), (2, .ref (ad 7 1)), (3, .int 30)]) hx hb dX4_reportChange_79 hl (k := 1) rfl (nI_add i 1) (by decide) rfl (fun ls hl => ?_)
            refine lv_goto (tgt := 11) hx hb dX4_reportChange_82 (by decide) ?_
            obtain ⟨n8, rfl⟩ : ∃ n8, n9 = n8 + 1 := ⟨n9 - 1, by omega⟩
            have hE : infS k (σ 7 k 0) i σ1 = σ1 := by
              unfold infS
              rw [if_neg (fun z => c_57 z.2.2)]
            exact ih n8 _ _ _ (by omega) ⟨i + 1, σ1, by omega, by rw [hst]; show infF k (σ 7 k 0) n8 (i + 1) (infS k (σ 7 k 0) i σ1) = _; rw [hE], hE ▸ Is_infS hIs1 hv, by rw [← hE, infS_n (by decide) (by decide) (by decide)]; exact h71, hP, hS, lv_sub hl [0, 2, 3, 4, 5] rfl⟩
          · rw [h71, far_eq hv hrg, bI_0] at c_57
            refine lv_aload hx hb dX4_reportChange_60 (lv_at hl 0 rfl) ?_
            refine lv_aload_n hx hb dX4_reportChange_62 rfl (lv_at hl 3 rfl) ?_
            refine w_get hx hb hts (by decide +kernel) hown hC hP (cW_1 hk) rfl 5 (by decide) (hts (.fieldLink RX4 65 "BuildingPoints$Point" "present" "I") (by decide +kernel)) rfl dX4_reportChange_63 ?_
            refine w_callv (va_runV (As := [.int (σ1 7 k 0)]) (rest := []) ⟨hx, hb, hml, hown, hts⟩ (c_X3_report l D B ad g σ1 T o i hin (σ1 7 k 0)) (cwV 1 hts gX4_reportChange_X3_report rfl rfl rfl (by decide +kernel) ⟨Nat.le_of_ble_eq_true rfl, Nat.le_of_ble_eq_true rfl⟩) (w_preV hC hP hS (cW_3 hin) rfl) rfl rfl hl.1 rfl (lv_room (Nat.le_of_ble_eq_true rfl)) dX4_reportChange_66 ⟨Nat.le_of_ble_eq_true rfl, Nat.le_of_ble_eq_true rfl⟩) hS (fun ad1 w1 H locs hq hP hS => ?_)
            cases hq
            refine lv_aload_n hx hb dX4_reportChange_69 rfl (lv_at hl 2 rfl) ?_
            refine lv_dup hx hb dX4_reportChange_70 rfl ?_
            refine w_get hx hb hts (by decide +kernel) hown hC hP cW_4 rfl 7 (by decide) (hts (.fieldLink RX4 146 "BuildingPoints" "allReports" "I") (by decide +kernel)) rfl dX4_reportChange_71 ?_
            refine lv_iconst (v := 1) hx hb dX4_reportChange_74 (by decide) ?_
            refine lv_iadd hx hb dX4_reportChange_75 ?_
            refine w_put hx hb hts (by decide +kernel) tyX4 tyX4_ok nmX4 hown hC hP hS cW_4 rfl 7 (by decide) (hts (.fieldLink RX4 146 "BuildingPoints" "allReports" "I") (by decide +kernel)) rfl rfl rfl (Nat.le_of_ble_eq_true rfl) rfl dX4_reportChange_76 (fun H locs hP hS => ?_)
            have hP := hw_eq hP (pB7 _)
            refine lv_iinc (v := nI (i + 1)) (lv' := [(4, .int (nI (i + 1))), (5, .ref (ad 3 i)), (0, .ref (ad 4 0)), (1, .ref (ad 1 k)), (2, .ref (ad 7 1)), (3, .int 30)]) hx hb dX4_reportChange_79 hl (k := 1) rfl (nI_add i 1) (by decide) rfl (fun ls hl => ?_)
            refine lv_goto (tgt := 11) hx hb dX4_reportChange_82 (by decide) ?_
            obtain ⟨n8, rfl⟩ : ∃ n8, n9 = n8 + 1 := ⟨n9 - 1, by omega⟩
            have hE : infS k (σ 7 k 0) i σ1 = st3 (st3 (st3 σ1 13 i 0 (σ1 7 k 0)) 12 i 0 (σ1 12 i 0 + 1)) 26 0 0 (((st3 (st3 σ1 13 i 0 (σ1 7 k 0)) 12 i 0 (σ1 12 i 0 + 1)) 26 0 0) + 1) := by
              unfold infS
              rw [if_pos ⟨h8, h110, Classical.not_not.mp c_57⟩, ← h71]; simp [st3]
            exact ih n8 _ _ _ (by omega) ⟨i + 1, (st3 (st3 (st3 σ1 13 i 0 (σ1 7 k 0)) 12 i 0 (σ1 12 i 0 + 1)) 26 0 0 (((st3 (st3 σ1 13 i 0 (σ1 7 k 0)) 12 i 0 (σ1 12 i 0 + 1)) 26 0 0) + 1)), by omega, by rw [hst]; show infF k (σ 7 k 0) n8 (i + 1) (infS k (σ 7 k 0) i σ1) = _; rw [hE], hE ▸ Is_infS hIs1 hv, by rw [← hE, infS_n (by decide) (by decide) (by decide)]; exact h71, hP, hS, lv_sub hl [0, 2, 3, 4, 5] rfl⟩
    · refine w_aldN hx hb hC hP 4 rfl cW_71 (by omega) (by decide) dX4_reportChange_20 (r := .null) (by simp only [fP, if_neg (Nat.not_lt.mpr hin)]; rfl) ?_
      refine lv_astoreN (lv' := [(5, .null), (4, .int (nI i)), (0, .ref (ad 4 0)), (1, .ref (ad 1 k)), (2, .ref (ad 7 1)), (3, .int 30)]) hx hb dX4_reportChange_21 hl (by decide) rfl (fun ls hl => ?_)
      refine lv_aloadN hx hb dX4_reportChange_23 (lv_at hl 0 rfl) ?_
      refine lv_ifnonnullN hx hb dX4_reportChange_25 ?_
      refine lv_goto (tgt := 85) hx hb dX4_reportChange_28 (by decide) ?_
      exact W.vret hx hb hr (fun t ht hW => Qv_of (by rw [hst, show n9 = 0 by omega]; rfl) hP hS ht) hS.2.2 dX4_reportChange_85
set_option maxHeartbeats 4000000 in
set_option maxRecDepth 100000 in
theorem c_X4_put (l : Launch) (D : va_G) (B : Nat) (ad : Ad) (g : GC) (σ : Me) (T : Wd) (o : Int64) (k j : Nat) (hk : k < g.1) (hj1 : 1 ≤ j) (hj : j ≤ 16) (v : Int32) (hI : Ib g σ) (hv : okV σ k v) : Met l yX4_put wsX4_put ({ frames := 3, cells := 0, slots := 0, locals := 70 }) (Pre D B ad (cW D ad (g, σ) T o) [.ref (ad 4 0), .ref (ad 1 k), .int (nI j), .int v]) (Qv D B (fun u => u = (ad, cW D ad (g, setF g.2.1 k j v σ) T o))) 0 0 (ab B) := by
  refine Met.ofW (cc := cX4_put) (maxL := 5) (ret := none) (by decide) rfl ?_
  intro p e s m args below meth c s₁ Bd hml hv
  obtain ⟨rfl, hC, hP⟩ := hv
  have hx := Bd.exec
  have hb := Bd.bytes
  have hr := Bd.returns
  have hts := atoms_spec (ws := wsX4_put) Bd.pre
  have hown : s.vm.findClass RX4 = some m.cls := findClass_of_methodNamed Bd.named
  have hlocks := Bd.notSynchronized
  have hS : va_S (ab B) s.heap s.heap [] := va_S.rf
  have hl := lv_entry ([.ref (ad 4 0), .ref (ad 1 k), .int (nI j), .int v]) (n := 5) (Nat.le_of_ble_eq_true rfl)
  rw [lg_entry_eq]
  generalize (lg_sl ([.ref (ad 4 0), .ref (ad 1 k), .int (nI j), .int v]) ++ List.replicate (5 - (lg_sl ([.ref (ad 4 0), .ref (ad 1 k), .int (nI j), .int v])).length) Slot.unset).toArray = ls at hl ⊢
  have hl : lv_has ls 5 [(0, .ref (ad 4 0)), (1, .ref (ad 1 k)), (2, .int (nI j)), (3, .int v)] := hl
  refine lv_aload_n hx hb dX4_put_0 rfl (lv_at hl 1 rfl) ?_
  refine w_get hx hb hts (by decide +kernel) hown hC hP (cW_1 hk) rfl 4 (by decide) (hts (.fieldLink RX4 68 "BuildingPoints$Point" "commands" "[I") (by decide +kernel)) rfl dX4_put_1 ?_
  refine lv_iload_n hx hb dX4_put_4 rfl (lv_at hl 2 rfl) ?_
  refine lv_iload_n hx hb dX4_put_5 rfl (lv_at hl 3 rfl) ?_
  refine w_istN hx hb hC hP hS (cW_8 hk) (by omega) (by decide) dX4_put_6 (fun H locs hP hS => ?_)
  have hP := hw_eq hP (pK8 hk j _)
  refine lv_aload_n hx hb dX4_put_7 rfl (lv_at hl 1 rfl) ?_
  refine w_calli (va_runV (As := []) (rest := []) ⟨hx, hb, hml, hown, hts⟩ (c_X1_dueValue l D B ad g (st3 σ 6 k j v) T o k hk) (cwV 0 hts gX4_put_X1_dueValue rfl rfl rfl (by decide +kernel) ⟨Nat.le_of_ble_eq_true rfl, Nat.le_of_ble_eq_true rfl⟩) (w_preV hC hP hS (cW_1 hk) rfl) rfl rfl hl.1 rfl (lv_room (Nat.le_of_ble_eq_true rfl)) dX4_put_8 ⟨Nat.le_of_ble_eq_true rfl, Nat.le_of_ble_eq_true rfl⟩) hS (fun r_1 ad1 w1 H locs hq hP hS => ?_)
  obtain ⟨h91, h92⟩ := hq
  cases h91
  subst h92
  refine lv_istore (lv' := [(4, .int (vaO (st3 σ 6 k j v) k)), (0, .ref (ad 4 0)), (1, .ref (ad 1 k)), (2, .int (nI j)), (3, .int v)]) hx hb dX4_put_11 hl (by decide) rfl (fun ls hl => ?_)
  refine lv_iload hx hb dX4_put_13 (lv_at hl 0 rfl) ?_
  refine lv_aload_n hx hb dX4_put_15 rfl (lv_at hl 2 rfl) ?_
  refine w_get hx hb hts (by decide +kernel) hown hC hP (cW_1 hk) rfl 5 (by decide) (hts (.fieldLink RX4 65 "BuildingPoints$Point" "present" "I") (by decide +kernel)) rfl dX4_put_16 ?_
  refine lv_icmp_eq (tgt := 37) hx hb dX4_put_19 (by decide) (fun c_19 => ?_) (fun c_19 => ?_)
  · rw [st3_n (σ := σ) (a := 6) (a1 := 7) (by decide), (hI.2.2.2.1 k hk).2.2.2.2] at c_19
    exact W.vret hx hb hr (fun t ht hW => Qv_of (by unfold setF; rw [if_pos c_19]) hP hS ht) hS.2.2 dX4_put_37
  · rw [st3_n (σ := σ) (a := 6) (a1 := 7) (by decide), (hI.2.2.2.1 k hk).2.2.2.2] at c_19
    refine lv_aload_n hx hb dX4_put_22 rfl (lv_at hl 2 rfl) ?_
    refine lv_iload hx hb dX4_put_23 (lv_at hl 0 rfl) ?_
    refine lv_aload_n hx hb dX4_put_25 rfl (lv_at hl 1 rfl) ?_
    refine w_get hx hb hts (by decide +kernel) hown hC hP cW_4 rfl 6 (by decide) (hts (.fieldLink RX4 79 "BuildingPoints" "now" "I") (by decide +kernel)) rfl dX4_put_26 ?_
    refine w_callv (va_runV (As := [.int (vaO (st3 σ 6 k j v) k), .int ((st3 σ 6 k j v) 25 0 0)]) (rest := []) ⟨hx, hb, hml, hown, hts⟩ (c_X1_change l D B ad g (st3 σ 6 k j v) T o k hk (vaO (st3 σ 6 k j v) k) ((st3 σ 6 k j v) 25 0 0)) (cwV 2 hts gX4_put_X1_change rfl rfl rfl (by decide +kernel) ⟨Nat.le_of_ble_eq_true rfl, Nat.le_of_ble_eq_true rfl⟩) (w_preV hC hP hS (cW_1 hk) rfl) rfl rfl hl.1 rfl (lv_room (Nat.le_of_ble_eq_true rfl)) dX4_put_29 ⟨Nat.le_of_ble_eq_true rfl, Nat.le_of_ble_eq_true rfl⟩) hS (fun ad1 w1 H locs hq hP hS => ?_)
    cases hq
    refine lv_aload_n hx hb dX4_put_32 rfl (lv_at hl 1 rfl) ?_
    refine lv_aload_n hx hb dX4_put_33 rfl (lv_at hl 2 rfl) ?_
    have hin := vaS_in hI.2.2.2.1 hk hv (j := j)
    have hv7 : rg ((chgF k (vaO (st3 σ 6 k j v) k) ((st3 σ 6 k j v) 25 0 0) (st3 σ 6 k j v)) 7 k 0) := by rw [chgF_7]; exact inP_rg hin
    have hIs : Is g (chgF k (vaO (st3 σ 6 k j v) k) ((st3 σ 6 k j v) 25 0 0) (st3 σ 6 k j v)) := Is_to hI.2.2.2.2.1 (by rw [chgF_n (by decide) (by decide) (by decide) (by decide), st3_n (by decide)]) (by rw [chgF_n (by decide) (by decide) (by decide) (by decide), st3_n (by decide)]) (by rw [chgF_n (by decide) (by decide) (by decide) (by decide), st3_n (by decide)])
    refine w_callv (va_runV (As := [.ref (ad 1 k)]) (rest := []) ⟨hx, hb, hml, hown, hts⟩ (c_X4_reportChange l D B ad g (chgF k (vaO (st3 σ 6 k j v) k) ((st3 σ 6 k j v) 25 0 0) (st3 σ 6 k j v)) T o k hk hI.1 hI.2.1 hIs hv7) (cwV 1 hts gX4_put_X4_reportChange rfl rfl rfl (by decide +kernel) ⟨Nat.le_of_ble_eq_true rfl, Nat.le_of_ble_eq_true rfl⟩) (w_preV hC hP hS cW_4 rfl) rfl rfl hl.1 rfl (lv_room (Nat.le_of_ble_eq_true rfl)) dX4_put_34 ⟨Nat.le_of_ble_eq_true rfl, Nat.le_of_ble_eq_true rfl⟩) hS (fun ad1 w1 H locs hq hP hS => ?_)
    cases hq
    exact W.vret hx hb hr (fun t ht hW => Qv_of (by unfold setF; rw [if_neg c_19, chgF_7]; rfl) hP hS ht) hS.2.2 dX4_put_37
set_option maxHeartbeats 4000000 in
set_option maxRecDepth 100000 in
theorem c_X4_follow (l : Launch) (D : va_G) (B : Nat) (ad : Ad) (g : GC) (σ : Me) (T : Wd) (o : Int64) (w1 : Nat) (hc : w1 < g.2.2) (hI : Ib g σ) (t : Nat) (ht : σ 25 0 0 = nI t) (ht2 : t ≤ 1000000) : Met l yX4_follow wsX4_follow ({ frames := 4, cells := 0, slots := 0, locals := 94 }) (Pre D B ad (cW D ad (g, σ) T o) [.ref (ad 4 0), .ref (ad 2 w1)]) (Qv D B (fun u => u = (ad, cW D ad (g, obeF g.2.1 w1 σ) T o))) 0 0 (ab B) := by
  refine Met.ofW (cc := cX4_follow) (maxL := 3) (ret := none) (by decide) rfl ?_
  intro p e s m args below meth c s₁ Bd hml hv
  obtain ⟨rfl, hC, hP⟩ := hv
  have hx := Bd.exec
  have hb := Bd.bytes
  have hr := Bd.returns
  have hts := atoms_spec (ws := wsX4_follow) Bd.pre
  have hown : s.vm.findClass RX4 = some m.cls := findClass_of_methodNamed Bd.named
  have hlocks := Bd.notSynchronized
  have hS : va_S (ab B) s.heap s.heap [] := va_S.rf
  have hl := lv_entry ([.ref (ad 4 0), .ref (ad 2 w1)]) (n := 3) (Nat.le_of_ble_eq_true rfl)
  rw [lg_entry_eq]
  generalize (lg_sl ([.ref (ad 4 0), .ref (ad 2 w1)]) ++ List.replicate (3 - (lg_sl ([.ref (ad 4 0), .ref (ad 2 w1)])).length) Slot.unset).toArray = ls at hl ⊢
  have hl : lv_has ls 3 [(0, .ref (ad 4 0)), (1, .ref (ad 2 w1))] := hl
  obtain ⟨i, j, n, n1, n2, h1, h2, h3, h4, h5, h6, h7, h8, h9, h10, h11, h12⟩ := hI.2.2.2.2.2 w1 hc
  have hT : tolC σ w1 n1 n2 (σ 25 0 0) = tolO σ w1 (σ 25 0 0) := by rw [ht]; exact tol_eq h6 (by omega) h12 ht2
  refine lv_aload_n hx hb dX4_follow_0 rfl (lv_at hl 1 rfl) ?_
  refine lv_aload_n hx hb dX4_follow_1 rfl (lv_at hl 0 rfl) ?_
  refine w_get hx hb hts (by decide +kernel) hown hC hP cW_4 rfl 6 (by decide) (hts (.fieldLink RX4 79 "BuildingPoints" "now" "I") (by decide +kernel)) rfl dX4_follow_2 ?_
  refine w_calli (va_runV (As := [.int (σ 25 0 0)]) (rest := []) ⟨hx, hb, hml, hown, hts⟩ (c_X2_toldAt l D B ad g σ T o w1 n1 n2 hc h7 (by omega) h8 (by omega) (σ 25 0 0)) (cwV 1 hts gX4_follow_X2_toldAt rfl rfl rfl (by decide +kernel) ⟨Nat.le_of_ble_eq_true rfl, Nat.le_of_ble_eq_true rfl⟩) (w_preV hC hP hS (cW_2 hc) rfl) rfl rfl hl.1 rfl (lv_room (Nat.le_of_ble_eq_true rfl)) dX4_follow_5 ⟨Nat.le_of_ble_eq_true rfl, Nat.le_of_ble_eq_true rfl⟩) hS (fun r_1 ad1 w1 H locs hq hP hS => ?_)
  obtain ⟨h91, h92⟩ := hq
  cases h91
  have h92 := h92.trans hT
  subst h92
  refine lv_istore_n (lv' := [(2, .int (tolO σ w1 (σ 25 0 0))), (0, .ref (ad 4 0)), (1, .ref (ad 2 w1))]) hx hb dX4_follow_8 rfl hl (by decide) rfl (fun ls hl => ?_)
  refine lv_iload_n hx hb dX4_follow_9 rfl (lv_at hl 0 rfl) ?_
  refine lv_aload_n hx hb dX4_follow_10 rfl (lv_at hl 2 rfl) ?_
  refine w_get hx hb hts (by decide +kernel) hown hC hP (cW_2 hc) rfl 4 (by decide) (hts (.fieldLink RX4 133 "BuildingPoints$Schedule" "toldLast" "I") (by decide +kernel)) rfl dX4_follow_11 ?_
  refine lv_icmp_eq (tgt := 35) hx hb dX4_follow_14 (by decide) (fun c_14 => ?_) (fun c_14 => ?_)
  · exact W.vret hx hb hr (fun t ht hW => Qv_of (by unfold obeF; rw [if_pos c_14]) hP hS ht) hS.2.2 dX4_follow_35
  · have e14 : ((st3 σ 16 w1 0 (tolO σ w1 (σ 25 0 0))) 14 w1 0).toNatClampNeg = i := by rw [st3_n (by decide), h2]; exact nI_clamp (by have := hI.1; omega)
    have hk14 : ((st3 σ 16 w1 0 (tolO σ w1 (σ 25 0 0))) 14 w1 0).toNatClampNeg < g.1 := by rw [e14]; exact h1
    have e14s : nOf (σ 14 w1 0) = i := by rw [h2]; exact nI_clamp (by have := hI.1; omega)
    have e15s : nOf (σ 15 w1 0) = j := by rw [h5]; exact nI_clamp (by omega)
    have hok : okV (st3 σ 16 w1 0 (tolO σ w1 (σ 25 0 0))) ((st3 σ 16 w1 0 (tolO σ w1 (σ 25 0 0))) 14 w1 0).toNatClampNeg (tolO σ w1 (σ 25 0 0)) := by rw [e14, ← e14s]; exact okV_to (tolO_ok hI.1 hI.2.2.2.2.2 hc _) (st3_n (by decide))
    refine lv_aload_n hx hb dX4_follow_17 rfl (lv_at hl 2 rfl) ?_
    refine lv_iload_n hx hb dX4_follow_18 rfl (lv_at hl 0 rfl) ?_
    refine w_put hx hb hts (by decide +kernel) tyX2 tyX2_ok nmX2 hown hC hP hS (cW_2 hc) rfl 4 (by decide) (hts (.fieldLink RX4 133 "BuildingPoints$Schedule" "toldLast" "I") (by decide +kernel)) rfl rfl rfl (Nat.le_of_ble_eq_true rfl) rfl dX4_follow_19 (fun H locs hP hS => ?_)
    have hP := hw_eq hP (pC4 hc _)
    refine lv_aload_n hx hb dX4_follow_22 rfl (lv_at hl 1 rfl) ?_
    refine lv_aload_n hx hb dX4_follow_23 rfl (lv_at hl 2 rfl) ?_
    refine w_get hx hb hts (by decide +kernel) hown hC hP (cW_2 hc) rfl 0 (by decide) (hts (.fieldLink RX4 166 "BuildingPoints$Schedule" "point" "LBuildingPoints$Point;") (by decide +kernel)) rfl dX4_follow_24 ?_
    refine lv_aload_n hx hb dX4_follow_27 rfl (lv_at hl 2 rfl) ?_
    refine w_get hx hb hts (by decide +kernel) hown hC hP (cW_2 hc) rfl 1 (by decide) (hts (.fieldLink RX4 200 "BuildingPoints$Schedule" "priority" "I") (by decide +kernel)) rfl dX4_follow_28 ?_
    refine w_top (v := nI j) (by rw [st3_n (by decide)]; exact h5) ?_
    refine lv_iload_n hx hb dX4_follow_31 rfl (lv_at hl 0 rfl) ?_
    refine w_callv (va_runV (As := [.ref (ad 1 (((st3 σ 16 w1 0 (tolO σ w1 (σ 25 0 0))) 14 w1 0).toNatClampNeg)), .int (nI j), .int (tolO σ w1 (σ 25 0 0))]) (rest := []) ⟨hx, hb, hml, hown, hts⟩ (c_X4_put l D B ad g (st3 σ 16 w1 0 (tolO σ w1 (σ 25 0 0))) T o (((st3 σ 16 w1 0 (tolO σ w1 (σ 25 0 0))) 14 w1 0).toNatClampNeg) j hk14 (by omega) (by omega) (tolO σ w1 (σ 25 0 0)) (Ib_st hI (by decide)) hok) (cwV 3 hts gX4_follow_X4_put rfl rfl rfl (by decide +kernel) ⟨Nat.le_of_ble_eq_true rfl, Nat.le_of_ble_eq_true rfl⟩) (w_preV hC hP hS cW_4 rfl) rfl rfl hl.1 rfl (lv_room (Nat.le_of_ble_eq_true rfl)) dX4_follow_32 ⟨Nat.le_of_ble_eq_true rfl, Nat.le_of_ble_eq_true rfl⟩) hS (fun ad1 w1 H locs hq hP hS => ?_)
    cases hq
    exact W.vret hx hb hr (fun t ht hW => Qv_of (by unfold obeF; rw [if_neg c_14, e14, e14s, e15s]) hP hS ht) hS.2.2 dX4_follow_35
set_option maxHeartbeats 4000000 in
set_option maxRecDepth 100000 in
theorem c_X4_releaseHeldCommands (l : Launch) (D : va_G) (B : Nat) (ad : Ad) (g : GC) (σ : Me) (T : Wd) (o : Int64) (hI : Ib g σ) (t : Nat) (ht : σ 25 0 0 = nI t) (ht0 : 0 < t) (ht2 : t ≤ 1000000) (hu : ∀ k, k < g.1 → Tu t σ k) : Met l yX4_releaseHeldCommands wsX4_releaseHeldCommands ({ frames := 4, cells := 0, slots := 0, locals := 94 }) (Pre D B ad (cW D ad (g, σ) T o) [.ref (ad 4 0)]) (Qv D B (fun u => u = (ad, cW D ad (g, relF g.2.1 g.1 0 σ) T o))) 0 0 (ab B) := by
  refine Met.ofW (cc := cX4_releaseHeldCommands) (maxL := 5) (ret := none) (by decide) rfl ?_
  intro p e s m args below meth c s₁ Bd hml hv
  obtain ⟨rfl, hC, hP⟩ := hv
  have hx := Bd.exec
  have hb := Bd.bytes
  have hr := Bd.returns
  have hts := atoms_spec (ws := wsX4_releaseHeldCommands) Bd.pre
  have hown : s.vm.findClass RX4 = some m.cls := findClass_of_methodNamed Bd.named
  have hlocks := Bd.notSynchronized
  have hS : va_S (ab B) s.heap s.heap [] := va_S.rf
  have hl := lv_entry ([.ref (ad 4 0)]) (n := 5) (Nat.le_of_ble_eq_true rfl)
  rw [lg_entry_eq]
  generalize (lg_sl ([.ref (ad 4 0)]) ++ List.replicate (5 - (lg_sl ([.ref (ad 4 0)])).length) Slot.unset).toArray = ls at hl ⊢
  have hl : lv_has ls 5 [(0, .ref (ad 4 0))] := hl
  have hg1 := hI.1
  refine lv_aload_n hx hb dX4_releaseHeldCommands_0 rfl (lv_at hl 0 rfl) ?_
  refine w_get hx hb hts (by decide +kernel) hown hC hP cW_4 rfl 0 (by decide) (hts (.fieldLink RX4 11 "BuildingPoints" "points" "[LBuildingPoints$Point;") (by decide +kernel)) rfl dX4_releaseHeldCommands_1 ?_
  refine lv_astore_n (lv' := [(1, .ref (ad 7 0)), (0, .ref (ad 4 0))]) hx hb dX4_releaseHeldCommands_4 rfl hl (by decide) rfl (fun ls hl => ?_)
  refine lv_aload_n hx hb dX4_releaseHeldCommands_5 rfl (lv_at hl 0 rfl) ?_
  refine w_alen hx hb hC hP 3 rfl cW_70 (v := 16) rfl dX4_releaseHeldCommands_6 ?_
  refine lv_istore_n (lv' := [(2, .int 16), (1, .ref (ad 7 0)), (0, .ref (ad 4 0))]) hx hb dX4_releaseHeldCommands_7 rfl hl (by decide) rfl (fun ls hl => ?_)
  refine lv_iconst (v := 0) hx hb dX4_releaseHeldCommands_8 (by decide) ?_
  refine lv_istore_n (lv' := [(3, .int 0), (2, .int 16), (1, .ref (ad 7 0)), (0, .ref (ad 4 0))]) hx hb dX4_releaseHeldCommands_9 rfl hl (by decide) rfl (fun ls hl => ?_)
  refine w_ind (fun n9 H locs ls => ∃ (i : Nat) (σ1 : Me), i + n9 = g.1 ∧ relF g.2.1 g.1 0 σ = relF g.2.1 n9 i σ1 ∧ Ib g σ1 ∧ σ1 25 0 0 = nI t ∧ (∀ k, i ≤ k → k < g.1 → Tu t σ1 k) ∧ hw D B ad (cW D ad (g, σ1) T o) H ∧ va_S (ab B) s.heap H locs ∧ lv_has ls 5 [(3, .int (nI i)), (0, .ref (ad 4 0)), (1, .ref (ad 7 0)), (2, .int 16)]) ?_ g.1 _ _ _ ⟨0, σ, by omega, rfl, hI, ht, fun k _ hk => hu k hk, hP, hS, lv_sub hl [0, 3, 2, 1] rfl⟩
  intro n9 H locs ls hJ ih
  obtain ⟨i, σ1, hi, hst, hI1, ht1, hu1, hP, hS, hl⟩ := hJ
  refine lv_iload_n hx hb dX4_releaseHeldCommands_10 rfl (lv_at hl 0 rfl) ?_
  refine lv_iload_n hx hb dX4_releaseHeldCommands_11 rfl (lv_at hl 3 rfl) ?_
  refine lv_icmp_ge (tgt := 70) hx hb dX4_releaseHeldCommands_12 (by decide) (fun c_12 => ?_) (fun c_12 => ?_)
  · have hin : 16 ≤ i := Nat.not_lt.mp (fun z => absurd c_12 (nI_ge z (by decide)))
    exact W.vret hx hb hr (fun t ht hW => Qv_of (by rw [hst, show n9 = 0 by omega]; rfl) hP hS ht) hS.2.2 dX4_releaseHeldCommands_70
  · have hlt : i < 16 := Nat.not_le.mp (fun z => c_12 (nI_le z (by omega)))
    refine lv_aload_n hx hb dX4_releaseHeldCommands_15 rfl (lv_at hl 2 rfl) ?_
    refine lv_iload_n hx hb dX4_releaseHeldCommands_16 rfl (lv_at hl 0 rfl) ?_
    rcases Nat.lt_or_ge i g.1 with hin | hin
    · refine w_aldN hx hb hC hP 3 rfl cW_70 (by omega) (by decide) dX4_releaseHeldCommands_17 (r := .ref (ad 1 i)) (by simp only [fP, if_pos hin]; rfl) ?_
      refine lv_astore (lv' := [(4, .ref (ad 1 i)), (3, .int (nI i)), (0, .ref (ad 4 0)), (1, .ref (ad 7 0)), (2, .int 16)]) hx hb dX4_releaseHeldCommands_18 hl (by decide) rfl (fun ls hl => ?_)
      refine lv_aload hx hb dX4_releaseHeldCommands_20 (lv_at hl 0 rfl) ?_
      refine lv_ifnonnull (tgt := 28) hx hb dX4_releaseHeldCommands_22 (by decide) ?_
      refine lv_aload hx hb dX4_releaseHeldCommands_28 (lv_at hl 0 rfl) ?_
      refine w_calli (va_runV (As := []) (rest := []) ⟨hx, hb, hml, hown, hts⟩ (c_X1_isHeld l D B ad g σ1 T o i hin) (cwV 0 hts gX4_releaseHeldCommands_X1_isHeld rfl rfl rfl (by decide +kernel) ⟨Nat.le_of_ble_eq_true rfl, Nat.le_of_ble_eq_true rfl⟩) (w_preV hC hP hS (cW_1 hin) rfl) rfl rfl hl.1 rfl (lv_room (Nat.le_of_ble_eq_true rfl)) dX4_releaseHeldCommands_30 ⟨Nat.le_of_ble_eq_true rfl, Nat.le_of_ble_eq_true rfl⟩) hS (fun r_1 ad1 w1 H locs hq hP hS => ?_)
      obtain ⟨h91, h92⟩ := hq
      cases h91
      subst h92
      refine lv_if_eq (tgt := 64) hx hb dX4_releaseHeldCommands_33 (by decide) (fun c_33 => ?_) (fun c_33 => ?_)
      · obtain ⟨u, hu4, hu5, hu6⟩ := hu1 i (Nat.le_refl i) hin
        have h40 : σ1 4 i 0 = 0 := Classical.not_not.mp (bI_0.mp c_33)
        refine lv_iinc (v := nI (i + 1)) (lv' := [(3, .int (nI (i + 1))), (4, .ref (ad 1 i)), (0, .ref (ad 4 0)), (1, .ref (ad 7 0)), (2, .int 16)]) hx hb dX4_releaseHeldCommands_64 hl (k := 1) rfl (nI_add i 1) (by decide) rfl (fun ls hl => ?_)
        refine lv_goto (tgt := 10) hx hb dX4_releaseHeldCommands_67 (by decide) ?_
        obtain ⟨n8, rfl⟩ : ∃ n8, n9 = n8 + 1 := ⟨n9 - 1, by omega⟩
        have hE : relS g.2.1 i σ1 = σ1 := by
          unfold relS
          rw [if_neg (fun z => by rw [h40, ht1] at z; exact nI_ne0 ht0 (by omega) z.symm)]
        exact ih n8 _ _ _ (by omega) ⟨i + 1, σ1, by omega, by rw [hst]; show relF g.2.1 n8 (i + 1) (relS g.2.1 i σ1) = _; rw [hE], hE ▸ Ib_relS hI1 hin, by rw [← hE, relS_n (by decide) (by decide) (by decide) (by decide) (by decide) (by decide) (by decide)]; exact ht1, fun k h1 h2 => by rw [← hE]; unfold Tu; rw [relS_i (by omega)]; exact hu1 k (by omega) h2, hP, hS, lv_sub hl [0, 2, 3, 4] rfl⟩
      · obtain ⟨u, hu4, hu5, hu6⟩ := hu1 i (Nat.le_refl i) hin
        have h40 : ¬ σ1 4 i 0 = 0 := fun z => c_33 (bI_0.mpr (fun y => y z))
        refine lv_aload hx hb dX4_releaseHeldCommands_36 (lv_at hl 0 rfl) ?_
        refine w_get hx hb hts (by decide +kernel) hown hC hP (cW_1 hin) rfl 6 (by decide) (hts (.fieldLink RX4 76 "BuildingPoints$Point" "heldUntil" "I") (by decide +kernel)) rfl dX4_releaseHeldCommands_38 ?_
        refine lv_aload_n hx hb dX4_releaseHeldCommands_41 rfl (lv_at hl 2 rfl) ?_
        refine w_get hx hb hts (by decide +kernel) hown hC hP cW_4 rfl 6 (by decide) (hts (.fieldLink RX4 79 "BuildingPoints" "now" "I") (by decide +kernel)) rfl dX4_releaseHeldCommands_42 ?_
        refine lv_icmp_gt (tgt := 64) hx hb dX4_releaseHeldCommands_45 (by decide) (fun c_45 => ?_) (fun c_45 => ?_)
        · refine lv_iinc (v := nI (i + 1)) (lv' := [(3, .int (nI (i + 1))), (4, .ref (ad 1 i)), (0, .ref (ad 4 0)), (1, .ref (ad 7 0)), (2, .int 16)]) hx hb dX4_releaseHeldCommands_64 hl (k := 1) rfl (nI_add i 1) (by decide) rfl (fun ls hl => ?_)
          refine lv_goto (tgt := 10) hx hb dX4_releaseHeldCommands_67 (by decide) ?_
          obtain ⟨n8, rfl⟩ : ∃ n8, n9 = n8 + 1 := ⟨n9 - 1, by omega⟩
          have hE : relS g.2.1 i σ1 = σ1 := by
            unfold relS
            rw [if_neg (fun z => by rw [z] at c_45; exact Int32.lt_irrefl c_45)]
          exact ih n8 _ _ _ (by omega) ⟨i + 1, σ1, by omega, by rw [hst]; show relF g.2.1 n8 (i + 1) (relS g.2.1 i σ1) = _; rw [hE], hE ▸ Ib_relS hI1 hin, by rw [← hE, relS_n (by decide) (by decide) (by decide) (by decide) (by decide) (by decide) (by decide)]; exact ht1, fun k h1 h2 => by rw [← hE]; unfold Tu; rw [relS_i (by omega)]; exact hu1 k (by omega) h2, hP, hS, lv_sub hl [0, 2, 3, 4] rfl⟩
        · have hut : u = t := by
            have h1 : ¬ u = 0 := fun z => h40 (by rw [hu4, z]; rfl)
            have h2 : u ≤ t := Nat.not_lt.mp (fun z => c_45 (by rw [hu4, ht1]; exact nI_lt z (by omega)))
            omega
          refine lv_aload hx hb dX4_releaseHeldCommands_48 (lv_at hl 0 rfl) ?_
          refine lv_iconst (v := 0) hx hb dX4_releaseHeldCommands_50 (by decide) ?_
          refine w_put hx hb hts (by decide +kernel) tyX1 tyX1_ok nmX1 hown hC hP hS (cW_1 hin) rfl 6 (by decide) (hts (.fieldLink RX4 76 "BuildingPoints$Point" "heldUntil" "I") (by decide +kernel)) rfl rfl rfl (Nat.le_of_ble_eq_true rfl) rfl dX4_releaseHeldCommands_51 (fun H locs hP hS => ?_)
          have hP := hw_eq hP (pP6 hin _)
          refine lv_aload_n hx hb dX4_releaseHeldCommands_54 rfl (lv_at hl 2 rfl) ?_
          refine lv_aload hx hb dX4_releaseHeldCommands_55 (lv_at hl 0 rfl) ?_
          refine lv_bipush (v := (6)) hx hb dX4_releaseHeldCommands_57 (by decide) ?_
          refine w_top (v := nI 6) rfl ?_
          refine lv_ldc (v := (-100000)) hx hb hown (hts (.constant RX4 157 (-100000)) (by decide +kernel)) dX4_releaseHeldCommands_59 ?_
          refine w_top (v := nth) rfl ?_
          refine w_callv (va_runV (As := [.ref (ad 1 i), .int (nI 6), .int nth]) (rest := []) ⟨hx, hb, hml, hown, hts⟩ (c_X4_put l D B ad g (st3 σ1 4 i 0 0) T o i 6 hin (by decide) (by decide) nth (Ib_st hI1 (by decide)) (nth_ok _ _)) (cwV 3 hts gX4_releaseHeldCommands_X4_put rfl rfl rfl (by decide +kernel) ⟨Nat.le_of_ble_eq_true rfl, Nat.le_of_ble_eq_true rfl⟩) (w_preV hC hP hS cW_4 rfl) rfl rfl hl.1 rfl (lv_room (Nat.le_of_ble_eq_true rfl)) dX4_releaseHeldCommands_61 ⟨Nat.le_of_ble_eq_true rfl, Nat.le_of_ble_eq_true rfl⟩) hS (fun ad1 w1 H locs hq hP hS => ?_)
          cases hq
          refine lv_iinc (v := nI (i + 1)) (lv' := [(3, .int (nI (i + 1))), (4, .ref (ad 1 i)), (0, .ref (ad 4 0)), (1, .ref (ad 7 0)), (2, .int 16)]) hx hb dX4_releaseHeldCommands_64 hl (k := 1) rfl (nI_add i 1) (by decide) rfl (fun ls hl => ?_)
          refine lv_goto (tgt := 10) hx hb dX4_releaseHeldCommands_67 (by decide) ?_
          obtain ⟨n8, rfl⟩ : ∃ n8, n9 = n8 + 1 := ⟨n9 - 1, by omega⟩
          have hE : relS g.2.1 i σ1 = setF g.2.1 i 6 nth (st3 σ1 4 i 0 0) := by
            unfold relS
            rw [if_pos (by rw [hu4, ht1, hut])]
          exact ih n8 _ _ _ (by omega) ⟨i + 1, (setF g.2.1 i 6 nth (st3 σ1 4 i 0 0)), by omega, by rw [hst]; show relF g.2.1 n8 (i + 1) (relS g.2.1 i σ1) = _; rw [hE], hE ▸ Ib_relS hI1 hin, by rw [← hE, relS_n (by decide) (by decide) (by decide) (by decide) (by decide) (by decide) (by decide)]; exact ht1, fun k h1 h2 => by rw [← hE]; unfold Tu; rw [relS_i (by omega)]; exact hu1 k (by omega) h2, hP, hS, lv_sub hl [0, 2, 3, 4] rfl⟩
    · refine w_aldN hx hb hC hP 3 rfl cW_70 (by omega) (by decide) dX4_releaseHeldCommands_17 (r := .null) (by simp only [fP, if_neg (Nat.not_lt.mpr hin)]; rfl) ?_
      refine lv_astoreN (lv' := [(4, .null), (3, .int (nI i)), (0, .ref (ad 4 0)), (1, .ref (ad 7 0)), (2, .int 16)]) hx hb dX4_releaseHeldCommands_18 hl (by decide) rfl (fun ls hl => ?_)
      refine lv_aloadN hx hb dX4_releaseHeldCommands_20 (lv_at hl 0 rfl) ?_
      refine lv_ifnonnullN hx hb dX4_releaseHeldCommands_22 ?_
      refine lv_goto (tgt := 70) hx hb dX4_releaseHeldCommands_25 (by decide) ?_
      exact W.vret hx hb hr (fun t ht hW => Qv_of (by rw [hst, show n9 = 0 by omega]; rfl) hP hS ht) hS.2.2 dX4_releaseHeldCommands_70
set_option maxHeartbeats 4000000 in
set_option maxRecDepth 100000 in
theorem c_X4_endOldSubscriptions (l : Launch) (D : va_G) (B : Nat) (ad : Ad) (g : GC) (σ : Me) (T : Wd) (o : Int64) (h30 : g.2.1 ≤ 30) (t : Nat) (ht : σ 25 0 0 = nI t) (ht2 : t ≤ 1000000) (ho : ∀ s, s < g.2.1 → To t σ s) : Met l yX4_endOldSubscriptions wsX4_endOldSubscriptions ({ frames := 0, cells := 0, slots := 0, locals := 0 }) (Pre D B ad (cW D ad (g, σ) T o) [.ref (ad 4 0)]) (Qv D B (fun u => u = (ad, cW D ad (g, endF g.2.1 0 σ) T o))) 0 0 (ab B) := by
  refine Met.ofW (cc := cX4_endOldSubscriptions) (maxL := 5) (ret := none) (by decide) rfl ?_
  intro p e s m args below meth c s₁ Bd hml hv
  obtain ⟨rfl, hC, hP⟩ := hv
  have hx := Bd.exec
  have hb := Bd.bytes
  have hr := Bd.returns
  have hts := atoms_spec (ws := wsX4_endOldSubscriptions) Bd.pre
  have hown : s.vm.findClass RX4 = some m.cls := findClass_of_methodNamed Bd.named
  have hlocks := Bd.notSynchronized
  have hS : va_S (ab B) s.heap s.heap [] := va_S.rf
  have hl := lv_entry ([.ref (ad 4 0)]) (n := 5) (Nat.le_of_ble_eq_true rfl)
  rw [lg_entry_eq]
  generalize (lg_sl ([.ref (ad 4 0)]) ++ List.replicate (5 - (lg_sl ([.ref (ad 4 0)])).length) Slot.unset).toArray = ls at hl ⊢
  have hl : lv_has ls 5 [(0, .ref (ad 4 0))] := hl
  refine lv_aload_n hx hb dX4_endOldSubscriptions_0 rfl (lv_at hl 0 rfl) ?_
  refine w_get hx hb hts (by decide +kernel) hown hC hP cW_4 rfl 1 (by decide) (hts (.fieldLink RX4 17 "BuildingPoints" "subscriptions" "[LBuildingPoints$Subscription;") (by decide +kernel)) rfl dX4_endOldSubscriptions_1 ?_
  refine lv_astore_n (lv' := [(1, .ref (ad 7 1)), (0, .ref (ad 4 0))]) hx hb dX4_endOldSubscriptions_4 rfl hl (by decide) rfl (fun ls hl => ?_)
  refine lv_aload_n hx hb dX4_endOldSubscriptions_5 rfl (lv_at hl 0 rfl) ?_
  refine w_alen hx hb hC hP 4 rfl cW_71 (v := 30) rfl dX4_endOldSubscriptions_6 ?_
  refine lv_istore_n (lv' := [(2, .int 30), (1, .ref (ad 7 1)), (0, .ref (ad 4 0))]) hx hb dX4_endOldSubscriptions_7 rfl hl (by decide) rfl (fun ls hl => ?_)
  refine lv_iconst (v := 0) hx hb dX4_endOldSubscriptions_8 (by decide) ?_
  refine lv_istore_n (lv' := [(3, .int 0), (2, .int 30), (1, .ref (ad 7 1)), (0, .ref (ad 4 0))]) hx hb dX4_endOldSubscriptions_9 rfl hl (by decide) rfl (fun ls hl => ?_)
  refine w_ind (fun n9 H locs ls => ∃ (i : Nat) (σ1 : Me), i + n9 = g.2.1 ∧ endF g.2.1 0 σ = endF n9 i σ1 ∧ σ1 25 0 0 = nI t ∧ (∀ k, i ≤ k → k < g.2.1 → To t σ1 k) ∧ hw D B ad (cW D ad (g, σ1) T o) H ∧ va_S (ab B) s.heap H locs ∧ lv_has ls 5 [(3, .int (nI i)), (0, .ref (ad 4 0)), (1, .ref (ad 7 1)), (2, .int 30)]) ?_ g.2.1 _ _ _ ⟨0, σ, by omega, rfl, ht, fun k _ hk => ho k hk, hP, hS, lv_sub hl [0, 3, 2, 1] rfl⟩
  intro n9 H locs ls hJ ih
  obtain ⟨i, σ1, hi, hst, ht1, ho1, hP, hS, hl⟩ := hJ
  refine lv_iload_n hx hb dX4_endOldSubscriptions_10 rfl (lv_at hl 0 rfl) ?_
  refine lv_iload_n hx hb dX4_endOldSubscriptions_11 rfl (lv_at hl 3 rfl) ?_
  refine lv_icmp_ge (tgt := 52) hx hb dX4_endOldSubscriptions_12 (by decide) (fun c_12 => ?_) (fun c_12 => ?_)
  · have hin : 30 ≤ i := Nat.not_lt.mp (fun z => absurd c_12 (nI_ge z (by decide)))
    exact W.vret hx hb hr (fun t ht hW => Qv_of (by rw [hst, show n9 = 0 by omega]; rfl) hP hS ht) hS.2.2 dX4_endOldSubscriptions_52
  · have hlt : i < 30 := Nat.not_le.mp (fun z => c_12 (nI_le z (by omega)))
    refine lv_aload_n hx hb dX4_endOldSubscriptions_15 rfl (lv_at hl 2 rfl) ?_
    refine lv_iload_n hx hb dX4_endOldSubscriptions_16 rfl (lv_at hl 0 rfl) ?_
    rcases Nat.lt_or_ge i g.2.1 with hin | hin
    · refine w_aldN hx hb hC hP 4 rfl cW_71 (by omega) (by decide) dX4_endOldSubscriptions_17 (r := .ref (ad 3 i)) (by simp only [fP, if_pos hin]; rfl) ?_
      refine lv_astore (lv' := [(4, .ref (ad 3 i)), (3, .int (nI i)), (0, .ref (ad 4 0)), (1, .ref (ad 7 1)), (2, .int 30)]) hx hb dX4_endOldSubscriptions_18 hl (by decide) rfl (fun ls hl => ?_)
      refine lv_aload hx hb dX4_endOldSubscriptions_20 (lv_at hl 0 rfl) ?_
      refine lv_ifnonnull (tgt := 28) hx hb dX4_endOldSubscriptions_22 (by decide) ?_
      refine lv_aload hx hb dX4_endOldSubscriptions_28 (lv_at hl 0 rfl) ?_
      refine w_get hx hb hts (by decide +kernel) hown hC hP (cW_3 hin) rfl 2 (by decide) (hts (.fieldLink RX4 212 "BuildingPoints$Subscription" "endTime" "I") (by decide +kernel)) rfl dX4_endOldSubscriptions_30 ?_
      refine lv_aload_n hx hb dX4_endOldSubscriptions_33 rfl (lv_at hl 2 rfl) ?_
      refine w_get hx hb hts (by decide +kernel) hown hC hP cW_4 rfl 6 (by decide) (hts (.fieldLink RX4 79 "BuildingPoints" "now" "I") (by decide +kernel)) rfl dX4_endOldSubscriptions_34 ?_
      refine lv_icmp_gt (tgt := 46) hx hb dX4_endOldSubscriptions_37 (by decide) (fun c_37 => ?_) (fun c_37 => ?_)
      · obtain ⟨h11, v, hv4, hv5, hv6⟩ := ho1 i (Nat.le_refl i) hin
        have hvt : ¬ σ1 10 i 0 = σ1 25 0 0 := fun z => by rw [z] at c_37; exact Int32.lt_irrefl c_37
        refine lv_iinc (v := nI (i + 1)) (lv' := [(3, .int (nI (i + 1))), (4, .ref (ad 3 i)), (0, .ref (ad 4 0)), (1, .ref (ad 7 1)), (2, .int 30)]) hx hb dX4_endOldSubscriptions_46 hl (k := 1) rfl (nI_add i 1) (by decide) rfl (fun ls hl => ?_)
        refine lv_goto (tgt := 10) hx hb dX4_endOldSubscriptions_49 (by decide) ?_
        obtain ⟨n8, rfl⟩ : ∃ n8, n9 = n8 + 1 := ⟨n9 - 1, by omega⟩
        have hE : endS i σ1 = σ1 := by
          unfold endS
          have e9 : bI (¬ σ1 11 i 0 = 0 ∨ σ1 10 i 0 = σ1 25 0 0) = σ1 11 i 0 := by { rcases h11 with z | z; rw [bI_f (fun y => y.elim (fun x => x z) hvt), z]; rw [bI_t (Or.inl (by rw [z]; decide)), z] }
          rw [e9, st3_self]
        exact ih n8 _ _ _ (by omega) ⟨i + 1, σ1, by omega, by rw [hst]; show endF n8 (i + 1) (endS i σ1) = _; rw [hE], by rw [← hE, endS_n (by decide)]; exact ht1, fun k h1 h2 => by rw [← hE]; unfold To; rw [endS_i (by omega), endS_n (by decide)]; exact ho1 k (by omega) h2, hP, hS, lv_sub hl [0, 2, 3, 4] rfl⟩
      · obtain ⟨h11, v, hv4, hv5, hv6⟩ := ho1 i (Nat.le_refl i) hin
        have hc : ¬ σ1 11 i 0 = 0 ∨ σ1 10 i 0 = σ1 25 0 0 := by
          have h2 : v ≤ t := Nat.not_lt.mp (fun z => c_37 (by rw [hv4, ht1]; exact nI_lt z (by omega)))
          rcases hv6 with z | z
          · exact Or.inl (by rw [z]; decide)
          · exact Or.inr (by rw [hv4, ht1, show v = t by omega])
        refine lv_aload hx hb dX4_endOldSubscriptions_40 (lv_at hl 0 rfl) ?_
        refine lv_iconst (v := 0) hx hb dX4_endOldSubscriptions_42 (by decide) ?_
        refine w_put hx hb hts (by decide +kernel) tyX3 tyX3_ok nmX3 hown hC hP hS (cW_3 hin) rfl 5 (by decide) (hts (.fieldLink RX4 95 "BuildingPoints$Subscription" "isOpen" "Z") (by decide +kernel)) rfl rfl rfl (Nat.le_of_ble_eq_true rfl) rfl dX4_endOldSubscriptions_43 (fun H locs hP hS => ?_)
        have hP := hw_eq hP (pS5 hin 1)
        refine lv_iinc (v := nI (i + 1)) (lv' := [(3, .int (nI (i + 1))), (4, .ref (ad 3 i)), (0, .ref (ad 4 0)), (1, .ref (ad 7 1)), (2, .int 30)]) hx hb dX4_endOldSubscriptions_46 hl (k := 1) rfl (nI_add i 1) (by decide) rfl (fun ls hl => ?_)
        refine lv_goto (tgt := 10) hx hb dX4_endOldSubscriptions_49 (by decide) ?_
        obtain ⟨n8, rfl⟩ : ∃ n8, n9 = n8 + 1 := ⟨n9 - 1, by omega⟩
        have hE : endS i σ1 = st3 σ1 11 i 0 1 := by
          unfold endS
          rw [bI_t hc]
        exact ih n8 _ _ _ (by omega) ⟨i + 1, (st3 σ1 11 i 0 1), by omega, by rw [hst]; show endF n8 (i + 1) (endS i σ1) = _; rw [hE], by rw [← hE, endS_n (by decide)]; exact ht1, fun k h1 h2 => by rw [← hE]; unfold To; rw [endS_i (by omega), endS_n (by decide)]; exact ho1 k (by omega) h2, hP, hS, lv_sub hl [0, 2, 3, 4] rfl⟩
    · refine w_aldN hx hb hC hP 4 rfl cW_71 (by omega) (by decide) dX4_endOldSubscriptions_17 (r := .null) (by simp only [fP, if_neg (Nat.not_lt.mpr hin)]; rfl) ?_
      refine lv_astoreN (lv' := [(4, .null), (3, .int (nI i)), (0, .ref (ad 4 0)), (1, .ref (ad 7 1)), (2, .int 30)]) hx hb dX4_endOldSubscriptions_18 hl (by decide) rfl (fun ls hl => ?_)
      refine lv_aloadN hx hb dX4_endOldSubscriptions_20 (lv_at hl 0 rfl) ?_
      refine lv_ifnonnullN hx hb dX4_endOldSubscriptions_22 ?_
      refine lv_goto (tgt := 52) hx hb dX4_endOldSubscriptions_25 (by decide) ?_
      exact W.vret hx hb hr (fun t ht hW => Qv_of (by rw [hst, show n9 = 0 by omega]; rfl) hP hS ht) hS.2.2 dX4_endOldSubscriptions_52
set_option maxHeartbeats 4000000 in
set_option maxRecDepth 100000 in
theorem c_X4_followSchedules (l : Launch) (D : va_G) (B : Nat) (ad : Ad) (g : GC) (σ : Me) (T : Wd) (o : Int64) (hI : Ib g σ) (t : Nat) (ht : σ 25 0 0 = nI t) (ht2 : t ≤ 1000000) : Met l yX4_followSchedules wsX4_followSchedules ({ frames := 5, cells := 0, slots := 0, locals := 116 }) (Pre D B ad (cW D ad (g, σ) T o) [.ref (ad 4 0)]) (Qv D B (fun u => u = (ad, cW D ad (g, folF g.2.1 g.2.2 0 σ) T o))) 0 0 (ab B) := by
  refine Met.ofW (cc := cX4_followSchedules) (maxL := 5) (ret := none) (by decide) rfl ?_
  intro p e s m args below meth c s₁ Bd hml hv
  obtain ⟨rfl, hC, hP⟩ := hv
  have hx := Bd.exec
  have hb := Bd.bytes
  have hr := Bd.returns
  have hts := atoms_spec (ws := wsX4_followSchedules) Bd.pre
  have hown : s.vm.findClass RX4 = some m.cls := findClass_of_methodNamed Bd.named
  have hlocks := Bd.notSynchronized
  have hS : va_S (ab B) s.heap s.heap [] := va_S.rf
  have hl := lv_entry ([.ref (ad 4 0)]) (n := 5) (Nat.le_of_ble_eq_true rfl)
  rw [lg_entry_eq]
  generalize (lg_sl ([.ref (ad 4 0)]) ++ List.replicate (5 - (lg_sl ([.ref (ad 4 0)])).length) Slot.unset).toArray = ls at hl ⊢
  have hl : lv_has ls 5 [(0, .ref (ad 4 0))] := hl
  have hg3 := hI.2.2.1
  refine lv_aload_n hx hb dX4_followSchedules_0 rfl (lv_at hl 0 rfl) ?_
  refine w_get hx hb hts (by decide +kernel) hown hC hP cW_4 rfl 2 (by decide) (hts (.fieldLink RX4 23 "BuildingPoints" "schedules" "[LBuildingPoints$Schedule;") (by decide +kernel)) rfl dX4_followSchedules_1 ?_
  refine lv_astore_n (lv' := [(1, .ref (ad 7 2)), (0, .ref (ad 4 0))]) hx hb dX4_followSchedules_4 rfl hl (by decide) rfl (fun ls hl => ?_)
  refine lv_aload_n hx hb dX4_followSchedules_5 rfl (lv_at hl 0 rfl) ?_
  refine w_alen hx hb hC hP 5 rfl cW_72 (v := 4) rfl dX4_followSchedules_6 ?_
  refine lv_istore_n (lv' := [(2, .int 4), (1, .ref (ad 7 2)), (0, .ref (ad 4 0))]) hx hb dX4_followSchedules_7 rfl hl (by decide) rfl (fun ls hl => ?_)
  refine lv_iconst (v := 0) hx hb dX4_followSchedules_8 (by decide) ?_
  refine lv_istore_n (lv' := [(3, .int 0), (2, .int 4), (1, .ref (ad 7 2)), (0, .ref (ad 4 0))]) hx hb dX4_followSchedules_9 rfl hl (by decide) rfl (fun ls hl => ?_)
  refine w_ind (fun n9 H locs ls => ∃ (i : Nat) (σ1 : Me), i + n9 = g.2.2 ∧ folF g.2.1 g.2.2 0 σ = folF g.2.1 n9 i σ1 ∧ Ib g σ1 ∧ σ1 25 0 0 = nI t ∧ hw D B ad (cW D ad (g, σ1) T o) H ∧ va_S (ab B) s.heap H locs ∧ lv_has ls 5 [(3, .int (nI i)), (0, .ref (ad 4 0)), (1, .ref (ad 7 2)), (2, .int 4)]) ?_ g.2.2 _ _ _ ⟨0, σ, by omega, rfl, hI, ht, hP, hS, lv_sub hl [0, 3, 2, 1] rfl⟩
  intro n9 H locs ls hJ ih
  obtain ⟨i, σ1, hi, hst, hI1, ht1, hP, hS, hl⟩ := hJ
  refine lv_iload_n hx hb dX4_followSchedules_10 rfl (lv_at hl 0 rfl) ?_
  refine lv_iload_n hx hb dX4_followSchedules_11 rfl (lv_at hl 3 rfl) ?_
  refine lv_icmp_ge (tgt := 40) hx hb dX4_followSchedules_12 (by decide) (fun c_12 => ?_) (fun c_12 => ?_)
  · have hin : 4 ≤ i := Nat.not_lt.mp (fun z => absurd c_12 (nI_ge z (by decide)))
    exact W.vret hx hb hr (fun t ht hW => Qv_of (by rw [hst, show n9 = 0 by omega]; rfl) hP hS ht) hS.2.2 dX4_followSchedules_40
  · have hlt : i < 4 := Nat.not_le.mp (fun z => c_12 (nI_le z (by omega)))
    refine lv_aload_n hx hb dX4_followSchedules_15 rfl (lv_at hl 2 rfl) ?_
    refine lv_iload_n hx hb dX4_followSchedules_16 rfl (lv_at hl 0 rfl) ?_
    rcases Nat.lt_or_ge i g.2.2 with hin | hin
    · refine w_aldN hx hb hC hP 5 rfl cW_72 (by omega) (by decide) dX4_followSchedules_17 (r := .ref (ad 2 i)) (by simp only [fP, if_pos hin]; rfl) ?_
      refine lv_astore (lv' := [(4, .ref (ad 2 i)), (3, .int (nI i)), (0, .ref (ad 4 0)), (1, .ref (ad 7 2)), (2, .int 4)]) hx hb dX4_followSchedules_18 hl (by decide) rfl (fun ls hl => ?_)
      refine lv_aload hx hb dX4_followSchedules_20 (lv_at hl 0 rfl) ?_
      refine lv_ifnonnull (tgt := 28) hx hb dX4_followSchedules_22 (by decide) ?_
      refine lv_aload_n hx hb dX4_followSchedules_28 rfl (lv_at hl 2 rfl) ?_
      refine lv_aload hx hb dX4_followSchedules_29 (lv_at hl 0 rfl) ?_
      refine w_callv (va_runV (As := [.ref (ad 2 i)]) (rest := []) ⟨hx, hb, hml, hown, hts⟩ (c_X4_follow l D B ad g σ1 T o i hin hI1 t ht1 ht2) (cwV 1 hts gX4_followSchedules_X4_follow rfl rfl rfl (by decide +kernel) ⟨Nat.le_of_ble_eq_true rfl, Nat.le_of_ble_eq_true rfl⟩) (w_preV hC hP hS cW_4 rfl) rfl rfl hl.1 rfl (lv_room (Nat.le_of_ble_eq_true rfl)) dX4_followSchedules_31 ⟨Nat.le_of_ble_eq_true rfl, Nat.le_of_ble_eq_true rfl⟩) hS (fun ad1 w1 H locs hq hP hS => ?_)
      cases hq
      refine lv_iinc (v := nI (i + 1)) (lv' := [(3, .int (nI (i + 1))), (4, .ref (ad 2 i)), (0, .ref (ad 4 0)), (1, .ref (ad 7 2)), (2, .int 4)]) hx hb dX4_followSchedules_34 hl (k := 1) rfl (nI_add i 1) (by decide) rfl (fun ls hl => ?_)
      refine lv_goto (tgt := 10) hx hb dX4_followSchedules_37 (by decide) ?_
      obtain ⟨n8, rfl⟩ : ∃ n8, n9 = n8 + 1 := ⟨n9 - 1, by omega⟩
      exact ih n8 _ _ _ (by omega) ⟨i + 1, obeF g.2.1 i σ1, by omega, by rw [hst]; rfl, Ib_obeF hI1 hin, by rw [obeF_n (by decide) (by decide) (by decide) (by decide) (by decide) (by decide) (by decide) (by decide)]; exact ht1, hP, hS, lv_sub hl [0, 2, 3, 4] rfl⟩
    · refine w_aldN hx hb hC hP 5 rfl cW_72 (by omega) (by decide) dX4_followSchedules_17 (r := .null) (by simp only [fP, if_neg (Nat.not_lt.mpr hin)]; rfl) ?_
      refine lv_astoreN (lv' := [(4, .null), (3, .int (nI i)), (0, .ref (ad 4 0)), (1, .ref (ad 7 2)), (2, .int 4)]) hx hb dX4_followSchedules_18 hl (by decide) rfl (fun ls hl => ?_)
      refine lv_aloadN hx hb dX4_followSchedules_20 (lv_at hl 0 rfl) ?_
      refine lv_ifnonnullN hx hb dX4_followSchedules_22 ?_
      refine lv_goto (tgt := 40) hx hb dX4_followSchedules_25 (by decide) ?_
      exact W.vret hx hb hr (fun t ht hW => Qv_of (by rw [hst, show n9 = 0 by omega]; rfl) hP hS ht) hS.2.2 dX4_followSchedules_40
set_option maxHeartbeats 4000000 in
set_option maxRecDepth 100000 in
theorem c_X4_passMinute (l : Launch) (D : va_G) (B : Nat) (ad : Ad) (g : GC) (σ : Me) (T : Wd) (o : Int64) (t : Nat) (hR : Rs g t σ) (ht1 : t + 1 ≤ 1000000) : Met l yX4_passMinute wsX4_passMinute ({ frames := 6, cells := 0, slots := 0, locals := 140 }) (Pre D B ad (cW D ad (g, σ) T o) [.ref (ad 4 0)]) (Qv D B (fun u => u = (ad, cW D ad (g, minF g σ) T o))) 0 0 (ab B) := by
  refine Met.ofW (cc := cX4_passMinute) (maxL := 1) (ret := none) (by decide) rfl ?_
  intro p e s m args below meth c s₁ Bd hml hv
  obtain ⟨rfl, hC, hP⟩ := hv
  have hx := Bd.exec
  have hb := Bd.bytes
  have hr := Bd.returns
  have hts := atoms_spec (ws := wsX4_passMinute) Bd.pre
  have hown : s.vm.findClass RX4 = some m.cls := findClass_of_methodNamed Bd.named
  have hlocks := Bd.notSynchronized
  have hS : va_S (ab B) s.heap s.heap [] := va_S.rf
  have hl := lv_entry ([.ref (ad 4 0)]) (n := 1) (Nat.le_of_ble_eq_true rfl)
  rw [lg_entry_eq]
  generalize (lg_sl ([.ref (ad 4 0)]) ++ List.replicate (1 - (lg_sl ([.ref (ad 4 0)])).length) Slot.unset).toArray = ls at hl ⊢
  have hl : lv_has ls 1 [(0, .ref (ad 4 0))] := hl
  obtain ⟨hI, ht, ht2, hu, ho⟩ := hR
  have e0 : (st3 σ 25 0 0 (σ 25 0 0 + 1)) 25 0 0 = nI (t + 1) := by rw [st3_v, ht, nI_1]
  have i0 : Ib g (st3 σ 25 0 0 (σ 25 0 0 + 1)) := Ib_st hI (by decide)
  have i1 := Ib_relF (ns := g.2.1) g.1 0 _ (by omega) i0
  have e1 : (relF g.2.1 g.1 0 (st3 σ 25 0 0 (σ 25 0 0 + 1))) 25 0 0 = nI (t + 1) := by rw [relF_n (by decide) (by decide) (by decide) (by decide) (by decide) (by decide) (by decide)]; exact e0
  have o1 : ∀ s, s < g.2.1 → To (t + 1) (relF g.2.1 g.1 0 (st3 σ 25 0 0 (σ 25 0 0 + 1))) s := fun s hs => To_to (ho s hs) (by rw [relF_n (by decide) (by decide) (by decide) (by decide) (by decide) (by decide) (by decide), st3_n (by decide)]) (by rw [relF_n (by decide) (by decide) (by decide) (by decide) (by decide) (by decide) (by decide), st3_n (by decide)])
  have u0 : ∀ k, k < g.1 → Tu (t + 1) (st3 σ 25 0 0 (σ 25 0 0 + 1)) k := fun k hk => by unfold Tu; rw [st3_n (by decide)]; exact hu k hk
  have i2 := Ib_endF g.2.1 0 _ i1
  have e2 : (endF g.2.1 0 (relF g.2.1 g.1 0 (st3 σ 25 0 0 (σ 25 0 0 + 1)))) 25 0 0 = nI (t + 1) := by rw [endF_n (by decide)]; exact e1
  refine lv_aload_n hx hb dX4_passMinute_0 rfl (lv_at hl 0 rfl) ?_
  refine lv_dup hx hb dX4_passMinute_1 rfl ?_
  refine w_get hx hb hts (by decide +kernel) hown hC hP cW_4 rfl 6 (by decide) (hts (.fieldLink RX4 79 "BuildingPoints" "now" "I") (by decide +kernel)) rfl dX4_passMinute_2 ?_
  refine lv_iconst (v := 1) hx hb dX4_passMinute_5 (by decide) ?_
  refine lv_iadd hx hb dX4_passMinute_6 ?_
  refine w_put hx hb hts (by decide +kernel) tyX4 tyX4_ok nmX4 hown hC hP hS cW_4 rfl 6 (by decide) (hts (.fieldLink RX4 79 "BuildingPoints" "now" "I") (by decide +kernel)) rfl rfl rfl (Nat.le_of_ble_eq_true rfl) rfl dX4_passMinute_7 (fun H locs hP hS => ?_)
  have hP := hw_eq hP (pB6 _)
  refine lv_aload_n hx hb dX4_passMinute_10 rfl (lv_at hl 0 rfl) ?_
  refine w_callv (va_runV (As := []) (rest := []) ⟨hx, hb, hml, hown, hts⟩ (c_X4_releaseHeldCommands l D B ad g (st3 σ 25 0 0 ((σ 25 0 0) + 1)) T o i0 (t + 1) e0 (Nat.succ_pos t) ht1 u0) (cwV 0 hts gX4_passMinute_X4_releaseHeldCommands rfl rfl rfl (by decide +kernel) ⟨Nat.le_of_ble_eq_true rfl, Nat.le_of_ble_eq_true rfl⟩) (w_preV hC hP hS cW_4 rfl) rfl rfl hl.1 rfl (lv_room (Nat.le_of_ble_eq_true rfl)) dX4_passMinute_11 ⟨Nat.le_of_ble_eq_true rfl, Nat.le_of_ble_eq_true rfl⟩) hS (fun ad1 w1 H locs hq hP hS => ?_)
  cases hq
  refine lv_aload_n hx hb dX4_passMinute_14 rfl (lv_at hl 0 rfl) ?_
  refine w_callv (va_runV (As := []) (rest := []) ⟨hx, hb, hml, hown, hts⟩ (c_X4_endOldSubscriptions l D B ad g (relF g.2.1 g.1 0 (st3 σ 25 0 0 (σ 25 0 0 + 1))) T o hI.2.1 (t + 1) e1 ht1 o1) (cwV 0 hts gX4_passMinute_X4_endOldSubscriptions rfl rfl rfl (by decide +kernel) ⟨Nat.le_of_ble_eq_true rfl, Nat.le_of_ble_eq_true rfl⟩) (w_preV hC hP hS cW_4 rfl) rfl rfl hl.1 rfl (lv_room (Nat.le_of_ble_eq_true rfl)) dX4_passMinute_15 ⟨Nat.le_of_ble_eq_true rfl, Nat.le_of_ble_eq_true rfl⟩) hS (fun ad1 w1 H locs hq hP hS => ?_)
  cases hq
  refine lv_aload_n hx hb dX4_passMinute_18 rfl (lv_at hl 0 rfl) ?_
  refine w_callv (va_runV (As := []) (rest := []) ⟨hx, hb, hml, hown, hts⟩ (c_X4_followSchedules l D B ad g (endF g.2.1 0 (relF g.2.1 g.1 0 (st3 σ 25 0 0 (σ 25 0 0 + 1)))) T o i2 (t + 1) e2 ht1) (cwV 0 hts gX4_passMinute_X4_followSchedules rfl rfl rfl (by decide +kernel) ⟨Nat.le_of_ble_eq_true rfl, Nat.le_of_ble_eq_true rfl⟩) (w_preV hC hP hS cW_4 rfl) rfl rfl hl.1 rfl (lv_room (Nat.le_of_ble_eq_true rfl)) dX4_passMinute_19 ⟨Nat.le_of_ble_eq_true rfl, Nat.le_of_ble_eq_true rfl⟩) hS (fun ad1 w1 H locs hq hP hS => ?_)
  cases hq
  exact W.vret hx hb hr (fun t ht hW => Qv_of (by rfl) hP hS ht) hS.2.2 dX4_passMinute_22
