/-! p22: the law's writes -/
set_option maxHeartbeats 4000000 in
set_option maxRecDepth 100000 in
theorem c_L_writes (l : Launch) (hns : l.stackTraces = false) (D : va_G) (B : Nat) (ad : Ad) (g : GC) (σ μ : Me) (t N : Nat) (J : Jt t N g σ μ) (hN : N + 1 < 900000) (k pj : Nat) (v : Int32) (hk : k < g.1) (h1 : 1 ≤ pj) (h2 : pj ≤ 16) (hv : okV σ k v) : Met l yL_writes wsL_writes ({ frames := 9, cells := 8, slots := 48, locals := 160 }) (Pre D B ad (eW D ad (g, σ) (g, σ) (lW D 4 μ)) [.ref (ad 4 0), .ref (ad 17 0), .ref (ad 26 2), .ref (ad 26 3), .int (nI k), .int (nI pj), .int v]) (Qi D B (fun r u => r = 1 ∧ ∃ σ9 μ9 : Me, u = (ad, eW D ad (g, σ9) (g, σ9) (lW D 4 μ9)) ∧ Jt t (N + 1) g σ9 μ9 ∧ σ9 1 = σ 1)) 8 48 (ab B) := by
  refine Met.ofW (cc := cL_writes) (maxL := 14) (ret := (some .boolean)) (by decide) rfl ?_
  intro p e s m args below meth c s₁ Bd hml hv
  obtain ⟨rfl, hC, hP⟩ := hv
  have hx := Bd.exec
  have hb := Bd.bytes
  have hr := Bd.returns
  have hts := atoms_spec (ws := wsL_writes) Bd.pre
  have hown : s.vm.findClass RL = some m.cls := findClass_of_methodNamed Bd.named
  have hlocks := Bd.notSynchronized
  have hS : va_S (ab B) s.heap s.heap [] := va_S.rf
  have hl := lv_entry ([.ref (ad 4 0), .ref (ad 17 0), .ref (ad 26 2), .ref (ad 26 3), .int (nI k), .int (nI pj), .int v]) (n := 14) (Nat.le_of_ble_eq_true rfl)
  rw [lg_entry_eq]
  generalize (lg_sl ([.ref (ad 4 0), .ref (ad 17 0), .ref (ad 26 2), .ref (ad 26 3), .int (nI k), .int (nI pj), .int v]) ++ List.replicate (14 - (lg_sl ([.ref (ad 4 0), .ref (ad 17 0), .ref (ad 26 2), .ref (ad 26 3), .int (nI k), .int (nI pj), .int v])).length) Slot.unset).toArray = ls at hl ⊢
  have hl : lv_has ls 14 [(0, .ref (ad 4 0)), (1, .ref (ad 17 0)), (2, .ref (ad 26 2)), (3, .ref (ad 26 3)), (4, .int (nI k)), (5, .int (nI pj)), (6, .int v)] := hl
  have hI := Jt_I J
  have g16 := hI.1
  have g30 := hI.2.1
  have g4 := hI.2.2.1
  obtain ⟨l1, l2, l3, -⟩ := J.2.2.2.2.2.1
  refine lv_aload_n hx hb dL_writes_0 rfl (lv_at hl 0 rfl) ?_
  refine lv_iload hx hb dL_writes_1 (lv_at hl 4 rfl) ?_
  refine w_calli (vx_runSW (As := [.ref (ad 4 0), .int (nI k)]) (rest := []) ⟨hx, hb, hml, hown, hts⟩ (c0_L_value l hns D B ad g σ (tW D ad (g, σ) (lW D 4 μ)) 0 hI k hk) (vx_cwSW 2 hts gL_writes_L_value rfl rfl rfl (by decide +kernel) ⟨Nat.le_of_ble_eq_true rfl, Nat.le_of_ble_eq_true rfl⟩) (w_preS hC hP hS) rfl rfl hl.1 rfl (lv_room (Nat.le_of_ble_eq_true rfl)) dL_writes_3 ⟨Nat.le_of_ble_eq_true rfl, Nat.le_of_ble_eq_true rfl⟩) hS (fun r_1 ad1 w1 H locs hq hP hS => ?_)
  obtain ⟨S2, h81, h82, h83⟩ := hq
  cases h82
  cases h81
  subst h83
  refine lv_istore (lv' := [(7, .int (vaO σ k)), (0, .ref (ad 4 0)), (1, .ref (ad 17 0)), (2, .ref (ad 26 2)), (3, .ref (ad 26 3)), (4, .int (nI k)), (5, .int (nI pj)), (6, .int v)]) hx hb dL_writes_6 hl (by decide) rfl (fun ls hl => ?_)
  refine lv_aload_n hx hb dL_writes_8 rfl (lv_at hl 1 rfl) ?_
  refine lv_iload hx hb dL_writes_9 (lv_at hl 5 rfl) ?_
  refine w_calli (vx_runSW (As := [.ref (ad 4 0), .int (nI k)]) (rest := []) ⟨hx, hb, hml, hown, hts⟩ (c0_L_changes l hns D B ad g σ (tW D ad (g, σ) (lW D 4 μ)) 0 hI k hk) (vx_cwSW 2 hts gL_writes_L_changes rfl rfl rfl (by decide +kernel) ⟨Nat.le_of_ble_eq_true rfl, Nat.le_of_ble_eq_true rfl⟩) (w_preS hC hP hS) rfl rfl hl.1 rfl (lv_room (Nat.le_of_ble_eq_true rfl)) dL_writes_11 ⟨Nat.le_of_ble_eq_true rfl, Nat.le_of_ble_eq_true rfl⟩) hS (fun r_2 ad1 w1 H locs hq hP hS => ?_)
  obtain ⟨S2, h81, h82, h83⟩ := hq
  cases h82
  cases h81
  subst h83
  refine lv_istore (lv' := [(8, .int (σ 5 k 0)), (7, .int (vaO σ k)), (0, .ref (ad 4 0)), (1, .ref (ad 17 0)), (2, .ref (ad 26 2)), (3, .ref (ad 26 3)), (4, .int (nI k)), (5, .int (nI pj)), (6, .int v)]) hx hb dL_writes_14 hl (by decide) rfl (fun ls hl => ?_)
  refine lv_aload_n hx hb dL_writes_16 rfl (lv_at hl 2 rfl) ?_
  refine lv_iload hx hb dL_writes_17 (lv_at hl 6 rfl) ?_
  refine lv_iload hx hb dL_writes_19 (lv_at hl 7 rfl) ?_
  refine w_calli (vx_runSW (As := [.ref (ad 4 0), .int (nI k), .int (nI pj)]) (rest := []) ⟨hx, hb, hml, hown, hts⟩ (c0_L_command l hns D B ad g σ (tW D ad (g, σ) (lW D 4 μ)) 0 hI k hk pj h1 h2) (vx_cwSW 3 hts gL_writes_L_command rfl rfl rfl (by decide +kernel) ⟨Nat.le_of_ble_eq_true rfl, Nat.le_of_ble_eq_true rfl⟩) (w_preS hC hP hS) rfl rfl hl.1 rfl (lv_room (Nat.le_of_ble_eq_true rfl)) dL_writes_21 ⟨Nat.le_of_ble_eq_true rfl, Nat.le_of_ble_eq_true rfl⟩) hS (fun r_3 ad1 w1 H locs hq hP hS => ?_)
  obtain ⟨S2, h81, h82, h83⟩ := hq
  cases h82
  cases h81
  subst h83
  refine lv_istore (lv' := [(9, .int (σ 6 k pj)), (8, .int (σ 5 k 0)), (7, .int (vaO σ k)), (0, .ref (ad 4 0)), (1, .ref (ad 17 0)), (2, .ref (ad 26 2)), (3, .ref (ad 26 3)), (4, .int (nI k)), (5, .int (nI pj)), (6, .int v)]) hx hb dL_writes_24 hl (by decide) rfl (fun ls hl => ?_)
  refine lv_aload_n hx hb dL_writes_26 rfl (lv_at hl 3 rfl) ?_
  refine lv_iload hx hb dL_writes_27 (lv_at hl 7 rfl) ?_
  refine w_calli (vx_runSW (As := [.ref (ad 4 0), .int (nI k)]) (rest := []) ⟨hx, hb, hml, hown, hts⟩ (c0_L_held l hns D B ad g σ (tW D ad (g, σ) (lW D 4 μ)) 0 hI k hk) (vx_cwSW 2 hts gL_writes_L_held rfl rfl rfl (by decide +kernel) ⟨Nat.le_of_ble_eq_true rfl, Nat.le_of_ble_eq_true rfl⟩) (w_preS hC hP hS) rfl rfl hl.1 rfl (lv_room (Nat.le_of_ble_eq_true rfl)) dL_writes_29 ⟨Nat.le_of_ble_eq_true rfl, Nat.le_of_ble_eq_true rfl⟩) hS (fun r_4 ad1 w1 H locs hq hP hS => ?_)
  obtain ⟨S2, h81, h82, h83⟩ := hq
  cases h82
  cases h81
  subst h83
  refine w_top (v := heO σ k) rfl ?_
  refine lv_istore (lv' := [(10, .int (heO σ k)), (9, .int (σ 6 k pj)), (8, .int (σ 5 k 0)), (7, .int (vaO σ k)), (0, .ref (ad 4 0)), (1, .ref (ad 17 0)), (2, .ref (ad 26 2)), (3, .ref (ad 26 3)), (4, .int (nI k)), (5, .int (nI pj)), (6, .int v)]) hx hb dL_writes_32 hl (by decide) rfl (fun ls hl => ?_)
  by_cases hh : pj = 6 ∧ ¬ σ 4 k 0 = 0
  · refine lv_aload_n hx hb dL_writes_34 rfl (lv_at hl 4 rfl) ?_
    refine lv_iload hx hb dL_writes_35 (lv_at hl 8 rfl) ?_
    refine lv_iload hx hb dL_writes_37 (lv_at hl 9 rfl) ?_
    refine lv_iload hx hb dL_writes_39 (lv_at hl 10 rfl) ?_
    refine w_calli (vx_runSW (As := [.ref (ad 4 0), .int (nI k), .int (nI pj), .int v]) (rest := []) ⟨hx, hb, hml, hown, hts⟩ (c_L_write l hns D B ad g σ (tW D ad (g, σ) (lW D 4 μ)) 0 hI (nI k) (nI pj) v) (vx_cwSW 4 hts gL_writes_L_write rfl rfl rfl (by decide +kernel) ⟨Nat.le_of_ble_eq_true rfl, Nat.le_of_ble_eq_true rfl⟩) (w_preS hC hP hS) rfl rfl hl.1 rfl (lv_room (Nat.le_of_ble_eq_true rfl)) dL_writes_41 ⟨Nat.le_of_ble_eq_true rfl, Nat.le_of_ble_eq_true rfl⟩) hS (fun r_5 ad1 w1 H locs hq hP hS => ?_)
    obtain ⟨S2, h81, h82, h83⟩ := hq
    obtain ⟨h84, h85⟩ := h83 (by rw [wr_3 g16 hk h1 h2 hv hh]; decide)
    cases h84
    cases h81
    subst h85
    refine w_top (v := (-1000003)) (by rw [wr_3 g16 hk h1 h2 hv hh]; rfl) ?_
    refine lv_istore (lv' := [(11, .int (-1000003)), (10, .int (heO σ k)), (9, .int (σ 6 k pj)), (8, .int (σ 5 k 0)), (7, .int (vaO σ k)), (0, .ref (ad 4 0)), (1, .ref (ad 17 0)), (2, .ref (ad 26 2)), (3, .ref (ad 26 3)), (4, .int (nI k)), (5, .int (nI pj)), (6, .int v)]) hx hb dL_writes_44 hl (by decide) rfl (fun ls hl => ?_)
    refine lv_aload_n hx hb dL_writes_46 rfl (lv_at hl 6 rfl) ?_
    refine lv_iload hx hb dL_writes_47 (lv_at hl 9 rfl) ?_
    refine lv_iload hx hb dL_writes_49 (lv_at hl 10 rfl) ?_
    refine lv_iload hx hb dL_writes_51 (lv_at hl 11 rfl) ?_
    refine w_calli (vx_runSW (As := [.ref (ad 17 0), .int (nI k), .int (nI pj), .int v]) (rest := []) ⟨hx, hb, hml, hown, hts⟩ (t_L_write l hns D B ad g σ (g, σ) (lW D 4 μ) hI (nI k) (nI pj) v) (vx_cwSW 4 hts gL_writes_L_write rfl rfl rfl (by decide +kernel) ⟨Nat.le_of_ble_eq_true rfl, Nat.le_of_ble_eq_true rfl⟩) (w_preS hC hP hS) rfl rfl hl.1 rfl (lv_room (Nat.le_of_ble_eq_true rfl)) dL_writes_53 ⟨Nat.le_of_ble_eq_true rfl, Nat.le_of_ble_eq_true rfl⟩) hS (fun r_6 ad1 w1 H locs hq hP hS => ?_)
    obtain ⟨S2, h81, h82, h83⟩ := hq
    obtain ⟨h84, h85⟩ := h83 (by rw [wr_3 g16 hk h1 h2 hv hh]; decide)
    cases h84
    cases h81
    subst h85
    refine w_top (v := (-1000003)) (by rw [wr_3 g16 hk h1 h2 hv hh]; rfl) ?_
    refine lv_iload hx hb dL_writes_56 (lv_at hl 0 rfl) ?_
    refine lv_icmp_ne (tgt := 65) hx hb dL_writes_58 (by decide) (fun c_58 => ?_) (fun c_58 => ?_)
    · exact absurd rfl c_58
    · refine lv_iconst (v := 1) hx hb dL_writes_61 (by decide) ?_
      refine lv_goto (tgt := 66) hx hb dL_writes_62 (by decide) ?_
      refine lv_istore (lv' := [(12, .int 1), (11, .int (-1000003)), (10, .int (heO σ k)), (9, .int (σ 6 k pj)), (8, .int (σ 5 k 0)), (7, .int (vaO σ k)), (0, .ref (ad 4 0)), (1, .ref (ad 17 0)), (2, .ref (ad 26 2)), (3, .ref (ad 26 3)), (4, .int (nI k)), (5, .int (nI pj)), (6, .int v)]) hx hb dL_writes_66 hl (by decide) rfl (fun ls hl => ?_)
      refine lv_iload hx hb dL_writes_68 (lv_at hl 11 rfl) ?_
      refine lv_bipush (v := (6)) hx hb dL_writes_70 (by decide) ?_
      refine lv_icmp_ne (tgt := 122) hx hb dL_writes_72 (by decide) (fun c_72 => ?_) (fun c_72 => ?_)
      · exact absurd (by rw [hh.1]; rfl) c_72
      · refine lv_iload hx hb dL_writes_75 (lv_at hl 2 rfl) ?_
        refine lv_if_le (tgt := 122) hx hb dL_writes_77 (by decide) (fun c_77 => ?_) (fun c_77 => ?_)
        · exact absurd c_77 (he_pos J hk hh.2)
        · refine lv_iload hx hb dL_writes_80 (lv_at hl 0 rfl) ?_
          refine lv_if_eq (tgt := 120) hx hb dL_writes_82 (by decide) (fun c_82 => ?_) (fun c_82 => ?_)
          · exact absurd c_82 (by decide)
          · refine lv_iload hx hb dL_writes_85 (lv_at hl 1 rfl) ?_
            refine lv_ldc (v := (-1000003)) hx hb hown (hts (.constant RL 21 (-1000003)) (by decide +kernel)) dL_writes_87 ?_
            refine lv_icmp_ne (tgt := 120) hx hb dL_writes_89 (by decide) (fun c_89 => ?_) (fun c_89 => ?_)
            · exact absurd rfl c_89
            · refine lv_aload_n hx hb dL_writes_92 rfl (lv_at hl 6 rfl) ?_
              refine lv_iload hx hb dL_writes_93 (lv_at hl 10 rfl) ?_
              refine lv_bipush (v := (6)) hx hb dL_writes_95 (by decide) ?_
              refine w_calli (vx_runSW (As := [.ref (ad 4 0), .int (nI k), .int 6]) (rest := []) ⟨hx, hb, hml, hown, hts⟩ (c0_L_command l hns D B ad g σ (tW D ad (g, σ) (lW D 4 μ)) 0 hI k hk 6 (by decide) (by decide)) (vx_cwSW 3 hts gL_writes_L_command rfl rfl rfl (by decide +kernel) ⟨Nat.le_of_ble_eq_true rfl, Nat.le_of_ble_eq_true rfl⟩) (w_preS hC hP hS) rfl rfl hl.1 rfl (lv_room (Nat.le_of_ble_eq_true rfl)) dL_writes_97 ⟨Nat.le_of_ble_eq_true rfl, Nat.le_of_ble_eq_true rfl⟩) hS (fun r_7 ad1 w1 H locs hq hP hS => ?_)
              obtain ⟨S2, h81, h82, h83⟩ := hq
              cases h82
              cases h81
              subst h83
              refine lv_iload hx hb dL_writes_100 (lv_at hl 3 rfl) ?_
              refine lv_icmp_ne (tgt := 120) hx hb dL_writes_102 (by decide) (fun c_102 => ?_) (fun c_102 => ?_)
              · exact absurd (by rw [hh.1]) c_102
              · refine lv_aload_n hx hb dL_writes_105 rfl (lv_at hl 6 rfl) ?_
                refine lv_iload hx hb dL_writes_106 (lv_at hl 10 rfl) ?_
                refine w_calli (vx_runSW (As := [.ref (ad 4 0), .int (nI k)]) (rest := []) ⟨hx, hb, hml, hown, hts⟩ (c0_L_changes l hns D B ad g σ (tW D ad (g, σ) (lW D 4 μ)) 0 hI k hk) (vx_cwSW 2 hts gL_writes_L_changes rfl rfl rfl (by decide +kernel) ⟨Nat.le_of_ble_eq_true rfl, Nat.le_of_ble_eq_true rfl⟩) (w_preS hC hP hS) rfl rfl hl.1 rfl (lv_room (Nat.le_of_ble_eq_true rfl)) dL_writes_108 ⟨Nat.le_of_ble_eq_true rfl, Nat.le_of_ble_eq_true rfl⟩) hS (fun r_8 ad1 w1 H locs hq hP hS => ?_)
                obtain ⟨S2, h81, h82, h83⟩ := hq
                cases h82
                cases h81
                subst h83
                refine lv_iload hx hb dL_writes_111 (lv_at hl 4 rfl) ?_
                refine lv_icmp_ne (tgt := 120) hx hb dL_writes_113 (by decide) (fun c_113 => ?_) (fun c_113 => ?_)
                · exact absurd rfl c_113
                · refine lv_iconst (v := 1) hx hb dL_writes_116 (by decide) ?_
                  refine lv_goto (tgt := 121) hx hb dL_writes_117 (by decide) ?_
                  exact W.zret (v := 1) hx hb hr rfl (fun t ht hW => Qi_of ⟨rfl, σ, μ, rfl, Jt_N J (Nat.le_succ N) hN, rfl⟩ hP hS ht) hS.2.2 dL_writes_121
  · have hI2 := Ib_setF (ns := g.2.1) hI hk (show pj < 17 by omega) hv
    refine lv_aload_n hx hb dL_writes_34 rfl (lv_at hl 4 rfl) ?_
    refine lv_iload hx hb dL_writes_35 (lv_at hl 8 rfl) ?_
    refine lv_iload hx hb dL_writes_37 (lv_at hl 9 rfl) ?_
    refine lv_iload hx hb dL_writes_39 (lv_at hl 10 rfl) ?_
    refine w_calli (vx_runSW (As := [.ref (ad 4 0), .int (nI k), .int (nI pj), .int v]) (rest := []) ⟨hx, hb, hml, hown, hts⟩ (c_L_write l hns D B ad g σ (tW D ad (g, σ) (lW D 4 μ)) 0 hI (nI k) (nI pj) v) (vx_cwSW 4 hts gL_writes_L_write rfl rfl rfl (by decide +kernel) ⟨Nat.le_of_ble_eq_true rfl, Nat.le_of_ble_eq_true rfl⟩) (w_preS hC hP hS) rfl rfl hl.1 rfl (lv_room (Nat.le_of_ble_eq_true rfl)) dL_writes_41 ⟨Nat.le_of_ble_eq_true rfl, Nat.le_of_ble_eq_true rfl⟩) hS (fun r_9 ad1 w1 H locs hq hP hS => ?_)
    obtain ⟨S2, h81, h82, h83⟩ := hq
    obtain ⟨h84, h85⟩ := h82 (wr_0 g16 hk h1 h2 hv hh)
    rw [nOf_N (n := k) (by omega), nOf_N (n := pj) (by omega)] at h84 h85
    cases h84
    cases h81
    subst h85
    refine lv_istore (lv' := [(11, .int (vaO (setF g.2.1 k pj v σ) k)), (10, .int (heO σ k)), (9, .int (σ 6 k pj)), (8, .int (σ 5 k 0)), (7, .int (vaO σ k)), (0, .ref (ad 4 0)), (1, .ref (ad 17 0)), (2, .ref (ad 26 2)), (3, .ref (ad 26 3)), (4, .int (nI k)), (5, .int (nI pj)), (6, .int v)]) hx hb dL_writes_44 hl (by decide) rfl (fun ls hl => ?_)
    refine lv_aload_n hx hb dL_writes_46 rfl (lv_at hl 6 rfl) ?_
    refine lv_iload hx hb dL_writes_47 (lv_at hl 9 rfl) ?_
    refine lv_iload hx hb dL_writes_49 (lv_at hl 10 rfl) ?_
    refine lv_iload hx hb dL_writes_51 (lv_at hl 11 rfl) ?_
    refine w_calli (vx_runSW (As := [.ref (ad 17 0), .int (nI k), .int (nI pj), .int v]) (rest := []) ⟨hx, hb, hml, hown, hts⟩ (t_L_write l hns D B ad g σ (g, setF g.2.1 k pj v σ) (lW D 4 μ) hI (nI k) (nI pj) v) (vx_cwSW 4 hts gL_writes_L_write rfl rfl rfl (by decide +kernel) ⟨Nat.le_of_ble_eq_true rfl, Nat.le_of_ble_eq_true rfl⟩) (w_preS hC hP hS) rfl rfl hl.1 rfl (lv_room (Nat.le_of_ble_eq_true rfl)) dL_writes_53 ⟨Nat.le_of_ble_eq_true rfl, Nat.le_of_ble_eq_true rfl⟩) hS (fun r_10 ad1 w1 H locs hq hP hS => ?_)
    obtain ⟨S2, h81, h82, h83⟩ := hq
    obtain ⟨h84, h85⟩ := h82 (wr_0 g16 hk h1 h2 hv hh)
    rw [nOf_N (n := k) (by omega), nOf_N (n := pj) (by omega)] at h84 h85
    cases h84
    cases h81
    subst h85
    refine lv_iload hx hb dL_writes_56 (lv_at hl 0 rfl) ?_
    refine lv_icmp_ne (tgt := 65) hx hb dL_writes_58 (by decide) (fun c_58 => ?_) (fun c_58 => ?_)
    · exact absurd rfl c_58
    · refine lv_iconst (v := 1) hx hb dL_writes_61 (by decide) ?_
      refine lv_goto (tgt := 66) hx hb dL_writes_62 (by decide) ?_
      refine lv_istore (lv' := [(12, .int 1), (11, .int (vaO (setF g.2.1 k pj v σ) k)), (10, .int (heO σ k)), (9, .int (σ 6 k pj)), (8, .int (σ 5 k 0)), (7, .int (vaO σ k)), (0, .ref (ad 4 0)), (1, .ref (ad 17 0)), (2, .ref (ad 26 2)), (3, .ref (ad 26 3)), (4, .int (nI k)), (5, .int (nI pj)), (6, .int v)]) hx hb dL_writes_66 hl (by decide) rfl (fun ls hl => ?_)
      refine w_cut 122 8 48 (fun H locs ls => hw D B ad (eW D ad (g, setF g.2.1 k pj v σ) (g, setF g.2.1 k pj v σ) (lW D 4 μ)) H ∧ va_S (ab B) s.heap H locs ∧ lv_has ls 14 [(12, .int 1), (11, .int (vaO (setF g.2.1 k pj v σ) k)), (10, .int (heO σ k)), (9, .int (σ 6 k pj)), (8, .int (σ 5 k 0)), (7, .int (vaO σ k)), (0, .ref (ad 4 0)), (1, .ref (ad 17 0)), (2, .ref (ad 26 2)), (3, .ref (ad 26 3)), (4, .int (nI k)), (5, .int (nI pj)), (6, .int v)]) (fun H locs ls hJ => ?_) (fun Kx => ?_)
      · obtain ⟨hP, hS, hl⟩ := hJ
        refine lv_iconst (v := 0) hx hb dL_writes_122 (by decide) ?_
        refine lv_istore (lv' := [(13, .int 0), (12, .int 1), (11, .int (vaO (setF g.2.1 k pj v σ) k)), (10, .int (heO σ k)), (9, .int (σ 6 k pj)), (8, .int (σ 5 k 0)), (7, .int (vaO σ k)), (0, .ref (ad 4 0)), (1, .ref (ad 17 0)), (2, .ref (ad 26 2)), (3, .ref (ad 26 3)), (4, .int (nI k)), (5, .int (nI pj)), (6, .int v)]) hx hb dL_writes_123 hl (by decide) rfl (fun ls hl => ?_)
        refine w_ind (fun na H locs ls => ∃ (c : Nat) (μ1 : Me), (c + na = g.2.2) ∧ (Wm μ μ1 σ c k pj) ∧ hw D B ad (eW D ad (g, setF g.2.1 k pj v σ) (g, setF g.2.1 k pj v σ) (lW D 4 μ1)) H ∧ va_S (ab B) s.heap H locs ∧ lv_has ls 14 [(13, .int (nI c)), (12, .int 1), (11, .int (vaO (setF g.2.1 k pj v σ) k)), (10, .int (heO σ k)), (9, .int (σ 6 k pj)), (8, .int (σ 5 k 0)), (7, .int (vaO σ k)), (0, .ref (ad 4 0)), (1, .ref (ad 17 0)), (2, .ref (ad 26 2)), (3, .ref (ad 26 3)), (4, .int (nI k)), (5, .int (nI pj)), (6, .int v)]) ?_ g.2.2 _ _ _ ⟨0, μ, by omega, Wm_0, hP, hS, lv_sub hl [0, 1, 2, 3, 4, 5, 6, 7, 8, 9, 10, 11, 12, 13] rfl⟩
        intro na H locs ls hJa iha
        obtain ⟨c, μ1, hca, hwm, hP, hS, hl⟩ := hJa
        refine lv_iload hx hb dL_writes_125 (lv_at hl 0 rfl) ?_
        refine lv_aload_n hx hb dL_writes_127 rfl (lv_at hl 10 rfl) ?_
        refine lv_iconst (v := 2) hx hb dL_writes_128 (by decide) ?_
        refine w_top (v := nI 2) rfl ?_
        refine w_ildN hx hb hC hP (eW_L (show 3 < 4 by decide)) (show 2 < 3 from by omega) (by decide) (v := nI g.2.2) ((Wm_rd hwm (fun z => absurd z (by decide))).trans l3) dL_writes_129 ?_
        refine lv_icmp_ge (tgt := 179) hx hb dL_writes_130 (by decide) (fun c_130 => ?_) (fun c_130 => ?_)
        · have hc : g.2.2 ≤ c := Nat.not_lt.mp (fun z => absurd c_130 (nI_ge z (by omega)))
          have hcz : c = g.2.2 := by omega
          rw [hcz] at hwm
          have J2 := Wm_J (v := v) J hN hk h2 hv hh hwm
          have hl : lv_has ls 14 [(12, .int 1), (11, .int (vaO (setF g.2.1 k pj v σ) k)), (10, .int (heO σ k)), (9, .int (σ 6 k pj)), (8, .int (σ 5 k 0)), (7, .int (vaO σ k)), (0, .ref (ad 4 0)), (1, .ref (ad 17 0)), (2, .ref (ad 26 2)), (3, .ref (ad 26 3)), (4, .int (nI k)), (5, .int (nI pj)), (6, .int v)] := lv_sub hl [1, 2, 3, 4, 5, 6, 7, 8, 9, 10, 11, 12, 13] rfl
          refine lv_iload hx hb dL_writes_179 (lv_at hl 0 rfl) ?_
          refine lv_if_eq (tgt := 261) hx hb dL_writes_181 (by decide) (fun c_181 => ?_) (fun c_181 => ?_)
          · exact absurd c_181 (by decide)
          · refine w_cut 219 8 48 (fun H locs ls => hw D B ad (eW D ad (g, setF g.2.1 k pj v σ) (g, setF g.2.1 k pj v σ) (lW D 4 μ1)) H ∧ va_S (ab B) s.heap H locs ∧ lv_has ls 14 [(12, .int 1), (11, .int (vaO (setF g.2.1 k pj v σ) k)), (10, .int (heO σ k)), (9, .int (σ 6 k pj)), (8, .int (σ 5 k 0)), (7, .int (vaO σ k)), (0, .ref (ad 4 0)), (1, .ref (ad 17 0)), (2, .ref (ad 26 2)), (3, .ref (ad 26 3)), (4, .int (nI k)), (5, .int (nI pj)), (6, .int v)]) (fun H locs ls hJ => ?_) (fun Ky => ?_)
            · obtain ⟨hP, hS, hl⟩ := hJ
              refine w_cut 239 8 48 (fun H locs ls => hw D B ad (eW D ad (g, setF g.2.1 k pj v σ) (g, setF g.2.1 k pj v σ) (lW D 4 μ1)) H ∧ va_S (ab B) s.heap H locs ∧ lv_has ls 14 [(12, .int 1), (11, .int (vaO (setF g.2.1 k pj v σ) k)), (10, .int (heO σ k)), (9, .int (σ 6 k pj)), (8, .int (σ 5 k 0)), (7, .int (vaO σ k)), (0, .ref (ad 4 0)), (1, .ref (ad 17 0)), (2, .ref (ad 26 2)), (3, .ref (ad 26 3)), (4, .int (nI k)), (5, .int (nI pj)), (6, .int v)]) (fun H locs ls hJ => ?_) (fun Kz => ?_)
              · obtain ⟨hP, hS, hl⟩ := hJ
                refine lv_iload hx hb dL_writes_239 (lv_at hl 12 rfl) ?_
                refine lv_ldc (v := (-100000)) hx hb hown (hts (.constant RL 107 (-100000)) (by decide +kernel)) dL_writes_241 ?_
                refine w_top (v := nth) rfl ?_
                refine lv_icmp_eq (tgt := 257) hx hb dL_writes_243 (by decide) (fun c_243 => ?_) (fun c_243 => ?_)
                · refine lv_iconst (v := 1) hx hb dL_writes_257 (by decide) ?_
                  refine lv_goto (tgt := 262) hx hb dL_writes_258 (by decide) ?_
                  exact W.zret (v := 1) hx hb hr rfl (fun t ht hW => Qi_of ⟨rfl, _, μ1, rfl, J2, setF_n (by decide) (by decide) (by decide) (by decide) (by decide) (by decide) (by decide)⟩ hP hS ht) hS.2.2 dL_writes_262
                · refine lv_aload_n hx hb dL_writes_246 rfl (lv_at hl 6 rfl) ?_
                  refine lv_iload hx hb dL_writes_247 (lv_at hl 10 rfl) ?_
                  refine w_calli (vx_runSW (As := [.ref (ad 4 0), .int (nI k)]) (rest := []) ⟨hx, hb, hml, hown, hts⟩ (c0_L_standing l hns D B ad g (setF g.2.1 k pj v σ) (tW D ad (g, setF g.2.1 k pj v σ) (lW D 4 μ1)) 0 hI2 k hk) (vx_cwSW 2 hts gL_writes_L_standing rfl rfl rfl (by decide +kernel) ⟨Nat.le_of_ble_eq_true rfl, Nat.le_of_ble_eq_true rfl⟩) (w_preS hC hP hS) rfl rfl hl.1 rfl (lv_room (Nat.le_of_ble_eq_true rfl)) dL_writes_249 ⟨Nat.le_of_ble_eq_true rfl, Nat.le_of_ble_eq_true rfl⟩) hS (fun r_11 ad1 w1 H locs hq hP hS => ?_)
                  obtain ⟨S2, h81, h82, h83⟩ := hq
                  cases h82
                  cases h81
                  subst h83
                  refine lv_iload hx hb dL_writes_252 (lv_at hl 11 rfl) ?_
                  refine lv_icmp_gt (tgt := 261) hx hb dL_writes_254 (by decide) (fun c_254 => ?_) (fun c_254 => ?_)
                  · exact absurd c_254 (wr_st hI hk h1 h2 hv c_243)
                  · refine lv_iconst (v := 1) hx hb dL_writes_257 (by decide) ?_
                    refine lv_goto (tgt := 262) hx hb dL_writes_258 (by decide) ?_
                    exact W.zret (v := 1) hx hb hr rfl (fun t ht hW => Qi_of ⟨rfl, _, μ1, rfl, J2, setF_n (by decide) (by decide) (by decide) (by decide) (by decide) (by decide) (by decide)⟩ hP hS ht) hS.2.2 dL_writes_262
              · refine lv_iload hx hb dL_writes_219 (lv_at hl 11 rfl) ?_
                refine lv_bipush (v := (6)) hx hb dL_writes_221 (by decide) ?_
                refine lv_icmp_eq (tgt := 239) hx hb dL_writes_223 (by decide) (fun c_223 => ?_) (fun c_223 => ?_)
                · exact Kz _ _ _ ⟨hP, hS, lv_sub hl [0, 1, 2, 3, 4, 5, 6, 7, 8, 9, 10, 11, 12] rfl⟩
                · refine lv_aload_n hx hb dL_writes_226 rfl (lv_at hl 6 rfl) ?_
                  refine lv_iload hx hb dL_writes_227 (lv_at hl 10 rfl) ?_
                  refine lv_iload hx hb dL_writes_229 (lv_at hl 11 rfl) ?_
                  refine w_calli (vx_runSW (As := [.ref (ad 4 0), .int (nI k), .int (nI pj)]) (rest := []) ⟨hx, hb, hml, hown, hts⟩ (c0_L_command l hns D B ad g (setF g.2.1 k pj v σ) (tW D ad (g, setF g.2.1 k pj v σ) (lW D 4 μ1)) 0 hI2 k hk pj h1 h2) (vx_cwSW 3 hts gL_writes_L_command rfl rfl rfl (by decide +kernel) ⟨Nat.le_of_ble_eq_true rfl, Nat.le_of_ble_eq_true rfl⟩) (w_preS hC hP hS) rfl rfl hl.1 rfl (lv_room (Nat.le_of_ble_eq_true rfl)) dL_writes_231 ⟨Nat.le_of_ble_eq_true rfl, Nat.le_of_ble_eq_true rfl⟩) hS (fun r_12 ad1 w1 H locs hq hP hS => ?_)
                  obtain ⟨S2, h81, h82, h83⟩ := hq
                  cases h82
                  cases h81
                  subst h83
                  refine lv_iload hx hb dL_writes_234 (lv_at hl 12 rfl) ?_
                  refine lv_icmp_ne (tgt := 261) hx hb dL_writes_236 (by decide) (fun c_236 => ?_) (fun c_236 => ?_)
                  · exact absurd (setF_6s (fun z => c_223 (by rw [z]; rfl))) c_236
                  · exact Kz _ _ _ ⟨hP, hS, lv_sub hl [0, 1, 2, 3, 4, 5, 6, 7, 8, 9, 10, 11, 12] rfl⟩
            · refine lv_aload_n hx hb dL_writes_184 rfl (lv_at hl 6 rfl) ?_
              refine lv_iload hx hb dL_writes_185 (lv_at hl 10 rfl) ?_
              refine w_calli (vx_runSW (As := [.ref (ad 4 0), .int (nI k)]) (rest := []) ⟨hx, hb, hml, hown, hts⟩ (c0_L_value l hns D B ad g (setF g.2.1 k pj v σ) (tW D ad (g, setF g.2.1 k pj v σ) (lW D 4 μ1)) 0 hI2 k hk) (vx_cwSW 2 hts gL_writes_L_value rfl rfl rfl (by decide +kernel) ⟨Nat.le_of_ble_eq_true rfl, Nat.le_of_ble_eq_true rfl⟩) (w_preS hC hP hS) rfl rfl hl.1 rfl (lv_room (Nat.le_of_ble_eq_true rfl)) dL_writes_187 ⟨Nat.le_of_ble_eq_true rfl, Nat.le_of_ble_eq_true rfl⟩) hS (fun r_13 ad1 w1 H locs hq hP hS => ?_)
              obtain ⟨S2, h81, h82, h83⟩ := hq
              cases h82
              cases h81
              subst h83
              refine lv_iload hx hb dL_writes_190 (lv_at hl 1 rfl) ?_
              refine lv_icmp_ne (tgt := 261) hx hb dL_writes_192 (by decide) (fun c_192 => ?_) (fun c_192 => ?_)
              · exact absurd rfl c_192
              · refine lv_aload_n hx hb dL_writes_195 rfl (lv_at hl 6 rfl) ?_
                refine lv_iload hx hb dL_writes_196 (lv_at hl 10 rfl) ?_
                refine w_calli (vx_runSW (As := [.ref (ad 4 0), .int (nI k)]) (rest := []) ⟨hx, hb, hml, hown, hts⟩ (c0_L_changes l hns D B ad g (setF g.2.1 k pj v σ) (tW D ad (g, setF g.2.1 k pj v σ) (lW D 4 μ1)) 0 hI2 k hk) (vx_cwSW 2 hts gL_writes_L_changes rfl rfl rfl (by decide +kernel) ⟨Nat.le_of_ble_eq_true rfl, Nat.le_of_ble_eq_true rfl⟩) (w_preS hC hP hS) rfl rfl hl.1 rfl (lv_room (Nat.le_of_ble_eq_true rfl)) dL_writes_198 ⟨Nat.le_of_ble_eq_true rfl, Nat.le_of_ble_eq_true rfl⟩) hS (fun r_14 ad1 w1 H locs hq hP hS => ?_)
                obtain ⟨S2, h81, h82, h83⟩ := hq
                cases h82
                cases h81
                subst h83
                refine lv_iload hx hb dL_writes_201 (lv_at hl 4 rfl) ?_
                refine lv_iload hx hb dL_writes_203 (lv_at hl 1 rfl) ?_
                refine lv_iload hx hb dL_writes_205 (lv_at hl 5 rfl) ?_
                refine lv_icmp_ne (tgt := 214) hx hb dL_writes_207 (by decide) (fun c_207 => ?_) (fun c_207 => ?_)
                · refine lv_iconst (v := 1) hx hb dL_writes_214 (by decide) ?_
                  refine lv_iadd hx hb dL_writes_215 ?_
                  refine lv_icmp_ne (tgt := 261) hx hb dL_writes_216 (by decide) (fun c_216 => ?_) (fun c_216 => ?_)
                  · exact absurd ((wr_5 hI hk (by omega) hv).2 c_207) c_216
                  · exact Ky _ _ _ ⟨hP, hS, lv_sub hl [0, 1, 2, 3, 4, 5, 6, 7, 8, 9, 10, 11, 12] rfl⟩
                · refine lv_iconst (v := 0) hx hb dL_writes_210 (by decide) ?_
                  refine lv_goto (tgt := 215) hx hb dL_writes_211 (by decide) ?_
                  refine lv_iadd hx hb dL_writes_215 ?_
                  refine lv_icmp_ne (tgt := 261) hx hb dL_writes_216 (by decide) (fun c_216 => ?_) (fun c_216 => ?_)
                  · exact absurd ((wr_5 hI hk (by omega) hv).1 c_207) c_216
                  · exact Ky _ _ _ ⟨hP, hS, lv_sub hl [0, 1, 2, 3, 4, 5, 6, 7, 8, 9, 10, 11, 12] rfl⟩
        · have hc : c < g.2.2 := Nat.not_le.mp (fun z => c_130 (nI_le z (by omega)))
          obtain ⟨n8, rfl⟩ : ∃ n8, na = n8 + 1 := ⟨na - 1, by omega⟩
          obtain ⟨i, j, hi, hj1, hj2, e1, e2, e14, e15⟩ := sc_at J hc
          refine lv_aload_n hx hb dL_writes_133 rfl (lv_at hl 9 rfl) ?_
          refine lv_iconst (v := 4) hx hb dL_writes_134 (by decide) ?_
          refine lv_iload hx hb dL_writes_135 (lv_at hl 0 rfl) ?_
          refine lv_imul hx hb dL_writes_137 ?_
          refine w_top (v := nI (4 * c)) (pk_mul 4 c) ?_
          refine lv_iconst (v := 2) hx hb dL_writes_138 (by decide) ?_
          refine lv_iadd hx hb dL_writes_139 ?_
          refine w_top (v := nI ((4 * c) + 2)) (nI_add (4 * c) 2) ?_
          refine lv_dup2_11 hx hb dL_writes_140 rfl rfl ?_
          refine w_ildN hx hb hC hP (eW_L (show 2 < 4 by decide)) (show (4 * c) + 2 < 16 from by omega) (by decide) (v := μ 2 0 (4 * c + 2)) (Wm_rd hwm (fun _ c' hc' => by omega)) dL_writes_141 ?_
          refine lv_aload_n hx hb dL_writes_142 rfl (lv_at hl 9 rfl) ?_
          refine lv_iconst (v := 4) hx hb dL_writes_143 (by decide) ?_
          refine lv_iload hx hb dL_writes_144 (lv_at hl 0 rfl) ?_
          refine lv_imul hx hb dL_writes_146 ?_
          refine w_top (v := nI (4 * c)) (pk_mul 4 c) ?_
          refine w_ildN hx hb hC hP (eW_L (show 2 < 4 by decide)) (show 4 * c < 16 from by omega) (by decide) (v := nI i) ((Wm_rd hwm (fun _ c' _ => by omega)).trans e1) dL_writes_147 ?_
          refine lv_iload hx hb dL_writes_148 (lv_at hl 11 rfl) ?_
          refine lv_icmp_ne (tgt := 170) hx hb dL_writes_150 (by decide) (fun c_150 => ?_) (fun c_150 => ?_)
          · refine lv_iconst (v := 0) hx hb dL_writes_170 (by decide) ?_
            refine lv_ior hx hb dL_writes_171 ?_
            refine w_istN hx hb hC hP hS (eW_L (show 2 < 4 by decide)) (show (4 * c) + 2 < 16 from by omega) (by decide) dL_writes_172 (fun H locs hP hS => ?_)
            have hP := hw_eq hP (eW_put _ (show 2 < 4 by decide))
            refine lv_iinc (v := nI (c + 1)) (lv' := [(13, .int (nI (c + 1))), (12, .int 1), (11, .int (vaO (setF g.2.1 k pj v σ) k)), (10, .int (heO σ k)), (9, .int (σ 6 k pj)), (8, .int (σ 5 k 0)), (7, .int (vaO σ k)), (0, .ref (ad 4 0)), (1, .ref (ad 17 0)), (2, .ref (ad 26 2)), (3, .ref (ad 26 3)), (4, .int (nI k)), (5, .int (nI pj)), (6, .int v)]) hx hb dL_writes_173 hl (k := 0) rfl (nI_add c 1) (by decide) rfl (fun ls hl => ?_)
            refine lv_goto (tgt := 125) hx hb dL_writes_176 (by decide) ?_
            exact iha n8 _ _ _ (by omega) ⟨c + 1, st3 μ1 2 0 ((4 * c) + 2) ((μ 2 0 (4 * c + 2)) ||| 0), by omega, Wm_s hwm (by rw [or_0 (fl_01 J hc)]; exact fl_01 J hc) (fun z => ⟨(or_0 (fl_01 J hc)).symm.trans z, (fun y => c_150 (e14.symm.trans y.1))⟩), hP, hS, lv_sub hl [0, 1, 2, 3, 4, 5, 6, 7, 8, 9, 10, 11, 12, 13] rfl⟩
          · refine lv_aload_n hx hb dL_writes_153 rfl (lv_at hl 9 rfl) ?_
            refine lv_iconst (v := 4) hx hb dL_writes_154 (by decide) ?_
            refine lv_iload hx hb dL_writes_155 (lv_at hl 0 rfl) ?_
            refine lv_imul hx hb dL_writes_157 ?_
            refine w_top (v := nI (4 * c)) (pk_mul 4 c) ?_
            refine lv_iconst (v := 1) hx hb dL_writes_158 (by decide) ?_
            refine lv_iadd hx hb dL_writes_159 ?_
            refine w_top (v := nI ((4 * c) + 1)) (nI_add (4 * c) 1) ?_
            refine w_ildN hx hb hC hP (eW_L (show 2 < 4 by decide)) (show (4 * c) + 1 < 16 from by omega) (by decide) (v := nI j) ((Wm_rd hwm (fun _ c' _ => by omega)).trans e2) dL_writes_160 ?_
            refine lv_iload hx hb dL_writes_161 (lv_at hl 12 rfl) ?_
            refine lv_icmp_ne (tgt := 170) hx hb dL_writes_163 (by decide) (fun c_163 => ?_) (fun c_163 => ?_)
            · refine lv_iconst (v := 0) hx hb dL_writes_170 (by decide) ?_
              refine lv_ior hx hb dL_writes_171 ?_
              refine w_istN hx hb hC hP hS (eW_L (show 2 < 4 by decide)) (show (4 * c) + 2 < 16 from by omega) (by decide) dL_writes_172 (fun H locs hP hS => ?_)
              have hP := hw_eq hP (eW_put _ (show 2 < 4 by decide))
              refine lv_iinc (v := nI (c + 1)) (lv' := [(13, .int (nI (c + 1))), (12, .int 1), (11, .int (vaO (setF g.2.1 k pj v σ) k)), (10, .int (heO σ k)), (9, .int (σ 6 k pj)), (8, .int (σ 5 k 0)), (7, .int (vaO σ k)), (0, .ref (ad 4 0)), (1, .ref (ad 17 0)), (2, .ref (ad 26 2)), (3, .ref (ad 26 3)), (4, .int (nI k)), (5, .int (nI pj)), (6, .int v)]) hx hb dL_writes_173 hl (k := 0) rfl (nI_add c 1) (by decide) rfl (fun ls hl => ?_)
              refine lv_goto (tgt := 125) hx hb dL_writes_176 (by decide) ?_
              exact iha n8 _ _ _ (by omega) ⟨c + 1, st3 μ1 2 0 ((4 * c) + 2) ((μ 2 0 (4 * c + 2)) ||| 0), by omega, Wm_s hwm (by rw [or_0 (fl_01 J hc)]; exact fl_01 J hc) (fun z => ⟨(or_0 (fl_01 J hc)).symm.trans z, (fun y => c_163 (e15.symm.trans y.2))⟩), hP, hS, lv_sub hl [0, 1, 2, 3, 4, 5, 6, 7, 8, 9, 10, 11, 12, 13] rfl⟩
            · refine lv_iconst (v := 1) hx hb dL_writes_166 (by decide) ?_
              refine lv_goto (tgt := 171) hx hb dL_writes_167 (by decide) ?_
              refine lv_ior hx hb dL_writes_171 ?_
              refine w_istN hx hb hC hP hS (eW_L (show 2 < 4 by decide)) (show (4 * c) + 2 < 16 from by omega) (by decide) dL_writes_172 (fun H locs hP hS => ?_)
              have hP := hw_eq hP (eW_put _ (show 2 < 4 by decide))
              refine lv_iinc (v := nI (c + 1)) (lv' := [(13, .int (nI (c + 1))), (12, .int 1), (11, .int (vaO (setF g.2.1 k pj v σ) k)), (10, .int (heO σ k)), (9, .int (σ 6 k pj)), (8, .int (σ 5 k 0)), (7, .int (vaO σ k)), (0, .ref (ad 4 0)), (1, .ref (ad 17 0)), (2, .ref (ad 26 2)), (3, .ref (ad 26 3)), (4, .int (nI k)), (5, .int (nI pj)), (6, .int v)]) hx hb dL_writes_173 hl (k := 0) rfl (nI_add c 1) (by decide) rfl (fun ls hl => ?_)
              refine lv_goto (tgt := 125) hx hb dL_writes_176 (by decide) ?_
              exact iha n8 _ _ _ (by omega) ⟨c + 1, st3 μ1 2 0 ((4 * c) + 2) ((μ 2 0 (4 * c + 2)) ||| 1), by omega, Wm_s hwm (Or.inr (or_1 (fl_01 J hc))) (fun z => absurd ((or_1 (fl_01 J hc)).symm.trans z) (by decide)), hP, hS, lv_sub hl [0, 1, 2, 3, 4, 5, 6, 7, 8, 9, 10, 11, 12, 13] rfl⟩
      · refine lv_iload hx hb dL_writes_68 (lv_at hl 11 rfl) ?_
        refine lv_bipush (v := (6)) hx hb dL_writes_70 (by decide) ?_
        refine lv_icmp_ne (tgt := 122) hx hb dL_writes_72 (by decide) (fun c_72 => ?_) (fun c_72 => ?_)
        · exact Kx _ _ _ ⟨hP, hS, lv_sub hl [0, 1, 2, 3, 4, 5, 6, 7, 8, 9, 10, 11, 12] rfl⟩
        · refine lv_iload hx hb dL_writes_75 (lv_at hl 2 rfl) ?_
          refine lv_if_le (tgt := 122) hx hb dL_writes_77 (by decide) (fun c_77 => ?_) (fun c_77 => ?_)
          · exact Kx _ _ _ ⟨hP, hS, lv_sub hl [0, 1, 2, 3, 4, 5, 6, 7, 8, 9, 10, 11, 12] rfl⟩
          · exact absurd (by rw [he_zero (wr_6 hh ((nI_eq (a := pj) (b := 6) (by omega) (by decide)).mp c_72))]; decide) c_77
