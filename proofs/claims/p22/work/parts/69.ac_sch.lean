/-! p22: acts: a schedule more -/
set_option maxHeartbeats 4000000 in
set_option maxRecDepth 100000 in
theorem ac_sch {p : Program} {l : Launch} {e : Env} {s : State} {m : MethodId} {args : Array Value} {below : List Frame} {meth : Method} {c : Code} {D : va_G} {B : Nat} (A : AcA p l s m args c D B) {Q : State → Prop} {ad : Ad} {np ns nc : Nat} {σ μ : Me} {t N : Nat} (J : Jt t N (np, ns, nc) σ μ) (hN : N + 4001 < 900000) (ht : t + 200 ≤ 900000) {x y : Int32} {k : Nat} (hk : k < np) {H : Heap} {locs : List Loc} {ls : Array Slot} (hP : hw D B ad (eW D ad ((np, ns, nc), σ) ((np, ns, nc), σ) (lW D 4 μ)) H) (hS : va_S (ab B) s.heap H locs) (hl : lv_has ls 20 [(9, .int (nI k)), (0, .ref (ad 4 0)), (1, .ref (ad 17 0)), (2, .ref (ad 26 0)), (3, .ref (ad 26 1)), (4, .ref (ad 26 2)), (5, .ref (ad 26 3)), (6, .int x), (7, .int y)]) (K : AcK p l e s m args below meth c D B ad t N Q) : W p l e (headSpec wsL_acts rmA).room s m args below meth c H locs 0 0 Q (F0 m 849 ls []) := by
  obtain ⟨hns, hx, hb, hml, hown, hts, hC⟩ := A
  have hI := Jt_I J
  have g16 : np ≤ 16 := hI.1
  have g30 : ns ≤ 30 := hI.2.1
  have g4 : nc ≤ 4 := hI.2.2.1
  obtain ⟨l1, l2, l3, -⟩ := J.2.2.2.2.2.1
  refine lv_bipush (v := (7)) hx hb dL_acts_849 (by decide) ?_
  refine lv_iload hx hb dL_acts_851 (lv_at hl 8 rfl) ?_
  refine lv_bipush (v := (10)) hx hb dL_acts_853 (by decide) ?_
  refine w_calli (va_runS (As := [.int y, .int 10]) (rest := [.int 7]) ⟨hx, hb, hml, hown, hts⟩ (c_L_low l D B ad (eW D ad ((np, ns, nc), σ) ((np, ns, nc), σ) (lW D 4 μ)) y 10 (by decide)) (va_cwS 2 hts gL_acts_L_low rfl rfl rfl (by decide +kernel) ⟨Nat.le_of_ble_eq_true rfl, Nat.le_of_ble_eq_true rfl⟩) (w_preS hC hP hS) rfl rfl hl.1 rfl (lv_room (Nat.le_of_ble_eq_true rfl)) dL_acts_855 ⟨Nat.le_of_ble_eq_true rfl, Nat.le_of_ble_eq_true rfl⟩) hS (fun r_1 ad1 w1 H locs hq hP hS => ?_)
  obtain ⟨h81, h82⟩ := hq
  cases h81
  subst h82
  obtain ⟨i1, hi1, ei1⟩ := low_lt (y) (k := 10) (by omega) (by omega)
  refine w_top (v := nI i1) ei1 ?_
  refine lv_iadd hx hb dL_acts_858 ?_
  refine w_top (v := nI (7 + i1)) (nI_add 7 i1) ?_
  refine lv_istore (lv' := [(12, .int (nI (7 + i1))), (9, .int (nI k)), (0, .ref (ad 4 0)), (1, .ref (ad 17 0)), (2, .ref (ad 26 0)), (3, .ref (ad 26 1)), (4, .ref (ad 26 2)), (5, .ref (ad 26 3)), (6, .int x), (7, .int y)]) hx hb dL_acts_859 hl (by decide) rfl (fun ls hl => ?_)
  refine lv_aload hx hb dL_acts_861 (lv_at hl 7 rfl) ?_
  refine lv_iconst (v := 2) hx hb dL_acts_863 (by decide) ?_
  refine w_top (v := nI 2) rfl ?_
  refine w_ildN hx hb hC hP (eW_L (show 3 < 4 by decide)) (show 2 < 3 from by omega) (by decide) (v := nI nc) l3 dL_acts_864 ?_
  refine lv_iconst (v := 4) hx hb dL_acts_865 (by decide) ?_
  refine lv_icmp_ge (tgt := 876) hx hb dL_acts_866 (by decide) (fun c_866 => ?_) (fun c_866 => ?_)
  · have hfull : ¬ nc < 4 := fun z => (nI_ge (b := 4) z (by decide)) c_866
    refine lv_ldc (v := (-1000003)) hx hb hown (hts (.constant RL 21 (-1000003)) (by decide +kernel)) dL_acts_876 ?_
    refine lv_istore (lv' := [(13, .int (-1000003)), (12, .int (nI (7 + i1))), (9, .int (nI k)), (0, .ref (ad 4 0)), (1, .ref (ad 17 0)), (2, .ref (ad 26 0)), (3, .ref (ad 26 1)), (4, .ref (ad 26 2)), (5, .ref (ad 26 3)), (6, .int x), (7, .int y)]) hx hb dL_acts_878 hl (by decide) rfl (fun ls hl => ?_)
    refine lv_iload hx hb dL_acts_880 (lv_at hl 0 rfl) ?_
    refine lv_if_lt (tgt := 1043) hx hb dL_acts_882 (by decide) (fun c_882 => ?_) (fun c_882 => ?_)
    · refine lv_aload_n hx hb dL_acts_1043 rfl (lv_at hl 3 rfl) ?_
      refine lv_iload hx hb dL_acts_1044 (lv_at hl 2 rfl) ?_
      refine lv_iload hx hb dL_acts_1046 (lv_at hl 1 rfl) ?_
      refine w_calli (vx_runSW (As := [.ref (ad 4 0), .int (nI k), .int (nI (7 + i1))]) (rest := []) ⟨hx, hb, hml, hown, hts⟩ (c_L_addSchedule l hns D B ad np ns nc σ (tW D ad ((np, ns, nc), σ) (lW D 4 μ)) 0 hI J.2.1 (nI k) (nI (7 + i1))) (vx_cwSW 3 hts gL_acts_L_addSchedule rfl rfl rfl (by decide +kernel) ⟨Nat.le_of_ble_eq_true rfl, Nat.le_of_ble_eq_true rfl⟩) (w_preS hC hP hS) rfl rfl hl.1 rfl (lv_room (Nat.le_of_ble_eq_true rfl)) dL_acts_1048 ⟨Nat.le_of_ble_eq_true rfl, Nat.le_of_ble_eq_true rfl⟩) hS (fun r_2 ad_1 w1 H locs hq hP hS => ?_)
      obtain ⟨ad9, S2, h81, hkp, h82, h83⟩ := hq
      obtain ⟨h84, h85⟩ := h83 (ne_3 (ac_3 hk (lo_b7 hi1) hfull))
      cases h84
      cases h81
      subst h85
      refine w_top (v := (-1000003)) (en_3 (ac_3 hk (lo_b7 hi1) hfull)) ?_
      have hP := hw_ado hP hkp
      have kp1 : kpA ad ad_1 := kpA_o kpA_r hkp
      have hl : lv_has ls 20 [(13, .int (-1000003)), (12, .int (nI (7 + i1))), (9, .int (nI k)), (0, .ref (ad_1 4 0)), (1, .ref (ad_1 17 0)), (2, .ref (ad_1 26 0)), (3, .ref (ad_1 26 1)), (4, .ref (ad_1 26 2)), (5, .ref (ad_1 26 3)), (6, .int x), (7, .int y)] := by rw [hkp 4 0 (by omega), hkp 17 0 (by omega), hkp 26 0 (by omega), hkp 26 1 (by omega), hkp 26 2 (by omega), hkp 26 3 (by omega)]; exact hl
      refine lv_iload hx hb dL_acts_1051 (lv_at hl 0 rfl) ?_
      refine lv_icmp_ne (tgt := 1097) hx hb dL_acts_1053 (by decide) (fun c_1053 => ?_) (fun c_1053 => ?_)
      · exact absurd c_1053 (by decide)
      · refine lv_aload_n hx hb dL_acts_1056 rfl (lv_at hl 4 rfl) ?_
        refine lv_iload hx hb dL_acts_1057 (lv_at hl 2 rfl) ?_
        refine lv_iload hx hb dL_acts_1059 (lv_at hl 1 rfl) ?_
        refine w_calli (vx_runSW (As := [.ref (ad_1 17 0), .int (nI k), .int (nI (7 + i1))]) (rest := []) ⟨hx, hb, hml, hown, hts⟩ (t_L_addSchedule l hns D B ad_1 np ns nc σ ((np, ns, nc), σ) (lW D 4 μ) hI J.2.1 (nI k) (nI (7 + i1))) (vx_cwSW 3 hts gL_acts_L_addSchedule rfl rfl rfl (by decide +kernel) ⟨Nat.le_of_ble_eq_true rfl, Nat.le_of_ble_eq_true rfl⟩) (w_preS hC hP hS) rfl rfl hl.1 rfl (lv_room (Nat.le_of_ble_eq_true rfl)) dL_acts_1061 ⟨Nat.le_of_ble_eq_true rfl, Nat.le_of_ble_eq_true rfl⟩) hS (fun r_3 ad_2 w1 H locs hq hP hS => ?_)
        obtain ⟨ad9, S2, h81, hkp, h82, h83⟩ := hq
        obtain ⟨h84, h85⟩ := h83 (ne_3 (ac_3 hk (lo_b7 hi1) hfull))
        cases h84
        cases h81
        subst h85
        refine w_top (v := (-1000003)) (en_3 (ac_3 hk (lo_b7 hi1) hfull)) ?_
        have kp2 : kpA ad ad_2 := kpA_t kp1 hkp
        have hl : lv_has ls 20 [(13, .int (-1000003)), (12, .int (nI (7 + i1))), (9, .int (nI k)), (0, .ref (ad_2 4 0)), (1, .ref (ad_2 17 0)), (2, .ref (ad_2 26 0)), (3, .ref (ad_2 26 1)), (4, .ref (ad_2 26 2)), (5, .ref (ad_2 26 3)), (6, .int x), (7, .int y)] := by rw [hkp 4 0 (by omega), hkp 17 0 (by omega), hkp 26 0 (by omega), hkp 26 1 (by omega), hkp 26 2 (by omega), hkp 26 3 (by omega)]; exact hl
        refine lv_iload hx hb dL_acts_1064 (lv_at hl 0 rfl) ?_
        refine lv_icmp_ne (tgt := 1097) hx hb dL_acts_1066 (by decide) (fun c_1066 => ?_) (fun c_1066 => ?_)
        · exact absurd c_1066 (by decide)
        · refine lv_aload_n hx hb dL_acts_1069 rfl (lv_at hl 3 rfl) ?_
          refine lv_iload hx hb dL_acts_1070 (lv_at hl 2 rfl) ?_
          refine lv_bipush (v := (6)) hx hb dL_acts_1072 (by decide) ?_
          refine w_calli (vx_runSW (As := [.ref (ad_2 4 0), .int (nI k), .int 6]) (rest := []) ⟨hx, hb, hml, hown, hts⟩ (c_L_addSchedule l hns D B ad_2 np ns nc σ (tW D ad_2 ((np, ns, nc), σ) (lW D 4 μ)) 0 hI J.2.1 (nI k) 6) (vx_cwSW 3 hts gL_acts_L_addSchedule rfl rfl rfl (by decide +kernel) ⟨Nat.le_of_ble_eq_true rfl, Nat.le_of_ble_eq_true rfl⟩) (w_preS hC hP hS) rfl rfl hl.1 rfl (lv_room (Nat.le_of_ble_eq_true rfl)) dL_acts_1074 ⟨Nat.le_of_ble_eq_true rfl, Nat.le_of_ble_eq_true rfl⟩) hS (fun r_4 ad_3 w1 H locs hq hP hS => ?_)
          obtain ⟨ad9, S2, h81, hkp, h82, h83⟩ := hq
          obtain ⟨h84, h85⟩ := h83 (ne_2 (ac_2 hk (fun z => absurd z.1 (by decide))))
          cases h84
          cases h81
          subst h85
          refine w_top (v := (-1000002)) (en_2 (ac_2 hk (fun z => absurd z.1 (by decide)))) ?_
          have hP := hw_ado hP hkp
          have kp3 : kpA ad ad_3 := kpA_o kp2 hkp
          have hl : lv_has ls 20 [(13, .int (-1000003)), (12, .int (nI (7 + i1))), (9, .int (nI k)), (0, .ref (ad_3 4 0)), (1, .ref (ad_3 17 0)), (2, .ref (ad_3 26 0)), (3, .ref (ad_3 26 1)), (4, .ref (ad_3 26 2)), (5, .ref (ad_3 26 3)), (6, .int x), (7, .int y)] := by rw [hkp 4 0 (by omega), hkp 17 0 (by omega), hkp 26 0 (by omega), hkp 26 1 (by omega), hkp 26 2 (by omega), hkp 26 3 (by omega)]; exact hl
          refine lv_ldc (v := (-1000002)) hx hb hown (hts (.constant RL 18 (-1000002)) (by decide +kernel)) dL_acts_1077 ?_
          refine lv_icmp_ne (tgt := 1097) hx hb dL_acts_1079 (by decide) (fun c_1079 => ?_) (fun c_1079 => ?_)
          · exact absurd c_1079 (by decide)
          · refine lv_aload_n hx hb dL_acts_1082 rfl (lv_at hl 3 rfl) ?_
            refine lv_iconst (v := (-1)) hx hb dL_acts_1083 (by decide) ?_
            refine lv_iconst (v := 0) hx hb dL_acts_1084 (by decide) ?_
            refine w_calli (vx_runSW (As := [.ref (ad_3 4 0), .int (-1), .int 0]) (rest := []) ⟨hx, hb, hml, hown, hts⟩ (c_L_addSchedule l hns D B ad_3 np ns nc σ (tW D ad_3 ((np, ns, nc), σ) (lW D 4 μ)) 0 hI J.2.1 (-1) 0) (vx_cwSW 3 hts gL_acts_L_addSchedule rfl rfl rfl (by decide +kernel) ⟨Nat.le_of_ble_eq_true rfl, Nat.le_of_ble_eq_true rfl⟩) (w_preS hC hP hS) rfl rfl hl.1 rfl (lv_room (Nat.le_of_ble_eq_true rfl)) dL_acts_1085 ⟨Nat.le_of_ble_eq_true rfl, Nat.le_of_ble_eq_true rfl⟩) hS (fun r_5 ad_4 w1 H locs hq hP hS => ?_)
            obtain ⟨ad9, S2, h81, hkp, h82, h83⟩ := hq
            obtain ⟨h84, h85⟩ := h83 (ne_1 (ac_1 (no_m1 (by omega))))
            cases h84
            cases h81
            subst h85
            refine w_top (v := (-1000001)) (en_1 (ac_1 (no_m1 (by omega)))) ?_
            have hP := hw_ado hP hkp
            have kp4 : kpA ad ad_4 := kpA_o kp3 hkp
            have hl : lv_has ls 20 [(13, .int (-1000003)), (12, .int (nI (7 + i1))), (9, .int (nI k)), (0, .ref (ad_4 4 0)), (1, .ref (ad_4 17 0)), (2, .ref (ad_4 26 0)), (3, .ref (ad_4 26 1)), (4, .ref (ad_4 26 2)), (5, .ref (ad_4 26 3)), (6, .int x), (7, .int y)] := by rw [hkp 4 0 (by omega), hkp 17 0 (by omega), hkp 26 0 (by omega), hkp 26 1 (by omega), hkp 26 2 (by omega), hkp 26 3 (by omega)]; exact hl
            refine lv_ldc (v := (-1000001)) hx hb hown (hts (.constant RL 32 (-1000001)) (by decide +kernel)) dL_acts_1088 ?_
            refine lv_icmp_ne (tgt := 1097) hx hb dL_acts_1090 (by decide) (fun c_1090 => ?_) (fun c_1090 => ?_)
            · exact absurd c_1090 (by decide)
            · refine lv_iconst (v := 1) hx hb dL_acts_1093 (by decide) ?_
              refine lv_goto (tgt := 1098) hx hb dL_acts_1094 (by decide) ?_
              refine W.widen (k := 60) (n := 700) (Nat.le_of_ble_eq_true rfl) (Nat.le_of_ble_eq_true rfl) ?_
              exact K 1098 H locs ls ad_4 (np, ns, nc) σ μ t N dL_acts_1098 hP hS kp4 J (by omega) (by omega)
    · exact absurd c_882 (by decide)
  · have hroom : nc < 4 := Nat.not_le.mp (fun z => c_866 (nI_le (a := 4) z (by omega)))
    refine lv_aload hx hb dL_acts_869 (lv_at hl 7 rfl) ?_
    refine lv_iconst (v := 2) hx hb dL_acts_871 (by decide) ?_
    refine w_top (v := nI 2) rfl ?_
    refine w_ildN hx hb hC hP (eW_L (show 3 < 4 by decide)) (show 2 < 3 from by omega) (by decide) (v := nI nc) l3 dL_acts_872 ?_
    refine lv_goto (tgt := 878) hx hb dL_acts_873 (by decide) ?_
    refine lv_istore (lv' := [(13, .int (nI nc)), (12, .int (nI (7 + i1))), (9, .int (nI k)), (0, .ref (ad 4 0)), (1, .ref (ad 17 0)), (2, .ref (ad 26 0)), (3, .ref (ad 26 1)), (4, .ref (ad 26 2)), (5, .ref (ad 26 3)), (6, .int x), (7, .int y)]) hx hb dL_acts_878 hl (by decide) rfl (fun ls hl => ?_)
    refine lv_iload hx hb dL_acts_880 (lv_at hl 0 rfl) ?_
    refine lv_if_lt (tgt := 1043) hx hb dL_acts_882 (by decide) (fun c_882 => ?_) (fun c_882 => ?_)
    · exact absurd c_882 (nI_pos (by omega))
    · refine w_cut 942 0 0 (fun H locs ls => ∃ (μ0 : Me), (Sm μ μ0 σ 0 nc k (7 + i1)) ∧ hw D B ad (eW D ad ((np, ns, nc), σ) ((np, ns, nc), σ) (lW D 4 μ0)) H ∧ va_S (ab B) s.heap H locs ∧ lv_has ls 20 [(13, .int (nI nc)), (12, .int (nI (7 + i1))), (9, .int (nI k)), (0, .ref (ad 4 0)), (1, .ref (ad 17 0)), (2, .ref (ad 26 0)), (3, .ref (ad 26 1)), (4, .ref (ad 26 2)), (5, .ref (ad 26 3)), (6, .int x), (7, .int y)]) (fun H locs ls hJ => ?_) (fun Kx => ?_)
      · obtain ⟨μ0, hs0, hP, hS, hl⟩ := hJ
        refine lv_iconst (v := 0) hx hb dL_acts_942 (by decide) ?_
        refine lv_istore (lv' := [(14, .int 0), (13, .int (nI nc)), (12, .int (nI (7 + i1))), (9, .int (nI k)), (0, .ref (ad 4 0)), (1, .ref (ad 17 0)), (2, .ref (ad 26 0)), (3, .ref (ad 26 1)), (4, .ref (ad 26 2)), (5, .ref (ad 26 3)), (6, .int x), (7, .int y)]) hx hb dL_acts_943 hl (by decide) rfl (fun ls hl => ?_)
        refine w_ind (fun na H locs ls => ∃ (c : Nat) (μ1 : Me), (c + na = nc) ∧ (Sm μ μ1 σ c nc k (7 + i1)) ∧ hw D B ad (eW D ad ((np, ns, nc), σ) ((np, ns, nc), σ) (lW D 4 μ1)) H ∧ va_S (ab B) s.heap H locs ∧ lv_has ls 20 [(14, .int (nI c)), (13, .int (nI nc)), (12, .int (nI (7 + i1))), (9, .int (nI k)), (0, .ref (ad 4 0)), (1, .ref (ad 17 0)), (2, .ref (ad 26 0)), (3, .ref (ad 26 1)), (4, .ref (ad 26 2)), (5, .ref (ad 26 3)), (6, .int x), (7, .int y)]) ?_ nc _ _ _ ⟨0, μ0, by omega, hs0, hP, hS, lv_sub hl [0, 1, 2, 3, 4, 5, 6, 7, 8, 9, 10, 11] rfl⟩
        intro na H locs ls hJa iha
        obtain ⟨c, μ1, hca, hsm, hP, hS, hl⟩ := hJa
        refine lv_iload hx hb dL_acts_945 (lv_at hl 0 rfl) ?_
        refine lv_iload hx hb dL_acts_947 (lv_at hl 1 rfl) ?_
        refine lv_icmp_ge (tgt := 1035) hx hb dL_acts_949 (by decide) (fun c_949 => ?_) (fun c_949 => ?_)
        · have hc : nc ≤ c := Nat.not_lt.mp (fun z => absurd c_949 (nI_ge z (by omega)))
          have hcz : c = nc := by omega
          rw [hcz] at hsm
          have hl : lv_has ls 20 [(13, .int (nI nc)), (12, .int (nI (7 + i1))), (9, .int (nI k)), (0, .ref (ad 4 0)), (1, .ref (ad 17 0)), (2, .ref (ad 26 0)), (3, .ref (ad 26 1)), (4, .ref (ad 26 2)), (5, .ref (ad 26 3)), (6, .int x), (7, .int y)] := lv_sub hl [1, 2, 3, 4, 5, 6, 7, 8, 9, 10, 11] rfl
          refine lv_aload hx hb dL_acts_1035 (lv_at hl 8 rfl) ?_
          refine lv_iconst (v := 2) hx hb dL_acts_1037 (by decide) ?_
          refine lv_dup2_11 hx hb dL_acts_1038 rfl rfl ?_
          refine w_top (v := nI 2) rfl ?_
          refine w_ildN hx hb hC hP (eW_L (show 3 < 4 by decide)) (show 2 < 3 from by omega) (by decide) (v := nI nc) ((Sm_rd hsm (fun z => absurd z (by decide))).trans l3) dL_acts_1039 ?_
          refine lv_iconst (v := 1) hx hb dL_acts_1040 (by decide) ?_
          refine lv_iadd hx hb dL_acts_1041 ?_
          refine w_top (v := nI (nc + 1)) (nI_add nc 1) ?_
          refine w_top2 (v := nI 2) rfl ?_
          refine w_istN hx hb hC hP hS (eW_L (show 3 < 4 by decide)) (show 2 < 3 from by omega) (by decide) dL_acts_1042 (fun H locs hP hS => ?_)
          have hP := hw_eq hP (eW_put _ (show 3 < 4 by decide))
          refine lv_aload_n hx hb dL_acts_1043 rfl (lv_at hl 3 rfl) ?_
          refine lv_iload hx hb dL_acts_1044 (lv_at hl 2 rfl) ?_
          refine lv_iload hx hb dL_acts_1046 (lv_at hl 1 rfl) ?_
          have J2 := Sm_J J hroom hk (by omega) (by omega) hsm
          have hI2 := Jt_I J2
          refine w_calli (vx_runSW (As := [.ref (ad 4 0), .int (nI k), .int (nI (7 + i1))]) (rest := []) ⟨hx, hb, hml, hown, hts⟩ (c_L_addSchedule l hns D B ad np ns nc σ (tW D ad ((np, ns, nc), σ) (lW D 4 (st3 μ1 3 0 2 (nI (nc + 1))))) 0 hI J.2.1 (nI k) (nI (7 + i1))) (vx_cwSW 3 hts gL_acts_L_addSchedule rfl rfl rfl (by decide +kernel) ⟨Nat.le_of_ble_eq_true rfl, Nat.le_of_ble_eq_true rfl⟩) (w_preS hC hP hS) rfl rfl hl.1 rfl (lv_room (Nat.le_of_ble_eq_true rfl)) dL_acts_1048 ⟨Nat.le_of_ble_eq_true rfl, Nat.le_of_ble_eq_true rfl⟩) hS (fun r_6 ad_1 w1 H locs hq hP hS => ?_)
          obtain ⟨ad9, S2, h81, hkp, h82, h83⟩ := hq
          obtain ⟨h84, h85⟩ := h82 (ac_0 hk (lo_b7 hi1) hroom)
          cases h84
          cases h81
          subst h85
          have hP := hw_ado hP hkp
          have kp1 : kpA ad ad_1 := kpA_o kpA_r hkp
          have hl : lv_has ls 20 [(13, .int (nI nc)), (12, .int (nI (7 + i1))), (9, .int (nI k)), (0, .ref (ad_1 4 0)), (1, .ref (ad_1 17 0)), (2, .ref (ad_1 26 0)), (3, .ref (ad_1 26 1)), (4, .ref (ad_1 26 2)), (5, .ref (ad_1 26 3)), (6, .int x), (7, .int y)] := by rw [hkp 4 0 (by omega), hkp 17 0 (by omega), hkp 26 0 (by omega), hkp 26 1 (by omega), hkp 26 2 (by omega), hkp 26 3 (by omega)]; exact hl
          refine lv_iload hx hb dL_acts_1051 (lv_at hl 0 rfl) ?_
          refine lv_icmp_ne (tgt := 1097) hx hb dL_acts_1053 (by decide) (fun c_1053 => ?_) (fun c_1053 => ?_)
          · exact absurd rfl c_1053
          · refine lv_aload_n hx hb dL_acts_1056 rfl (lv_at hl 4 rfl) ?_
            refine lv_iload hx hb dL_acts_1057 (lv_at hl 2 rfl) ?_
            refine lv_iload hx hb dL_acts_1059 (lv_at hl 1 rfl) ?_
            refine w_calli (vx_runSW (As := [.ref (ad_1 17 0), .int (nI k), .int (nI (7 + i1))]) (rest := []) ⟨hx, hb, hml, hown, hts⟩ (t_L_addSchedule l hns D B ad_1 np ns nc σ ((np, ns, nc + 1), schF nc (nI k) (nI (7 + i1)) σ) (lW D 4 (st3 μ1 3 0 2 (nI (nc + 1)))) hI J.2.1 (nI k) (nI (7 + i1))) (vx_cwSW 3 hts gL_acts_L_addSchedule rfl rfl rfl (by decide +kernel) ⟨Nat.le_of_ble_eq_true rfl, Nat.le_of_ble_eq_true rfl⟩) (w_preS hC hP hS) rfl rfl hl.1 rfl (lv_room (Nat.le_of_ble_eq_true rfl)) dL_acts_1061 ⟨Nat.le_of_ble_eq_true rfl, Nat.le_of_ble_eq_true rfl⟩) hS (fun r_7 ad_2 w1 H locs hq hP hS => ?_)
            obtain ⟨ad9, S2, h81, hkp, h82, h83⟩ := hq
            obtain ⟨h84, h85⟩ := h82 (ac_0 hk (lo_b7 hi1) hroom)
            cases h84
            cases h81
            subst h85
            have kp2 : kpA ad ad_2 := kpA_t kp1 hkp
            have hl : lv_has ls 20 [(13, .int (nI nc)), (12, .int (nI (7 + i1))), (9, .int (nI k)), (0, .ref (ad_2 4 0)), (1, .ref (ad_2 17 0)), (2, .ref (ad_2 26 0)), (3, .ref (ad_2 26 1)), (4, .ref (ad_2 26 2)), (5, .ref (ad_2 26 3)), (6, .int x), (7, .int y)] := by rw [hkp 4 0 (by omega), hkp 17 0 (by omega), hkp 26 0 (by omega), hkp 26 1 (by omega), hkp 26 2 (by omega), hkp 26 3 (by omega)]; exact hl
            refine lv_iload hx hb dL_acts_1064 (lv_at hl 0 rfl) ?_
            refine lv_icmp_ne (tgt := 1097) hx hb dL_acts_1066 (by decide) (fun c_1066 => ?_) (fun c_1066 => ?_)
            · exact absurd rfl c_1066
            · refine lv_aload_n hx hb dL_acts_1069 rfl (lv_at hl 3 rfl) ?_
              refine lv_iload hx hb dL_acts_1070 (lv_at hl 2 rfl) ?_
              refine lv_bipush (v := (6)) hx hb dL_acts_1072 (by decide) ?_
              refine w_calli (vx_runSW (As := [.ref (ad_2 4 0), .int (nI k), .int 6]) (rest := []) ⟨hx, hb, hml, hown, hts⟩ (c_L_addSchedule l hns D B ad_2 np ns (nc + 1) (schF nc (nI k) (nI (7 + i1)) σ) (tW D ad_2 ((np, ns, nc + 1), schF nc (nI k) (nI (7 + i1)) σ) (lW D 4 (st3 μ1 3 0 2 (nI (nc + 1))))) 0 hI2 J2.2.1 (nI k) 6) (vx_cwSW 3 hts gL_acts_L_addSchedule rfl rfl rfl (by decide +kernel) ⟨Nat.le_of_ble_eq_true rfl, Nat.le_of_ble_eq_true rfl⟩) (w_preS hC hP hS) rfl rfl hl.1 rfl (lv_room (Nat.le_of_ble_eq_true rfl)) dL_acts_1074 ⟨Nat.le_of_ble_eq_true rfl, Nat.le_of_ble_eq_true rfl⟩) hS (fun r_8 ad_3 w1 H locs hq hP hS => ?_)
              obtain ⟨ad9, S2, h81, hkp, h82, h83⟩ := hq
              obtain ⟨h84, h85⟩ := h83 (ne_2 (ac_2 hk (fun z => absurd z.1 (by decide))))
              cases h84
              cases h81
              subst h85
              refine w_top (v := (-1000002)) (en_2 (ac_2 hk (fun z => absurd z.1 (by decide)))) ?_
              have hP := hw_ado hP hkp
              have kp3 : kpA ad ad_3 := kpA_o kp2 hkp
              have hl : lv_has ls 20 [(13, .int (nI nc)), (12, .int (nI (7 + i1))), (9, .int (nI k)), (0, .ref (ad_3 4 0)), (1, .ref (ad_3 17 0)), (2, .ref (ad_3 26 0)), (3, .ref (ad_3 26 1)), (4, .ref (ad_3 26 2)), (5, .ref (ad_3 26 3)), (6, .int x), (7, .int y)] := by rw [hkp 4 0 (by omega), hkp 17 0 (by omega), hkp 26 0 (by omega), hkp 26 1 (by omega), hkp 26 2 (by omega), hkp 26 3 (by omega)]; exact hl
              refine lv_ldc (v := (-1000002)) hx hb hown (hts (.constant RL 18 (-1000002)) (by decide +kernel)) dL_acts_1077 ?_
              refine lv_icmp_ne (tgt := 1097) hx hb dL_acts_1079 (by decide) (fun c_1079 => ?_) (fun c_1079 => ?_)
              · exact absurd c_1079 (by decide)
              · refine lv_aload_n hx hb dL_acts_1082 rfl (lv_at hl 3 rfl) ?_
                refine lv_iconst (v := (-1)) hx hb dL_acts_1083 (by decide) ?_
                refine lv_iconst (v := 0) hx hb dL_acts_1084 (by decide) ?_
                refine w_calli (vx_runSW (As := [.ref (ad_3 4 0), .int (-1), .int 0]) (rest := []) ⟨hx, hb, hml, hown, hts⟩ (c_L_addSchedule l hns D B ad_3 np ns (nc + 1) (schF nc (nI k) (nI (7 + i1)) σ) (tW D ad_3 ((np, ns, nc + 1), schF nc (nI k) (nI (7 + i1)) σ) (lW D 4 (st3 μ1 3 0 2 (nI (nc + 1))))) 0 hI2 J2.2.1 (-1) 0) (vx_cwSW 3 hts gL_acts_L_addSchedule rfl rfl rfl (by decide +kernel) ⟨Nat.le_of_ble_eq_true rfl, Nat.le_of_ble_eq_true rfl⟩) (w_preS hC hP hS) rfl rfl hl.1 rfl (lv_room (Nat.le_of_ble_eq_true rfl)) dL_acts_1085 ⟨Nat.le_of_ble_eq_true rfl, Nat.le_of_ble_eq_true rfl⟩) hS (fun r_9 ad_4 w1 H locs hq hP hS => ?_)
                obtain ⟨ad9, S2, h81, hkp, h82, h83⟩ := hq
                obtain ⟨h84, h85⟩ := h83 (ne_1 (ac_1 (no_m1 (by omega))))
                cases h84
                cases h81
                subst h85
                refine w_top (v := (-1000001)) (en_1 (ac_1 (no_m1 (by omega)))) ?_
                have hP := hw_ado hP hkp
                have kp4 : kpA ad ad_4 := kpA_o kp3 hkp
                have hl : lv_has ls 20 [(13, .int (nI nc)), (12, .int (nI (7 + i1))), (9, .int (nI k)), (0, .ref (ad_4 4 0)), (1, .ref (ad_4 17 0)), (2, .ref (ad_4 26 0)), (3, .ref (ad_4 26 1)), (4, .ref (ad_4 26 2)), (5, .ref (ad_4 26 3)), (6, .int x), (7, .int y)] := by rw [hkp 4 0 (by omega), hkp 17 0 (by omega), hkp 26 0 (by omega), hkp 26 1 (by omega), hkp 26 2 (by omega), hkp 26 3 (by omega)]; exact hl
                refine lv_ldc (v := (-1000001)) hx hb hown (hts (.constant RL 32 (-1000001)) (by decide +kernel)) dL_acts_1088 ?_
                refine lv_icmp_ne (tgt := 1097) hx hb dL_acts_1090 (by decide) (fun c_1090 => ?_) (fun c_1090 => ?_)
                · exact absurd c_1090 (by decide)
                · refine lv_iconst (v := 1) hx hb dL_acts_1093 (by decide) ?_
                  refine lv_goto (tgt := 1098) hx hb dL_acts_1094 (by decide) ?_
                  refine W.widen (k := 60) (n := 700) (Nat.le_of_ble_eq_true rfl) (Nat.le_of_ble_eq_true rfl) ?_
                  exact K 1098 H locs ls ad_4 (np, ns, nc + 1) (schF nc (nI k) (nI (7 + i1)) σ) (st3 μ1 3 0 2 (nI (nc + 1))) t N dL_acts_1098 hP hS kp4 J2 (by omega) (by omega)
        · have hc : c < nc := Nat.not_le.mp (fun z => c_949 (nI_le z (by omega)))
          obtain ⟨n8, rfl⟩ : ∃ n8, na = n8 + 1 := ⟨na - 1, by omega⟩
          obtain ⟨i, j, hi, hj1, hj2, e1, e2, e14, e15⟩ := sc_at J hc
          refine lv_aload hx hb dL_acts_952 (lv_at hl 8 rfl) ?_
          refine lv_iconst (v := 4) hx hb dL_acts_954 (by decide) ?_
          refine lv_iload hx hb dL_acts_955 (lv_at hl 0 rfl) ?_
          refine lv_imul hx hb dL_acts_957 ?_
          refine w_top (v := nI (4 * c)) (pk_mul 4 c) ?_
          refine w_ildN hx hb hC hP (eW_L (show 2 < 4 by decide)) (show 4 * c < 16 from by omega) (by decide) (v := nI i) ((Sm_rd hsm (fun _ => ⟨fun c' _ => by omega, by omega⟩)).trans e1) dL_acts_958 ?_
          refine lv_iload hx hb dL_acts_959 (lv_at hl 3 rfl) ?_
          refine lv_icmp_ne (tgt := 982) hx hb dL_acts_961 (by decide) (fun c_961 => ?_) (fun c_961 => ?_)
          · refine lv_iconst (v := 0) hx hb dL_acts_982 (by decide) ?_
            refine lv_istore (lv' := [(15, .int 0), (14, .int (nI c)), (13, .int (nI nc)), (12, .int (nI (7 + i1))), (9, .int (nI k)), (0, .ref (ad 4 0)), (1, .ref (ad 17 0)), (2, .ref (ad 26 0)), (3, .ref (ad 26 1)), (4, .ref (ad 26 2)), (5, .ref (ad 26 3)), (6, .int x), (7, .int y)]) hx hb dL_acts_983 hl (by decide) rfl (fun ls hl => ?_)
            refine lv_aload hx hb dL_acts_985 (lv_at hl 9 rfl) ?_
            refine lv_iconst (v := 4) hx hb dL_acts_987 (by decide) ?_
            refine lv_iload hx hb dL_acts_988 (lv_at hl 1 rfl) ?_
            refine lv_imul hx hb dL_acts_990 ?_
            refine w_top (v := nI (4 * c)) (pk_mul 4 c) ?_
            refine lv_iconst (v := 2) hx hb dL_acts_991 (by decide) ?_
            refine lv_iadd hx hb dL_acts_992 ?_
            refine w_top (v := nI ((4 * c) + 2)) (nI_add (4 * c) 2) ?_
            refine lv_dup2_11 hx hb dL_acts_993 rfl rfl ?_
            refine w_ildN hx hb hC hP (eW_L (show 2 < 4 by decide)) (show (4 * c) + 2 < 16 from by omega) (by decide) (v := μ 2 0 (4 * c + 2)) (Sm_rd hsm (fun _ => ⟨fun c' _ => by omega, by omega⟩)) dL_acts_994 ?_
            refine lv_iload hx hb dL_acts_995 (lv_at hl 0 rfl) ?_
            refine lv_if_eq (tgt := 1004) hx hb dL_acts_997 (by decide) (fun c_997 => ?_) (fun c_997 => ?_)
            · refine lv_iconst (v := 0) hx hb dL_acts_1004 (by decide) ?_
              refine lv_ior hx hb dL_acts_1005 ?_
              refine w_istN hx hb hC hP hS (eW_L (show 2 < 4 by decide)) (show (4 * c) + 2 < 16 from by omega) (by decide) dL_acts_1006 (fun H locs hP hS => ?_)
              have hP := hw_eq hP (eW_put _ (show 2 < 4 by decide))
              refine lv_aload hx hb dL_acts_1007 (lv_at hl 9 rfl) ?_
              refine lv_iconst (v := 4) hx hb dL_acts_1009 (by decide) ?_
              refine lv_iload hx hb dL_acts_1010 (lv_at hl 2 rfl) ?_
              refine lv_imul hx hb dL_acts_1012 ?_
              refine w_top (v := nI (4 * nc)) (pk_mul 4 nc) ?_
              refine lv_iconst (v := 2) hx hb dL_acts_1013 (by decide) ?_
              refine lv_iadd hx hb dL_acts_1014 ?_
              refine w_top (v := nI ((4 * nc) + 2)) (nI_add (4 * nc) 2) ?_
              refine lv_dup2_11 hx hb dL_acts_1015 rfl rfl ?_
              refine w_ildN hx hb hC hP (eW_L (show 2 < 4 by decide)) (show (4 * nc) + 2 < 16 from by omega) (by decide) (v := μ1 2 0 (4 * nc + 2)) (st3_ne (by omega)) dL_acts_1016 ?_
              refine lv_iload hx hb dL_acts_1017 (lv_at hl 0 rfl) ?_
              refine lv_if_eq (tgt := 1026) hx hb dL_acts_1019 (by decide) (fun c_1019 => ?_) (fun c_1019 => ?_)
              · refine lv_iconst (v := 0) hx hb dL_acts_1026 (by decide) ?_
                refine lv_ior hx hb dL_acts_1027 ?_
                refine w_istN hx hb hC hP hS (eW_L (show 2 < 4 by decide)) (show (4 * nc) + 2 < 16 from by omega) (by decide) dL_acts_1028 (fun H locs hP hS => ?_)
                have hP := hw_eq hP (eW_put _ (show 2 < 4 by decide))
                refine lv_iinc (v := nI (c + 1)) (lv' := [(14, .int (nI (c + 1))), (15, .int 0), (13, .int (nI nc)), (12, .int (nI (7 + i1))), (9, .int (nI k)), (0, .ref (ad 4 0)), (1, .ref (ad 17 0)), (2, .ref (ad 26 0)), (3, .ref (ad 26 1)), (4, .ref (ad 26 2)), (5, .ref (ad 26 3)), (6, .int x), (7, .int y)]) hx hb dL_acts_1029 hl (k := 1) rfl (nI_add c 1) (by decide) rfl (fun ls hl => ?_)
                refine lv_goto (tgt := 945) hx hb dL_acts_1032 (by decide) ?_
                exact iha n8 _ _ _ (by omega) ⟨c + 1, st3 (st3 μ1 2 0 ((4 * c) + 2) ((μ 2 0 (4 * c + 2)) ||| 0)) 2 0 ((4 * nc) + 2) ((μ1 2 0 (4 * nc + 2)) ||| 0), by omega, Sm_s hsm hc (by rw [or_0 (fl_01 J hc)]; exact fl_01 J hc) (fun z => ⟨(or_0 (fl_01 J hc)).symm.trans z, (fun y => c_961 (e14.symm.trans y.1))⟩) (by rw [or_0 hsm.2.2.2.2.1]; exact hsm.2.2.2.2.1) (fun z => ⟨(or_0 hsm.2.2.2.2.1).symm.trans z, (fun y => c_961 (e14.symm.trans y.1))⟩), hP, hS, lv_sub hl [0, 2, 3, 4, 5, 6, 7, 8, 9, 10, 11, 12] rfl⟩
              · exact absurd c_1019 (by decide)
            · exact absurd c_997 (by decide)
          · refine lv_aload hx hb dL_acts_964 (lv_at hl 8 rfl) ?_
            refine lv_iconst (v := 4) hx hb dL_acts_966 (by decide) ?_
            refine lv_iload hx hb dL_acts_967 (lv_at hl 0 rfl) ?_
            refine lv_imul hx hb dL_acts_969 ?_
            refine w_top (v := nI (4 * c)) (pk_mul 4 c) ?_
            refine lv_iconst (v := 1) hx hb dL_acts_970 (by decide) ?_
            refine lv_iadd hx hb dL_acts_971 ?_
            refine w_top (v := nI ((4 * c) + 1)) (nI_add (4 * c) 1) ?_
            refine w_ildN hx hb hC hP (eW_L (show 2 < 4 by decide)) (show (4 * c) + 1 < 16 from by omega) (by decide) (v := nI j) ((Sm_rd hsm (fun _ => ⟨fun c' _ => by omega, by omega⟩)).trans e2) dL_acts_972 ?_
            refine lv_iload hx hb dL_acts_973 (lv_at hl 2 rfl) ?_
            refine lv_icmp_ne (tgt := 982) hx hb dL_acts_975 (by decide) (fun c_975 => ?_) (fun c_975 => ?_)
            · refine lv_iconst (v := 0) hx hb dL_acts_982 (by decide) ?_
              refine lv_istore (lv' := [(15, .int 0), (14, .int (nI c)), (13, .int (nI nc)), (12, .int (nI (7 + i1))), (9, .int (nI k)), (0, .ref (ad 4 0)), (1, .ref (ad 17 0)), (2, .ref (ad 26 0)), (3, .ref (ad 26 1)), (4, .ref (ad 26 2)), (5, .ref (ad 26 3)), (6, .int x), (7, .int y)]) hx hb dL_acts_983 hl (by decide) rfl (fun ls hl => ?_)
              refine lv_aload hx hb dL_acts_985 (lv_at hl 9 rfl) ?_
              refine lv_iconst (v := 4) hx hb dL_acts_987 (by decide) ?_
              refine lv_iload hx hb dL_acts_988 (lv_at hl 1 rfl) ?_
              refine lv_imul hx hb dL_acts_990 ?_
              refine w_top (v := nI (4 * c)) (pk_mul 4 c) ?_
              refine lv_iconst (v := 2) hx hb dL_acts_991 (by decide) ?_
              refine lv_iadd hx hb dL_acts_992 ?_
              refine w_top (v := nI ((4 * c) + 2)) (nI_add (4 * c) 2) ?_
              refine lv_dup2_11 hx hb dL_acts_993 rfl rfl ?_
              refine w_ildN hx hb hC hP (eW_L (show 2 < 4 by decide)) (show (4 * c) + 2 < 16 from by omega) (by decide) (v := μ 2 0 (4 * c + 2)) (Sm_rd hsm (fun _ => ⟨fun c' _ => by omega, by omega⟩)) dL_acts_994 ?_
              refine lv_iload hx hb dL_acts_995 (lv_at hl 0 rfl) ?_
              refine lv_if_eq (tgt := 1004) hx hb dL_acts_997 (by decide) (fun c_997 => ?_) (fun c_997 => ?_)
              · refine lv_iconst (v := 0) hx hb dL_acts_1004 (by decide) ?_
                refine lv_ior hx hb dL_acts_1005 ?_
                refine w_istN hx hb hC hP hS (eW_L (show 2 < 4 by decide)) (show (4 * c) + 2 < 16 from by omega) (by decide) dL_acts_1006 (fun H locs hP hS => ?_)
                have hP := hw_eq hP (eW_put _ (show 2 < 4 by decide))
                refine lv_aload hx hb dL_acts_1007 (lv_at hl 9 rfl) ?_
                refine lv_iconst (v := 4) hx hb dL_acts_1009 (by decide) ?_
                refine lv_iload hx hb dL_acts_1010 (lv_at hl 2 rfl) ?_
                refine lv_imul hx hb dL_acts_1012 ?_
                refine w_top (v := nI (4 * nc)) (pk_mul 4 nc) ?_
                refine lv_iconst (v := 2) hx hb dL_acts_1013 (by decide) ?_
                refine lv_iadd hx hb dL_acts_1014 ?_
                refine w_top (v := nI ((4 * nc) + 2)) (nI_add (4 * nc) 2) ?_
                refine lv_dup2_11 hx hb dL_acts_1015 rfl rfl ?_
                refine w_ildN hx hb hC hP (eW_L (show 2 < 4 by decide)) (show (4 * nc) + 2 < 16 from by omega) (by decide) (v := μ1 2 0 (4 * nc + 2)) (st3_ne (by omega)) dL_acts_1016 ?_
                refine lv_iload hx hb dL_acts_1017 (lv_at hl 0 rfl) ?_
                refine lv_if_eq (tgt := 1026) hx hb dL_acts_1019 (by decide) (fun c_1019 => ?_) (fun c_1019 => ?_)
                · refine lv_iconst (v := 0) hx hb dL_acts_1026 (by decide) ?_
                  refine lv_ior hx hb dL_acts_1027 ?_
                  refine w_istN hx hb hC hP hS (eW_L (show 2 < 4 by decide)) (show (4 * nc) + 2 < 16 from by omega) (by decide) dL_acts_1028 (fun H locs hP hS => ?_)
                  have hP := hw_eq hP (eW_put _ (show 2 < 4 by decide))
                  refine lv_iinc (v := nI (c + 1)) (lv' := [(14, .int (nI (c + 1))), (15, .int 0), (13, .int (nI nc)), (12, .int (nI (7 + i1))), (9, .int (nI k)), (0, .ref (ad 4 0)), (1, .ref (ad 17 0)), (2, .ref (ad 26 0)), (3, .ref (ad 26 1)), (4, .ref (ad 26 2)), (5, .ref (ad 26 3)), (6, .int x), (7, .int y)]) hx hb dL_acts_1029 hl (k := 1) rfl (nI_add c 1) (by decide) rfl (fun ls hl => ?_)
                  refine lv_goto (tgt := 945) hx hb dL_acts_1032 (by decide) ?_
                  exact iha n8 _ _ _ (by omega) ⟨c + 1, st3 (st3 μ1 2 0 ((4 * c) + 2) ((μ 2 0 (4 * c + 2)) ||| 0)) 2 0 ((4 * nc) + 2) ((μ1 2 0 (4 * nc + 2)) ||| 0), by omega, Sm_s hsm hc (by rw [or_0 (fl_01 J hc)]; exact fl_01 J hc) (fun z => ⟨(or_0 (fl_01 J hc)).symm.trans z, (fun y => c_975 (e15.symm.trans y.2))⟩) (by rw [or_0 hsm.2.2.2.2.1]; exact hsm.2.2.2.2.1) (fun z => ⟨(or_0 hsm.2.2.2.2.1).symm.trans z, (fun y => c_975 (e15.symm.trans y.2))⟩), hP, hS, lv_sub hl [0, 2, 3, 4, 5, 6, 7, 8, 9, 10, 11, 12] rfl⟩
                · exact absurd c_1019 (by decide)
              · exact absurd c_997 (by decide)
            · refine lv_iconst (v := 1) hx hb dL_acts_978 (by decide) ?_
              refine lv_goto (tgt := 983) hx hb dL_acts_979 (by decide) ?_
              refine lv_istore (lv' := [(15, .int 1), (14, .int (nI c)), (13, .int (nI nc)), (12, .int (nI (7 + i1))), (9, .int (nI k)), (0, .ref (ad 4 0)), (1, .ref (ad 17 0)), (2, .ref (ad 26 0)), (3, .ref (ad 26 1)), (4, .ref (ad 26 2)), (5, .ref (ad 26 3)), (6, .int x), (7, .int y)]) hx hb dL_acts_983 hl (by decide) rfl (fun ls hl => ?_)
              refine lv_aload hx hb dL_acts_985 (lv_at hl 9 rfl) ?_
              refine lv_iconst (v := 4) hx hb dL_acts_987 (by decide) ?_
              refine lv_iload hx hb dL_acts_988 (lv_at hl 1 rfl) ?_
              refine lv_imul hx hb dL_acts_990 ?_
              refine w_top (v := nI (4 * c)) (pk_mul 4 c) ?_
              refine lv_iconst (v := 2) hx hb dL_acts_991 (by decide) ?_
              refine lv_iadd hx hb dL_acts_992 ?_
              refine w_top (v := nI ((4 * c) + 2)) (nI_add (4 * c) 2) ?_
              refine lv_dup2_11 hx hb dL_acts_993 rfl rfl ?_
              refine w_ildN hx hb hC hP (eW_L (show 2 < 4 by decide)) (show (4 * c) + 2 < 16 from by omega) (by decide) (v := μ 2 0 (4 * c + 2)) (Sm_rd hsm (fun _ => ⟨fun c' _ => by omega, by omega⟩)) dL_acts_994 ?_
              refine lv_iload hx hb dL_acts_995 (lv_at hl 0 rfl) ?_
              refine lv_if_eq (tgt := 1004) hx hb dL_acts_997 (by decide) (fun c_997 => ?_) (fun c_997 => ?_)
              · exact absurd c_997 (by decide)
              · refine lv_iconst (v := 1) hx hb dL_acts_1000 (by decide) ?_
                refine lv_goto (tgt := 1005) hx hb dL_acts_1001 (by decide) ?_
                refine lv_ior hx hb dL_acts_1005 ?_
                refine w_istN hx hb hC hP hS (eW_L (show 2 < 4 by decide)) (show (4 * c) + 2 < 16 from by omega) (by decide) dL_acts_1006 (fun H locs hP hS => ?_)
                have hP := hw_eq hP (eW_put _ (show 2 < 4 by decide))
                refine lv_aload hx hb dL_acts_1007 (lv_at hl 9 rfl) ?_
                refine lv_iconst (v := 4) hx hb dL_acts_1009 (by decide) ?_
                refine lv_iload hx hb dL_acts_1010 (lv_at hl 2 rfl) ?_
                refine lv_imul hx hb dL_acts_1012 ?_
                refine w_top (v := nI (4 * nc)) (pk_mul 4 nc) ?_
                refine lv_iconst (v := 2) hx hb dL_acts_1013 (by decide) ?_
                refine lv_iadd hx hb dL_acts_1014 ?_
                refine w_top (v := nI ((4 * nc) + 2)) (nI_add (4 * nc) 2) ?_
                refine lv_dup2_11 hx hb dL_acts_1015 rfl rfl ?_
                refine w_ildN hx hb hC hP (eW_L (show 2 < 4 by decide)) (show (4 * nc) + 2 < 16 from by omega) (by decide) (v := μ1 2 0 (4 * nc + 2)) (st3_ne (by omega)) dL_acts_1016 ?_
                refine lv_iload hx hb dL_acts_1017 (lv_at hl 0 rfl) ?_
                refine lv_if_eq (tgt := 1026) hx hb dL_acts_1019 (by decide) (fun c_1019 => ?_) (fun c_1019 => ?_)
                · exact absurd c_1019 (by decide)
                · refine lv_iconst (v := 1) hx hb dL_acts_1022 (by decide) ?_
                  refine lv_goto (tgt := 1027) hx hb dL_acts_1023 (by decide) ?_
                  refine lv_ior hx hb dL_acts_1027 ?_
                  refine w_istN hx hb hC hP hS (eW_L (show 2 < 4 by decide)) (show (4 * nc) + 2 < 16 from by omega) (by decide) dL_acts_1028 (fun H locs hP hS => ?_)
                  have hP := hw_eq hP (eW_put _ (show 2 < 4 by decide))
                  refine lv_iinc (v := nI (c + 1)) (lv' := [(14, .int (nI (c + 1))), (15, .int 1), (13, .int (nI nc)), (12, .int (nI (7 + i1))), (9, .int (nI k)), (0, .ref (ad 4 0)), (1, .ref (ad 17 0)), (2, .ref (ad 26 0)), (3, .ref (ad 26 1)), (4, .ref (ad 26 2)), (5, .ref (ad 26 3)), (6, .int x), (7, .int y)]) hx hb dL_acts_1029 hl (k := 1) rfl (nI_add c 1) (by decide) rfl (fun ls hl => ?_)
                  refine lv_goto (tgt := 945) hx hb dL_acts_1032 (by decide) ?_
                  exact iha n8 _ _ _ (by omega) ⟨c + 1, st3 (st3 μ1 2 0 ((4 * c) + 2) ((μ 2 0 (4 * c + 2)) ||| 1)) 2 0 ((4 * nc) + 2) ((μ1 2 0 (4 * nc + 2)) ||| 1), by omega, Sm_s hsm hc (Or.inr (or_1 (fl_01 J hc))) (fun z => absurd ((or_1 (fl_01 J hc)).symm.trans z) (by decide)) (Or.inr (or_1 hsm.2.2.2.2.1)) (fun z => absurd ((or_1 hsm.2.2.2.2.1).symm.trans z) (by decide)), hP, hS, lv_sub hl [0, 2, 3, 4, 5, 6, 7, 8, 9, 10, 11, 12] rfl⟩
      · refine lv_aload hx hb dL_acts_885 (lv_at hl 7 rfl) ?_
        refine lv_iconst (v := 4) hx hb dL_acts_887 (by decide) ?_
        refine lv_iload hx hb dL_acts_888 (lv_at hl 0 rfl) ?_
        refine lv_imul hx hb dL_acts_890 ?_
        refine w_top (v := nI (4 * nc)) (pk_mul 4 nc) ?_
        refine lv_iload hx hb dL_acts_891 (lv_at hl 2 rfl) ?_
        refine w_istN hx hb hC hP hS (eW_L (show 2 < 4 by decide)) (show 4 * nc < 16 from by omega) (by decide) dL_acts_893 (fun H locs hP hS => ?_)
        have hP := hw_eq hP (eW_put _ (show 2 < 4 by decide))
        refine lv_aload hx hb dL_acts_894 (lv_at hl 7 rfl) ?_
        refine lv_iconst (v := 4) hx hb dL_acts_896 (by decide) ?_
        refine lv_iload hx hb dL_acts_897 (lv_at hl 0 rfl) ?_
        refine lv_imul hx hb dL_acts_899 ?_
        refine w_top (v := nI (4 * nc)) (pk_mul 4 nc) ?_
        refine lv_iconst (v := 1) hx hb dL_acts_900 (by decide) ?_
        refine lv_iadd hx hb dL_acts_901 ?_
        refine w_top (v := nI ((4 * nc) + 1)) (nI_add (4 * nc) 1) ?_
        refine lv_iload hx hb dL_acts_902 (lv_at hl 1 rfl) ?_
        refine w_istN hx hb hC hP hS (eW_L (show 2 < 4 by decide)) (show (4 * nc) + 1 < 16 from by omega) (by decide) dL_acts_904 (fun H locs hP hS => ?_)
        have hP := hw_eq hP (eW_put _ (show 2 < 4 by decide))
        refine lv_aload hx hb dL_acts_905 (lv_at hl 7 rfl) ?_
        refine lv_iconst (v := 4) hx hb dL_acts_907 (by decide) ?_
        refine lv_iload hx hb dL_acts_908 (lv_at hl 0 rfl) ?_
        refine lv_imul hx hb dL_acts_910 ?_
        refine w_top (v := nI (4 * nc)) (pk_mul 4 nc) ?_
        refine lv_iconst (v := 2) hx hb dL_acts_911 (by decide) ?_
        refine lv_iadd hx hb dL_acts_912 ?_
        refine w_top (v := nI ((4 * nc) + 2)) (nI_add (4 * nc) 2) ?_
        refine lv_aload_n hx hb dL_acts_913 rfl (lv_at hl 3 rfl) ?_
        refine lv_iload hx hb dL_acts_914 (lv_at hl 2 rfl) ?_
        refine lv_iload hx hb dL_acts_916 (lv_at hl 1 rfl) ?_
        refine w_calli (vx_runSW (As := [.ref (ad 4 0), .int (nI k), .int (nI (7 + i1))]) (rest := [.int (nI ((4 * nc) + 2)), .ref (ad 26 2)]) ⟨hx, hb, hml, hown, hts⟩ (c0_L_command l hns D B ad (np, ns, nc) σ (tW D ad ((np, ns, nc), σ) (lW D 4 (st3 (st3 μ 2 0 (4 * nc) (nI k)) 2 0 ((4 * nc) + 1) (nI (7 + i1))))) 0 hI k hk (7 + i1) (by omega) (by omega)) (vx_cwSW 3 hts gL_acts_L_command rfl rfl rfl (by decide +kernel) ⟨Nat.le_of_ble_eq_true rfl, Nat.le_of_ble_eq_true rfl⟩) (w_preS hC hP hS) rfl rfl hl.1 rfl (lv_room (Nat.le_of_ble_eq_true rfl)) dL_acts_918 ⟨Nat.le_of_ble_eq_true rfl, Nat.le_of_ble_eq_true rfl⟩) hS (fun r_10 ad1 w1 H locs hq hP hS => ?_)
        obtain ⟨S2, h81, h82, h83⟩ := hq
        cases h82
        cases h81
        subst h83
        refine lv_ldc (v := (-100000)) hx hb hown (hts (.constant RL 107 (-100000)) (by decide +kernel)) dL_acts_921 ?_
        refine w_top (v := nth) rfl ?_
        refine lv_icmp_ne (tgt := 930) hx hb dL_acts_923 (by decide) (fun c_923 => ?_) (fun c_923 => ?_)
        · refine lv_iconst (v := 1) hx hb dL_acts_930 (by decide) ?_
          refine w_istN hx hb hC hP hS (eW_L (show 2 < 4 by decide)) (show (4 * nc) + 2 < 16 from by omega) (by decide) dL_acts_931 (fun H locs hP hS => ?_)
          have hP := hw_eq hP (eW_put _ (show 2 < 4 by decide))
          refine lv_aload hx hb dL_acts_932 (lv_at hl 7 rfl) ?_
          refine lv_iconst (v := 4) hx hb dL_acts_934 (by decide) ?_
          refine lv_iload hx hb dL_acts_935 (lv_at hl 0 rfl) ?_
          refine lv_imul hx hb dL_acts_937 ?_
          refine w_top (v := nI (4 * nc)) (pk_mul 4 nc) ?_
          refine lv_iconst (v := 3) hx hb dL_acts_938 (by decide) ?_
          refine lv_iadd hx hb dL_acts_939 ?_
          refine w_top (v := nI ((4 * nc) + 3)) (nI_add (4 * nc) 3) ?_
          refine lv_iconst (v := 0) hx hb dL_acts_940 (by decide) ?_
          refine w_istN hx hb hC hP hS (eW_L (show 2 < 4 by decide)) (show (4 * nc) + 3 < 16 from by omega) (by decide) dL_acts_941 (fun H locs hP hS => ?_)
          have hP := hw_eq hP (eW_put _ (show 2 < 4 by decide))
          exact Kx _ _ _ ⟨st3 (st3 (st3 (st3 μ 2 0 (4 * nc) (nI k)) 2 0 ((4 * nc) + 1) (nI (7 + i1))) 2 0 ((4 * nc) + 2) 1) 2 0 ((4 * nc) + 3) 0, Sm_0 (Or.inr rfl) (fun z => absurd z (by decide)), hP, hS, lv_sub hl [0, 1, 2, 3, 4, 5, 6, 7, 8, 9, 10] rfl⟩
        · refine lv_iconst (v := 0) hx hb dL_acts_926 (by decide) ?_
          refine lv_goto (tgt := 931) hx hb dL_acts_927 (by decide) ?_
          refine w_istN hx hb hC hP hS (eW_L (show 2 < 4 by decide)) (show (4 * nc) + 2 < 16 from by omega) (by decide) dL_acts_931 (fun H locs hP hS => ?_)
          have hP := hw_eq hP (eW_put _ (show 2 < 4 by decide))
          refine lv_aload hx hb dL_acts_932 (lv_at hl 7 rfl) ?_
          refine lv_iconst (v := 4) hx hb dL_acts_934 (by decide) ?_
          refine lv_iload hx hb dL_acts_935 (lv_at hl 0 rfl) ?_
          refine lv_imul hx hb dL_acts_937 ?_
          refine w_top (v := nI (4 * nc)) (pk_mul 4 nc) ?_
          refine lv_iconst (v := 3) hx hb dL_acts_938 (by decide) ?_
          refine lv_iadd hx hb dL_acts_939 ?_
          refine w_top (v := nI ((4 * nc) + 3)) (nI_add (4 * nc) 3) ?_
          refine lv_iconst (v := 0) hx hb dL_acts_940 (by decide) ?_
          refine w_istN hx hb hC hP hS (eW_L (show 2 < 4 by decide)) (show (4 * nc) + 3 < 16 from by omega) (by decide) dL_acts_941 (fun H locs hP hS => ?_)
          have hP := hw_eq hP (eW_put _ (show 2 < 4 by decide))
          exact Kx _ _ _ ⟨st3 (st3 (st3 (st3 μ 2 0 (4 * nc) (nI k)) 2 0 ((4 * nc) + 1) (nI (7 + i1))) 2 0 ((4 * nc) + 2) 0) 2 0 ((4 * nc) + 3) 0, Sm_0 (Or.inl rfl) (fun _ => c_923), hP, hS, lv_sub hl [0, 1, 2, 3, 4, 5, 6, 7, 8, 9, 10] rfl⟩
