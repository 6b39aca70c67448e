/-! p22: acts: a point more -/
set_option maxHeartbeats 4000000 in
set_option maxRecDepth 100000 in
theorem ac_add {p : Program} {l : Launch} {e : Env} {s : State} {m : MethodId} {args : Array Value} {below : List Frame} {meth : Method} {c : Code} {D : va_G} {B : Nat} (A : AcA p l s m args c D B) {Q : State → Prop} {ad : Ad} {np ns nc : Nat} {σ μ : Me} {t N : Nat} (J : Jt t N (np, ns, nc) σ μ) (hN : N + 4001 < 900000) (ht : t + 200 ≤ 900000) {x y : Int32}  {H : Heap} {locs : List Loc} {ls : Array Slot} (hP : hw D B ad (eW D ad ((np, ns, nc), σ) ((np, ns, nc), σ) (lW D 4 μ)) H) (hS : va_S (ab B) s.heap H locs) (hl : lv_has ls 20 [(0, .ref (ad 4 0)), (1, .ref (ad 17 0)), (2, .ref (ad 26 0)), (3, .ref (ad 26 1)), (4, .ref (ad 26 2)), (5, .ref (ad 26 3)), (6, .int x), (7, .int y)]) (K : AcK p l e s m args below meth c D B ad t N Q) : W p l e (headSpec wsL_acts rmA).room s m args below meth c H locs 0 0 Q (F0 m 23 ls []) := by
  obtain ⟨hns, hx, hb, hml, hown, hts, hC⟩ := A
  have hI := Jt_I J
  have g16 : np ≤ 16 := hI.1
  have g30 : ns ≤ 30 := hI.2.1
  have g4 : nc ≤ 4 := hI.2.2.1
  obtain ⟨l1, l2, l3, -⟩ := J.2.2.2.2.2.1
  refine lv_iload hx hb dL_acts_23 (lv_at hl 7 rfl) ?_
  refine lv_iconst (v := 2) hx hb dL_acts_25 (by decide) ?_
  refine w_calli (va_runS (As := [.int y, .int 2]) (rest := []) ⟨hx, hb, hml, hown, hts⟩ (c_L_low l D B ad (eW D ad ((np, ns, nc), σ) ((np, ns, nc), σ) (lW D 4 μ)) y 2 (by decide)) (va_cwS 2 hts gL_acts_L_low rfl rfl rfl (by decide +kernel) ⟨Nat.le_of_ble_eq_true rfl, Nat.le_of_ble_eq_true rfl⟩) (w_preS hC hP hS) rfl rfl hl.1 rfl (lv_room (Nat.le_of_ble_eq_true rfl)) dL_acts_26 ⟨Nat.le_of_ble_eq_true rfl, Nat.le_of_ble_eq_true rfl⟩) hS (fun r_1 ad1 w1 H locs hq hP hS => ?_)
  obtain ⟨h81, h82⟩ := hq
  cases h81
  subst h82
  refine lv_if_ne (tgt := 36) hx hb dL_acts_29 (by decide) (fun c_29 => ?_) (fun c_29 => ?_)
  · refine lv_iconst (v := 0) hx hb dL_acts_36 (by decide) ?_
    refine lv_istore (lv' := [(9, .int 0), (0, .ref (ad 4 0)), (1, .ref (ad 17 0)), (2, .ref (ad 26 0)), (3, .ref (ad 26 1)), (4, .ref (ad 26 2)), (5, .ref (ad 26 3)), (6, .int x), (7, .int y)]) hx hb dL_acts_37 hl (by decide) rfl (fun ls hl => ?_)
    refine lv_iload hx hb dL_acts_39 (lv_at hl 0 rfl) ?_
    refine lv_if_eq (tgt := 61) hx hb dL_acts_41 (by decide) (fun c_41 => ?_) (fun c_41 => ?_)
    · refine lv_iload hx hb dL_acts_61 (lv_at hl 8 rfl) ?_
      refine lv_iconst (v := 2) hx hb dL_acts_63 (by decide) ?_
      refine lv_ishr hx hb dL_acts_64 ?_
      refine lv_iconst (v := 2) hx hb dL_acts_65 (by decide) ?_
      refine w_calli (va_runS (As := [.int (y >>> (2 &&& 31)), .int 2]) (rest := []) ⟨hx, hb, hml, hown, hts⟩ (c_L_low l D B ad (eW D ad ((np, ns, nc), σ) ((np, ns, nc), σ) (lW D 4 μ)) (y >>> (2 &&& 31)) 2 (by decide)) (va_cwS 2 hts gL_acts_L_low rfl rfl rfl (by decide +kernel) ⟨Nat.le_of_ble_eq_true rfl, Nat.le_of_ble_eq_true rfl⟩) (w_preS hC hP hS) rfl rfl hl.1 rfl (lv_room (Nat.le_of_ble_eq_true rfl)) dL_acts_66 ⟨Nat.le_of_ble_eq_true rfl, Nat.le_of_ble_eq_true rfl⟩) hS (fun r_2 ad1 w1 H locs hq hP hS => ?_)
      obtain ⟨h81, h82⟩ := hq
      cases h81
      subst h82
      obtain ⟨i1, hi1, ei1⟩ := low_lt (y >>> (2 &&& 31)) (k := 2) (by omega) (by omega)
      refine w_top (v := nI i1) ei1 ?_
      refine lv_istore (lv' := [(10, .int (nI i1)), (9, .int 0), (0, .ref (ad 4 0)), (1, .ref (ad 17 0)), (2, .ref (ad 26 0)), (3, .ref (ad 26 1)), (4, .ref (ad 26 2)), (5, .ref (ad 26 3)), (6, .int x), (7, .int y)]) hx hb dL_acts_69 hl (by decide) rfl (fun ls hl => ?_)
      have hv := lo_sw hi1
      refine w_cut 100 0 0 (fun H locs ls => ∃ (i2 : Nat), (i2 < 1001) ∧ hw D B ad (eW D ad ((np, ns, nc), σ) ((np, ns, nc), σ) (lW D 4 μ)) H ∧ va_S (ab B) s.heap H locs ∧ lv_has ls 20 [(11, .int (nI i2)), (10, .int (nI i1)), (9, .int 0), (0, .ref (ad 4 0)), (1, .ref (ad 17 0)), (2, .ref (ad 26 0)), (3, .ref (ad 26 1)), (4, .ref (ad 26 2)), (5, .ref (ad 26 3)), (6, .int x), (7, .int y)]) (fun H locs ls hJ => ?_) (fun Kx => ?_)
      · obtain ⟨i2, hi2, hP, hS, hl⟩ := hJ
        refine lv_aload hx hb dL_acts_100 (lv_at hl 8 rfl) ?_
        refine lv_iconst (v := 0) hx hb dL_acts_102 (by decide) ?_
        refine w_top (v := nI 0) rfl ?_
        refine w_ildN hx hb hC hP (eW_L (show 3 < 4 by decide)) (show 0 < 3 from by omega) (by decide) (v := nI np) l1 dL_acts_103 ?_
        refine lv_bipush (v := (16)) hx hb dL_acts_104 (by decide) ?_
        refine lv_icmp_ge (tgt := 116) hx hb dL_acts_106 (by decide) (fun c_106 => ?_) (fun c_106 => ?_)
        · have hfull : ¬ np < 16 := fun z => (nI_ge (b := 16) z (by decide)) c_106
          refine lv_ldc (v := (-1000003)) hx hb hown (hts (.constant RL 21 (-1000003)) (by decide +kernel)) dL_acts_116 ?_
          refine lv_istore (lv' := [(12, .int (-1000003)), (11, .int (nI i2)), (10, .int (nI i1)), (9, .int 0), (0, .ref (ad 4 0)), (1, .ref (ad 17 0)), (2, .ref (ad 26 0)), (3, .ref (ad 26 1)), (4, .ref (ad 26 2)), (5, .ref (ad 26 3)), (6, .int x), (7, .int y)]) hx hb dL_acts_118 hl (by decide) rfl (fun ls hl => ?_)
          refine lv_iload hx hb dL_acts_120 (lv_at hl 0 rfl) ?_
          refine lv_if_lt (tgt := 157) hx hb dL_acts_122 (by decide) (fun c_122 => ?_) (fun c_122 => ?_)
          · refine lv_iload hx hb dL_acts_157 (lv_at hl 3 rfl) ?_
            refine lv_if_eq (tgt := 171) hx hb dL_acts_159 (by decide) (fun c_159 => ?_) (fun c_159 => ?_)
            · refine lv_aload_n hx hb dL_acts_171 rfl (lv_at hl 4 rfl) ?_
              refine lv_iload hx hb dL_acts_172 (lv_at hl 2 rfl) ?_
              refine lv_iload hx hb dL_acts_174 (lv_at hl 1 rfl) ?_
              refine w_calli (vx_runSW (As := [.ref (ad 4 0), .int (nI i1), .int (nI i2)]) (rest := []) ⟨hx, hb, hml, hown, hts⟩ (c_L_addSwitch l hns D B ad np ns nc σ (tW D ad ((np, ns, nc), σ) (lW D 4 μ)) 0 hI J.2.1 (nI i1) (nI i2)) (vx_cwSW 3 hts gL_acts_L_addSwitch rfl rfl rfl (by decide +kernel) ⟨Nat.le_of_ble_eq_true rfl, Nat.le_of_ble_eq_true rfl⟩) (w_preS hC hP hS) rfl rfl hl.1 rfl (lv_room (Nat.le_of_ble_eq_true rfl)) dL_acts_176 ⟨Nat.le_of_ble_eq_true rfl, Nat.le_of_ble_eq_true rfl⟩) hS (fun r_3 ad_1 w1 H locs hq hP hS => ?_)
              obtain ⟨ad9, S2, h81, hkp, h82, h83⟩ := hq
              obtain ⟨h84, h85⟩ := h83 (ne_2 (as_2 hv (lo_bt (n := 1000) (by omega) (by decide)) hfull))
              cases h84
              cases h81
              subst h85
              refine w_top (v := (-1000003)) (en_2 (as_2 hv (lo_bt (n := 1000) (by omega) (by decide)) hfull)) ?_
              have hP := hw_ado hP hkp
              have kp1 : kpA ad ad_1 := kpA_o kpA_r hkp
              have hl : lv_has ls 20 [(12, .int (-1000003)), (11, .int (nI i2)), (10, .int (nI i1)), (9, .int 0), (0, .ref (ad_1 4 0)), (1, .ref (ad_1 17 0)), (2, .ref (ad_1 26 0)), (3, .ref (ad_1 26 1)), (4, .ref (ad_1 26 2)), (5, .ref (ad_1 26 3)), (6, .int x), (7, .int y)] := by rw [hkp 4 0 (by omega), hkp 17 0 (by omega), hkp 26 0 (by omega), hkp 26 1 (by omega), hkp 26 2 (by omega), hkp 26 3 (by omega)]; exact hl
              refine lv_iload hx hb dL_acts_179 (lv_at hl 0 rfl) ?_
              refine lv_icmp_ne (tgt := 251) hx hb dL_acts_181 (by decide) (fun c_181 => ?_) (fun c_181 => ?_)
              · exact absurd c_181 (by decide)
              · refine lv_iload hx hb dL_acts_184 (lv_at hl 3 rfl) ?_
                refine lv_if_eq (tgt := 198) hx hb dL_acts_186 (by decide) (fun c_186 => ?_) (fun c_186 => ?_)
                · refine lv_aload_n hx hb dL_acts_198 rfl (lv_at hl 5 rfl) ?_
                  refine lv_iload hx hb dL_acts_199 (lv_at hl 2 rfl) ?_
                  refine lv_iload hx hb dL_acts_201 (lv_at hl 1 rfl) ?_
                  refine w_calli (vx_runSW (As := [.ref (ad_1 17 0), .int (nI i1), .int (nI i2)]) (rest := []) ⟨hx, hb, hml, hown, hts⟩ (t_L_addSwitch l hns D B ad_1 np ns nc σ ((np, ns, nc), σ) (lW D 4 μ) hI J.2.1 (nI i1) (nI i2)) (vx_cwSW 3 hts gL_acts_L_addSwitch rfl rfl rfl (by decide +kernel) ⟨Nat.le_of_ble_eq_true rfl, Nat.le_of_ble_eq_true rfl⟩) (w_preS hC hP hS) rfl rfl hl.1 rfl (lv_room (Nat.le_of_ble_eq_true rfl)) dL_acts_203 ⟨Nat.le_of_ble_eq_true rfl, Nat.le_of_ble_eq_true rfl⟩) hS (fun r_4 ad_2 w1 H locs hq hP hS => ?_)
                  obtain ⟨ad9, S2, h81, hkp, h82, h83⟩ := hq
                  obtain ⟨h84, h85⟩ := h83 (ne_2 (as_2 hv (lo_bt (n := 1000) (by omega) (by decide)) hfull))
                  cases h84
                  cases h81
                  subst h85
                  refine w_top (v := (-1000003)) (en_2 (as_2 hv (lo_bt (n := 1000) (by omega) (by decide)) hfull)) ?_
                  have kp2 : kpA ad ad_2 := kpA_t kp1 hkp
                  have hl : lv_has ls 20 [(12, .int (-1000003)), (11, .int (nI i2)), (10, .int (nI i1)), (9, .int 0), (0, .ref (ad_2 4 0)), (1, .ref (ad_2 17 0)), (2, .ref (ad_2 26 0)), (3, .ref (ad_2 26 1)), (4, .ref (ad_2 26 2)), (5, .ref (ad_2 26 3)), (6, .int x), (7, .int y)] := by rw [hkp 4 0 (by omega), hkp 17 0 (by omega), hkp 26 0 (by omega), hkp 26 1 (by omega), hkp 26 2 (by omega), hkp 26 3 (by omega)]; exact hl
                  refine lv_iload hx hb dL_acts_206 (lv_at hl 0 rfl) ?_
                  refine lv_icmp_ne (tgt := 251) hx hb dL_acts_208 (by decide) (fun c_208 => ?_) (fun c_208 => ?_)
                  · exact absurd c_208 (by decide)
                  · refine lv_aload_n hx hb dL_acts_211 rfl (lv_at hl 4 rfl) ?_
                    refine lv_sipush (v := (1001)) hx hb dL_acts_212 (by decide) ?_
                    refine w_calli (vx_runSW (As := [.ref (ad_2 4 0), .int 1001]) (rest := []) ⟨hx, hb, hml, hown, hts⟩ (c_L_addMeasure l hns D B ad_2 np ns nc σ (tW D ad_2 ((np, ns, nc), σ) (lW D 4 μ)) 0 hI J.2.1 1001) (vx_cwSW 2 hts gL_acts_L_addMeasure rfl rfl rfl (by decide +kernel) ⟨Nat.le_of_ble_eq_true rfl, Nat.le_of_ble_eq_true rfl⟩) (w_preS hC hP hS) rfl rfl hl.1 rfl (lv_room (Nat.le_of_ble_eq_true rfl)) dL_acts_215 ⟨Nat.le_of_ble_eq_true rfl, Nat.le_of_ble_eq_true rfl⟩) hS (fun r_5 ad_3 w1 H locs hq hP hS => ?_)
                    obtain ⟨ad9, S2, h81, hkp, h82, h83⟩ := hq
                    obtain ⟨h84, h85⟩ := h83 (ne_1 (am_1 (fun z => absurd z.2 (by decide))))
                    cases h84
                    cases h81
                    subst h85
                    refine w_top (v := (-1000002)) (en_1 (am_1 (fun z => absurd z.2 (by decide)))) ?_
                    have hP := hw_ado hP hkp
                    have kp3 : kpA ad ad_3 := kpA_o kp2 hkp
                    have hl : lv_has ls 20 [(12, .int (-1000003)), (11, .int (nI i2)), (10, .int (nI i1)), (9, .int 0), (0, .ref (ad_3 4 0)), (1, .ref (ad_3 17 0)), (2, .ref (ad_3 26 0)), (3, .ref (ad_3 26 1)), (4, .ref (ad_3 26 2)), (5, .ref (ad_3 26 3)), (6, .int x), (7, .int y)] := by rw [hkp 4 0 (by omega), hkp 17 0 (by omega), hkp 26 0 (by omega), hkp 26 1 (by omega), hkp 26 2 (by omega), hkp 26 3 (by omega)]; exact hl
                    refine lv_ldc (v := (-1000002)) hx hb hown (hts (.constant RL 18 (-1000002)) (by decide +kernel)) dL_acts_218 ?_
                    refine lv_icmp_ne (tgt := 251) hx hb dL_acts_220 (by decide) (fun c_220 => ?_) (fun c_220 => ?_)
                    · exact absurd c_220 (by decide)
                    · refine lv_aload_n hx hb dL_acts_223 rfl (lv_at hl 4 rfl) ?_
                      refine lv_iconst (v := 2) hx hb dL_acts_224 (by decide) ?_
                      refine lv_iconst (v := 0) hx hb dL_acts_225 (by decide) ?_
                      refine w_calli (vx_runSW (As := [.ref (ad_3 4 0), .int 2, .int 0]) (rest := []) ⟨hx, hb, hml, hown, hts⟩ (c_L_addSwitch l hns D B ad_3 np ns nc σ (tW D ad_3 ((np, ns, nc), σ) (lW D 4 μ)) 0 hI J.2.1 2 0) (vx_cwSW 3 hts gL_acts_L_addSwitch rfl rfl rfl (by decide +kernel) ⟨Nat.le_of_ble_eq_true rfl, Nat.le_of_ble_eq_true rfl⟩) (w_preS hC hP hS) rfl rfl hl.1 rfl (lv_room (Nat.le_of_ble_eq_true rfl)) dL_acts_226 ⟨Nat.le_of_ble_eq_true rfl, Nat.le_of_ble_eq_true rfl⟩) hS (fun r_6 ad_4 w1 H locs hq hP hS => ?_)
                      obtain ⟨ad9, S2, h81, hkp, h82, h83⟩ := hq
                      obtain ⟨h84, h85⟩ := h83 (ne_1 (as_1 (fun z => absurd z.1.2 (by decide))))
                      cases h84
                      cases h81
                      subst h85
                      refine w_top (v := (-1000002)) (en_1 (as_1 (fun z => absurd z.1.2 (by decide)))) ?_
                      have hP := hw_ado hP hkp
                      have kp4 : kpA ad ad_4 := kpA_o kp3 hkp
                      have hl : lv_has ls 20 [(12, .int (-1000003)), (11, .int (nI i2)), (10, .int (nI i1)), (9, .int 0), (0, .ref (ad_4 4 0)), (1, .ref (ad_4 17 0)), (2, .ref (ad_4 26 0)), (3, .ref (ad_4 26 1)), (4, .ref (ad_4 26 2)), (5, .ref (ad_4 26 3)), (6, .int x), (7, .int y)] := by rw [hkp 4 0 (by omega), hkp 17 0 (by omega), hkp 26 0 (by omega), hkp 26 1 (by omega), hkp 26 2 (by omega), hkp 26 3 (by omega)]; exact hl
                      refine lv_ldc (v := (-1000002)) hx hb hown (hts (.constant RL 18 (-1000002)) (by decide +kernel)) dL_acts_229 ?_
                      refine lv_icmp_ne (tgt := 251) hx hb dL_acts_231 (by decide) (fun c_231 => ?_) (fun c_231 => ?_)
                      · exact absurd c_231 (by decide)
                      · refine lv_aload_n hx hb dL_acts_234 rfl (lv_at hl 4 rfl) ?_
                        refine lv_iconst (v := 0) hx hb dL_acts_235 (by decide) ?_
                        refine lv_sipush (v := (1001)) hx hb dL_acts_236 (by decide) ?_
                        refine w_calli (vx_runSW (As := [.ref (ad_4 4 0), .int 0, .int 1001]) (rest := []) ⟨hx, hb, hml, hown, hts⟩ (c_L_addSwitch l hns D B ad_4 np ns nc σ (tW D ad_4 ((np, ns, nc), σ) (lW D 4 μ)) 0 hI J.2.1 0 1001) (vx_cwSW 3 hts gL_acts_L_addSwitch rfl rfl rfl (by decide +kernel) ⟨Nat.le_of_ble_eq_true rfl, Nat.le_of_ble_eq_true rfl⟩) (w_preS hC hP hS) rfl rfl hl.1 rfl (lv_room (Nat.le_of_ble_eq_true rfl)) dL_acts_239 ⟨Nat.le_of_ble_eq_true rfl, Nat.le_of_ble_eq_true rfl⟩) hS (fun r_7 ad_5 w1 H locs hq hP hS => ?_)
                        obtain ⟨ad9, S2, h81, hkp, h82, h83⟩ := hq
                        obtain ⟨h84, h85⟩ := h83 (ne_1 (as_1 (fun z => absurd z.2.2 (by decide))))
                        cases h84
                        cases h81
                        subst h85
                        refine w_top (v := (-1000002)) (en_1 (as_1 (fun z => absurd z.2.2 (by decide)))) ?_
                        have hP := hw_ado hP hkp
                        have kp5 : kpA ad ad_5 := kpA_o kp4 hkp
                        have hl : lv_has ls 20 [(12, .int (-1000003)), (11, .int (nI i2)), (10, .int (nI i1)), (9, .int 0), (0, .ref (ad_5 4 0)), (1, .ref (ad_5 17 0)), (2, .ref (ad_5 26 0)), (3, .ref (ad_5 26 1)), (4, .ref (ad_5 26 2)), (5, .ref (ad_5 26 3)), (6, .int x), (7, .int y)] := by rw [hkp 4 0 (by omega), hkp 17 0 (by omega), hkp 26 0 (by omega), hkp 26 1 (by omega), hkp 26 2 (by omega), hkp 26 3 (by omega)]; exact hl
                        refine lv_ldc (v := (-1000002)) hx hb hown (hts (.constant RL 18 (-1000002)) (by decide +kernel)) dL_acts_242 ?_
                        refine lv_icmp_ne (tgt := 251) hx hb dL_acts_244 (by decide) (fun c_244 => ?_) (fun c_244 => ?_)
                        · exact absurd c_244 (by decide)
                        · refine lv_iconst (v := 1) hx hb dL_acts_247 (by decide) ?_
                          refine lv_goto (tgt := 252) hx hb dL_acts_248 (by decide) ?_
                          refine W.widen (k := 60) (n := 700) (Nat.le_of_ble_eq_true rfl) (Nat.le_of_ble_eq_true rfl) ?_
                          exact K 252 H locs ls ad_5 (np, ns, nc) σ μ t N dL_acts_252 hP hS kp5 J (by omega) (by omega)
                · exact absurd c_186 (by decide)
            · exact absurd c_159 (by decide)
          · exact absurd c_122 (by decide)
        · have hroom : np < 16 := Nat.not_le.mp (fun z => c_106 (nI_le (a := 16) z (by omega)))
          refine lv_aload hx hb dL_acts_109 (lv_at hl 8 rfl) ?_
          refine lv_iconst (v := 0) hx hb dL_acts_111 (by decide) ?_
          refine w_top (v := nI 0) rfl ?_
          refine w_ildN hx hb hC hP (eW_L (show 3 < 4 by decide)) (show 0 < 3 from by omega) (by decide) (v := nI np) l1 dL_acts_112 ?_
          refine lv_goto (tgt := 118) hx hb dL_acts_113 (by decide) ?_
          refine lv_istore (lv' := [(12, .int (nI np)), (11, .int (nI i2)), (10, .int (nI i1)), (9, .int 0), (0, .ref (ad 4 0)), (1, .ref (ad 17 0)), (2, .ref (ad 26 0)), (3, .ref (ad 26 1)), (4, .ref (ad 26 2)), (5, .ref (ad 26 3)), (6, .int x), (7, .int y)]) hx hb dL_acts_118 hl (by decide) rfl (fun ls hl => ?_)
          refine lv_iload hx hb dL_acts_120 (lv_at hl 0 rfl) ?_
          refine lv_if_lt (tgt := 157) hx hb dL_acts_122 (by decide) (fun c_122 => ?_) (fun c_122 => ?_)
          · exact absurd c_122 (nI_pos (by omega))
          · refine lv_aload_n hx hb dL_acts_125 rfl (lv_at hl 6 rfl) ?_
            refine lv_iload hx hb dL_acts_126 (lv_at hl 0 rfl) ?_
            refine lv_iload hx hb dL_acts_128 (lv_at hl 2 rfl) ?_
            refine w_istN hx hb hC hP hS (eW_L (show 0 < 4 by decide)) (show np < 32 from by omega) (by decide) dL_acts_130 (fun H locs hP hS => ?_)
            have hP := hw_eq hP (eW_put _ (show 0 < 4 by decide))
            refine lv_aload_n hx hb dL_acts_131 rfl (lv_at hl 6 rfl) ?_
            refine lv_bipush (v := (16)) hx hb dL_acts_132 (by decide) ?_
            refine lv_iload hx hb dL_acts_134 (lv_at hl 0 rfl) ?_
            refine lv_iadd hx hb dL_acts_136 ?_
            refine w_top (v := nI (16 + np)) (nI_add 16 np) ?_
            refine lv_iload hx hb dL_acts_137 (lv_at hl 3 rfl) ?_
            refine lv_if_eq (tgt := 146) hx hb dL_acts_139 (by decide) (fun c_139 => ?_) (fun c_139 => ?_)
            · refine lv_iload hx hb dL_acts_146 (lv_at hl 1 rfl) ?_
              refine w_istN hx hb hC hP hS (eW_L (show 0 < 4 by decide)) (show 16 + np < 32 from by omega) (by decide) dL_acts_148 (fun H locs hP hS => ?_)
              have hP := hw_eq hP (eW_put _ (show 0 < 4 by decide))
              refine lv_aload hx hb dL_acts_149 (lv_at hl 9 rfl) ?_
              refine lv_iconst (v := 0) hx hb dL_acts_151 (by decide) ?_
              refine lv_dup2_11 hx hb dL_acts_152 rfl rfl ?_
              refine w_top (v := nI 0) rfl ?_
              refine w_ildN hx hb hC hP (eW_L (show 3 < 4 by decide)) (show 0 < 3 from by omega) (by decide) (v := nI np) (by rw [st3_n (by decide), st3_n (by decide)]; exact l1) dL_acts_153 ?_
              refine lv_iconst (v := 1) hx hb dL_acts_154 (by decide) ?_
              refine lv_iadd hx hb dL_acts_155 ?_
              refine w_top (v := nI (np + 1)) (nI_add np 1) ?_
              refine w_top2 (v := nI 0) rfl ?_
              refine w_istN hx hb hC hP hS (eW_L (show 3 < 4 by decide)) (show 0 < 3 from by omega) (by decide) dL_acts_156 (fun H locs hP hS => ?_)
              have hP := hw_eq hP (eW_put _ (show 3 < 4 by decide))
              refine lv_iload hx hb dL_acts_157 (lv_at hl 3 rfl) ?_
              refine lv_if_eq (tgt := 171) hx hb dL_acts_159 (by decide) (fun c_159 => ?_) (fun c_159 => ?_)
              · refine lv_aload_n hx hb dL_acts_171 rfl (lv_at hl 4 rfl) ?_
                refine lv_iload hx hb dL_acts_172 (lv_at hl 2 rfl) ?_
                refine lv_iload hx hb dL_acts_174 (lv_at hl 1 rfl) ?_
                have J2 : Jt t N (np + 1, ns, nc) (addF np (nI i1) 1 (nI i2) σ) (st3 (st3 (st3 μ 0 0 np (nI i1)) 0 0 (16 + np) (nI i2)) 3 0 0 (nI (np + 1))) := Jt_add J hroom (Or.inr rfl) (by rw [show loF 1 = 0 by decide, show hiF 1 = 1 by decide]; exact hv) (by rw [nI_toInt (by omega)]; omega) (fun z => absurd z (by decide)) (fun a j z1 z2 => by rw [st3_ne (by omega), st3_ne (by omega), st3_ne (by omega)]) (by rw [st3_n (by decide), st3_ne (by omega), st3_v]) (by rw [st3_n (by decide), st3_v]; exact (if_pos rfl).symm) st3_v
                have hI2 := Jt_I J2
                refine w_calli (vx_runSW (As := [.ref (ad 4 0), .int (nI i1), .int (nI i2)]) (rest := []) ⟨hx, hb, hml, hown, hts⟩ (c_L_addSwitch l hns D B ad np ns nc σ (tW D ad ((np, ns, nc), σ) (lW D 4 (st3 (st3 (st3 μ 0 0 np (nI i1)) 0 0 (16 + np) (nI i2)) 3 0 0 (nI (np + 1))))) 0 hI J.2.1 (nI i1) (nI i2)) (vx_cwSW 3 hts gL_acts_L_addSwitch rfl rfl rfl (by decide +kernel) ⟨Nat.le_of_ble_eq_true rfl, Nat.le_of_ble_eq_true rfl⟩) (w_preS hC hP hS) rfl rfl hl.1 rfl (lv_room (Nat.le_of_ble_eq_true rfl)) dL_acts_176 ⟨Nat.le_of_ble_eq_true rfl, Nat.le_of_ble_eq_true rfl⟩) hS (fun r_8 ad_1 w1 H locs hq hP hS => ?_)
                obtain ⟨ad9, S2, h81, hkp, h82, h83⟩ := hq
                obtain ⟨h84, h85⟩ := h82 (as_0 hv (lo_bt (n := 1000) (by omega) (by decide)) hroom)
                cases h84
                cases h81
                subst h85
                have hP := hw_ado hP hkp
                have kp1 : kpA ad ad_1 := kpA_o kpA_r hkp
                have hl : lv_has ls 20 [(12, .int (nI np)), (11, .int (nI i2)), (10, .int (nI i1)), (9, .int 0), (0, .ref (ad_1 4 0)), (1, .ref (ad_1 17 0)), (2, .ref (ad_1 26 0)), (3, .ref (ad_1 26 1)), (4, .ref (ad_1 26 2)), (5, .ref (ad_1 26 3)), (6, .int x), (7, .int y)] := by rw [hkp 4 0 (by omega), hkp 17 0 (by omega), hkp 26 0 (by omega), hkp 26 1 (by omega), hkp 26 2 (by omega), hkp 26 3 (by omega)]; exact hl
                refine lv_iload hx hb dL_acts_179 (lv_at hl 0 rfl) ?_
                refine lv_icmp_ne (tgt := 251) hx hb dL_acts_181 (by decide) (fun c_181 => ?_) (fun c_181 => ?_)
                · exact absurd rfl c_181
                · refine lv_iload hx hb dL_acts_184 (lv_at hl 3 rfl) ?_
                  refine lv_if_eq (tgt := 198) hx hb dL_acts_186 (by decide) (fun c_186 => ?_) (fun c_186 => ?_)
                  · refine lv_aload_n hx hb dL_acts_198 rfl (lv_at hl 5 rfl) ?_
                    refine lv_iload hx hb dL_acts_199 (lv_at hl 2 rfl) ?_
                    refine lv_iload hx hb dL_acts_201 (lv_at hl 1 rfl) ?_
                    refine w_calli (vx_runSW (As := [.ref (ad_1 17 0), .int (nI i1), .int (nI i2)]) (rest := []) ⟨hx, hb, hml, hown, hts⟩ (t_L_addSwitch l hns D B ad_1 np ns nc σ ((np + 1, ns, nc), addF np (nI i1) 1 (nI i2) σ) (lW D 4 (st3 (st3 (st3 μ 0 0 np (nI i1)) 0 0 (16 + np) (nI i2)) 3 0 0 (nI (np + 1)))) hI J.2.1 (nI i1) (nI i2)) (vx_cwSW 3 hts gL_acts_L_addSwitch rfl rfl rfl (by decide +kernel) ⟨Nat.le_of_ble_eq_true rfl, Nat.le_of_ble_eq_true rfl⟩) (w_preS hC hP hS) rfl rfl hl.1 rfl (lv_room (Nat.le_of_ble_eq_true rfl)) dL_acts_203 ⟨Nat.le_of_ble_eq_true rfl, Nat.le_of_ble_eq_true rfl⟩) hS (fun r_9 ad_2 w1 H locs hq hP hS => ?_)
                    obtain ⟨ad9, S2, h81, hkp, h82, h83⟩ := hq
                    obtain ⟨h84, h85⟩ := h82 (as_0 hv (lo_bt (n := 1000) (by omega) (by decide)) hroom)
                    cases h84
                    cases h81
                    subst h85
                    have kp2 : kpA ad ad_2 := kpA_t kp1 hkp
                    have hl : lv_has ls 20 [(12, .int (nI np)), (11, .int (nI i2)), (10, .int (nI i1)), (9, .int 0), (0, .ref (ad_2 4 0)), (1, .ref (ad_2 17 0)), (2, .ref (ad_2 26 0)), (3, .ref (ad_2 26 1)), (4, .ref (ad_2 26 2)), (5, .ref (ad_2 26 3)), (6, .int x), (7, .int y)] := by rw [hkp 4 0 (by omega), hkp 17 0 (by omega), hkp 26 0 (by omega), hkp 26 1 (by omega), hkp 26 2 (by omega), hkp 26 3 (by omega)]; exact hl
                    refine lv_iload hx hb dL_acts_206 (lv_at hl 0 rfl) ?_
                    refine lv_icmp_ne (tgt := 251) hx hb dL_acts_208 (by decide) (fun c_208 => ?_) (fun c_208 => ?_)
                    · exact absurd rfl c_208
                    · refine lv_aload_n hx hb dL_acts_211 rfl (lv_at hl 4 rfl) ?_
                      refine lv_sipush (v := (1001)) hx hb dL_acts_212 (by decide) ?_
                      refine w_calli (vx_runSW (As := [.ref (ad_2 4 0), .int 1001]) (rest := []) ⟨hx, hb, hml, hown, hts⟩ (c_L_addMeasure l hns D B ad_2 (np + 1) ns nc (addF np (nI i1) 1 (nI i2) σ) (tW D ad_2 ((np + 1, ns, nc), addF np (nI i1) 1 (nI i2) σ) (lW D 4 (st3 (st3 (st3 μ 0 0 np (nI i1)) 0 0 (16 + np) (nI i2)) 3 0 0 (nI (np + 1))))) 0 hI2 J2.2.1 1001) (vx_cwSW 2 hts gL_acts_L_addMeasure rfl rfl rfl (by decide +kernel) ⟨Nat.le_of_ble_eq_true rfl, Nat.le_of_ble_eq_true rfl⟩) (w_preS hC hP hS) rfl rfl hl.1 rfl (lv_room (Nat.le_of_ble_eq_true rfl)) dL_acts_215 ⟨Nat.le_of_ble_eq_true rfl, Nat.le_of_ble_eq_true rfl⟩) hS (fun r_10 ad_3 w1 H locs hq hP hS => ?_)
                      obtain ⟨ad9, S2, h81, hkp, h82, h83⟩ := hq
                      obtain ⟨h84, h85⟩ := h83 (ne_1 (am_1 (fun z => absurd z.2 (by decide))))
                      cases h84
                      cases h81
                      subst h85
                      refine w_top (v := (-1000002)) (en_1 (am_1 (fun z => absurd z.2 (by decide)))) ?_
                      have hP := hw_ado hP hkp
                      have kp3 : kpA ad ad_3 := kpA_o kp2 hkp
                      have hl : lv_has ls 20 [(12, .int (nI np)), (11, .int (nI i2)), (10, .int (nI i1)), (9, .int 0), (0, .ref (ad_3 4 0)), (1, .ref (ad_3 17 0)), (2, .ref (ad_3 26 0)), (3, .ref (ad_3 26 1)), (4, .ref (ad_3 26 2)), (5, .ref (ad_3 26 3)), (6, .int x), (7, .int y)] := by rw [hkp 4 0 (by omega), hkp 17 0 (by omega), hkp 26 0 (by omega), hkp 26 1 (by omega), hkp 26 2 (by omega), hkp 26 3 (by omega)]; exact hl
                      refine lv_ldc (v := (-1000002)) hx hb hown (hts (.constant RL 18 (-1000002)) (by decide +kernel)) dL_acts_218 ?_
                      refine lv_icmp_ne (tgt := 251) hx hb dL_acts_220 (by decide) (fun c_220 => ?_) (fun c_220 => ?_)
                      · exact absurd c_220 (by decide)
                      · refine lv_aload_n hx hb dL_acts_223 rfl (lv_at hl 4 rfl) ?_
                        refine lv_iconst (v := 2) hx hb dL_acts_224 (by decide) ?_
                        refine lv_iconst (v := 0) hx hb dL_acts_225 (by decide) ?_
                        refine w_calli (vx_runSW (As := [.ref (ad_3 4 0), .int 2, .int 0]) (rest := []) ⟨hx, hb, hml, hown, hts⟩ (c_L_addSwitch l hns D B ad_3 (np + 1) ns nc (addF np (nI i1) 1 (nI i2) σ) (tW D ad_3 ((np + 1, ns, nc), addF np (nI i1) 1 (nI i2) σ) (lW D 4 (st3 (st3 (st3 μ 0 0 np (nI i1)) 0 0 (16 + np) (nI i2)) 3 0 0 (nI (np + 1))))) 0 hI2 J2.2.1 2 0) (vx_cwSW 3 hts gL_acts_L_addSwitch rfl rfl rfl (by decide +kernel) ⟨Nat.le_of_ble_eq_true rfl, Nat.le_of_ble_eq_true rfl⟩) (w_preS hC hP hS) rfl rfl hl.1 rfl (lv_room (Nat.le_of_ble_eq_true rfl)) dL_acts_226 ⟨Nat.le_of_ble_eq_true rfl, Nat.le_of_ble_eq_true rfl⟩) hS (fun r_11 ad_4 w1 H locs hq hP hS => ?_)
                        obtain ⟨ad9, S2, h81, hkp, h82, h83⟩ := hq
                        obtain ⟨h84, h85⟩ := h83 (ne_1 (as_1 (fun z => absurd z.1.2 (by decide))))
                        cases h84
                        cases h81
                        subst h85
                        refine w_top (v := (-1000002)) (en_1 (as_1 (fun z => absurd z.1.2 (by decide)))) ?_
                        have hP := hw_ado hP hkp
                        have kp4 : kpA ad ad_4 := kpA_o kp3 hkp
                        have hl : lv_has ls 20 [(12, .int (nI np)), (11, .int (nI i2)), (10, .int (nI i1)), (9, .int 0), (0, .ref (ad_4 4 0)), (1, .ref (ad_4 17 0)), (2, .ref (ad_4 26 0)), (3, .ref (ad_4 26 1)), (4, .ref (ad_4 26 2)), (5, .ref (ad_4 26 3)), (6, .int x), (7, .int y)] := by rw [hkp 4 0 (by omega), hkp 17 0 (by omega), hkp 26 0 (by omega), hkp 26 1 (by omega), hkp 26 2 (by omega), hkp 26 3 (by omega)]; exact hl
                        refine lv_ldc (v := (-1000002)) hx hb hown (hts (.constant RL 18 (-1000002)) (by decide +kernel)) dL_acts_229 ?_
                        refine lv_icmp_ne (tgt := 251) hx hb dL_acts_231 (by decide) (fun c_231 => ?_) (fun c_231 => ?_)
                        · exact absurd c_231 (by decide)
                        · refine lv_aload_n hx hb dL_acts_234 rfl (lv_at hl 4 rfl) ?_
                          refine lv_iconst (v := 0) hx hb dL_acts_235 (by decide) ?_
                          refine lv_sipush (v := (1001)) hx hb dL_acts_236 (by decide) ?_
                          refine w_calli (vx_runSW (As := [.ref (ad_4 4 0), .int 0, .int 1001]) (rest := []) ⟨hx, hb, hml, hown, hts⟩ (c_L_addSwitch l hns D B ad_4 (np + 1) ns nc (addF np (nI i1) 1 (nI i2) σ) (tW D ad_4 ((np + 1, ns, nc), addF np (nI i1) 1 (nI i2) σ) (lW D 4 (st3 (st3 (st3 μ 0 0 np (nI i1)) 0 0 (16 + np) (nI i2)) 3 0 0 (nI (np + 1))))) 0 hI2 J2.2.1 0 1001) (vx_cwSW 3 hts gL_acts_L_addSwitch rfl rfl rfl (by decide +kernel) ⟨Nat.le_of_ble_eq_true rfl, Nat.le_of_ble_eq_true rfl⟩) (w_preS hC hP hS) rfl rfl hl.1 rfl (lv_room (Nat.le_of_ble_eq_true rfl)) dL_acts_239 ⟨Nat.le_of_ble_eq_true rfl, Nat.le_of_ble_eq_true rfl⟩) hS (fun r_12 ad_5 w1 H locs hq hP hS => ?_)
                          obtain ⟨ad9, S2, h81, hkp, h82, h83⟩ := hq
                          obtain ⟨h84, h85⟩ := h83 (ne_1 (as_1 (fun z => absurd z.2.2 (by decide))))
                          cases h84
                          cases h81
                          subst h85
                          refine w_top (v := (-1000002)) (en_1 (as_1 (fun z => absurd z.2.2 (by decide)))) ?_
                          have hP := hw_ado hP hkp
                          have kp5 : kpA ad ad_5 := kpA_o kp4 hkp
                          have hl : lv_has ls 20 [(12, .int (nI np)), (11, .int (nI i2)), (10, .int (nI i1)), (9, .int 0), (0, .ref (ad_5 4 0)), (1, .ref (ad_5 17 0)), (2, .ref (ad_5 26 0)), (3, .ref (ad_5 26 1)), (4, .ref (ad_5 26 2)), (5, .ref (ad_5 26 3)), (6, .int x), (7, .int y)] := by rw [hkp 4 0 (by omega), hkp 17 0 (by omega), hkp 26 0 (by omega), hkp 26 1 (by omega), hkp 26 2 (by omega), hkp 26 3 (by omega)]; exact hl
                          refine lv_ldc (v := (-1000002)) hx hb hown (hts (.constant RL 18 (-1000002)) (by decide +kernel)) dL_acts_242 ?_
                          refine lv_icmp_ne (tgt := 251) hx hb dL_acts_244 (by decide) (fun c_244 => ?_) (fun c_244 => ?_)
                          · exact absurd c_244 (by decide)
                          · refine lv_iconst (v := 1) hx hb dL_acts_247 (by decide) ?_
                            refine lv_goto (tgt := 252) hx hb dL_acts_248 (by decide) ?_
                            refine W.widen (k := 60) (n := 700) (Nat.le_of_ble_eq_true rfl) (Nat.le_of_ble_eq_true rfl) ?_
                            exact K 252 H locs ls ad_5 (np + 1, ns, nc) (addF np (nI i1) 1 (nI i2) σ) (st3 (st3 (st3 μ 0 0 np (nI i1)) 0 0 (16 + np) (nI i2)) 3 0 0 (nI (np + 1))) t N dL_acts_252 hP hS kp5 J2 (by omega) (by omega)
                  · exact absurd c_186 (by decide)
              · exact absurd c_159 (by decide)
            · exact absurd c_139 (by decide)
      · refine lv_iload hx hb dL_acts_71 (lv_at hl 9 rfl) ?_
        refine lv_bipush (v := (13)) hx hb dL_acts_73 (by decide) ?_
        refine lv_ishr hx hb dL_acts_75 ?_
        refine lv_iload hx hb dL_acts_76 (lv_at hl 8 rfl) ?_
        refine lv_iconst (v := 5) hx hb dL_acts_78 (by decide) ?_
        refine lv_ishr hx hb dL_acts_79 ?_
        refine lv_iconst (v := 3) hx hb dL_acts_80 (by decide) ?_
        refine w_calli (va_runS (As := [.int (x >>> (5 &&& 31)), .int 3]) (rest := [.int (y >>> (13 &&& 31))]) ⟨hx, hb, hml, hown, hts⟩ (c_L_low l D B ad (eW D ad ((np, ns, nc), σ) ((np, ns, nc), σ) (lW D 4 μ)) (x >>> (5 &&& 31)) 3 (by decide)) (va_cwS 2 hts gL_acts_L_low rfl rfl rfl (by decide +kernel) ⟨Nat.le_of_ble_eq_true rfl, Nat.le_of_ble_eq_true rfl⟩) (w_preS hC hP hS) rfl rfl hl.1 rfl (lv_room (Nat.le_of_ble_eq_true rfl)) dL_acts_81 ⟨Nat.le_of_ble_eq_true rfl, Nat.le_of_ble_eq_true rfl⟩) hS (fun r_13 ad1 w1 H locs hq hP hS => ?_)
        obtain ⟨h81, h82⟩ := hq
        cases h81
        subst h82
        refine lv_if_ne (tgt := 93) hx hb dL_acts_84 (by decide) (fun c_84 => ?_) (fun c_84 => ?_)
        · refine lv_bipush (v := (12)) hx hb dL_acts_93 (by decide) ?_
          refine w_calli (va_runS (As := [.int (y >>> (13 &&& 31)), .int 12]) (rest := []) ⟨hx, hb, hml, hown, hts⟩ (c_L_low l D B ad (eW D ad ((np, ns, nc), σ) ((np, ns, nc), σ) (lW D 4 μ)) (y >>> (13 &&& 31)) 12 (by decide)) (va_cwS 2 hts gL_acts_L_low rfl rfl rfl (by decide +kernel) ⟨Nat.le_of_ble_eq_true rfl, Nat.le_of_ble_eq_true rfl⟩) (w_preS hC hP hS) rfl rfl hl.1 rfl (lv_room (Nat.le_of_ble_eq_true rfl)) dL_acts_95 ⟨Nat.le_of_ble_eq_true rfl, Nat.le_of_ble_eq_true rfl⟩) hS (fun r_14 ad1 w1 H locs hq hP hS => ?_)
          obtain ⟨h81, h82⟩ := hq
          cases h81
          subst h82
          obtain ⟨j2, hj2, ej2⟩ := low_lt (y >>> (13 &&& 31)) (k := 12) (by omega) (by omega)
          refine w_top (v := nI j2) ej2 ?_
          refine lv_istore (lv' := [(11, .int (nI j2)), (10, .int (nI i1)), (9, .int 0), (0, .ref (ad 4 0)), (1, .ref (ad 17 0)), (2, .ref (ad 26 0)), (3, .ref (ad 26 1)), (4, .ref (ad 26 2)), (5, .ref (ad 26 3)), (6, .int x), (7, .int y)]) hx hb dL_acts_98 hl (by decide) rfl (fun ls hl => ?_)
          exact Kx _ _ _ ⟨j2, by omega, hP, hS, lv_sub hl [0, 1, 2, 3, 4, 5, 6, 7, 8, 9, 10] rfl⟩
        · refine lv_sipush (v := (1001)) hx hb dL_acts_87 (by decide) ?_
          refine lv_goto (tgt := 95) hx hb dL_acts_90 (by decide) ?_
          refine w_calli (va_runS (As := [.int (y >>> (13 &&& 31)), .int 1001]) (rest := []) ⟨hx, hb, hml, hown, hts⟩ (c_L_low l D B ad (eW D ad ((np, ns, nc), σ) ((np, ns, nc), σ) (lW D 4 μ)) (y >>> (13 &&& 31)) 1001 (by decide)) (va_cwS 2 hts gL_acts_L_low rfl rfl rfl (by decide +kernel) ⟨Nat.le_of_ble_eq_true rfl, Nat.le_of_ble_eq_true rfl⟩) (w_preS hC hP hS) rfl rfl hl.1 rfl (lv_room (Nat.le_of_ble_eq_true rfl)) dL_acts_95 ⟨Nat.le_of_ble_eq_true rfl, Nat.le_of_ble_eq_true rfl⟩) hS (fun r_15 ad1 w1 H locs hq hP hS => ?_)
          obtain ⟨h81, h82⟩ := hq
          cases h81
          subst h82
          obtain ⟨j2, hj2, ej2⟩ := low_lt (y >>> (13 &&& 31)) (k := 1001) (by omega) (by omega)
          refine w_top (v := nI j2) ej2 ?_
          refine lv_istore (lv' := [(11, .int (nI j2)), (10, .int (nI i1)), (9, .int 0), (0, .ref (ad 4 0)), (1, .ref (ad 17 0)), (2, .ref (ad 26 0)), (3, .ref (ad 26 1)), (4, .ref (ad 26 2)), (5, .ref (ad 26 3)), (6, .int x), (7, .int y)]) hx hb dL_acts_98 hl (by decide) rfl (fun ls hl => ?_)
          exact Kx _ _ _ ⟨j2, by omega, hP, hS, lv_sub hl [0, 1, 2, 3, 4, 5, 6, 7, 8, 9, 10] rfl⟩
    · exact absurd c_41 (by decide)
  · refine lv_iconst (v := 1) hx hb dL_acts_32 (by decide) ?_
    refine lv_goto (tgt := 37) hx hb dL_acts_33 (by decide) ?_
    refine lv_istore (lv' := [(9, .int 1), (0, .ref (ad 4 0)), (1, .ref (ad 17 0)), (2, .ref (ad 26 0)), (3, .ref (ad 26 1)), (4, .ref (ad 26 2)), (5, .ref (ad 26 3)), (6, .int x), (7, .int y)]) hx hb dL_acts_37 hl (by decide) rfl (fun ls hl => ?_)
    refine lv_iload hx hb dL_acts_39 (lv_at hl 0 rfl) ?_
    refine lv_if_eq (tgt := 61) hx hb dL_acts_41 (by decide) (fun c_41 => ?_) (fun c_41 => ?_)
    · exact absurd c_41 (by decide)
    · refine lv_iload hx hb dL_acts_44 (lv_at hl 8 rfl) ?_
      refine lv_iconst (v := 2) hx hb dL_acts_46 (by decide) ?_
      refine lv_ishr hx hb dL_acts_47 ?_
      refine lv_sipush (v := (2001)) hx hb dL_acts_48 (by decide) ?_
      refine w_calli (va_runS (As := [.int (y >>> (2 &&& 31)), .int 2001]) (rest := []) ⟨hx, hb, hml, hown, hts⟩ (c_L_low l D B ad (eW D ad ((np, ns, nc), σ) ((np, ns, nc), σ) (lW D 4 μ)) (y >>> (2 &&& 31)) 2001 (by decide)) (va_cwS 2 hts gL_acts_L_low rfl rfl rfl (by decide +kernel) ⟨Nat.le_of_ble_eq_true rfl, Nat.le_of_ble_eq_true rfl⟩) (w_preS hC hP hS) rfl rfl hl.1 rfl (lv_room (Nat.le_of_ble_eq_true rfl)) dL_acts_51 ⟨Nat.le_of_ble_eq_true rfl, Nat.le_of_ble_eq_true rfl⟩) hS (fun r_16 ad1 w1 H locs hq hP hS => ?_)
      obtain ⟨h81, h82⟩ := hq
      cases h81
      subst h82
      obtain ⟨i1, hi1, ei1⟩ := low_lt (y >>> (2 &&& 31)) (k := 2001) (by omega) (by omega)
      refine w_top (v := nI i1) ei1 ?_
      refine lv_sipush (v := (1000)) hx hb dL_acts_54 (by decide) ?_
      refine lv_isub hx hb dL_acts_57 ?_
      refine lv_goto (tgt := 69) hx hb dL_acts_58 (by decide) ?_
      refine lv_istore (lv' := [(10, .int ((nI i1) - 1000)), (9, .int 1), (0, .ref (ad 4 0)), (1, .ref (ad 17 0)), (2, .ref (ad 26 0)), (3, .ref (ad 26 1)), (4, .ref (ad 26 2)), (5, .ref (ad 26 3)), (6, .int x), (7, .int y)]) hx hb dL_acts_69 hl (by decide) rfl (fun ls hl => ?_)
      have hv := lo_me hi1
      refine w_cut 100 0 0 (fun H locs ls => ∃ (i2 : Nat), (i2 < 1001) ∧ hw D B ad (eW D ad ((np, ns, nc), σ) ((np, ns, nc), σ) (lW D 4 μ)) H ∧ va_S (ab B) s.heap H locs ∧ lv_has ls 20 [(11, .int (nI i2)), (10, .int ((nI i1) - 1000)), (9, .int 1), (0, .ref (ad 4 0)), (1, .ref (ad 17 0)), (2, .ref (ad 26 0)), (3, .ref (ad 26 1)), (4, .ref (ad 26 2)), (5, .ref (ad 26 3)), (6, .int x), (7, .int y)]) (fun H locs ls hJ => ?_) (fun Kx => ?_)
      · obtain ⟨i2, hi2, hP, hS, hl⟩ := hJ
        refine lv_aload hx hb dL_acts_100 (lv_at hl 8 rfl) ?_
        refine lv_iconst (v := 0) hx hb dL_acts_102 (by decide) ?_
        refine w_top (v := nI 0) rfl ?_
        refine w_ildN hx hb hC hP (eW_L (show 3 < 4 by decide)) (show 0 < 3 from by omega) (by decide) (v := nI np) l1 dL_acts_103 ?_
        refine lv_bipush (v := (16)) hx hb dL_acts_104 (by decide) ?_
        refine lv_icmp_ge (tgt := 116) hx hb dL_acts_106 (by decide) (fun c_106 => ?_) (fun c_106 => ?_)
        · have hfull : ¬ np < 16 := fun z => (nI_ge (b := 16) z (by decide)) c_106
          refine lv_ldc (v := (-1000003)) hx hb hown (hts (.constant RL 21 (-1000003)) (by decide +kernel)) dL_acts_116 ?_
          refine lv_istore (lv' := [(12, .int (-1000003)), (11, .int (nI i2)), (10, .int ((nI i1) - 1000)), (9, .int 1), (0, .ref (ad 4 0)), (1, .ref (ad 17 0)), (2, .ref (ad 26 0)), (3, .ref (ad 26 1)), (4, .ref (ad 26 2)), (5, .ref (ad 26 3)), (6, .int x), (7, .int y)]) hx hb dL_acts_118 hl (by decide) rfl (fun ls hl => ?_)
          refine lv_iload hx hb dL_acts_120 (lv_at hl 0 rfl) ?_
          refine lv_if_lt (tgt := 157) hx hb dL_acts_122 (by decide) (fun c_122 => ?_) (fun c_122 => ?_)
          · refine lv_iload hx hb dL_acts_157 (lv_at hl 3 rfl) ?_
            refine lv_if_eq (tgt := 171) hx hb dL_acts_159 (by decide) (fun c_159 => ?_) (fun c_159 => ?_)
            · exact absurd c_159 (by decide)
            · refine lv_aload_n hx hb dL_acts_162 rfl (lv_at hl 4 rfl) ?_
              refine lv_iload hx hb dL_acts_163 (lv_at hl 2 rfl) ?_
              refine w_calli (vx_runSW (As := [.ref (ad 4 0), .int ((nI i1) - 1000)]) (rest := []) ⟨hx, hb, hml, hown, hts⟩ (c_L_addMeasure l hns D B ad np ns nc σ (tW D ad ((np, ns, nc), σ) (lW D 4 μ)) 0 hI J.2.1 ((nI i1) - 1000)) (vx_cwSW 2 hts gL_acts_L_addMeasure rfl rfl rfl (by decide +kernel) ⟨Nat.le_of_ble_eq_true rfl, Nat.le_of_ble_eq_true rfl⟩) (w_preS hC hP hS) rfl rfl hl.1 rfl (lv_room (Nat.le_of_ble_eq_true rfl)) dL_acts_165 ⟨Nat.le_of_ble_eq_true rfl, Nat.le_of_ble_eq_true rfl⟩) hS (fun r_17 ad_1 w1 H locs hq hP hS => ?_)
              obtain ⟨ad9, S2, h81, hkp, h82, h83⟩ := hq
              obtain ⟨h84, h85⟩ := h83 (ne_2 (am_2 hv hfull))
              cases h84
              cases h81
              subst h85
              refine w_top (v := (-1000003)) (en_2 (am_2 hv hfull)) ?_
              have hP := hw_ado hP hkp
              have kp1 : kpA ad ad_1 := kpA_o kpA_r hkp
              have hl : lv_has ls 20 [(12, .int (-1000003)), (11, .int (nI i2)), (10, .int ((nI i1) - 1000)), (9, .int 1), (0, .ref (ad_1 4 0)), (1, .ref (ad_1 17 0)), (2, .ref (ad_1 26 0)), (3, .ref (ad_1 26 1)), (4, .ref (ad_1 26 2)), (5, .ref (ad_1 26 3)), (6, .int x), (7, .int y)] := by rw [hkp 4 0 (by omega), hkp 17 0 (by omega), hkp 26 0 (by omega), hkp 26 1 (by omega), hkp 26 2 (by omega), hkp 26 3 (by omega)]; exact hl
              refine lv_goto (tgt := 179) hx hb dL_acts_168 (by decide) ?_
              refine lv_iload hx hb dL_acts_179 (lv_at hl 0 rfl) ?_
              refine lv_icmp_ne (tgt := 251) hx hb dL_acts_181 (by decide) (fun c_181 => ?_) (fun c_181 => ?_)
              · exact absurd c_181 (by decide)
              · refine lv_iload hx hb dL_acts_184 (lv_at hl 3 rfl) ?_
                refine lv_if_eq (tgt := 198) hx hb dL_acts_186 (by decide) (fun c_186 => ?_) (fun c_186 => ?_)
                · exact absurd c_186 (by decide)
                · refine lv_aload_n hx hb dL_acts_189 rfl (lv_at hl 5 rfl) ?_
                  refine lv_iload hx hb dL_acts_190 (lv_at hl 2 rfl) ?_
                  refine w_calli (vx_runSW (As := [.ref (ad_1 17 0), .int ((nI i1) - 1000)]) (rest := []) ⟨hx, hb, hml, hown, hts⟩ (t_L_addMeasure l hns D B ad_1 np ns nc σ ((np, ns, nc), σ) (lW D 4 μ) hI J.2.1 ((nI i1) - 1000)) (vx_cwSW 2 hts gL_acts_L_addMeasure rfl rfl rfl (by decide +kernel) ⟨Nat.le_of_ble_eq_true rfl, Nat.le_of_ble_eq_true rfl⟩) (w_preS hC hP hS) rfl rfl hl.1 rfl (lv_room (Nat.le_of_ble_eq_true rfl)) dL_acts_192 ⟨Nat.le_of_ble_eq_true rfl, Nat.le_of_ble_eq_true rfl⟩) hS (fun r_18 ad_2 w1 H locs hq hP hS => ?_)
                  obtain ⟨ad9, S2, h81, hkp, h82, h83⟩ := hq
                  obtain ⟨h84, h85⟩ := h83 (ne_2 (am_2 hv hfull))
                  cases h84
                  cases h81
                  subst h85
                  refine w_top (v := (-1000003)) (en_2 (am_2 hv hfull)) ?_
                  have kp2 : kpA ad ad_2 := kpA_t kp1 hkp
                  have hl : lv_has ls 20 [(12, .int (-1000003)), (11, .int (nI i2)), (10, .int ((nI i1) - 1000)), (9, .int 1), (0, .ref (ad_2 4 0)), (1, .ref (ad_2 17 0)), (2, .ref (ad_2 26 0)), (3, .ref (ad_2 26 1)), (4, .ref (ad_2 26 2)), (5, .ref (ad_2 26 3)), (6, .int x), (7, .int y)] := by rw [hkp 4 0 (by omega), hkp 17 0 (by omega), hkp 26 0 (by omega), hkp 26 1 (by omega), hkp 26 2 (by omega), hkp 26 3 (by omega)]; exact hl
                  refine lv_goto (tgt := 206) hx hb dL_acts_195 (by decide) ?_
                  refine lv_iload hx hb dL_acts_206 (lv_at hl 0 rfl) ?_
                  refine lv_icmp_ne (tgt := 251) hx hb dL_acts_208 (by decide) (fun c_208 => ?_) (fun c_208 => ?_)
                  · exact absurd c_208 (by decide)
                  · refine lv_aload_n hx hb dL_acts_211 rfl (lv_at hl 4 rfl) ?_
                    refine lv_sipush (v := (1001)) hx hb dL_acts_212 (by decide) ?_
                    refine w_calli (vx_runSW (As := [.ref (ad_2 4 0), .int 1001]) (rest := []) ⟨hx, hb, hml, hown, hts⟩ (c_L_addMeasure l hns D B ad_2 np ns nc σ (tW D ad_2 ((np, ns, nc), σ) (lW D 4 μ)) 0 hI J.2.1 1001) (vx_cwSW 2 hts gL_acts_L_addMeasure rfl rfl rfl (by decide +kernel) ⟨Nat.le_of_ble_eq_true rfl, Nat.le_of_ble_eq_true rfl⟩) (w_preS hC hP hS) rfl rfl hl.1 rfl (lv_room (Nat.le_of_ble_eq_true rfl)) dL_acts_215 ⟨Nat.le_of_ble_eq_true rfl, Nat.le_of_ble_eq_true rfl⟩) hS (fun r_19 ad_3 w1 H locs hq hP hS => ?_)
                    obtain ⟨ad9, S2, h81, hkp, h82, h83⟩ := hq
                    obtain ⟨h84, h85⟩ := h83 (ne_1 (am_1 (fun z => absurd z.2 (by decide))))
                    cases h84
                    cases h81
                    subst h85
                    refine w_top (v := (-1000002)) (en_1 (am_1 (fun z => absurd z.2 (by decide)))) ?_
                    have hP := hw_ado hP hkp
                    have kp3 : kpA ad ad_3 := kpA_o kp2 hkp
                    have hl : lv_has ls 20 [(12, .int (-1000003)), (11, .int (nI i2)), (10, .int ((nI i1) - 1000)), (9, .int 1), (0, .ref (ad_3 4 0)), (1, .ref (ad_3 17 0)), (2, .ref (ad_3 26 0)), (3, .ref (ad_3 26 1)), (4, .ref (ad_3 26 2)), (5, .ref (ad_3 26 3)), (6, .int x), (7, .int y)] := by rw [hkp 4 0 (by omega), hkp 17 0 (by omega), hkp 26 0 (by omega), hkp 26 1 (by omega), hkp 26 2 (by omega), hkp 26 3 (by omega)]; exact hl
                    refine lv_ldc (v := (-1000002)) hx hb hown (hts (.constant RL 18 (-1000002)) (by decide +kernel)) dL_acts_218 ?_
                    refine lv_icmp_ne (tgt := 251) hx hb dL_acts_220 (by decide) (fun c_220 => ?_) (fun c_220 => ?_)
                    · exact absurd c_220 (by decide)
                    · refine lv_aload_n hx hb dL_acts_223 rfl (lv_at hl 4 rfl) ?_
                      refine lv_iconst (v := 2) hx hb dL_acts_224 (by decide) ?_
                      refine lv_iconst (v := 0) hx hb dL_acts_225 (by decide) ?_
                      refine w_calli (vx_runSW (As := [.ref (ad_3 4 0), .int 2, .int 0]) (rest := []) ⟨hx, hb, hml, hown, hts⟩ (c_L_addSwitch l hns D B ad_3 np ns nc σ (tW D ad_3 ((np, ns, nc), σ) (lW D 4 μ)) 0 hI J.2.1 2 0) (vx_cwSW 3 hts gL_acts_L_addSwitch rfl rfl rfl (by decide +kernel) ⟨Nat.le_of_ble_eq_true rfl, Nat.le_of_ble_eq_true rfl⟩) (w_preS hC hP hS) rfl rfl hl.1 rfl (lv_room (Nat.le_of_ble_eq_true rfl)) dL_acts_226 ⟨Nat.le_of_ble_eq_true rfl, Nat.le_of_ble_eq_true rfl⟩) hS (fun r_20 ad_4 w1 H locs hq hP hS => ?_)
                      obtain ⟨ad9, S2, h81, hkp, h82, h83⟩ := hq
                      obtain ⟨h84, h85⟩ := h83 (ne_1 (as_1 (fun z => absurd z.1.2 (by decide))))
                      cases h84
                      cases h81
                      subst h85
                      refine w_top (v := (-1000002)) (en_1 (as_1 (fun z => absurd z.1.2 (by decide)))) ?_
                      have hP := hw_ado hP hkp
                      have kp4 : kpA ad ad_4 := kpA_o kp3 hkp
                      have hl : lv_has ls 20 [(12, .int (-1000003)), (11, .int (nI i2)), (10, .int ((nI i1) - 1000)), (9, .int 1), (0, .ref (ad_4 4 0)), (1, .ref (ad_4 17 0)), (2, .ref (ad_4 26 0)), (3, .ref (ad_4 26 1)), (4, .ref (ad_4 26 2)), (5, .ref (ad_4 26 3)), (6, .int x), (7, .int y)] := by rw [hkp 4 0 (by omega), hkp 17 0 (by omega), hkp 26 0 (by omega), hkp 26 1 (by omega), hkp 26 2 (by omega), hkp 26 3 (by omega)]; exact hl
                      refine lv_ldc (v := (-1000002)) hx hb hown (hts (.constant RL 18 (-1000002)) (by decide +kernel)) dL_acts_229 ?_
                      refine lv_icmp_ne (tgt := 251) hx hb dL_acts_231 (by decide) (fun c_231 => ?_) (fun c_231 => ?_)
                      · exact absurd c_231 (by decide)
                      · refine lv_aload_n hx hb dL_acts_234 rfl (lv_at hl 4 rfl) ?_
                        refine lv_iconst (v := 0) hx hb dL_acts_235 (by decide) ?_
                        refine lv_sipush (v := (1001)) hx hb dL_acts_236 (by decide) ?_
                        refine w_calli (vx_runSW (As := [.ref (ad_4 4 0), .int 0, .int 1001]) (rest := []) ⟨hx, hb, hml, hown, hts⟩ (c_L_addSwitch l hns D B ad_4 np ns nc σ (tW D ad_4 ((np, ns, nc), σ) (lW D 4 μ)) 0 hI J.2.1 0 1001) (vx_cwSW 3 hts gL_acts_L_addSwitch rfl rfl rfl (by decide +kernel) ⟨Nat.le_of_ble_eq_true rfl, Nat.le_of_ble_eq_true rfl⟩) (w_preS hC hP hS) rfl rfl hl.1 rfl (lv_room (Nat.le_of_ble_eq_true rfl)) dL_acts_239 ⟨Nat.le_of_ble_eq_true rfl, Nat.le_of_ble_eq_true rfl⟩) hS (fun r_21 ad_5 w1 H locs hq hP hS => ?_)
                        obtain ⟨ad9, S2, h81, hkp, h82, h83⟩ := hq
                        obtain ⟨h84, h85⟩ := h83 (ne_1 (as_1 (fun z => absurd z.2.2 (by decide))))
                        cases h84
                        cases h81
                        subst h85
                        refine w_top (v := (-1000002)) (en_1 (as_1 (fun z => absurd z.2.2 (by decide)))) ?_
                        have hP := hw_ado hP hkp
                        have kp5 : kpA ad ad_5 := kpA_o kp4 hkp
                        have hl : lv_has ls 20 [(12, .int (-1000003)), (11, .int (nI i2)), (10, .int ((nI i1) - 1000)), (9, .int 1), (0, .ref (ad_5 4 0)), (1, .ref (ad_5 17 0)), (2, .ref (ad_5 26 0)), (3, .ref (ad_5 26 1)), (4, .ref (ad_5 26 2)), (5, .ref (ad_5 26 3)), (6, .int x), (7, .int y)] := by rw [hkp 4 0 (by omega), hkp 17 0 (by omega), hkp 26 0 (by omega), hkp 26 1 (by omega), hkp 26 2 (by omega), hkp 26 3 (by omega)]; exact hl
                        refine lv_ldc (v := (-1000002)) hx hb hown (hts (.constant RL 18 (-1000002)) (by decide +kernel)) dL_acts_242 ?_
                        refine lv_icmp_ne (tgt := 251) hx hb dL_acts_244 (by decide) (fun c_244 => ?_) (fun c_244 => ?_)
                        · exact absurd c_244 (by decide)
                        · refine lv_iconst (v := 1) hx hb dL_acts_247 (by decide) ?_
                          refine lv_goto (tgt := 252) hx hb dL_acts_248 (by decide) ?_
                          refine W.widen (k := 60) (n := 700) (Nat.le_of_ble_eq_true rfl) (Nat.le_of_ble_eq_true rfl) ?_
                          exact K 252 H locs ls ad_5 (np, ns, nc) σ μ t N dL_acts_252 hP hS kp5 J (by omega) (by omega)
          · exact absurd c_122 (by decide)
        · have hroom : np < 16 := Nat.not_le.mp (fun z => c_106 (nI_le (a := 16) z (by omega)))
          refine lv_aload hx hb dL_acts_109 (lv_at hl 8 rfl) ?_
          refine lv_iconst (v := 0) hx hb dL_acts_111 (by decide) ?_
          refine w_top (v := nI 0) rfl ?_
          refine w_ildN hx hb hC hP (eW_L (show 3 < 4 by decide)) (show 0 < 3 from by omega) (by decide) (v := nI np) l1 dL_acts_112 ?_
          refine lv_goto (tgt := 118) hx hb dL_acts_113 (by decide) ?_
          refine lv_istore (lv' := [(12, .int (nI np)), (11, .int (nI i2)), (10, .int ((nI i1) - 1000)), (9, .int 1), (0, .ref (ad 4 0)), (1, .ref (ad 17 0)), (2, .ref (ad 26 0)), (3, .ref (ad 26 1)), (4, .ref (ad 26 2)), (5, .ref (ad 26 3)), (6, .int x), (7, .int y)]) hx hb dL_acts_118 hl (by decide) rfl (fun ls hl => ?_)
          refine lv_iload hx hb dL_acts_120 (lv_at hl 0 rfl) ?_
          refine lv_if_lt (tgt := 157) hx hb dL_acts_122 (by decide) (fun c_122 => ?_) (fun c_122 => ?_)
          · exact absurd c_122 (nI_pos (by omega))
          · refine lv_aload_n hx hb dL_acts_125 rfl (lv_at hl 6 rfl) ?_
            refine lv_iload hx hb dL_acts_126 (lv_at hl 0 rfl) ?_
            refine lv_iload hx hb dL_acts_128 (lv_at hl 2 rfl) ?_
            refine w_istN hx hb hC hP hS (eW_L (show 0 < 4 by decide)) (show np < 32 from by omega) (by decide) dL_acts_130 (fun H locs hP hS => ?_)
            have hP := hw_eq hP (eW_put _ (show 0 < 4 by decide))
            refine lv_aload_n hx hb dL_acts_131 rfl (lv_at hl 6 rfl) ?_
            refine lv_bipush (v := (16)) hx hb dL_acts_132 (by decide) ?_
            refine lv_iload hx hb dL_acts_134 (lv_at hl 0 rfl) ?_
            refine lv_iadd hx hb dL_acts_136 ?_
            refine w_top (v := nI (16 + np)) (nI_add 16 np) ?_
            refine lv_iload hx hb dL_acts_137 (lv_at hl 3 rfl) ?_
            refine lv_if_eq (tgt := 146) hx hb dL_acts_139 (by decide) (fun c_139 => ?_) (fun c_139 => ?_)
            · exact absurd c_139 (by decide)
            · refine lv_iconst (v := (-1)) hx hb dL_acts_142 (by decide) ?_
              refine lv_goto (tgt := 148) hx hb dL_acts_143 (by decide) ?_
              refine w_istN hx hb hC hP hS (eW_L (show 0 < 4 by decide)) (show 16 + np < 32 from by omega) (by decide) dL_acts_148 (fun H locs hP hS => ?_)
              have hP := hw_eq hP (eW_put _ (show 0 < 4 by decide))
              refine lv_aload hx hb dL_acts_149 (lv_at hl 9 rfl) ?_
              refine lv_iconst (v := 0) hx hb dL_acts_151 (by decide) ?_
              refine lv_dup2_11 hx hb dL_acts_152 rfl rfl ?_
              refine w_top (v := nI 0) rfl ?_
              refine w_ildN hx hb hC hP (eW_L (show 3 < 4 by decide)) (show 0 < 3 from by omega) (by decide) (v := nI np) (by rw [st3_n (by decide), st3_n (by decide)]; exact l1) dL_acts_153 ?_
              refine lv_iconst (v := 1) hx hb dL_acts_154 (by decide) ?_
              refine lv_iadd hx hb dL_acts_155 ?_
              refine w_top (v := nI (np + 1)) (nI_add np 1) ?_
              refine w_top2 (v := nI 0) rfl ?_
              refine w_istN hx hb hC hP hS (eW_L (show 3 < 4 by decide)) (show 0 < 3 from by omega) (by decide) dL_acts_156 (fun H locs hP hS => ?_)
              have hP := hw_eq hP (eW_put _ (show 3 < 4 by decide))
              refine lv_iload hx hb dL_acts_157 (lv_at hl 3 rfl) ?_
              refine lv_if_eq (tgt := 171) hx hb dL_acts_159 (by decide) (fun c_159 => ?_) (fun c_159 => ?_)
              · exact absurd c_159 (by decide)
              · refine lv_aload_n hx hb dL_acts_162 rfl (lv_at hl 4 rfl) ?_
                refine lv_iload hx hb dL_acts_163 (lv_at hl 2 rfl) ?_
                have J2 : Jt t N (np + 1, ns, nc) (addF np ((nI i1) - 1000) 0 0 σ) (st3 (st3 (st3 μ 0 0 np ((nI i1) - 1000)) 0 0 (16 + np) (-1)) 3 0 0 (nI (np + 1))) := Jt_add J hroom (Or.inl rfl) (by rw [show loF 0 = -1000 by decide, show hiF 0 = 1000 by decide]; exact hv) ⟨by decide, by decide⟩ (fun _ => rfl) (fun a j z1 z2 => by rw [st3_ne (by omega), st3_ne (by omega), st3_ne (by omega)]) (by rw [st3_n (by decide), st3_ne (by omega), st3_v]) (by rw [st3_n (by decide), st3_v]; decide) st3_v
                have hI2 := Jt_I J2
                refine w_calli (vx_runSW (As := [.ref (ad 4 0), .int ((nI i1) - 1000)]) (rest := []) ⟨hx, hb, hml, hown, hts⟩ (c_L_addMeasure l hns D B ad np ns nc σ (tW D ad ((np, ns, nc), σ) (lW D 4 (st3 (st3 (st3 μ 0 0 np ((nI i1) - 1000)) 0 0 (16 + np) (-1)) 3 0 0 (nI (np + 1))))) 0 hI J.2.1 ((nI i1) - 1000)) (vx_cwSW 2 hts gL_acts_L_addMeasure rfl rfl rfl (by decide +kernel) ⟨Nat.le_of_ble_eq_true rfl, Nat.le_of_ble_eq_true rfl⟩) (w_preS hC hP hS) rfl rfl hl.1 rfl (lv_room (Nat.le_of_ble_eq_true rfl)) dL_acts_165 ⟨Nat.le_of_ble_eq_true rfl, Nat.le_of_ble_eq_true rfl⟩) hS (fun r_22 ad_1 w1 H locs hq hP hS => ?_)
                obtain ⟨ad9, S2, h81, hkp, h82, h83⟩ := hq
                obtain ⟨h84, h85⟩ := h82 (am_0 hv hroom)
                cases h84
                cases h81
                subst h85
                have hP := hw_ado hP hkp
                have kp1 : kpA ad ad_1 := kpA_o kpA_r hkp
                have hl : lv_has ls 20 [(12, .int (nI np)), (11, .int (nI i2)), (10, .int ((nI i1) - 1000)), (9, .int 1), (0, .ref (ad_1 4 0)), (1, .ref (ad_1 17 0)), (2, .ref (ad_1 26 0)), (3, .ref (ad_1 26 1)), (4, .ref (ad_1 26 2)), (5, .ref (ad_1 26 3)), (6, .int x), (7, .int y)] := by rw [hkp 4 0 (by omega), hkp 17 0 (by omega), hkp 26 0 (by omega), hkp 26 1 (by omega), hkp 26 2 (by omega), hkp 26 3 (by omega)]; exact hl
                refine lv_goto (tgt := 179) hx hb dL_acts_168 (by decide) ?_
                refine lv_iload hx hb dL_acts_179 (lv_at hl 0 rfl) ?_
                refine lv_icmp_ne (tgt := 251) hx hb dL_acts_181 (by decide) (fun c_181 => ?_) (fun c_181 => ?_)
                · exact absurd rfl c_181
                · refine lv_iload hx hb dL_acts_184 (lv_at hl 3 rfl) ?_
                  refine lv_if_eq (tgt := 198) hx hb dL_acts_186 (by decide) (fun c_186 => ?_) (fun c_186 => ?_)
                  · exact absurd c_186 (by decide)
                  · refine lv_aload_n hx hb dL_acts_189 rfl (lv_at hl 5 rfl) ?_
                    refine lv_iload hx hb dL_acts_190 (lv_at hl 2 rfl) ?_
                    refine w_calli (vx_runSW (As := [.ref (ad_1 17 0), .int ((nI i1) - 1000)]) (rest := []) ⟨hx, hb, hml, hown, hts⟩ (t_L_addMeasure l hns D B ad_1 np ns nc σ ((np + 1, ns, nc), addF np ((nI i1) - 1000) 0 0 σ) (lW D 4 (st3 (st3 (st3 μ 0 0 np ((nI i1) - 1000)) 0 0 (16 + np) (-1)) 3 0 0 (nI (np + 1)))) hI J.2.1 ((nI i1) - 1000)) (vx_cwSW 2 hts gL_acts_L_addMeasure rfl rfl rfl (by decide +kernel) ⟨Nat.le_of_ble_eq_true rfl, Nat.le_of_ble_eq_true rfl⟩) (w_preS hC hP hS) rfl rfl hl.1 rfl (lv_room (Nat.le_of_ble_eq_true rfl)) dL_acts_192 ⟨Nat.le_of_ble_eq_true rfl, Nat.le_of_ble_eq_true rfl⟩) hS (fun r_23 ad_2 w1 H locs hq hP hS => ?_)
                    obtain ⟨ad9, S2, h81, hkp, h82, h83⟩ := hq
                    obtain ⟨h84, h85⟩ := h82 (am_0 hv hroom)
                    cases h84
                    cases h81
                    subst h85
                    have kp2 : kpA ad ad_2 := kpA_t kp1 hkp
                    have hl : lv_has ls 20 [(12, .int (nI np)), (11, .int (nI i2)), (10, .int ((nI i1) - 1000)), (9, .int 1), (0, .ref (ad_2 4 0)), (1, .ref (ad_2 17 0)), (2, .ref (ad_2 26 0)), (3, .ref (ad_2 26 1)), (4, .ref (ad_2 26 2)), (5, .ref (ad_2 26 3)), (6, .int x), (7, .int y)] := by rw [hkp 4 0 (by omega), hkp 17 0 (by omega), hkp 26 0 (by omega), hkp 26 1 (by omega), hkp 26 2 (by omega), hkp 26 3 (by omega)]; exact hl
                    refine lv_goto (tgt := 206) hx hb dL_acts_195 (by decide) ?_
                    refine lv_iload hx hb dL_acts_206 (lv_at hl 0 rfl) ?_
                    refine lv_icmp_ne (tgt := 251) hx hb dL_acts_208 (by decide) (fun c_208 => ?_) (fun c_208 => ?_)
                    · exact absurd rfl c_208
                    · refine lv_aload_n hx hb dL_acts_211 rfl (lv_at hl 4 rfl) ?_
                      refine lv_sipush (v := (1001)) hx hb dL_acts_212 (by decide) ?_
                      refine w_calli (vx_runSW (As := [.ref (ad_2 4 0), .int 1001]) (rest := []) ⟨hx, hb, hml, hown, hts⟩ (c_L_addMeasure l hns D B ad_2 (np + 1) ns nc (addF np ((nI i1) - 1000) 0 0 σ) (tW D ad_2 ((np + 1, ns, nc), addF np ((nI i1) - 1000) 0 0 σ) (lW D 4 (st3 (st3 (st3 μ 0 0 np ((nI i1) - 1000)) 0 0 (16 + np) (-1)) 3 0 0 (nI (np + 1))))) 0 hI2 J2.2.1 1001) (vx_cwSW 2 hts gL_acts_L_addMeasure rfl rfl rfl (by decide +kernel) ⟨Nat.le_of_ble_eq_true rfl, Nat.le_of_ble_eq_true rfl⟩) (w_preS hC hP hS) rfl rfl hl.1 rfl (lv_room (Nat.le_of_ble_eq_true rfl)) dL_acts_215 ⟨Nat.le_of_ble_eq_true rfl, Nat.le_of_ble_eq_true rfl⟩) hS (fun r_24 ad_3 w1 H locs hq hP hS => ?_)
                      obtain ⟨ad9, S2, h81, hkp, h82, h83⟩ := hq
                      obtain ⟨h84, h85⟩ := h83 (ne_1 (am_1 (fun z => absurd z.2 (by decide))))
                      cases h84
                      cases h81
                      subst h85
                      refine w_top (v := (-1000002)) (en_1 (am_1 (fun z => absurd z.2 (by decide)))) ?_
                      have hP := hw_ado hP hkp
                      have kp3 : kpA ad ad_3 := kpA_o kp2 hkp
                      have hl : lv_has ls 20 [(12, .int (nI np)), (11, .int (nI i2)), (10, .int ((nI i1) - 1000)), (9, .int 1), (0, .ref (ad_3 4 0)), (1, .ref (ad_3 17 0)), (2, .ref (ad_3 26 0)), (3, .ref (ad_3 26 1)), (4, .ref (ad_3 26 2)), (5, .ref (ad_3 26 3)), (6, .int x), (7, .int y)] := by rw [hkp 4 0 (by omega), hkp 17 0 (by omega), hkp 26 0 (by omega), hkp 26 1 (by omega), hkp 26 2 (by omega), hkp 26 3 (by omega)]; exact hl
                      refine lv_ldc (v := (-1000002)) hx hb hown (hts (.constant RL 18 (-1000002)) (by decide +kernel)) dL_acts_218 ?_
                      refine lv_icmp_ne (tgt := 251) hx hb dL_acts_220 (by decide) (fun c_220 => ?_) (fun c_220 => ?_)
                      · exact absurd c_220 (by decide)
                      · refine lv_aload_n hx hb dL_acts_223 rfl (lv_at hl 4 rfl) ?_
                        refine lv_iconst (v := 2) hx hb dL_acts_224 (by decide) ?_
                        refine lv_iconst (v := 0) hx hb dL_acts_225 (by decide) ?_
                        refine w_calli (vx_runSW (As := [.ref (ad_3 4 0), .int 2, .int 0]) (rest := []) ⟨hx, hb, hml, hown, hts⟩ (c_L_addSwitch l hns D B ad_3 (np + 1) ns nc (addF np ((nI i1) - 1000) 0 0 σ) (tW D ad_3 ((np + 1, ns, nc), addF np ((nI i1) - 1000) 0 0 σ) (lW D 4 (st3 (st3 (st3 μ 0 0 np ((nI i1) - 1000)) 0 0 (16 + np) (-1)) 3 0 0 (nI (np + 1))))) 0 hI2 J2.2.1 2 0) (vx_cwSW 3 hts gL_acts_L_addSwitch rfl rfl rfl (by decide +kernel) ⟨Nat.le_of_ble_eq_true rfl, Nat.le_of_ble_eq_true rfl⟩) (w_preS hC hP hS) rfl rfl hl.1 rfl (lv_room (Nat.le_of_ble_eq_true rfl)) dL_acts_226 ⟨Nat.le_of_ble_eq_true rfl, Nat.le_of_ble_eq_true rfl⟩) hS (fun r_25 ad_4 w1 H locs hq hP hS => ?_)
                        obtain ⟨ad9, S2, h81, hkp, h82, h83⟩ := hq
                        obtain ⟨h84, h85⟩ := h83 (ne_1 (as_1 (fun z => absurd z.1.2 (by decide))))
                        cases h84
                        cases h81
                        subst h85
                        refine w_top (v := (-1000002)) (en_1 (as_1 (fun z => absurd z.1.2 (by decide)))) ?_
                        have hP := hw_ado hP hkp
                        have kp4 : kpA ad ad_4 := kpA_o kp3 hkp
                        have hl : lv_has ls 20 [(12, .int (nI np)), (11, .int (nI i2)), (10, .int ((nI i1) - 1000)), (9, .int 1), (0, .ref (ad_4 4 0)), (1, .ref (ad_4 17 0)), (2, .ref (ad_4 26 0)), (3, .ref (ad_4 26 1)), (4, .ref (ad_4 26 2)), (5, .ref (ad_4 26 3)), (6, .int x), (7, .int y)] := by rw [hkp 4 0 (by omega), hkp 17 0 (by omega), hkp 26 0 (by omega), hkp 26 1 (by omega), hkp 26 2 (by omega), hkp 26 3 (by omega)]; exact hl
                        refine lv_ldc (v := (-1000002)) hx hb hown (hts (.constant RL 18 (-1000002)) (by decide +kernel)) dL_acts_229 ?_
                        refine lv_icmp_ne (tgt := 251) hx hb dL_acts_231 (by decide) (fun c_231 => ?_) (fun c_231 => ?_)
                        · exact absurd c_231 (by decide)
                        · refine lv_aload_n hx hb dL_acts_234 rfl (lv_at hl 4 rfl) ?_
                          refine lv_iconst (v := 0) hx hb dL_acts_235 (by decide) ?_
                          refine lv_sipush (v := (1001)) hx hb dL_acts_236 (by decide) ?_
                          refine w_calli (vx_runSW (As := [.ref (ad_4 4 0), .int 0, .int 1001]) (rest := []) ⟨hx, hb, hml, hown, hts⟩ (c_L_addSwitch l hns D B ad_4 (np + 1) ns nc (addF np ((nI i1) - 1000) 0 0 σ) (tW D ad_4 ((np + 1, ns, nc), addF np ((nI i1) - 1000) 0 0 σ) (lW D 4 (st3 (st3 (st3 μ 0 0 np ((nI i1) - 1000)) 0 0 (16 + np) (-1)) 3 0 0 (nI (np + 1))))) 0 hI2 J2.2.1 0 1001) (vx_cwSW 3 hts gL_acts_L_addSwitch rfl rfl rfl (by decide +kernel) ⟨Nat.le_of_ble_eq_true rfl, Nat.le_of_ble_eq_true rfl⟩) (w_preS hC hP hS) rfl rfl hl.1 rfl (lv_room (Nat.le_of_ble_eq_true rfl)) dL_acts_239 ⟨Nat.le_of_ble_eq_true rfl, Nat.le_of_ble_eq_true rfl⟩) hS (fun r_26 ad_5 w1 H locs hq hP hS => ?_)
                          obtain ⟨ad9, S2, h81, hkp, h82, h83⟩ := hq
                          obtain ⟨h84, h85⟩ := h83 (ne_1 (as_1 (fun z => absurd z.2.2 (by decide))))
                          cases h84
                          cases h81
                          subst h85
                          refine w_top (v := (-1000002)) (en_1 (as_1 (fun z => absurd z.2.2 (by decide)))) ?_
                          have hP := hw_ado hP hkp
                          have kp5 : kpA ad ad_5 := kpA_o kp4 hkp
                          have hl : lv_has ls 20 [(12, .int (nI np)), (11, .int (nI i2)), (10, .int ((nI i1) - 1000)), (9, .int 1), (0, .ref (ad_5 4 0)), (1, .ref (ad_5 17 0)), (2, .ref (ad_5 26 0)), (3, .ref (ad_5 26 1)), (4, .ref (ad_5 26 2)), (5, .ref (ad_5 26 3)), (6, .int x), (7, .int y)] := by rw [hkp 4 0 (by omega), hkp 17 0 (by omega), hkp 26 0 (by omega), hkp 26 1 (by omega), hkp 26 2 (by omega), hkp 26 3 (by omega)]; exact hl
                          refine lv_ldc (v := (-1000002)) hx hb hown (hts (.constant RL 18 (-1000002)) (by decide +kernel)) dL_acts_242 ?_
                          refine lv_icmp_ne (tgt := 251) hx hb dL_acts_244 (by decide) (fun c_244 => ?_) (fun c_244 => ?_)
                          · exact absurd c_244 (by decide)
                          · refine lv_iconst (v := 1) hx hb dL_acts_247 (by decide) ?_
                            refine lv_goto (tgt := 252) hx hb dL_acts_248 (by decide) ?_
                            refine W.widen (k := 60) (n := 700) (Nat.le_of_ble_eq_true rfl) (Nat.le_of_ble_eq_true rfl) ?_
                            exact K 252 H locs ls ad_5 (np + 1, ns, nc) (addF np ((nI i1) - 1000) 0 0 σ) (st3 (st3 (st3 μ 0 0 np ((nI i1) - 1000)) 0 0 (16 + np) (-1)) 3 0 0 (nI (np + 1))) t N dL_acts_252 hP hS kp5 J2 (by omega) (by omega)
      · refine lv_iload hx hb dL_acts_71 (lv_at hl 9 rfl) ?_
        refine lv_bipush (v := (13)) hx hb dL_acts_73 (by decide) ?_
        refine lv_ishr hx hb dL_acts_75 ?_
        refine lv_iload hx hb dL_acts_76 (lv_at hl 8 rfl) ?_
        refine lv_iconst (v := 5) hx hb dL_acts_78 (by decide) ?_
        refine lv_ishr hx hb dL_acts_79 ?_
        refine lv_iconst (v := 3) hx hb dL_acts_80 (by decide) ?_
        refine w_calli (va_runS (As := [.int (x >>> (5 &&& 31)), .int 3]) (rest := [.int (y >>> (13 &&& 31))]) ⟨hx, hb, hml, hown, hts⟩ (c_L_low l D B ad (eW D ad ((np, ns, nc), σ) ((np, ns, nc), σ) (lW D 4 μ)) (x >>> (5 &&& 31)) 3 (by decide)) (va_cwS 2 hts gL_acts_L_low rfl rfl rfl (by decide +kernel) ⟨Nat.le_of_ble_eq_true rfl, Nat.le_of_ble_eq_true rfl⟩) (w_preS hC hP hS) rfl rfl hl.1 rfl (lv_room (Nat.le_of_ble_eq_true rfl)) dL_acts_81 ⟨Nat.le_of_ble_eq_true rfl, Nat.le_of_ble_eq_true rfl⟩) hS (fun r_27 ad1 w1 H locs hq hP hS => ?_)
        obtain ⟨h81, h82⟩ := hq
        cases h81
        subst h82
        refine lv_if_ne (tgt := 93) hx hb dL_acts_84 (by decide) (fun c_84 => ?_) (fun c_84 => ?_)
        · refine lv_bipush (v := (12)) hx hb dL_acts_93 (by decide) ?_
          refine w_calli (va_runS (As := [.int (y >>> (13 &&& 31)), .int 12]) (rest := []) ⟨hx, hb, hml, hown, hts⟩ (c_L_low l D B ad (eW D ad ((np, ns, nc), σ) ((np, ns, nc), σ) (lW D 4 μ)) (y >>> (13 &&& 31)) 12 (by decide)) (va_cwS 2 hts gL_acts_L_low rfl rfl rfl (by decide +kernel) ⟨Nat.le_of_ble_eq_true rfl, Nat.le_of_ble_eq_true rfl⟩) (w_preS hC hP hS) rfl rfl hl.1 rfl (lv_room (Nat.le_of_ble_eq_true rfl)) dL_acts_95 ⟨Nat.le_of_ble_eq_true rfl, Nat.le_of_ble_eq_true rfl⟩) hS (fun r_28 ad1 w1 H locs hq hP hS => ?_)
          obtain ⟨h81, h82⟩ := hq
          cases h81
          subst h82
          obtain ⟨j2, hj2, ej2⟩ := low_lt (y >>> (13 &&& 31)) (k := 12) (by omega) (by omega)
          refine w_top (v := nI j2) ej2 ?_
          refine lv_istore (lv' := [(11, .int (nI j2)), (10, .int ((nI i1) - 1000)), (9, .int 1), (0, .ref (ad 4 0)), (1, .ref (ad 17 0)), (2, .ref (ad 26 0)), (3, .ref (ad 26 1)), (4, .ref (ad 26 2)), (5, .ref (ad 26 3)), (6, .int x), (7, .int y)]) hx hb dL_acts_98 hl (by decide) rfl (fun ls hl => ?_)
          exact Kx _ _ _ ⟨j2, by omega, hP, hS, lv_sub hl [0, 1, 2, 3, 4, 5, 6, 7, 8, 9, 10] rfl⟩
        · refine lv_sipush (v := (1001)) hx hb dL_acts_87 (by decide) ?_
          refine lv_goto (tgt := 95) hx hb dL_acts_90 (by decide) ?_
          refine w_calli (va_runS (As := [.int (y >>> (13 &&& 31)), .int 1001]) (rest := []) ⟨hx, hb, hml, hown, hts⟩ (c_L_low l D B ad (eW D ad ((np, ns, nc), σ) ((np, ns, nc), σ) (lW D 4 μ)) (y >>> (13 &&& 31)) 1001 (by decide)) (va_cwS 2 hts gL_acts_L_low rfl rfl rfl (by decide +kernel) ⟨Nat.le_of_ble_eq_true rfl, Nat.le_of_ble_eq_true rfl⟩) (w_preS hC hP hS) rfl rfl hl.1 rfl (lv_room (Nat.le_of_ble_eq_true rfl)) dL_acts_95 ⟨Nat.le_of_ble_eq_true rfl, Nat.le_of_ble_eq_true rfl⟩) hS (fun r_29 ad1 w1 H locs hq hP hS => ?_)
          obtain ⟨h81, h82⟩ := hq
          cases h81
          subst h82
          obtain ⟨j2, hj2, ej2⟩ := low_lt (y >>> (13 &&& 31)) (k := 1001) (by omega) (by omega)
          refine w_top (v := nI j2) ej2 ?_
          refine lv_istore (lv' := [(11, .int (nI j2)), (10, .int ((nI i1) - 1000)), (9, .int 1), (0, .ref (ad 4 0)), (1, .ref (ad 17 0)), (2, .ref (ad 26 0)), (3, .ref (ad 26 1)), (4, .ref (ad 26 2)), (5, .ref (ad 26 3)), (6, .int x), (7, .int y)]) hx hb dL_acts_98 hl (by decide) rfl (fun ls hl => ?_)
          exact Kx _ _ _ ⟨j2, by omega, hP, hS, lv_sub hl [0, 1, 2, 3, 4, 5, 6, 7, 8, 9, 10] rfl⟩
