/-! p22: acts: an entry more -/
set_option maxHeartbeats 4000000 in
set_option maxRecDepth 100000 in
theorem ac_ent {p : Program} {l : Launch} {e : Env} {s : State} {m : MethodId} {args : Array Value} {below : List Frame} {meth : Method} {c : Code} {D : va_G} {B : Nat} (A : AcA p l s m args c D B) {Q : State → Prop} {ad : Ad} {g : GC} {σ μ : Me} {t N : Nat} (J : Jt t N g σ μ) (hN : N + 4001 < 900000) (ht : t + 200 ≤ 900000) {x y : Int32} (h0c : 0 < g.2.2) {H : Heap} {locs : List Loc} {ls : Array Slot} (hP : hw D B ad (eW D ad (g, σ) (g, σ) (lW D 4 μ)) H) (hS : va_S (ab B) s.heap H locs) (hl : lv_has ls 20 [(0, .ref (ad 4 0)), (1, .ref (ad 17 0)), (2, .ref (ad 26 0)), (3, .ref (ad 26 1)), (4, .ref (ad 26 2)), (5, .ref (ad 26 3)), (6, .int x), (7, .int y)]) (K : AcK p l e s m args below meth c D B ad t N Q) : W p l e (headSpec wsL_acts rmA).room s m args below meth c H locs 0 0 Q (F0 m 1106 ls []) := by
  obtain ⟨hns, hx, hb, hml, hown, hts, hC⟩ := A
  have hI := Jt_I J
  have g16 := hI.1
  have g30 := hI.2.1
  have g4 := hI.2.2.1
  obtain ⟨l1, l2, l3, -⟩ := J.2.2.2.2.2.1
  refine lv_iload hx hb dL_acts_1106 (lv_at hl 6 rfl) ?_
  refine lv_bipush (v := (7)) hx hb dL_acts_1108 (by decide) ?_
  refine lv_ishr hx hb dL_acts_1110 ?_
  refine lv_aload hx hb dL_acts_1111 (lv_at hl 5 rfl) ?_
  refine lv_iconst (v := 2) hx hb dL_acts_1113 (by decide) ?_
  refine w_top (v := nI 2) rfl ?_
  refine w_ildN hx hb hC hP (eW_L (show 3 < 4 by decide)) (show 2 < 3 from by omega) (by decide) (v := nI g.2.2) l3 dL_acts_1114 ?_
  refine w_calli (va_runS (As := [.int (x >>> (7 &&& 31)), .int (nI g.2.2)]) (rest := []) ⟨hx, hb, hml, hown, hts⟩ (c_L_low l D B ad (eW D ad (g, σ) (g, σ) (lW D 4 μ)) (x >>> (7 &&& 31)) (nI g.2.2) (nI_ne0 h0c (by omega))) (va_cwS 2 hts gL_acts_L_low rfl rfl rfl (by decide +kernel) ⟨Nat.le_of_ble_eq_true rfl, Nat.le_of_ble_eq_true rfl⟩) (w_preS hC hP hS) rfl rfl hl.1 rfl (lv_room (Nat.le_of_ble_eq_true rfl)) dL_acts_1115 ⟨Nat.le_of_ble_eq_true rfl, Nat.le_of_ble_eq_true rfl⟩) hS (fun r_1 ad1 w1 H locs hq hP hS => ?_)
  obtain ⟨h81, h82⟩ := hq
  cases h81
  subst h82
  obtain ⟨ce, hce, ece⟩ := low_lt (x >>> (7 &&& 31)) (k := g.2.2) (by omega) (by omega)
  refine w_top (v := nI ce) ece ?_
  refine lv_istore (lv' := [(12, .int (nI ce)), (0, .ref (ad 4 0)), (1, .ref (ad 17 0)), (2, .ref (ad 26 0)), (3, .ref (ad 26 1)), (4, .ref (ad 26 2)), (5, .ref (ad 26 3)), (6, .int x), (7, .int y)]) hx hb dL_acts_1118 hl (by decide) rfl (fun ls hl => ?_)
  obtain ⟨i, j, hi, hj1, hj2, e1, e2, e14, e15⟩ := sc_at J hce
  obtain ⟨n, e17, en, hn20⟩ := en_n J hce
  refine lv_iload hx hb dL_acts_1120 (lv_at hl 8 rfl) ?_
  refine lv_iconst (v := 3) hx hb dL_acts_1122 (by decide) ?_
  refine w_calli (va_runS (As := [.int y, .int 3]) (rest := []) ⟨hx, hb, hml, hown, hts⟩ (c_L_low l D B ad (eW D ad (g, σ) (g, σ) (lW D 4 μ)) y 3 (by decide)) (va_cwS 2 hts gL_acts_L_low rfl rfl rfl (by decide +kernel) ⟨Nat.le_of_ble_eq_true rfl, Nat.le_of_ble_eq_true rfl⟩) (w_preS hC hP hS) rfl rfl hl.1 rfl (lv_room (Nat.le_of_ble_eq_true rfl)) dL_acts_1123 ⟨Nat.le_of_ble_eq_true rfl, Nat.le_of_ble_eq_true rfl⟩) hS (fun r_2 ad1 w1 H locs hq hP hS => ?_)
  obtain ⟨h81, h82⟩ := hq
  cases h81
  subst h82
  refine lv_if_ne (tgt := 1133) hx hb dL_acts_1126 (by decide) (fun c_1126 => ?_) (fun c_1126 => ?_)
  · refine lv_iconst (v := 0) hx hb dL_acts_1133 (by decide) ?_
    refine lv_istore (lv' := [(13, .int 0), (12, .int (nI ce)), (0, .ref (ad 4 0)), (1, .ref (ad 17 0)), (2, .ref (ad 26 0)), (3, .ref (ad 26 1)), (4, .ref (ad 26 2)), (5, .ref (ad 26 3)), (6, .int x), (7, .int y)]) hx hb dL_acts_1134 hl (by decide) rfl (fun ls hl => ?_)
    refine w_cut 1192 0 0 (fun H locs ls => ∃ (v : Int32), (okV σ i v) ∧ hw D B ad (eW D ad (g, σ) (g, σ) (lW D 4 μ)) H ∧ va_S (ab B) s.heap H locs ∧ lv_has ls 20 [(14, .int v), (13, .int 0), (12, .int (nI ce)), (0, .ref (ad 4 0)), (1, .ref (ad 17 0)), (2, .ref (ad 26 0)), (3, .ref (ad 26 1)), (4, .ref (ad 26 2)), (5, .ref (ad 26 3)), (6, .int x), (7, .int y)]) (fun H locs ls hJ => ?_) (fun Kx => ?_)
    · obtain ⟨v, hv, hP, hS, hl⟩ := hJ
      refine w_cut 1248 0 0 (fun H locs ls => ∃ (m9 : Nat), (m9 < 1440) ∧ hw D B ad (eW D ad (g, σ) (g, σ) (lW D 4 μ)) H ∧ va_S (ab B) s.heap H locs ∧ lv_has ls 20 [(15, .int (nI m9)), (14, .int v), (13, .int 0), (12, .int (nI ce)), (0, .ref (ad 4 0)), (1, .ref (ad 17 0)), (2, .ref (ad 26 0)), (3, .ref (ad 26 1)), (4, .ref (ad 26 2)), (5, .ref (ad 26 3)), (6, .int x), (7, .int y)]) (fun H locs ls hJ => ?_) (fun Ky => ?_)
      · obtain ⟨m9, hm9, hP, hS, hl⟩ := hJ
        refine w_cut 1312 0 0 (fun H locs ls => ∃ (d9 : Nat), (d9 < 7) ∧ hw D B ad (eW D ad (g, σ) (g, σ) (lW D 4 μ)) H ∧ va_S (ab B) s.heap H locs ∧ lv_has ls 20 [(16, .int (nI d9)), (15, .int (nI m9)), (14, .int v), (13, .int 0), (12, .int (nI ce)), (0, .ref (ad 4 0)), (1, .ref (ad 17 0)), (2, .ref (ad 26 0)), (3, .ref (ad 26 1)), (4, .ref (ad 26 2)), (5, .ref (ad 26 3)), (6, .int x), (7, .int y)]) (fun H locs ls hJ => ?_) (fun Kz => ?_)
        · obtain ⟨d9, hd9, hP, hS, hl⟩ := hJ
          refine lv_aload hx hb dL_acts_1312 (lv_at hl 9 rfl) ?_
          refine lv_iconst (v := 4) hx hb dL_acts_1314 (by decide) ?_
          refine lv_iload hx hb dL_acts_1315 (lv_at hl 4 rfl) ?_
          refine lv_imul hx hb dL_acts_1317 ?_
          refine w_top (v := nI (4 * ce)) (pk_mul 4 ce) ?_
          refine lv_iconst (v := 3) hx hb dL_acts_1318 (by decide) ?_
          refine lv_iadd hx hb dL_acts_1319 ?_
          refine w_top (v := nI ((4 * ce) + 3)) (nI_add (4 * ce) 3) ?_
          refine w_ildN hx hb hC hP (eW_L (show 2 < 4 by decide)) (show (4 * ce) + 3 < 16 from by omega) (by decide) (v := nI n) en dL_acts_1320 ?_
          refine lv_bipush (v := (20)) hx hb dL_acts_1321 (by decide) ?_
          refine lv_icmp_ge (tgt := 1330) hx hb dL_acts_1323 (by decide) (fun c_1323 => ?_) (fun c_1323 => ?_)
          · have hfull : ¬ n < 20 := fun z => (nI_ge (b := 20) z (by decide)) c_1323
            refine lv_iconst (v := 0) hx hb dL_acts_1330 (by decide) ?_
            refine lv_istore (lv' := [(17, .int 0), (16, .int (nI d9)), (15, .int (nI m9)), (14, .int v), (13, .int 0), (12, .int (nI ce)), (0, .ref (ad 4 0)), (1, .ref (ad 17 0)), (2, .ref (ad 26 0)), (3, .ref (ad 26 1)), (4, .ref (ad 26 2)), (5, .ref (ad 26 3)), (6, .int x), (7, .int y)]) hx hb dL_acts_1331 hl (by decide) rfl (fun ls hl => ?_)
            refine lv_aload hx hb dL_acts_1333 (lv_at hl 10 rfl) ?_
            refine lv_iconst (v := 4) hx hb dL_acts_1335 (by decide) ?_
            refine lv_iload hx hb dL_acts_1336 (lv_at hl 5 rfl) ?_
            refine lv_imul hx hb dL_acts_1338 ?_
            refine w_top (v := nI (4 * ce)) (pk_mul 4 ce) ?_
            refine lv_iconst (v := 3) hx hb dL_acts_1339 (by decide) ?_
            refine lv_iadd hx hb dL_acts_1340 ?_
            refine w_top (v := nI ((4 * ce) + 3)) (nI_add (4 * ce) 3) ?_
            refine lv_dup2_11 hx hb dL_acts_1341 rfl rfl ?_
            refine w_ildN hx hb hC hP (eW_L (show 2 < 4 by decide)) (show (4 * ce) + 3 < 16 from by omega) (by decide) (v := nI n) en dL_acts_1342 ?_
            refine lv_iload hx hb dL_acts_1343 (lv_at hl 0 rfl) ?_
            refine lv_if_eq (tgt := 1352) hx hb dL_acts_1345 (by decide) (fun c_1345 => ?_) (fun c_1345 => ?_)
            · refine lv_iconst (v := 0) hx hb dL_acts_1352 (by decide) ?_
              refine lv_iadd hx hb dL_acts_1353 ?_
              refine w_top (v := nI (n + 0)) (nI_add n 0) ?_
              refine w_istN hx hb hC hP hS (eW_L (show 2 < 4 by decide)) (show (4 * ce) + 3 < 16 from by omega) (by decide) dL_acts_1354 (fun H locs hP hS => ?_)
              have hP := hw_eq hP (eW_put _ (show 2 < 4 by decide))
              rw [st3_no en] at hP
              refine lv_iload hx hb dL_acts_1355 (lv_at hl 4 rfl) ?_
              refine lv_if_eq (tgt := 1375) hx hb dL_acts_1357 (by decide) (fun c_1357 => ?_) (fun c_1357 => ?_)
              · refine lv_aload_n hx hb dL_acts_1375 rfl (lv_at hl 6 rfl) ?_
                refine lv_iload hx hb dL_acts_1376 (lv_at hl 5 rfl) ?_
                refine lv_iload hx hb dL_acts_1378 (lv_at hl 1 rfl) ?_
                refine lv_iload hx hb dL_acts_1380 (lv_at hl 2 rfl) ?_
                refine lv_iload hx hb dL_acts_1382 (lv_at hl 3 rfl) ?_
                refine w_calli (vx_runSW (As := [.ref (ad 4 0), .int (nI ce), .int (nI d9), .int (nI m9), .int v]) (rest := []) ⟨hx, hb, hml, hown, hts⟩ (c_L_weekly l hns D B ad g σ (tW D ad (g, σ) (lW D 4 μ)) 0 hI t J.1.2.1 J.1.2.2.1 (nI ce) (nI d9) (nI m9) v) (vx_cwSW 5 hts gL_acts_L_weekly rfl rfl rfl (by decide +kernel) ⟨Nat.le_of_ble_eq_true rfl, Nat.le_of_ble_eq_true rfl⟩) (w_preS hC hP hS) rfl rfl hl.1 rfl (lv_room (Nat.le_of_ble_eq_true rfl)) dL_acts_1384 ⟨Nat.le_of_ble_eq_true rfl, Nat.le_of_ble_eq_true rfl⟩) hS (fun r_3 ad1 w1 H locs hq hP hS => ?_)
                obtain ⟨S2, h81, h82, h83⟩ := hq
                obtain ⟨h84, h85⟩ := h83 (ne_3 (ee_3 J hce e14 hi e17 hn20 hfull hv (lo_bt (n := 6) (by omega) (by decide)) (lo_bt (n := 1439) (by omega) (by decide))))
                cases h84
                cases h81
                subst h85
                refine w_top (v := (-1000003)) (en_3 (ee_3 J hce e14 hi e17 hn20 hfull hv (lo_bt (n := 6) (by omega) (by decide)) (lo_bt (n := 1439) (by omega) (by decide)))) ?_
                refine lv_istore (lv' := [(18, .int (-1000003)), (17, .int 0), (16, .int (nI d9)), (15, .int (nI m9)), (14, .int v), (13, .int 0), (12, .int (nI ce)), (0, .ref (ad 4 0)), (1, .ref (ad 17 0)), (2, .ref (ad 26 0)), (3, .ref (ad 26 1)), (4, .ref (ad 26 2)), (5, .ref (ad 26 3)), (6, .int x), (7, .int y)]) hx hb dL_acts_1387 hl (by decide) rfl (fun ls hl => ?_)
                refine lv_iload hx hb dL_acts_1389 (lv_at hl 5 rfl) ?_
                refine lv_if_eq (tgt := 1409) hx hb dL_acts_1391 (by decide) (fun c_1391 => ?_) (fun c_1391 => ?_)
                · refine lv_aload_n hx hb dL_acts_1409 rfl (lv_at hl 8 rfl) ?_
                  refine lv_iload hx hb dL_acts_1410 (lv_at hl 6 rfl) ?_
                  refine lv_iload hx hb dL_acts_1412 (lv_at hl 2 rfl) ?_
                  refine lv_iload hx hb dL_acts_1414 (lv_at hl 3 rfl) ?_
                  refine lv_iload hx hb dL_acts_1416 (lv_at hl 4 rfl) ?_
                  refine w_calli (vx_runSW (As := [.ref (ad 17 0), .int (nI ce), .int (nI d9), .int (nI m9), .int v]) (rest := []) ⟨hx, hb, hml, hown, hts⟩ (t_L_weekly l hns D B ad g σ (g, σ) (lW D 4 μ) hI t J.1.2.1 J.1.2.2.1 (nI ce) (nI d9) (nI m9) v) (vx_cwSW 5 hts gL_acts_L_weekly rfl rfl rfl (by decide +kernel) ⟨Nat.le_of_ble_eq_true rfl, Nat.le_of_ble_eq_true rfl⟩) (w_preS hC hP hS) rfl rfl hl.1 rfl (lv_room (Nat.le_of_ble_eq_true rfl)) dL_acts_1418 ⟨Nat.le_of_ble_eq_true rfl, Nat.le_of_ble_eq_true rfl⟩) hS (fun r_4 ad1 w1 H locs hq hP hS => ?_)
                  obtain ⟨S2, h81, h82, h83⟩ := hq
                  obtain ⟨h84, h85⟩ := h83 (ne_3 (ee_3 J hce e14 hi e17 hn20 hfull hv (lo_bt (n := 6) (by omega) (by decide)) (lo_bt (n := 1439) (by omega) (by decide))))
                  cases h84
                  cases h81
                  subst h85
                  refine w_top (v := (-1000003)) (en_3 (ee_3 J hce e14 hi e17 hn20 hfull hv (lo_bt (n := 6) (by omega) (by decide)) (lo_bt (n := 1439) (by omega) (by decide)))) ?_
                  refine lv_iload hx hb dL_acts_1421 (lv_at hl 0 rfl) ?_
                  refine lv_icmp_ne (tgt := 1455) hx hb dL_acts_1423 (by decide) (fun c_1423 => ?_) (fun c_1423 => ?_)
                  · exact absurd c_1423 (by decide)
                  · refine lv_iload hx hb dL_acts_1426 (lv_at hl 0 rfl) ?_
                    refine lv_iload hx hb dL_acts_1428 (lv_at hl 1 rfl) ?_
                    refine lv_if_eq (tgt := 1446) hx hb dL_acts_1430 (by decide) (fun c_1430 => ?_) (fun c_1430 => ?_)
                    · refine lv_ldc (v := (-1000003)) hx hb hown (hts (.constant RL 21 (-1000003)) (by decide +kernel)) dL_acts_1446 ?_
                      refine lv_icmp_ne (tgt := 1455) hx hb dL_acts_1448 (by decide) (fun c_1448 => ?_) (fun c_1448 => ?_)
                      · exact absurd c_1448 (by decide)
                      · refine lv_iconst (v := 1) hx hb dL_acts_1451 (by decide) ?_
                        refine lv_goto (tgt := 1456) hx hb dL_acts_1452 (by decide) ?_
                        refine lv_istore (lv' := [(19, .int 1), (18, .int (-1000003)), (17, .int 0), (16, .int (nI d9)), (15, .int (nI m9)), (14, .int v), (13, .int 0), (12, .int (nI ce)), (0, .ref (ad 4 0)), (1, .ref (ad 17 0)), (2, .ref (ad 26 0)), (3, .ref (ad 26 1)), (4, .ref (ad 26 2)), (5, .ref (ad 26 3)), (6, .int x), (7, .int y)]) hx hb dL_acts_1456 hl (by decide) rfl (fun ls hl => ?_)
                        refine lv_iload hx hb dL_acts_1458 (lv_at hl 0 rfl) ?_
                        refine lv_if_eq (tgt := 1546) hx hb dL_acts_1460 (by decide) (fun c_1460 => ?_) (fun c_1460 => ?_)
                        · exact absurd c_1460 (by decide)
                        · refine lv_aload_n hx hb dL_acts_1463 rfl (lv_at hl 8 rfl) ?_
                          refine lv_iload hx hb dL_acts_1464 (lv_at hl 7 rfl) ?_
                          refine lv_bipush (v := (7)) hx hb dL_acts_1466 (by decide) ?_
                          refine lv_iconst (v := 0) hx hb dL_acts_1468 (by decide) ?_
                          refine lv_iconst (v := 0) hx hb dL_acts_1469 (by decide) ?_
                          refine w_calli (vx_runSW (As := [.ref (ad 4 0), .int (nI ce), .int 7, .int 0, .int 0]) (rest := []) ⟨hx, hb, hml, hown, hts⟩ (c_L_weekly l hns D B ad g σ (tW D ad (g, σ) (lW D 4 μ)) 0 hI t J.1.2.1 J.1.2.2.1 (nI ce) 7 0 0) (vx_cwSW 5 hts gL_acts_L_weekly rfl rfl rfl (by decide +kernel) ⟨Nat.le_of_ble_eq_true rfl, Nat.le_of_ble_eq_true rfl⟩) (w_preS hC hP hS) rfl rfl hl.1 rfl (lv_room (Nat.le_of_ble_eq_true rfl)) dL_acts_1470 ⟨Nat.le_of_ble_eq_true rfl, Nat.le_of_ble_eq_true rfl⟩) hS (fun r_5 ad1 w1 H locs hq hP hS => ?_)
                          obtain ⟨S2, h81, -, h83⟩ := hq
                          obtain ⟨h84, h85⟩ := h83 (ne_2 (ee_2 hce (fun z => absurd z.1.2 (by decide))))
                          cases h84
                          cases h81
                          subst h85
                          refine w_top (v := (-1000002)) (en_2 (ee_2 hce (fun z => absurd z.1.2 (by decide)))) ?_
                          refine lv_ldc (v := (-1000002)) hx hb hown (hts (.constant RL 18 (-1000002)) (by decide +kernel)) dL_acts_1473 ?_
                          refine lv_icmp_ne (tgt := 1546) hx hb dL_acts_1475 (by decide) (fun c_1475 => ?_) (fun c_1475 => ?_)
                          · exact absurd c_1475 (by decide)
                          · refine lv_aload_n hx hb dL_acts_1478 rfl (lv_at hl 8 rfl) ?_
                            refine lv_iload hx hb dL_acts_1479 (lv_at hl 7 rfl) ?_
                            refine lv_iconst (v := 0) hx hb dL_acts_1481 (by decide) ?_
                            refine lv_sipush (v := (1440)) hx hb dL_acts_1482 (by decide) ?_
                            refine lv_iconst (v := 0) hx hb dL_acts_1485 (by decide) ?_
                            refine w_calli (vx_runSW (As := [.ref (ad 4 0), .int (nI ce), .int 0, .int 1440, .int 0]) (rest := []) ⟨hx, hb, hml, hown, hts⟩ (c_L_weekly l hns D B ad g σ (tW D ad (g, σ) (lW D 4 μ)) 0 hI t J.1.2.1 J.1.2.2.1 (nI ce) 0 1440 0) (vx_cwSW 5 hts gL_acts_L_weekly rfl rfl rfl (by decide +kernel) ⟨Nat.le_of_ble_eq_true rfl, Nat.le_of_ble_eq_true rfl⟩) (w_preS hC hP hS) rfl rfl hl.1 rfl (lv_room (Nat.le_of_ble_eq_true rfl)) dL_acts_1486 ⟨Nat.le_of_ble_eq_true rfl, Nat.le_of_ble_eq_true rfl⟩) hS (fun r_6 ad1 w1 H locs hq hP hS => ?_)
                            obtain ⟨S2, h81, -, h83⟩ := hq
                            obtain ⟨h84, h85⟩ := h83 (ne_2 (ee_2 hce (fun z => absurd z.2.1.2 (by decide))))
                            cases h84
                            cases h81
                            subst h85
                            refine w_top (v := (-1000002)) (en_2 (ee_2 hce (fun z => absurd z.2.1.2 (by decide)))) ?_
                            refine lv_ldc (v := (-1000002)) hx hb hown (hts (.constant RL 18 (-1000002)) (by decide +kernel)) dL_acts_1489 ?_
                            refine lv_icmp_ne (tgt := 1546) hx hb dL_acts_1491 (by decide) (fun c_1491 => ?_) (fun c_1491 => ?_)
                            · exact absurd c_1491 (by decide)
                            · refine lv_aload_n hx hb dL_acts_1494 rfl (lv_at hl 8 rfl) ?_
                              refine lv_iload hx hb dL_acts_1495 (lv_at hl 7 rfl) ?_
                              refine lv_sipush (v := (701)) hx hb dL_acts_1497 (by decide) ?_
                              refine lv_iconst (v := 0) hx hb dL_acts_1500 (by decide) ?_
                              refine lv_iconst (v := 0) hx hb dL_acts_1501 (by decide) ?_
                              refine w_calli (vx_runSW (As := [.ref (ad 4 0), .int (nI ce), .int 701, .int 0, .int 0]) (rest := []) ⟨hx, hb, hml, hown, hts⟩ (c_L_once l hns D B ad g σ (tW D ad (g, σ) (lW D 4 μ)) 0 hI t J.1.2.1 J.1.2.2.1 (nI ce) 701 0 0) (vx_cwSW 5 hts gL_acts_L_once rfl rfl rfl (by decide +kernel) ⟨Nat.le_of_ble_eq_true rfl, Nat.le_of_ble_eq_true rfl⟩) (w_preS hC hP hS) rfl rfl hl.1 rfl (lv_room (Nat.le_of_ble_eq_true rfl)) dL_acts_1502 ⟨Nat.le_of_ble_eq_true rfl, Nat.le_of_ble_eq_true rfl⟩) hS (fun r_7 ad1 w1 H locs hq hP hS => ?_)
                              obtain ⟨S2, h81, -, h83⟩ := hq
                              obtain ⟨h84, h85⟩ := h83 (ne_2 (ee_2 hce (fun z => absurd z.1.2 (by decide))))
                              cases h84
                              cases h81
                              subst h85
                              refine w_top (v := (-1000002)) (en_2 (ee_2 hce (fun z => absurd z.1.2 (by decide)))) ?_
                              refine lv_ldc (v := (-1000002)) hx hb hown (hts (.constant RL 18 (-1000002)) (by decide +kernel)) dL_acts_1505 ?_
                              refine lv_icmp_ne (tgt := 1546) hx hb dL_acts_1507 (by decide) (fun c_1507 => ?_) (fun c_1507 => ?_)
                              · exact absurd c_1507 (by decide)
                              · refine lv_aload_n hx hb dL_acts_1510 rfl (lv_at hl 8 rfl) ?_
                                refine lv_iload hx hb dL_acts_1511 (lv_at hl 7 rfl) ?_
                                refine lv_iconst (v := 0) hx hb dL_acts_1513 (by decide) ?_
                                refine lv_iconst (v := 0) hx hb dL_acts_1514 (by decide) ?_
                                refine lv_sipush (v := (1001)) hx hb dL_acts_1515 (by decide) ?_
                                refine w_calli (vx_runSW (As := [.ref (ad 4 0), .int (nI ce), .int 0, .int 0, .int 1001]) (rest := []) ⟨hx, hb, hml, hown, hts⟩ (c_L_once l hns D B ad g σ (tW D ad (g, σ) (lW D 4 μ)) 0 hI t J.1.2.1 J.1.2.2.1 (nI ce) 0 0 1001) (vx_cwSW 5 hts gL_acts_L_once rfl rfl rfl (by decide +kernel) ⟨Nat.le_of_ble_eq_true rfl, Nat.le_of_ble_eq_true rfl⟩) (w_preS hC hP hS) rfl rfl hl.1 rfl (lv_room (Nat.le_of_ble_eq_true rfl)) dL_acts_1518 ⟨Nat.le_of_ble_eq_true rfl, Nat.le_of_ble_eq_true rfl⟩) hS (fun r_8 ad1 w1 H locs hq hP hS => ?_)
                                obtain ⟨S2, h81, -, h83⟩ := hq
                                obtain ⟨h84, h85⟩ := h83 (ne_2 (ee_2 hce (fun z => no_1001 z.2.2)))
                                cases h84
                                cases h81
                                subst h85
                                refine w_top (v := (-1000002)) (en_2 (ee_2 hce (fun z => no_1001 z.2.2))) ?_
                                refine lv_ldc (v := (-1000002)) hx hb hown (hts (.constant RL 18 (-1000002)) (by decide +kernel)) dL_acts_1521 ?_
                                refine lv_icmp_ne (tgt := 1546) hx hb dL_acts_1523 (by decide) (fun c_1523 => ?_) (fun c_1523 => ?_)
                                · exact absurd c_1523 (by decide)
                                · refine lv_aload_n hx hb dL_acts_1526 rfl (lv_at hl 8 rfl) ?_
                                  refine lv_aload hx hb dL_acts_1527 (lv_at hl 13 rfl) ?_
                                  refine lv_iconst (v := 2) hx hb dL_acts_1529 (by decide) ?_
                                  refine w_top (v := nI 2) rfl ?_
                                  refine w_ildN hx hb hC hP (eW_L (show 3 < 4 by decide)) (show 2 < 3 from by omega) (by decide) (v := nI g.2.2) l3 dL_acts_1530 ?_
                                  refine lv_iconst (v := (-1)) hx hb dL_acts_1531 (by decide) ?_
                                  refine lv_iconst (v := 0) hx hb dL_acts_1532 (by decide) ?_
                                  refine lv_iconst (v := 0) hx hb dL_acts_1533 (by decide) ?_
                                  refine w_calli (vx_runSW (As := [.ref (ad 4 0), .int (nI g.2.2), .int (-1), .int 0, .int 0]) (rest := []) ⟨hx, hb, hml, hown, hts⟩ (c_L_once l hns D B ad g σ (tW D ad (g, σ) (lW D 4 μ)) 0 hI t J.1.2.1 J.1.2.2.1 (nI g.2.2) (-1) 0 0) (vx_cwSW 5 hts gL_acts_L_once rfl rfl rfl (by decide +kernel) ⟨Nat.le_of_ble_eq_true rfl, Nat.le_of_ble_eq_true rfl⟩) (w_preS hC hP hS) rfl rfl hl.1 rfl (lv_room (Nat.le_of_ble_eq_true rfl)) dL_acts_1534 ⟨Nat.le_of_ble_eq_true rfl, Nat.le_of_ble_eq_true rfl⟩) hS (fun r_9 ad1 w1 H locs hq hP hS => ?_)
                                  obtain ⟨S2, h81, -, h83⟩ := hq
                                  obtain ⟨h84, h85⟩ := h83 (ne_1 (ee_1 (no_self (by omega))))
                                  cases h84
                                  cases h81
                                  subst h85
                                  refine w_top (v := (-1000001)) (en_1 (ee_1 (no_self (by omega)))) ?_
                                  refine lv_ldc (v := (-1000001)) hx hb hown (hts (.constant RL 32 (-1000001)) (by decide +kernel)) dL_acts_1537 ?_
                                  refine lv_icmp_ne (tgt := 1546) hx hb dL_acts_1539 (by decide) (fun c_1539 => ?_) (fun c_1539 => ?_)
                                  · exact absurd c_1539 (by decide)
                                  · refine lv_iconst (v := 1) hx hb dL_acts_1542 (by decide) ?_
                                    refine lv_goto (tgt := 1547) hx hb dL_acts_1543 (by decide) ?_
                                    refine W.widen (k := 60) (n := 700) (Nat.le_of_ble_eq_true rfl) (Nat.le_of_ble_eq_true rfl) ?_
                                    exact K 1547 H locs ls ad g σ μ t N dL_acts_1547 hP hS kpA_r J (by omega) (by omega)
                    · exact absurd c_1430 (by decide)
                · exact absurd c_1391 (by decide)
              · exact absurd c_1357 (by decide)
            · exact absurd c_1345 (by decide)
          · have hroom : n < 20 := Nat.not_le.mp (fun z => c_1323 (nI_le (a := 20) z (by omega)))
            refine lv_iconst (v := 1) hx hb dL_acts_1326 (by decide) ?_
            refine lv_goto (tgt := 1331) hx hb dL_acts_1327 (by decide) ?_
            refine lv_istore (lv' := [(17, .int 1), (16, .int (nI d9)), (15, .int (nI m9)), (14, .int v), (13, .int 0), (12, .int (nI ce)), (0, .ref (ad 4 0)), (1, .ref (ad 17 0)), (2, .ref (ad 26 0)), (3, .ref (ad 26 1)), (4, .ref (ad 26 2)), (5, .ref (ad 26 3)), (6, .int x), (7, .int y)]) hx hb dL_acts_1331 hl (by decide) rfl (fun ls hl => ?_)
            refine lv_aload hx hb dL_acts_1333 (lv_at hl 10 rfl) ?_
            refine lv_iconst (v := 4) hx hb dL_acts_1335 (by decide) ?_
            refine lv_iload hx hb dL_acts_1336 (lv_at hl 5 rfl) ?_
            refine lv_imul hx hb dL_acts_1338 ?_
            refine w_top (v := nI (4 * ce)) (pk_mul 4 ce) ?_
            refine lv_iconst (v := 3) hx hb dL_acts_1339 (by decide) ?_
            refine lv_iadd hx hb dL_acts_1340 ?_
            refine w_top (v := nI ((4 * ce) + 3)) (nI_add (4 * ce) 3) ?_
            refine lv_dup2_11 hx hb dL_acts_1341 rfl rfl ?_
            refine w_ildN hx hb hC hP (eW_L (show 2 < 4 by decide)) (show (4 * ce) + 3 < 16 from by omega) (by decide) (v := nI n) en dL_acts_1342 ?_
            refine lv_iload hx hb dL_acts_1343 (lv_at hl 0 rfl) ?_
            refine lv_if_eq (tgt := 1352) hx hb dL_acts_1345 (by decide) (fun c_1345 => ?_) (fun c_1345 => ?_)
            · exact absurd c_1345 (by decide)
            · refine lv_iconst (v := 1) hx hb dL_acts_1348 (by decide) ?_
              refine lv_goto (tgt := 1353) hx hb dL_acts_1349 (by decide) ?_
              refine lv_iadd hx hb dL_acts_1353 ?_
              refine w_top (v := nI (n + 1)) (nI_add n 1) ?_
              refine w_istN hx hb hC hP hS (eW_L (show 2 < 4 by decide)) (show (4 * ce) + 3 < 16 from by omega) (by decide) dL_acts_1354 (fun H locs hP hS => ?_)
              have hP := hw_eq hP (eW_put _ (show 2 < 4 by decide))
              refine lv_iload hx hb dL_acts_1355 (lv_at hl 4 rfl) ?_
              refine lv_if_eq (tgt := 1375) hx hb dL_acts_1357 (by decide) (fun c_1357 => ?_) (fun c_1357 => ?_)
              · refine lv_aload_n hx hb dL_acts_1375 rfl (lv_at hl 6 rfl) ?_
                refine lv_iload hx hb dL_acts_1376 (lv_at hl 5 rfl) ?_
                refine lv_iload hx hb dL_acts_1378 (lv_at hl 1 rfl) ?_
                refine lv_iload hx hb dL_acts_1380 (lv_at hl 2 rfl) ?_
                refine lv_iload hx hb dL_acts_1382 (lv_at hl 3 rfl) ?_
                have J2 := en_J (x := nI m9) (v := v) J (by omega) hce (show 2 * ce < 2 * g.2.2 by omega) (ew_I J hce e14 hi e17 hroom hv hd9) e17
                generalize hOB : obeF g.2.1 ce (entM ce (nI d9) (nI m9) v (entC (2 * ce) (nI d9) (nI m9) v σ)) = σ9 at J2
                have hI2 := Jt_I J2
                refine w_calli (vx_runSW (As := [.ref (ad 4 0), .int (nI ce), .int (nI d9), .int (nI m9), .int v]) (rest := []) ⟨hx, hb, hml, hown, hts⟩ (c_L_weekly l hns D B ad g σ (tW D ad (g, σ) (lW D 4 (st3 μ 2 0 ((4 * ce) + 3) (nI (n + 1))))) 0 hI t J.1.2.1 J.1.2.2.1 (nI ce) (nI d9) (nI m9) v) (vx_cwSW 5 hts gL_acts_L_weekly rfl rfl rfl (by decide +kernel) ⟨Nat.le_of_ble_eq_true rfl, Nat.le_of_ble_eq_true rfl⟩) (w_preS hC hP hS) rfl rfl hl.1 rfl (lv_room (Nat.le_of_ble_eq_true rfl)) dL_acts_1384 ⟨Nat.le_of_ble_eq_true rfl, Nat.le_of_ble_eq_true rfl⟩) hS (fun r_10 ad1 w1 H locs hq hP hS => ?_)
                obtain ⟨S2, h81, h82, h83⟩ := hq
                obtain ⟨h84, h85⟩ := h82 (ee_0 J hce e14 hi e17 hroom hv (lo_bt (n := 6) (by omega) (by decide)) (lo_bt (n := 1439) (by omega) (by decide)))
                rw [nOf_N (n := ce) (by omega), hOB] at h84 h85
                cases h84
                cases h81
                subst h85
                refine lv_istore (lv' := [(18, .int (σ9 16 ce 0)), (17, .int 1), (16, .int (nI d9)), (15, .int (nI m9)), (14, .int v), (13, .int 0), (12, .int (nI ce)), (0, .ref (ad 4 0)), (1, .ref (ad 17 0)), (2, .ref (ad 26 0)), (3, .ref (ad 26 1)), (4, .ref (ad 26 2)), (5, .ref (ad 26 3)), (6, .int x), (7, .int y)]) hx hb dL_acts_1387 hl (by decide) rfl (fun ls hl => ?_)
                refine lv_iload hx hb dL_acts_1389 (lv_at hl 5 rfl) ?_
                refine lv_if_eq (tgt := 1409) hx hb dL_acts_1391 (by decide) (fun c_1391 => ?_) (fun c_1391 => ?_)
                · refine lv_aload_n hx hb dL_acts_1409 rfl (lv_at hl 8 rfl) ?_
                  refine lv_iload hx hb dL_acts_1410 (lv_at hl 6 rfl) ?_
                  refine lv_iload hx hb dL_acts_1412 (lv_at hl 2 rfl) ?_
                  refine lv_iload hx hb dL_acts_1414 (lv_at hl 3 rfl) ?_
                  refine lv_iload hx hb dL_acts_1416 (lv_at hl 4 rfl) ?_
                  refine w_calli (vx_runSW (As := [.ref (ad 17 0), .int (nI ce), .int (nI d9), .int (nI m9), .int v]) (rest := []) ⟨hx, hb, hml, hown, hts⟩ (t_L_weekly l hns D B ad g σ (g, σ9) (lW D 4 (st3 μ 2 0 ((4 * ce) + 3) (nI (n + 1)))) hI t J.1.2.1 J.1.2.2.1 (nI ce) (nI d9) (nI m9) v) (vx_cwSW 5 hts gL_acts_L_weekly rfl rfl rfl (by decide +kernel) ⟨Nat.le_of_ble_eq_true rfl, Nat.le_of_ble_eq_true rfl⟩) (w_preS hC hP hS) rfl rfl hl.1 rfl (lv_room (Nat.le_of_ble_eq_true rfl)) dL_acts_1418 ⟨Nat.le_of_ble_eq_true rfl, Nat.le_of_ble_eq_true rfl⟩) hS (fun r_11 ad1 w1 H locs hq hP hS => ?_)
                  obtain ⟨S2, h81, h82, h83⟩ := hq
                  obtain ⟨h84, h85⟩ := h82 (ee_0 J hce e14 hi e17 hroom hv (lo_bt (n := 6) (by omega) (by decide)) (lo_bt (n := 1439) (by omega) (by decide)))
                  rw [nOf_N (n := ce) (by omega), hOB] at h84 h85
                  cases h84
                  cases h81
                  subst h85
                  refine lv_iload hx hb dL_acts_1421 (lv_at hl 0 rfl) ?_
                  refine lv_icmp_ne (tgt := 1455) hx hb dL_acts_1423 (by decide) (fun c_1423 => ?_) (fun c_1423 => ?_)
                  · exact absurd rfl c_1423
                  · refine lv_iload hx hb dL_acts_1426 (lv_at hl 0 rfl) ?_
                    refine lv_iload hx hb dL_acts_1428 (lv_at hl 1 rfl) ?_
                    refine lv_if_eq (tgt := 1446) hx hb dL_acts_1430 (by decide) (fun c_1430 => ?_) (fun c_1430 => ?_)
                    · exact absurd c_1430 (by decide)
                    · refine lv_aload_n hx hb dL_acts_1433 rfl (lv_at hl 7 rfl) ?_
                      refine lv_iload hx hb dL_acts_1434 (lv_at hl 6 rfl) ?_
                      refine lv_aload_n hx hb dL_acts_1436 rfl (lv_at hl 7 rfl) ?_
                      refine w_calli (va_runV (As := []) (rest := [.int (nI ce), .ref (ad 4 0), .int (σ9 16 ce 0)]) ⟨hx, hb, hml, hown, hts⟩ (c_X4_clock l D B ad g σ9 (tW D ad (g, σ9) (lW D 4 (st3 μ 2 0 ((4 * ce) + 3) (nI (n + 1))))) 0) (cwV 0 hts gL_acts_X4_clock rfl rfl rfl (by decide +kernel) ⟨Nat.le_of_ble_eq_true rfl, Nat.le_of_ble_eq_true rfl⟩) (w_preV hC hP hS cW_4 rfl) rfl rfl hl.1 rfl (lv_room (Nat.le_of_ble_eq_true rfl)) dL_acts_1437 ⟨Nat.le_of_ble_eq_true rfl, Nat.le_of_ble_eq_true rfl⟩) hS (fun r_12 ad1 w1 H locs hq hP hS => ?_)
                      obtain ⟨h81, h82⟩ := hq
                      cases h81
                      subst h82
                      refine w_top (v := nI t) J2.1.2.1 ?_
                      refine w_calli (vx_runSW (As := [.ref (ad 4 0), .int (nI ce), .int (nI t)]) (rest := [.int (σ9 16 ce 0)]) ⟨hx, hb, hml, hown, hts⟩ (c0_L_tells l hns D B ad g σ9 (tW D ad (g, σ9) (lW D 4 (st3 μ 2 0 ((4 * ce) + 3) (nI (n + 1))))) 0 hI2 ce hce t J.1.2.2.1) (vx_cwSW 3 hts gL_acts_L_tells rfl rfl rfl (by decide +kernel) ⟨Nat.le_of_ble_eq_true rfl, Nat.le_of_ble_eq_true rfl⟩) (w_preS hC hP hS) rfl rfl hl.1 rfl (lv_room (Nat.le_of_ble_eq_true rfl)) dL_acts_1440 ⟨Nat.le_of_ble_eq_true rfl, Nat.le_of_ble_eq_true rfl⟩) hS (fun r_13 ad1 w1 H locs hq hP hS => ?_)
                      obtain ⟨S2, h81, h82, h83⟩ := hq
                      cases h82
                      cases h81
                      subst h83
                      refine lv_goto (tgt := 1448) hx hb dL_acts_1443 (by decide) ?_
                      refine lv_icmp_ne (tgt := 1455) hx hb dL_acts_1448 (by decide) (fun c_1448 => ?_) (fun c_1448 => ?_)
                      · exact absurd (ent_ct J2 hce) c_1448
                      · refine lv_iconst (v := 1) hx hb dL_acts_1451 (by decide) ?_
                        refine lv_goto (tgt := 1456) hx hb dL_acts_1452 (by decide) ?_
                        refine lv_istore (lv' := [(19, .int 1), (18, .int (σ9 16 ce 0)), (17, .int 1), (16, .int (nI d9)), (15, .int (nI m9)), (14, .int v), (13, .int 0), (12, .int (nI ce)), (0, .ref (ad 4 0)), (1, .ref (ad 17 0)), (2, .ref (ad 26 0)), (3, .ref (ad 26 1)), (4, .ref (ad 26 2)), (5, .ref (ad 26 3)), (6, .int x), (7, .int y)]) hx hb dL_acts_1456 hl (by decide) rfl (fun ls hl => ?_)
                        refine lv_iload hx hb dL_acts_1458 (lv_at hl 0 rfl) ?_
                        refine lv_if_eq (tgt := 1546) hx hb dL_acts_1460 (by decide) (fun c_1460 => ?_) (fun c_1460 => ?_)
                        · exact absurd c_1460 (by decide)
                        · refine lv_aload_n hx hb dL_acts_1463 rfl (lv_at hl 8 rfl) ?_
                          refine lv_iload hx hb dL_acts_1464 (lv_at hl 7 rfl) ?_
                          refine lv_bipush (v := (7)) hx hb dL_acts_1466 (by decide) ?_
                          refine lv_iconst (v := 0) hx hb dL_acts_1468 (by decide) ?_
                          refine lv_iconst (v := 0) hx hb dL_acts_1469 (by decide) ?_
                          refine w_calli (vx_runSW (As := [.ref (ad 4 0), .int (nI ce), .int 7, .int 0, .int 0]) (rest := []) ⟨hx, hb, hml, hown, hts⟩ (c_L_weekly l hns D B ad g σ9 (tW D ad (g, σ9) (lW D 4 (st3 μ 2 0 ((4 * ce) + 3) (nI (n + 1))))) 0 hI2 t J2.1.2.1 J2.1.2.2.1 (nI ce) 7 0 0) (vx_cwSW 5 hts gL_acts_L_weekly rfl rfl rfl (by decide +kernel) ⟨Nat.le_of_ble_eq_true rfl, Nat.le_of_ble_eq_true rfl⟩) (w_preS hC hP hS) rfl rfl hl.1 rfl (lv_room (Nat.le_of_ble_eq_true rfl)) dL_acts_1470 ⟨Nat.le_of_ble_eq_true rfl, Nat.le_of_ble_eq_true rfl⟩) hS (fun r_14 ad1 w1 H locs hq hP hS => ?_)
                          obtain ⟨S2, h81, -, h83⟩ := hq
                          obtain ⟨h84, h85⟩ := h83 (ne_2 (ee_2 hce (fun z => absurd z.1.2 (by decide))))
                          cases h84
                          cases h81
                          subst h85
                          refine w_top (v := (-1000002)) (en_2 (ee_2 hce (fun z => absurd z.1.2 (by decide)))) ?_
                          refine lv_ldc (v := (-1000002)) hx hb hown (hts (.constant RL 18 (-1000002)) (by decide +kernel)) dL_acts_1473 ?_
                          refine lv_icmp_ne (tgt := 1546) hx hb dL_acts_1475 (by decide) (fun c_1475 => ?_) (fun c_1475 => ?_)
                          · exact absurd c_1475 (by decide)
                          · refine lv_aload_n hx hb dL_acts_1478 rfl (lv_at hl 8 rfl) ?_
                            refine lv_iload hx hb dL_acts_1479 (lv_at hl 7 rfl) ?_
                            refine lv_iconst (v := 0) hx hb dL_acts_1481 (by decide) ?_
                            refine lv_sipush (v := (1440)) hx hb dL_acts_1482 (by decide) ?_
                            refine lv_iconst (v := 0) hx hb dL_acts_1485 (by decide) ?_
                            refine w_calli (vx_runSW (As := [.ref (ad 4 0), .int (nI ce), .int 0, .int 1440, .int 0]) (rest := []) ⟨hx, hb, hml, hown, hts⟩ (c_L_weekly l hns D B ad g σ9 (tW D ad (g, σ9) (lW D 4 (st3 μ 2 0 ((4 * ce) + 3) (nI (n + 1))))) 0 hI2 t J2.1.2.1 J2.1.2.2.1 (nI ce) 0 1440 0) (vx_cwSW 5 hts gL_acts_L_weekly rfl rfl rfl (by decide +kernel) ⟨Nat.le_of_ble_eq_true rfl, Nat.le_of_ble_eq_true rfl⟩) (w_preS hC hP hS) rfl rfl hl.1 rfl (lv_room (Nat.le_of_ble_eq_true rfl)) dL_acts_1486 ⟨Nat.le_of_ble_eq_true rfl, Nat.le_of_ble_eq_true rfl⟩) hS (fun r_15 ad1 w1 H locs hq hP hS => ?_)
                            obtain ⟨S2, h81, -, h83⟩ := hq
                            obtain ⟨h84, h85⟩ := h83 (ne_2 (ee_2 hce (fun z => absurd z.2.1.2 (by decide))))
                            cases h84
                            cases h81
                            subst h85
                            refine w_top (v := (-1000002)) (en_2 (ee_2 hce (fun z => absurd z.2.1.2 (by decide)))) ?_
                            refine lv_ldc (v := (-1000002)) hx hb hown (hts (.constant RL 18 (-1000002)) (by decide +kernel)) dL_acts_1489 ?_
                            refine lv_icmp_ne (tgt := 1546) hx hb dL_acts_1491 (by decide) (fun c_1491 => ?_) (fun c_1491 => ?_)
                            · exact absurd c_1491 (by decide)
                            · refine lv_aload_n hx hb dL_acts_1494 rfl (lv_at hl 8 rfl) ?_
                              refine lv_iload hx hb dL_acts_1495 (lv_at hl 7 rfl) ?_
                              refine lv_sipush (v := (701)) hx hb dL_acts_1497 (by decide) ?_
                              refine lv_iconst (v := 0) hx hb dL_acts_1500 (by decide) ?_
                              refine lv_iconst (v := 0) hx hb dL_acts_1501 (by decide) ?_
                              refine w_calli (vx_runSW (As := [.ref (ad 4 0), .int (nI ce), .int 701, .int 0, .int 0]) (rest := []) ⟨hx, hb, hml, hown, hts⟩ (c_L_once l hns D B ad g σ9 (tW D ad (g, σ9) (lW D 4 (st3 μ 2 0 ((4 * ce) + 3) (nI (n + 1))))) 0 hI2 t J2.1.2.1 J2.1.2.2.1 (nI ce) 701 0 0) (vx_cwSW 5 hts gL_acts_L_once rfl rfl rfl (by decide +kernel) ⟨Nat.le_of_ble_eq_true rfl, Nat.le_of_ble_eq_true rfl⟩) (w_preS hC hP hS) rfl rfl hl.1 rfl (lv_room (Nat.le_of_ble_eq_true rfl)) dL_acts_1502 ⟨Nat.le_of_ble_eq_true rfl, Nat.le_of_ble_eq_true rfl⟩) hS (fun r_16 ad1 w1 H locs hq hP hS => ?_)
                              obtain ⟨S2, h81, -, h83⟩ := hq
                              obtain ⟨h84, h85⟩ := h83 (ne_2 (ee_2 hce (fun z => absurd z.1.2 (by decide))))
                              cases h84
                              cases h81
                              subst h85
                              refine w_top (v := (-1000002)) (en_2 (ee_2 hce (fun z => absurd z.1.2 (by decide)))) ?_
                              refine lv_ldc (v := (-1000002)) hx hb hown (hts (.constant RL 18 (-1000002)) (by decide +kernel)) dL_acts_1505 ?_
                              refine lv_icmp_ne (tgt := 1546) hx hb dL_acts_1507 (by decide) (fun c_1507 => ?_) (fun c_1507 => ?_)
                              · exact absurd c_1507 (by decide)
                              · refine lv_aload_n hx hb dL_acts_1510 rfl (lv_at hl 8 rfl) ?_
                                refine lv_iload hx hb dL_acts_1511 (lv_at hl 7 rfl) ?_
                                refine lv_iconst (v := 0) hx hb dL_acts_1513 (by decide) ?_
                                refine lv_iconst (v := 0) hx hb dL_acts_1514 (by decide) ?_
                                refine lv_sipush (v := (1001)) hx hb dL_acts_1515 (by decide) ?_
                                refine w_calli (vx_runSW (As := [.ref (ad 4 0), .int (nI ce), .int 0, .int 0, .int 1001]) (rest := []) ⟨hx, hb, hml, hown, hts⟩ (c_L_once l hns D B ad g σ9 (tW D ad (g, σ9) (lW D 4 (st3 μ 2 0 ((4 * ce) + 3) (nI (n + 1))))) 0 hI2 t J2.1.2.1 J2.1.2.2.1 (nI ce) 0 0 1001) (vx_cwSW 5 hts gL_acts_L_once rfl rfl rfl (by decide +kernel) ⟨Nat.le_of_ble_eq_true rfl, Nat.le_of_ble_eq_true rfl⟩) (w_preS hC hP hS) rfl rfl hl.1 rfl (lv_room (Nat.le_of_ble_eq_true rfl)) dL_acts_1518 ⟨Nat.le_of_ble_eq_true rfl, Nat.le_of_ble_eq_true rfl⟩) hS (fun r_17 ad1 w1 H locs hq hP hS => ?_)
                                obtain ⟨S2, h81, -, h83⟩ := hq
                                obtain ⟨h84, h85⟩ := h83 (ne_2 (ee_2 hce (fun z => no_1001 z.2.2)))
                                cases h84
                                cases h81
                                subst h85
                                refine w_top (v := (-1000002)) (en_2 (ee_2 hce (fun z => no_1001 z.2.2))) ?_
                                refine lv_ldc (v := (-1000002)) hx hb hown (hts (.constant RL 18 (-1000002)) (by decide +kernel)) dL_acts_1521 ?_
                                refine lv_icmp_ne (tgt := 1546) hx hb dL_acts_1523 (by decide) (fun c_1523 => ?_) (fun c_1523 => ?_)
                                · exact absurd c_1523 (by decide)
                                · refine lv_aload_n hx hb dL_acts_1526 rfl (lv_at hl 8 rfl) ?_
                                  refine lv_aload hx hb dL_acts_1527 (lv_at hl 13 rfl) ?_
                                  refine lv_iconst (v := 2) hx hb dL_acts_1529 (by decide) ?_
                                  refine w_top (v := nI 2) rfl ?_
                                  refine w_ildN hx hb hC hP (eW_L (show 3 < 4 by decide)) (show 2 < 3 from by omega) (by decide) (v := nI g.2.2) (by rw [st3_n (by decide)]; exact l3) dL_acts_1530 ?_
                                  refine lv_iconst (v := (-1)) hx hb dL_acts_1531 (by decide) ?_
                                  refine lv_iconst (v := 0) hx hb dL_acts_1532 (by decide) ?_
                                  refine lv_iconst (v := 0) hx hb dL_acts_1533 (by decide) ?_
                                  refine w_calli (vx_runSW (As := [.ref (ad 4 0), .int (nI g.2.2), .int (-1), .int 0, .int 0]) (rest := []) ⟨hx, hb, hml, hown, hts⟩ (c_L_once l hns D B ad g σ9 (tW D ad (g, σ9) (lW D 4 (st3 μ 2 0 ((4 * ce) + 3) (nI (n + 1))))) 0 hI2 t J2.1.2.1 J2.1.2.2.1 (nI g.2.2) (-1) 0 0) (vx_cwSW 5 hts gL_acts_L_once rfl rfl rfl (by decide +kernel) ⟨Nat.le_of_ble_eq_true rfl, Nat.le_of_ble_eq_true rfl⟩) (w_preS hC hP hS) rfl rfl hl.1 rfl (lv_room (Nat.le_of_ble_eq_true rfl)) dL_acts_1534 ⟨Nat.le_of_ble_eq_true rfl, Nat.le_of_ble_eq_true rfl⟩) hS (fun r_18 ad1 w1 H locs hq hP hS => ?_)
                                  obtain ⟨S2, h81, -, h83⟩ := hq
                                  obtain ⟨h84, h85⟩ := h83 (ne_1 (ee_1 (no_self (by omega))))
                                  cases h84
                                  cases h81
                                  subst h85
                                  refine w_top (v := (-1000001)) (en_1 (ee_1 (no_self (by omega)))) ?_
                                  refine lv_ldc (v := (-1000001)) hx hb hown (hts (.constant RL 32 (-1000001)) (by decide +kernel)) dL_acts_1537 ?_
                                  refine lv_icmp_ne (tgt := 1546) hx hb dL_acts_1539 (by decide) (fun c_1539 => ?_) (fun c_1539 => ?_)
                                  · exact absurd c_1539 (by decide)
                                  · refine lv_iconst (v := 1) hx hb dL_acts_1542 (by decide) ?_
                                    refine lv_goto (tgt := 1547) hx hb dL_acts_1543 (by decide) ?_
                                    refine W.widen (k := 60) (n := 700) (Nat.le_of_ble_eq_true rfl) (Nat.le_of_ble_eq_true rfl) ?_
                                    exact K 1547 H locs ls ad g σ9 (st3 μ 2 0 ((4 * ce) + 3) (nI (n + 1))) t (N + 1) dL_acts_1547 hP hS kpA_r J2 (by omega) (by omega)
                · exact absurd c_1391 (by decide)
              · exact absurd c_1357 (by decide)
        · refine lv_iload hx hb dL_acts_1248 (lv_at hl 2 rfl) ?_
          refine lv_if_eq (tgt := 1274) hx hb dL_acts_1250 (by decide) (fun c_1250 => ?_) (fun c_1250 => ?_)
          · refine lv_iload hx hb dL_acts_1274 (lv_at hl 11 rfl) ?_
            refine lv_bipush (v := (22)) hx hb dL_acts_1276 (by decide) ?_
            refine lv_ishr hx hb dL_acts_1278 ?_
            refine lv_iconst (v := 3) hx hb dL_acts_1279 (by decide) ?_
            refine w_calli (va_runS (As := [.int (y >>> (22 &&& 31)), .int 3]) (rest := []) ⟨hx, hb, hml, hown, hts⟩ (c_L_low l D B ad (eW D ad (g, σ) (g, σ) (lW D 4 μ)) (y >>> (22 &&& 31)) 3 (by decide)) (va_cwS 2 hts gL_acts_L_low rfl rfl rfl (by decide +kernel) ⟨Nat.le_of_ble_eq_true rfl, Nat.le_of_ble_eq_true rfl⟩) (w_preS hC hP hS) rfl rfl hl.1 rfl (lv_room (Nat.le_of_ble_eq_true rfl)) dL_acts_1280 ⟨Nat.le_of_ble_eq_true rfl, Nat.le_of_ble_eq_true rfl⟩) hS (fun r_19 ad1 w1 H locs hq hP hS => ?_)
            obtain ⟨h81, h82⟩ := hq
            cases h81
            subst h82
            refine lv_if_le (tgt := 1300) hx hb dL_acts_1283 (by decide) (fun c_1283 => ?_) (fun c_1283 => ?_)
            · refine lv_iload hx hb dL_acts_1300 (lv_at hl 11 rfl) ?_
              refine lv_bipush (v := (22)) hx hb dL_acts_1302 (by decide) ?_
              refine lv_ishr hx hb dL_acts_1304 ?_
              refine lv_bipush (v := (7)) hx hb dL_acts_1305 (by decide) ?_
              refine w_calli (va_runS (As := [.int (y >>> (22 &&& 31)), .int 7]) (rest := []) ⟨hx, hb, hml, hown, hts⟩ (c_L_low l D B ad (eW D ad (g, σ) (g, σ) (lW D 4 μ)) (y >>> (22 &&& 31)) 7 (by decide)) (va_cwS 2 hts gL_acts_L_low rfl rfl rfl (by decide +kernel) ⟨Nat.le_of_ble_eq_true rfl, Nat.le_of_ble_eq_true rfl⟩) (w_preS hC hP hS) rfl rfl hl.1 rfl (lv_room (Nat.le_of_ble_eq_true rfl)) dL_acts_1307 ⟨Nat.le_of_ble_eq_true rfl, Nat.le_of_ble_eq_true rfl⟩) hS (fun r_20 ad1 w1 H locs hq hP hS => ?_)
              obtain ⟨h81, h82⟩ := hq
              cases h81
              subst h82
              obtain ⟨d8, hd8, ed8⟩ := low_lt (y >>> (22 &&& 31)) (k := 7) (by omega) (by omega)
              refine w_top (v := nI d8) ed8 ?_
              refine lv_istore (lv' := [(16, .int (nI d8)), (15, .int (nI m9)), (14, .int v), (13, .int 0), (12, .int (nI ce)), (0, .ref (ad 4 0)), (1, .ref (ad 17 0)), (2, .ref (ad 26 0)), (3, .ref (ad 26 1)), (4, .ref (ad 26 2)), (5, .ref (ad 26 3)), (6, .int x), (7, .int y)]) hx hb dL_acts_1310 hl (by decide) rfl (fun ls hl => ?_)
              exact Kz _ _ _ ⟨d8, by omega, hP, hS, lv_sub hl [0, 1, 2, 3, 4, 5, 6, 7, 8, 9, 10, 11, 12] rfl⟩
            · refine lv_aload_n hx hb dL_acts_1286 rfl (lv_at hl 4 rfl) ?_
              refine w_calli (va_runV (As := []) (rest := []) ⟨hx, hb, hml, hown, hts⟩ (c_X4_clock l D B ad g σ (tW D ad (g, σ) (lW D 4 μ)) 0) (cwV 0 hts gL_acts_X4_clock rfl rfl rfl (by decide +kernel) ⟨Nat.le_of_ble_eq_true rfl, Nat.le_of_ble_eq_true rfl⟩) (w_preV hC hP hS cW_4 rfl) rfl rfl hl.1 rfl (lv_room (Nat.le_of_ble_eq_true rfl)) dL_acts_1287 ⟨Nat.le_of_ble_eq_true rfl, Nat.le_of_ble_eq_true rfl⟩) hS (fun r_21 ad1 w1 H locs hq hP hS => ?_)
              obtain ⟨h81, h82⟩ := hq
              cases h81
              subst h82
              refine w_top (v := nI t) J.1.2.1 ?_
              refine lv_sipush (v := (1440)) hx hb dL_acts_1290 (by decide) ?_
              refine lv_idiv hx hb dL_acts_1293 (by decide) ?_
              refine w_top (v := nI (t / 1440)) (pk_div (a := t) (d := 1440) (by omega) (by decide) (by decide)) ?_
              refine lv_bipush (v := (7)) hx hb dL_acts_1294 (by decide) ?_
              refine lv_irem hx hb dL_acts_1296 (by decide) ?_
              refine w_top (v := remF (nI (t / 1440)) 7) rfl ?_
              refine w_top (v := nI (t / 1440 % 7)) (remN (a := t / 1440) (k := 7) (by omega) (by decide) (by decide)) ?_
              refine lv_goto (tgt := 1310) hx hb dL_acts_1297 (by decide) ?_
              refine lv_istore (lv' := [(16, .int (nI (t / 1440 % 7))), (15, .int (nI m9)), (14, .int v), (13, .int 0), (12, .int (nI ce)), (0, .ref (ad 4 0)), (1, .ref (ad 17 0)), (2, .ref (ad 26 0)), (3, .ref (ad 26 1)), (4, .ref (ad 26 2)), (5, .ref (ad 26 3)), (6, .int x), (7, .int y)]) hx hb dL_acts_1310 hl (by decide) rfl (fun ls hl => ?_)
              exact Kz _ _ _ ⟨t / 1440 % 7, by omega, hP, hS, lv_sub hl [0, 1, 2, 3, 4, 5, 6, 7, 8, 9, 10, 11, 12] rfl⟩
          · exact absurd c_1250 (by decide)
      · refine lv_iload hx hb dL_acts_1192 (lv_at hl 10 rfl) ?_
        refine lv_bipush (v := (10)) hx hb dL_acts_1194 (by decide) ?_
        refine lv_ishr hx hb dL_acts_1196 ?_
        refine lv_iconst (v := 3) hx hb dL_acts_1197 (by decide) ?_
        refine w_calli (va_runS (As := [.int (y >>> (10 &&& 31)), .int 3]) (rest := []) ⟨hx, hb, hml, hown, hts⟩ (c_L_low l D B ad (eW D ad (g, σ) (g, σ) (lW D 4 μ)) (y >>> (10 &&& 31)) 3 (by decide)) (va_cwS 2 hts gL_acts_L_low rfl rfl rfl (by decide +kernel) ⟨Nat.le_of_ble_eq_true rfl, Nat.le_of_ble_eq_true rfl⟩) (w_preS hC hP hS) rfl rfl hl.1 rfl (lv_room (Nat.le_of_ble_eq_true rfl)) dL_acts_1198 ⟨Nat.le_of_ble_eq_true rfl, Nat.le_of_ble_eq_true rfl⟩) hS (fun r_22 ad1 w1 H locs hq hP hS => ?_)
        obtain ⟨h81, h82⟩ := hq
        cases h81
        subst h82
        refine lv_if_le (tgt := 1235) hx hb dL_acts_1201 (by decide) (fun c_1201 => ?_) (fun c_1201 => ?_)
        · refine lv_iload hx hb dL_acts_1235 (lv_at hl 10 rfl) ?_
          refine lv_bipush (v := (10)) hx hb dL_acts_1237 (by decide) ?_
          refine lv_ishr hx hb dL_acts_1239 ?_
          refine lv_sipush (v := (1440)) hx hb dL_acts_1240 (by decide) ?_
          refine w_calli (va_runS (As := [.int (y >>> (10 &&& 31)), .int 1440]) (rest := []) ⟨hx, hb, hml, hown, hts⟩ (c_L_low l D B ad (eW D ad (g, σ) (g, σ) (lW D 4 μ)) (y >>> (10 &&& 31)) 1440 (by decide)) (va_cwS 2 hts gL_acts_L_low rfl rfl rfl (by decide +kernel) ⟨Nat.le_of_ble_eq_true rfl, Nat.le_of_ble_eq_true rfl⟩) (w_preS hC hP hS) rfl rfl hl.1 rfl (lv_room (Nat.le_of_ble_eq_true rfl)) dL_acts_1243 ⟨Nat.le_of_ble_eq_true rfl, Nat.le_of_ble_eq_true rfl⟩) hS (fun r_23 ad1 w1 H locs hq hP hS => ?_)
          obtain ⟨h81, h82⟩ := hq
          cases h81
          subst h82
          obtain ⟨m8, hm8, em8⟩ := low_lt (y >>> (10 &&& 31)) (k := 1440) (by omega) (by omega)
          refine w_top (v := nI m8) em8 ?_
          refine lv_istore (lv' := [(15, .int (nI m8)), (14, .int v), (13, .int 0), (12, .int (nI ce)), (0, .ref (ad 4 0)), (1, .ref (ad 17 0)), (2, .ref (ad 26 0)), (3, .ref (ad 26 1)), (4, .ref (ad 26 2)), (5, .ref (ad 26 3)), (6, .int x), (7, .int y)]) hx hb dL_acts_1246 hl (by decide) rfl (fun ls hl => ?_)
          exact Ky _ _ _ ⟨m8, by omega, hP, hS, lv_sub hl [0, 1, 2, 3, 4, 5, 6, 7, 8, 9, 10, 11] rfl⟩
        · refine lv_aload_n hx hb dL_acts_1204 rfl (lv_at hl 3 rfl) ?_
          refine w_calli (va_runV (As := []) (rest := []) ⟨hx, hb, hml, hown, hts⟩ (c_X4_clock l D B ad g σ (tW D ad (g, σ) (lW D 4 μ)) 0) (cwV 0 hts gL_acts_X4_clock rfl rfl rfl (by decide +kernel) ⟨Nat.le_of_ble_eq_true rfl, Nat.le_of_ble_eq_true rfl⟩) (w_preV hC hP hS cW_4 rfl) rfl rfl hl.1 rfl (lv_room (Nat.le_of_ble_eq_true rfl)) dL_acts_1205 ⟨Nat.le_of_ble_eq_true rfl, Nat.le_of_ble_eq_true rfl⟩) hS (fun r_24 ad1 w1 H locs hq hP hS => ?_)
          obtain ⟨h81, h82⟩ := hq
          cases h81
          subst h82
          refine w_top (v := nI t) J.1.2.1 ?_
          refine lv_sipush (v := (1440)) hx hb dL_acts_1208 (by decide) ?_
          refine lv_irem hx hb dL_acts_1211 (by decide) ?_
          refine w_top (v := remF (nI t) 1440) rfl ?_
          refine lv_iload hx hb dL_acts_1212 (lv_at hl 10 rfl) ?_
          refine lv_bipush (v := (12)) hx hb dL_acts_1214 (by decide) ?_
          refine lv_ishr hx hb dL_acts_1216 ?_
          refine lv_bipush (v := (40)) hx hb dL_acts_1217 (by decide) ?_
          refine w_calli (va_runS (As := [.int (y >>> (12 &&& 31)), .int 40]) (rest := [.int (remF (nI t) 1440)]) ⟨hx, hb, hml, hown, hts⟩ (c_L_low l D B ad (eW D ad (g, σ) (g, σ) (lW D 4 μ)) (y >>> (12 &&& 31)) 40 (by decide)) (va_cwS 2 hts gL_acts_L_low rfl rfl rfl (by decide +kernel) ⟨Nat.le_of_ble_eq_true rfl, Nat.le_of_ble_eq_true rfl⟩) (w_preS hC hP hS) rfl rfl hl.1 rfl (lv_room (Nat.le_of_ble_eq_true rfl)) dL_acts_1219 ⟨Nat.le_of_ble_eq_true rfl, Nat.le_of_ble_eq_true rfl⟩) hS (fun r_25 ad1 w1 H locs hq hP hS => ?_)
          obtain ⟨h81, h82⟩ := hq
          cases h81
          subst h82
          refine lv_iadd hx hb dL_acts_1222 ?_
          refine lv_bipush (v := (10)) hx hb dL_acts_1223 (by decide) ?_
          refine lv_isub hx hb dL_acts_1225 ?_
          refine lv_sipush (v := (1440)) hx hb dL_acts_1226 (by decide) ?_
          refine w_calli (va_runS (As := [.int (((remF (nI t) 1440) + (lowO (y >>> (12 &&& 31)) 40)) - 10), .int 1440]) (rest := []) ⟨hx, hb, hml, hown, hts⟩ (c_L_low l D B ad (eW D ad (g, σ) (g, σ) (lW D 4 μ)) (((remF (nI t) 1440) + (lowO (y >>> (12 &&& 31)) 40)) - 10) 1440 (by decide)) (va_cwS 2 hts gL_acts_L_low rfl rfl rfl (by decide +kernel) ⟨Nat.le_of_ble_eq_true rfl, Nat.le_of_ble_eq_true rfl⟩) (w_preS hC hP hS) rfl rfl hl.1 rfl (lv_room (Nat.le_of_ble_eq_true rfl)) dL_acts_1229 ⟨Nat.le_of_ble_eq_true rfl, Nat.le_of_ble_eq_true rfl⟩) hS (fun r_26 ad1 w1 H locs hq hP hS => ?_)
          obtain ⟨h81, h82⟩ := hq
          cases h81
          subst h82
          obtain ⟨m8, hm8, em8⟩ := low_lt (((remF (nI t) 1440) + (lowO (y >>> (12 &&& 31)) 40)) - 10) (k := 1440) (by omega) (by omega)
          refine w_top (v := nI m8) em8 ?_
          refine lv_goto (tgt := 1246) hx hb dL_acts_1232 (by decide) ?_
          refine lv_istore (lv' := [(15, .int (nI m8)), (14, .int v), (13, .int 0), (12, .int (nI ce)), (0, .ref (ad 4 0)), (1, .ref (ad 17 0)), (2, .ref (ad 26 0)), (3, .ref (ad 26 1)), (4, .ref (ad 26 2)), (5, .ref (ad 26 3)), (6, .int x), (7, .int y)]) hx hb dL_acts_1246 hl (by decide) rfl (fun ls hl => ?_)
          exact Ky _ _ _ ⟨m8, by omega, hP, hS, lv_sub hl [0, 1, 2, 3, 4, 5, 6, 7, 8, 9, 10, 11] rfl⟩
    · refine lv_iload hx hb dL_acts_1136 (lv_at hl 9 rfl) ?_
      refine lv_iconst (v := 2) hx hb dL_acts_1138 (by decide) ?_
      refine lv_ishr hx hb dL_acts_1139 ?_
      refine lv_iconst (v := 4) hx hb dL_acts_1140 (by decide) ?_
      refine w_calli (va_runS (As := [.int (y >>> (2 &&& 31)), .int 4]) (rest := []) ⟨hx, hb, hml, hown, hts⟩ (c_L_low l D B ad (eW D ad (g, σ) (g, σ) (lW D 4 μ)) (y >>> (2 &&& 31)) 4 (by decide)) (va_cwS 2 hts gL_acts_L_low rfl rfl rfl (by decide +kernel) ⟨Nat.le_of_ble_eq_true rfl, Nat.le_of_ble_eq_true rfl⟩) (w_preS hC hP hS) rfl rfl hl.1 rfl (lv_room (Nat.le_of_ble_eq_true rfl)) dL_acts_1141 ⟨Nat.le_of_ble_eq_true rfl, Nat.le_of_ble_eq_true rfl⟩) hS (fun r_27 ad1 w1 H locs hq hP hS => ?_)
      obtain ⟨h81, h82⟩ := hq
      cases h81
      subst h82
      refine lv_if_ne (tgt := 1152) hx hb dL_acts_1144 (by decide) (fun c_1144 => ?_) (fun c_1144 => ?_)
      · refine lv_aload_n hx hb dL_acts_1152 rfl (lv_at hl 4 rfl) ?_
        refine lv_bipush (v := (16)) hx hb dL_acts_1153 (by decide) ?_
        refine lv_aload hx hb dL_acts_1155 (lv_at hl 6 rfl) ?_
        refine lv_iconst (v := 4) hx hb dL_acts_1157 (by decide) ?_
        refine lv_iload hx hb dL_acts_1158 (lv_at hl 1 rfl) ?_
        refine lv_imul hx hb dL_acts_1160 ?_
        refine w_top (v := nI (4 * ce)) (pk_mul 4 ce) ?_
        refine w_ildN hx hb hC hP (eW_L (show 2 < 4 by decide)) (show 4 * ce < 16 from by omega) (by decide) (v := nI i) e1 dL_acts_1161 ?_
        refine lv_iadd hx hb dL_acts_1162 ?_
        refine w_top (v := nI (16 + i)) (nI_add 16 i) ?_
        refine w_ildN hx hb hC hP (eW_L (show 0 < 4 by decide)) (show 16 + i < 32 from by omega) (by decide) (v := μ 0 0 (16 + i)) rfl dL_acts_1163 ?_
        refine lv_if_ge (tgt := 1182) hx hb dL_acts_1164 (by decide) (fun c_1164 => ?_) (fun c_1164 => ?_)
        · refine lv_iload hx hb dL_acts_1182 (lv_at hl 9 rfl) ?_
          refine lv_iconst (v := 4) hx hb dL_acts_1184 (by decide) ?_
          refine lv_ishr hx hb dL_acts_1185 ?_
          refine lv_iconst (v := 2) hx hb dL_acts_1186 (by decide) ?_
          refine w_calli (va_runS (As := [.int (y >>> (4 &&& 31)), .int 2]) (rest := []) ⟨hx, hb, hml, hown, hts⟩ (c_L_low l D B ad (eW D ad (g, σ) (g, σ) (lW D 4 μ)) (y >>> (4 &&& 31)) 2 (by decide)) (va_cwS 2 hts gL_acts_L_low rfl rfl rfl (by decide +kernel) ⟨Nat.le_of_ble_eq_true rfl, Nat.le_of_ble_eq_true rfl⟩) (w_preS hC hP hS) rfl rfl hl.1 rfl (lv_room (Nat.le_of_ble_eq_true rfl)) dL_acts_1187 ⟨Nat.le_of_ble_eq_true rfl, Nat.le_of_ble_eq_true rfl⟩) hS (fun r_28 ad1 w1 H locs hq hP hS => ?_)
          obtain ⟨h81, h82⟩ := hq
          cases h81
          subst h82
          obtain ⟨j9, hj9, ej9⟩ := low_lt (y >>> (4 &&& 31)) (k := 2) (by omega) (by omega)
          refine w_top (v := nI j9) ej9 ?_
          refine lv_istore (lv' := [(14, .int (nI j9)), (13, .int 0), (12, .int (nI ce)), (0, .ref (ad 4 0)), (1, .ref (ad 17 0)), (2, .ref (ad 26 0)), (3, .ref (ad 26 1)), (4, .ref (ad 26 2)), (5, .ref (ad 26 3)), (6, .int x), (7, .int y)]) hx hb dL_acts_1190 hl (by decide) rfl (fun ls hl => ?_)
          exact Kx _ _ _ ⟨nI j9, ok_sw (pt_ge J hi c_1164).1 (lo_sw hj9), hP, hS, lv_sub hl [0, 1, 2, 3, 4, 5, 6, 7, 8, 9, 10] rfl⟩
        · refine lv_iload hx hb dL_acts_1167 (lv_at hl 9 rfl) ?_
          refine lv_iconst (v := 4) hx hb dL_acts_1169 (by decide) ?_
          refine lv_ishr hx hb dL_acts_1170 ?_
          refine lv_bipush (v := (41)) hx hb dL_acts_1171 (by decide) ?_
          refine w_calli (va_runS (As := [.int (y >>> (4 &&& 31)), .int 41]) (rest := []) ⟨hx, hb, hml, hown, hts⟩ (c_L_low l D B ad (eW D ad (g, σ) (g, σ) (lW D 4 μ)) (y >>> (4 &&& 31)) 41 (by decide)) (va_cwS 2 hts gL_acts_L_low rfl rfl rfl (by decide +kernel) ⟨Nat.le_of_ble_eq_true rfl, Nat.le_of_ble_eq_true rfl⟩) (w_preS hC hP hS) rfl rfl hl.1 rfl (lv_room (Nat.le_of_ble_eq_true rfl)) dL_acts_1173 ⟨Nat.le_of_ble_eq_true rfl, Nat.le_of_ble_eq_true rfl⟩) hS (fun r_29 ad1 w1 H locs hq hP hS => ?_)
          obtain ⟨h81, h82⟩ := hq
          cases h81
          subst h82
          obtain ⟨j9, hj9, ej9⟩ := low_lt (y >>> (4 &&& 31)) (k := 41) (by omega) (by omega)
          refine w_top (v := nI j9) ej9 ?_
          refine lv_bipush (v := (20)) hx hb dL_acts_1176 (by decide) ?_
          refine lv_isub hx hb dL_acts_1178 ?_
          refine lv_goto (tgt := 1190) hx hb dL_acts_1179 (by decide) ?_
          refine lv_istore (lv' := [(14, .int ((nI j9) - 20)), (13, .int 0), (12, .int (nI ce)), (0, .ref (ad 4 0)), (1, .ref (ad 17 0)), (2, .ref (ad 26 0)), (3, .ref (ad 26 1)), (4, .ref (ad 26 2)), (5, .ref (ad 26 3)), (6, .int x), (7, .int y)]) hx hb dL_acts_1190 hl (by decide) rfl (fun ls hl => ?_)
          exact Kx _ _ _ ⟨(nI j9) - 20, ok_me (pt_lt J hi c_1164) (lo_20 hj9), hP, hS, lv_sub hl [0, 1, 2, 3, 4, 5, 6, 7, 8, 9, 10] rfl⟩
      · refine lv_ldc (v := (-100000)) hx hb hown (hts (.constant RL 107 (-100000)) (by decide +kernel)) dL_acts_1147 ?_
        refine w_top (v := nth) rfl ?_
        refine lv_goto (tgt := 1190) hx hb dL_acts_1149 (by decide) ?_
        refine lv_istore (lv' := [(14, .int nth), (13, .int 0), (12, .int (nI ce)), (0, .ref (ad 4 0)), (1, .ref (ad 17 0)), (2, .ref (ad 26 0)), (3, .ref (ad 26 1)), (4, .ref (ad 26 2)), (5, .ref (ad 26 3)), (6, .int x), (7, .int y)]) hx hb dL_acts_1190 hl (by decide) rfl (fun ls hl => ?_)
        exact Kx _ _ _ ⟨nth, Or.inl rfl, hP, hS, lv_sub hl [0, 1, 2, 3, 4, 5, 6, 7, 8, 9, 10] rfl⟩
  · refine lv_iconst (v := 1) hx hb dL_acts_1129 (by decide) ?_
    refine lv_goto (tgt := 1134) hx hb dL_acts_1130 (by decide) ?_
    refine lv_istore (lv' := [(13, .int 1), (12, .int (nI ce)), (0, .ref (ad 4 0)), (1, .ref (ad 17 0)), (2, .ref (ad 26 0)), (3, .ref (ad 26 1)), (4, .ref (ad 26 2)), (5, .ref (ad 26 3)), (6, .int x), (7, .int y)]) hx hb dL_acts_1134 hl (by decide) rfl (fun ls hl => ?_)
    refine w_cut 1192 0 0 (fun H locs ls => ∃ (v : Int32), (okV σ i v) ∧ hw D B ad (eW D ad (g, σ) (g, σ) (lW D 4 μ)) H ∧ va_S (ab B) s.heap H locs ∧ lv_has ls 20 [(14, .int v), (13, .int 1), (12, .int (nI ce)), (0, .ref (ad 4 0)), (1, .ref (ad 17 0)), (2, .ref (ad 26 0)), (3, .ref (ad 26 1)), (4, .ref (ad 26 2)), (5, .ref (ad 26 3)), (6, .int x), (7, .int y)]) (fun H locs ls hJ => ?_) (fun Kx => ?_)
    · obtain ⟨v, hv, hP, hS, hl⟩ := hJ
      refine w_cut 1248 0 0 (fun H locs ls => ∃ (m9 : Nat), (m9 < 1440) ∧ hw D B ad (eW D ad (g, σ) (g, σ) (lW D 4 μ)) H ∧ va_S (ab B) s.heap H locs ∧ lv_has ls 20 [(15, .int (nI m9)), (14, .int v), (13, .int 1), (12, .int (nI ce)), (0, .ref (ad 4 0)), (1, .ref (ad 17 0)), (2, .ref (ad 26 0)), (3, .ref (ad 26 1)), (4, .ref (ad 26 2)), (5, .ref (ad 26 3)), (6, .int x), (7, .int y)]) (fun H locs ls hJ => ?_) (fun Ky => ?_)
      · obtain ⟨m9, hm9, hP, hS, hl⟩ := hJ
        refine w_cut 1312 0 0 (fun H locs ls => ∃ (d9 : Nat), (d9 ≤ 700) ∧ hw D B ad (eW D ad (g, σ) (g, σ) (lW D 4 μ)) H ∧ va_S (ab B) s.heap H locs ∧ lv_has ls 20 [(16, .int (nI d9)), (15, .int (nI m9)), (14, .int v), (13, .int 1), (12, .int (nI ce)), (0, .ref (ad 4 0)), (1, .ref (ad 17 0)), (2, .ref (ad 26 0)), (3, .ref (ad 26 1)), (4, .ref (ad 26 2)), (5, .ref (ad 26 3)), (6, .int x), (7, .int y)]) (fun H locs ls hJ => ?_) (fun Kz => ?_)
        · obtain ⟨d9, hd9, hP, hS, hl⟩ := hJ
          refine lv_aload hx hb dL_acts_1312 (lv_at hl 9 rfl) ?_
          refine lv_iconst (v := 4) hx hb dL_acts_1314 (by decide) ?_
          refine lv_iload hx hb dL_acts_1315 (lv_at hl 4 rfl) ?_
          refine lv_imul hx hb dL_acts_1317 ?_
          refine w_top (v := nI (4 * ce)) (pk_mul 4 ce) ?_
          refine lv_iconst (v := 3) hx hb dL_acts_1318 (by decide) ?_
          refine lv_iadd hx hb dL_acts_1319 ?_
          refine w_top (v := nI ((4 * ce) + 3)) (nI_add (4 * ce) 3) ?_
          refine w_ildN hx hb hC hP (eW_L (show 2 < 4 by decide)) (show (4 * ce) + 3 < 16 from by omega) (by decide) (v := nI n) en dL_acts_1320 ?_
          refine lv_bipush (v := (20)) hx hb dL_acts_1321 (by decide) ?_
          refine lv_icmp_ge (tgt := 1330) hx hb dL_acts_1323 (by decide) (fun c_1323 => ?_) (fun c_1323 => ?_)
          · have hfull : ¬ n < 20 := fun z => (nI_ge (b := 20) z (by decide)) c_1323
            refine lv_iconst (v := 0) hx hb dL_acts_1330 (by decide) ?_
            refine lv_istore (lv' := [(17, .int 0), (16, .int (nI d9)), (15, .int (nI m9)), (14, .int v), (13, .int 1), (12, .int (nI ce)), (0, .ref (ad 4 0)), (1, .ref (ad 17 0)), (2, .ref (ad 26 0)), (3, .ref (ad 26 1)), (4, .ref (ad 26 2)), (5, .ref (ad 26 3)), (6, .int x), (7, .int y)]) hx hb dL_acts_1331 hl (by decide) rfl (fun ls hl => ?_)
            refine lv_aload hx hb dL_acts_1333 (lv_at hl 10 rfl) ?_
            refine lv_iconst (v := 4) hx hb dL_acts_1335 (by decide) ?_
            refine lv_iload hx hb dL_acts_1336 (lv_at hl 5 rfl) ?_
            refine lv_imul hx hb dL_acts_1338 ?_
            refine w_top (v := nI (4 * ce)) (pk_mul 4 ce) ?_
            refine lv_iconst (v := 3) hx hb dL_acts_1339 (by decide) ?_
            refine lv_iadd hx hb dL_acts_1340 ?_
            refine w_top (v := nI ((4 * ce) + 3)) (nI_add (4 * ce) 3) ?_
            refine lv_dup2_11 hx hb dL_acts_1341 rfl rfl ?_
            refine w_ildN hx hb hC hP (eW_L (show 2 < 4 by decide)) (show (4 * ce) + 3 < 16 from by omega) (by decide) (v := nI n) en dL_acts_1342 ?_
            refine lv_iload hx hb dL_acts_1343 (lv_at hl 0 rfl) ?_
            refine lv_if_eq (tgt := 1352) hx hb dL_acts_1345 (by decide) (fun c_1345 => ?_) (fun c_1345 => ?_)
            · refine lv_iconst (v := 0) hx hb dL_acts_1352 (by decide) ?_
              refine lv_iadd hx hb dL_acts_1353 ?_
              refine w_top (v := nI (n + 0)) (nI_add n 0) ?_
              refine w_istN hx hb hC hP hS (eW_L (show 2 < 4 by decide)) (show (4 * ce) + 3 < 16 from by omega) (by decide) dL_acts_1354 (fun H locs hP hS => ?_)
              have hP := hw_eq hP (eW_put _ (show 2 < 4 by decide))
              rw [st3_no en] at hP
              refine lv_iload hx hb dL_acts_1355 (lv_at hl 4 rfl) ?_
              refine lv_if_eq (tgt := 1375) hx hb dL_acts_1357 (by decide) (fun c_1357 => ?_) (fun c_1357 => ?_)
              · exact absurd c_1357 (by decide)
              · refine lv_aload_n hx hb dL_acts_1360 rfl (lv_at hl 6 rfl) ?_
                refine lv_iload hx hb dL_acts_1361 (lv_at hl 5 rfl) ?_
                refine lv_iload hx hb dL_acts_1363 (lv_at hl 1 rfl) ?_
                refine lv_iload hx hb dL_acts_1365 (lv_at hl 2 rfl) ?_
                refine lv_iload hx hb dL_acts_1367 (lv_at hl 3 rfl) ?_
                refine w_calli (vx_runSW (As := [.ref (ad 4 0), .int (nI ce), .int (nI d9), .int (nI m9), .int v]) (rest := []) ⟨hx, hb, hml, hown, hts⟩ (c_L_once l hns D B ad g σ (tW D ad (g, σ) (lW D 4 μ)) 0 hI t J.1.2.1 J.1.2.2.1 (nI ce) (nI d9) (nI m9) v) (vx_cwSW 5 hts gL_acts_L_once rfl rfl rfl (by decide +kernel) ⟨Nat.le_of_ble_eq_true rfl, Nat.le_of_ble_eq_true rfl⟩) (w_preS hC hP hS) rfl rfl hl.1 rfl (lv_room (Nat.le_of_ble_eq_true rfl)) dL_acts_1369 ⟨Nat.le_of_ble_eq_true rfl, Nat.le_of_ble_eq_true rfl⟩) hS (fun r_30 ad1 w1 H locs hq hP hS => ?_)
                obtain ⟨S2, h81, h82, h83⟩ := hq
                obtain ⟨h84, h85⟩ := h83 (ne_3 (ee_3 J hce e14 hi e17 hn20 hfull hv (lo_bt (n := 700) (by omega) (by decide)) (lo_bt (n := 1439) (by omega) (by decide))))
                cases h84
                cases h81
                subst h85
                refine w_top (v := (-1000003)) (en_3 (ee_3 J hce e14 hi e17 hn20 hfull hv (lo_bt (n := 700) (by omega) (by decide)) (lo_bt (n := 1439) (by omega) (by decide)))) ?_
                refine lv_goto (tgt := 1387) hx hb dL_acts_1372 (by decide) ?_
                refine lv_istore (lv' := [(18, .int (-1000003)), (17, .int 0), (16, .int (nI d9)), (15, .int (nI m9)), (14, .int v), (13, .int 1), (12, .int (nI ce)), (0, .ref (ad 4 0)), (1, .ref (ad 17 0)), (2, .ref (ad 26 0)), (3, .ref (ad 26 1)), (4, .ref (ad 26 2)), (5, .ref (ad 26 3)), (6, .int x), (7, .int y)]) hx hb dL_acts_1387 hl (by decide) rfl (fun ls hl => ?_)
                refine lv_iload hx hb dL_acts_1389 (lv_at hl 5 rfl) ?_
                refine lv_if_eq (tgt := 1409) hx hb dL_acts_1391 (by decide) (fun c_1391 => ?_) (fun c_1391 => ?_)
                · exact absurd c_1391 (by decide)
                · refine lv_aload_n hx hb dL_acts_1394 rfl (lv_at hl 8 rfl) ?_
                  refine lv_iload hx hb dL_acts_1395 (lv_at hl 6 rfl) ?_
                  refine lv_iload hx hb dL_acts_1397 (lv_at hl 2 rfl) ?_
                  refine lv_iload hx hb dL_acts_1399 (lv_at hl 3 rfl) ?_
                  refine lv_iload hx hb dL_acts_1401 (lv_at hl 4 rfl) ?_
                  refine w_calli (vx_runSW (As := [.ref (ad 17 0), .int (nI ce), .int (nI d9), .int (nI m9), .int v]) (rest := []) ⟨hx, hb, hml, hown, hts⟩ (t_L_once l hns D B ad g σ (g, σ) (lW D 4 μ) hI t J.1.2.1 J.1.2.2.1 (nI ce) (nI d9) (nI m9) v) (vx_cwSW 5 hts gL_acts_L_once rfl rfl rfl (by decide +kernel) ⟨Nat.le_of_ble_eq_true rfl, Nat.le_of_ble_eq_true rfl⟩) (w_preS hC hP hS) rfl rfl hl.1 rfl (lv_room (Nat.le_of_ble_eq_true rfl)) dL_acts_1403 ⟨Nat.le_of_ble_eq_true rfl, Nat.le_of_ble_eq_true rfl⟩) hS (fun r_31 ad1 w1 H locs hq hP hS => ?_)
                  obtain ⟨S2, h81, h82, h83⟩ := hq
                  obtain ⟨h84, h85⟩ := h83 (ne_3 (ee_3 J hce e14 hi e17 hn20 hfull hv (lo_bt (n := 700) (by omega) (by decide)) (lo_bt (n := 1439) (by omega) (by decide))))
                  cases h84
                  cases h81
                  subst h85
                  refine w_top (v := (-1000003)) (en_3 (ee_3 J hce e14 hi e17 hn20 hfull hv (lo_bt (n := 700) (by omega) (by decide)) (lo_bt (n := 1439) (by omega) (by decide)))) ?_
                  refine lv_goto (tgt := 1421) hx hb dL_acts_1406 (by decide) ?_
                  refine lv_iload hx hb dL_acts_1421 (lv_at hl 0 rfl) ?_
                  refine lv_icmp_ne (tgt := 1455) hx hb dL_acts_1423 (by decide) (fun c_1423 => ?_) (fun c_1423 => ?_)
                  · exact absurd c_1423 (by decide)
                  · refine lv_iload hx hb dL_acts_1426 (lv_at hl 0 rfl) ?_
                    refine lv_iload hx hb dL_acts_1428 (lv_at hl 1 rfl) ?_
                    refine lv_if_eq (tgt := 1446) hx hb dL_acts_1430 (by decide) (fun c_1430 => ?_) (fun c_1430 => ?_)
                    · refine lv_ldc (v := (-1000003)) hx hb hown (hts (.constant RL 21 (-1000003)) (by decide +kernel)) dL_acts_1446 ?_
                      refine lv_icmp_ne (tgt := 1455) hx hb dL_acts_1448 (by decide) (fun c_1448 => ?_) (fun c_1448 => ?_)
                      · exact absurd c_1448 (by decide)
                      · refine lv_iconst (v := 1) hx hb dL_acts_1451 (by decide) ?_
                        refine lv_goto (tgt := 1456) hx hb dL_acts_1452 (by decide) ?_
                        refine lv_istore (lv' := [(19, .int 1), (18, .int (-1000003)), (17, .int 0), (16, .int (nI d9)), (15, .int (nI m9)), (14, .int v), (13, .int 1), (12, .int (nI ce)), (0, .ref (ad 4 0)), (1, .ref (ad 17 0)), (2, .ref (ad 26 0)), (3, .ref (ad 26 1)), (4, .ref (ad 26 2)), (5, .ref (ad 26 3)), (6, .int x), (7, .int y)]) hx hb dL_acts_1456 hl (by decide) rfl (fun ls hl => ?_)
                        refine lv_iload hx hb dL_acts_1458 (lv_at hl 0 rfl) ?_
                        refine lv_if_eq (tgt := 1546) hx hb dL_acts_1460 (by decide) (fun c_1460 => ?_) (fun c_1460 => ?_)
                        · exact absurd c_1460 (by decide)
                        · refine lv_aload_n hx hb dL_acts_1463 rfl (lv_at hl 8 rfl) ?_
                          refine lv_iload hx hb dL_acts_1464 (lv_at hl 7 rfl) ?_
                          refine lv_bipush (v := (7)) hx hb dL_acts_1466 (by decide) ?_
                          refine lv_iconst (v := 0) hx hb dL_acts_1468 (by decide) ?_
                          refine lv_iconst (v := 0) hx hb dL_acts_1469 (by decide) ?_
                          refine w_calli (vx_runSW (As := [.ref (ad 4 0), .int (nI ce), .int 7, .int 0, .int 0]) (rest := []) ⟨hx, hb, hml, hown, hts⟩ (c_L_weekly l hns D B ad g σ (tW D ad (g, σ) (lW D 4 μ)) 0 hI t J.1.2.1 J.1.2.2.1 (nI ce) 7 0 0) (vx_cwSW 5 hts gL_acts_L_weekly rfl rfl rfl (by decide +kernel) ⟨Nat.le_of_ble_eq_true rfl, Nat.le_of_ble_eq_true rfl⟩) (w_preS hC hP hS) rfl rfl hl.1 rfl (lv_room (Nat.le_of_ble_eq_true rfl)) dL_acts_1470 ⟨Nat.le_of_ble_eq_true rfl, Nat.le_of_ble_eq_true rfl⟩) hS (fun r_32 ad1 w1 H locs hq hP hS => ?_)
                          obtain ⟨S2, h81, -, h83⟩ := hq
                          obtain ⟨h84, h85⟩ := h83 (ne_2 (ee_2 hce (fun z => absurd z.1.2 (by decide))))
                          cases h84
                          cases h81
                          subst h85
                          refine w_top (v := (-1000002)) (en_2 (ee_2 hce (fun z => absurd z.1.2 (by decide)))) ?_
                          refine lv_ldc (v := (-1000002)) hx hb hown (hts (.constant RL 18 (-1000002)) (by decide +kernel)) dL_acts_1473 ?_
                          refine lv_icmp_ne (tgt := 1546) hx hb dL_acts_1475 (by decide) (fun c_1475 => ?_) (fun c_1475 => ?_)
                          · exact absurd c_1475 (by decide)
                          · refine lv_aload_n hx hb dL_acts_1478 rfl (lv_at hl 8 rfl) ?_
                            refine lv_iload hx hb dL_acts_1479 (lv_at hl 7 rfl) ?_
                            refine lv_iconst (v := 0) hx hb dL_acts_1481 (by decide) ?_
                            refine lv_sipush (v := (1440)) hx hb dL_acts_1482 (by decide) ?_
                            refine lv_iconst (v := 0) hx hb dL_acts_1485 (by decide) ?_
                            refine w_calli (vx_runSW (As := [.ref (ad 4 0), .int (nI ce), .int 0, .int 1440, .int 0]) (rest := []) ⟨hx, hb, hml, hown, hts⟩ (c_L_weekly l hns D B ad g σ (tW D ad (g, σ) (lW D 4 μ)) 0 hI t J.1.2.1 J.1.2.2.1 (nI ce) 0 1440 0) (vx_cwSW 5 hts gL_acts_L_weekly rfl rfl rfl (by decide +kernel) ⟨Nat.le_of_ble_eq_true rfl, Nat.le_of_ble_eq_true rfl⟩) (w_preS hC hP hS) rfl rfl hl.1 rfl (lv_room (Nat.le_of_ble_eq_true rfl)) dL_acts_1486 ⟨Nat.le_of_ble_eq_true rfl, Nat.le_of_ble_eq_true rfl⟩) hS (fun r_33 ad1 w1 H locs hq hP hS => ?_)
                            obtain ⟨S2, h81, -, h83⟩ := hq
                            obtain ⟨h84, h85⟩ := h83 (ne_2 (ee_2 hce (fun z => absurd z.2.1.2 (by decide))))
                            cases h84
                            cases h81
                            subst h85
                            refine w_top (v := (-1000002)) (en_2 (ee_2 hce (fun z => absurd z.2.1.2 (by decide)))) ?_
                            refine lv_ldc (v := (-1000002)) hx hb hown (hts (.constant RL 18 (-1000002)) (by decide +kernel)) dL_acts_1489 ?_
                            refine lv_icmp_ne (tgt := 1546) hx hb dL_acts_1491 (by decide) (fun c_1491 => ?_) (fun c_1491 => ?_)
                            · exact absurd c_1491 (by decide)
                            · refine lv_aload_n hx hb dL_acts_1494 rfl (lv_at hl 8 rfl) ?_
                              refine lv_iload hx hb dL_acts_1495 (lv_at hl 7 rfl) ?_
                              refine lv_sipush (v := (701)) hx hb dL_acts_1497 (by decide) ?_
                              refine lv_iconst (v := 0) hx hb dL_acts_1500 (by decide) ?_
                              refine lv_iconst (v := 0) hx hb dL_acts_1501 (by decide) ?_
                              refine w_calli (vx_runSW (As := [.ref (ad 4 0), .int (nI ce), .int 701, .int 0, .int 0]) (rest := []) ⟨hx, hb, hml, hown, hts⟩ (c_L_once l hns D B ad g σ (tW D ad (g, σ) (lW D 4 μ)) 0 hI t J.1.2.1 J.1.2.2.1 (nI ce) 701 0 0) (vx_cwSW 5 hts gL_acts_L_once rfl rfl rfl (by decide +kernel) ⟨Nat.le_of_ble_eq_true rfl, Nat.le_of_ble_eq_true rfl⟩) (w_preS hC hP hS) rfl rfl hl.1 rfl (lv_room (Nat.le_of_ble_eq_true rfl)) dL_acts_1502 ⟨Nat.le_of_ble_eq_true rfl, Nat.le_of_ble_eq_true rfl⟩) hS (fun r_34 ad1 w1 H locs hq hP hS => ?_)
                              obtain ⟨S2, h81, -, h83⟩ := hq
                              obtain ⟨h84, h85⟩ := h83 (ne_2 (ee_2 hce (fun z => absurd z.1.2 (by decide))))
                              cases h84
                              cases h81
                              subst h85
                              refine w_top (v := (-1000002)) (en_2 (ee_2 hce (fun z => absurd z.1.2 (by decide)))) ?_
                              refine lv_ldc (v := (-1000002)) hx hb hown (hts (.constant RL 18 (-1000002)) (by decide +kernel)) dL_acts_1505 ?_
                              refine lv_icmp_ne (tgt := 1546) hx hb dL_acts_1507 (by decide) (fun c_1507 => ?_) (fun c_1507 => ?_)
                              · exact absurd c_1507 (by decide)
                              · refine lv_aload_n hx hb dL_acts_1510 rfl (lv_at hl 8 rfl) ?_
                                refine lv_iload hx hb dL_acts_1511 (lv_at hl 7 rfl) ?_
                                refine lv_iconst (v := 0) hx hb dL_acts_1513 (by decide) ?_
                                refine lv_iconst (v := 0) hx hb dL_acts_1514 (by decide) ?_
                                refine lv_sipush (v := (1001)) hx hb dL_acts_1515 (by decide) ?_
                                refine w_calli (vx_runSW (As := [.ref (ad 4 0), .int (nI ce), .int 0, .int 0, .int 1001]) (rest := []) ⟨hx, hb, hml, hown, hts⟩ (c_L_once l hns D B ad g σ (tW D ad (g, σ) (lW D 4 μ)) 0 hI t J.1.2.1 J.1.2.2.1 (nI ce) 0 0 1001) (vx_cwSW 5 hts gL_acts_L_once rfl rfl rfl (by decide +kernel) ⟨Nat.le_of_ble_eq_true rfl, Nat.le_of_ble_eq_true rfl⟩) (w_preS hC hP hS) rfl rfl hl.1 rfl (lv_room (Nat.le_of_ble_eq_true rfl)) dL_acts_1518 ⟨Nat.le_of_ble_eq_true rfl, Nat.le_of_ble_eq_true rfl⟩) hS (fun r_35 ad1 w1 H locs hq hP hS => ?_)
                                obtain ⟨S2, h81, -, h83⟩ := hq
                                obtain ⟨h84, h85⟩ := h83 (ne_2 (ee_2 hce (fun z => no_1001 z.2.2)))
                                cases h84
                                cases h81
                                subst h85
                                refine w_top (v := (-1000002)) (en_2 (ee_2 hce (fun z => no_1001 z.2.2))) ?_
                                refine lv_ldc (v := (-1000002)) hx hb hown (hts (.constant RL 18 (-1000002)) (by decide +kernel)) dL_acts_1521 ?_
                                refine lv_icmp_ne (tgt := 1546) hx hb dL_acts_1523 (by decide) (fun c_1523 => ?_) (fun c_1523 => ?_)
                                · exact absurd c_1523 (by decide)
                                · refine lv_aload_n hx hb dL_acts_1526 rfl (lv_at hl 8 rfl) ?_
                                  refine lv_aload hx hb dL_acts_1527 (lv_at hl 13 rfl) ?_
                                  refine lv_iconst (v := 2) hx hb dL_acts_1529 (by decide) ?_
                                  refine w_top (v := nI 2) rfl ?_
                                  refine w_ildN hx hb hC hP (eW_L (show 3 < 4 by decide)) (show 2 < 3 from by omega) (by decide) (v := nI g.2.2) l3 dL_acts_1530 ?_
                                  refine lv_iconst (v := (-1)) hx hb dL_acts_1531 (by decide) ?_
                                  refine lv_iconst (v := 0) hx hb dL_acts_1532 (by decide) ?_
                                  refine lv_iconst (v := 0) hx hb dL_acts_1533 (by decide) ?_
                                  refine w_calli (vx_runSW (As := [.ref (ad 4 0), .int (nI g.2.2), .int (-1), .int 0, .int 0]) (rest := []) ⟨hx, hb, hml, hown, hts⟩ (c_L_once l hns D B ad g σ (tW D ad (g, σ) (lW D 4 μ)) 0 hI t J.1.2.1 J.1.2.2.1 (nI g.2.2) (-1) 0 0) (vx_cwSW 5 hts gL_acts_L_once rfl rfl rfl (by decide +kernel) ⟨Nat.le_of_ble_eq_true rfl, Nat.le_of_ble_eq_true rfl⟩) (w_preS hC hP hS) rfl rfl hl.1 rfl (lv_room (Nat.le_of_ble_eq_true rfl)) dL_acts_1534 ⟨Nat.le_of_ble_eq_true rfl, Nat.le_of_ble_eq_true rfl⟩) hS (fun r_36 ad1 w1 H locs hq hP hS => ?_)
                                  obtain ⟨S2, h81, -, h83⟩ := hq
                                  obtain ⟨h84, h85⟩ := h83 (ne_1 (ee_1 (no_self (by omega))))
                                  cases h84
                                  cases h81
                                  subst h85
                                  refine w_top (v := (-1000001)) (en_1 (ee_1 (no_self (by omega)))) ?_
                                  refine lv_ldc (v := (-1000001)) hx hb hown (hts (.constant RL 32 (-1000001)) (by decide +kernel)) dL_acts_1537 ?_
                                  refine lv_icmp_ne (tgt := 1546) hx hb dL_acts_1539 (by decide) (fun c_1539 => ?_) (fun c_1539 => ?_)
                                  · exact absurd c_1539 (by decide)
                                  · refine lv_iconst (v := 1) hx hb dL_acts_1542 (by decide) ?_
                                    refine lv_goto (tgt := 1547) hx hb dL_acts_1543 (by decide) ?_
                                    refine W.widen (k := 60) (n := 700) (Nat.le_of_ble_eq_true rfl) (Nat.le_of_ble_eq_true rfl) ?_
                                    exact K 1547 H locs ls ad g σ μ t N dL_acts_1547 hP hS kpA_r J (by omega) (by omega)
                    · exact absurd c_1430 (by decide)
            · exact absurd c_1345 (by decide)
          · have hroom : n < 20 := Nat.not_le.mp (fun z => c_1323 (nI_le (a := 20) z (by omega)))
            refine lv_iconst (v := 1) hx hb dL_acts_1326 (by decide) ?_
            refine lv_goto (tgt := 1331) hx hb dL_acts_1327 (by decide) ?_
            refine lv_istore (lv' := [(17, .int 1), (16, .int (nI d9)), (15, .int (nI m9)), (14, .int v), (13, .int 1), (12, .int (nI ce)), (0, .ref (ad 4 0)), (1, .ref (ad 17 0)), (2, .ref (ad 26 0)), (3, .ref (ad 26 1)), (4, .ref (ad 26 2)), (5, .ref (ad 26 3)), (6, .int x), (7, .int y)]) hx hb dL_acts_1331 hl (by decide) rfl (fun ls hl => ?_)
            refine lv_aload hx hb dL_acts_1333 (lv_at hl 10 rfl) ?_
            refine lv_iconst (v := 4) hx hb dL_acts_1335 (by decide) ?_
            refine lv_iload hx hb dL_acts_1336 (lv_at hl 5 rfl) ?_
            refine lv_imul hx hb dL_acts_1338 ?_
            refine w_top (v := nI (4 * ce)) (pk_mul 4 ce) ?_
            refine lv_iconst (v := 3) hx hb dL_acts_1339 (by decide) ?_
            refine lv_iadd hx hb dL_acts_1340 ?_
            refine w_top (v := nI ((4 * ce) + 3)) (nI_add (4 * ce) 3) ?_
            refine lv_dup2_11 hx hb dL_acts_1341 rfl rfl ?_
            refine w_ildN hx hb hC hP (eW_L (show 2 < 4 by decide)) (show (4 * ce) + 3 < 16 from by omega) (by decide) (v := nI n) en dL_acts_1342 ?_
            refine lv_iload hx hb dL_acts_1343 (lv_at hl 0 rfl) ?_
            refine lv_if_eq (tgt := 1352) hx hb dL_acts_1345 (by decide) (fun c_1345 => ?_) (fun c_1345 => ?_)
            · exact absurd c_1345 (by decide)
            · refine lv_iconst (v := 1) hx hb dL_acts_1348 (by decide) ?_
              refine lv_goto (tgt := 1353) hx hb dL_acts_1349 (by decide) ?_
              refine lv_iadd hx hb dL_acts_1353 ?_
              refine w_top (v := nI (n + 1)) (nI_add n 1) ?_
              refine w_istN hx hb hC hP hS (eW_L (show 2 < 4 by decide)) (show (4 * ce) + 3 < 16 from by omega) (by decide) dL_acts_1354 (fun H locs hP hS => ?_)
              have hP := hw_eq hP (eW_put _ (show 2 < 4 by decide))
              refine lv_iload hx hb dL_acts_1355 (lv_at hl 4 rfl) ?_
              refine lv_if_eq (tgt := 1375) hx hb dL_acts_1357 (by decide) (fun c_1357 => ?_) (fun c_1357 => ?_)
              · exact absurd c_1357 (by decide)
              · refine lv_aload_n hx hb dL_acts_1360 rfl (lv_at hl 6 rfl) ?_
                refine lv_iload hx hb dL_acts_1361 (lv_at hl 5 rfl) ?_
                refine lv_iload hx hb dL_acts_1363 (lv_at hl 1 rfl) ?_
                refine lv_iload hx hb dL_acts_1365 (lv_at hl 2 rfl) ?_
                refine lv_iload hx hb dL_acts_1367 (lv_at hl 3 rfl) ?_
                have J2 := en_J (x := nI m9) (v := v) J (by omega) hce (show 2 * ce + 1 < 2 * g.2.2 by omega) (eo_I J hce e14 hi e17 hroom hv hd9) e17
                generalize hOB : obeF g.2.1 ce (entM ce (10 + nI d9) (nI m9) v (entC (2 * ce + 1) (nI d9) (nI m9) v σ)) = σ9 at J2
                have hI2 := Jt_I J2
                refine w_calli (vx_runSW (As := [.ref (ad 4 0), .int (nI ce), .int (nI d9), .int (nI m9), .int v]) (rest := []) ⟨hx, hb, hml, hown, hts⟩ (c_L_once l hns D B ad g σ (tW D ad (g, σ) (lW D 4 (st3 μ 2 0 ((4 * ce) + 3) (nI (n + 1))))) 0 hI t J.1.2.1 J.1.2.2.1 (nI ce) (nI d9) (nI m9) v) (vx_cwSW 5 hts gL_acts_L_once rfl rfl rfl (by decide +kernel) ⟨Nat.le_of_ble_eq_true rfl, Nat.le_of_ble_eq_true rfl⟩) (w_preS hC hP hS) rfl rfl hl.1 rfl (lv_room (Nat.le_of_ble_eq_true rfl)) dL_acts_1369 ⟨Nat.le_of_ble_eq_true rfl, Nat.le_of_ble_eq_true rfl⟩) hS (fun r_37 ad1 w1 H locs hq hP hS => ?_)
                obtain ⟨S2, h81, h82, h83⟩ := hq
                obtain ⟨h84, h85⟩ := h82 (ee_0 J hce e14 hi e17 hroom hv (lo_bt (n := 700) (by omega) (by decide)) (lo_bt (n := 1439) (by omega) (by decide)))
                rw [nOf_N (n := ce) (by omega), hOB] at h84 h85
                cases h84
                cases h81
                subst h85
                refine lv_goto (tgt := 1387) hx hb dL_acts_1372 (by decide) ?_
                refine lv_istore (lv' := [(18, .int (σ9 16 ce 0)), (17, .int 1), (16, .int (nI d9)), (15, .int (nI m9)), (14, .int v), (13, .int 1), (12, .int (nI ce)), (0, .ref (ad 4 0)), (1, .ref (ad 17 0)), (2, .ref (ad 26 0)), (3, .ref (ad 26 1)), (4, .ref (ad 26 2)), (5, .ref (ad 26 3)), (6, .int x), (7, .int y)]) hx hb dL_acts_1387 hl (by decide) rfl (fun ls hl => ?_)
                refine lv_iload hx hb dL_acts_1389 (lv_at hl 5 rfl) ?_
                refine lv_if_eq (tgt := 1409) hx hb dL_acts_1391 (by decide) (fun c_1391 => ?_) (fun c_1391 => ?_)
                · exact absurd c_1391 (by decide)
                · refine lv_aload_n hx hb dL_acts_1394 rfl (lv_at hl 8 rfl) ?_
                  refine lv_iload hx hb dL_acts_1395 (lv_at hl 6 rfl) ?_
                  refine lv_iload hx hb dL_acts_1397 (lv_at hl 2 rfl) ?_
                  refine lv_iload hx hb dL_acts_1399 (lv_at hl 3 rfl) ?_
                  refine lv_iload hx hb dL_acts_1401 (lv_at hl 4 rfl) ?_
                  refine w_calli (vx_runSW (As := [.ref (ad 17 0), .int (nI ce), .int (nI d9), .int (nI m9), .int v]) (rest := []) ⟨hx, hb, hml, hown, hts⟩ (t_L_once l hns D B ad g σ (g, σ9) (lW D 4 (st3 μ 2 0 ((4 * ce) + 3) (nI (n + 1)))) hI t J.1.2.1 J.1.2.2.1 (nI ce) (nI d9) (nI m9) v) (vx_cwSW 5 hts gL_acts_L_once rfl rfl rfl (by decide +kernel) ⟨Nat.le_of_ble_eq_true rfl, Nat.le_of_ble_eq_true rfl⟩) (w_preS hC hP hS) rfl rfl hl.1 rfl (lv_room (Nat.le_of_ble_eq_true rfl)) dL_acts_1403 ⟨Nat.le_of_ble_eq_true rfl, Nat.le_of_ble_eq_true rfl⟩) hS (fun r_38 ad1 w1 H locs hq hP hS => ?_)
                  obtain ⟨S2, h81, h82, h83⟩ := hq
                  obtain ⟨h84, h85⟩ := h82 (ee_0 J hce e14 hi e17 hroom hv (lo_bt (n := 700) (by omega) (by decide)) (lo_bt (n := 1439) (by omega) (by decide)))
                  rw [nOf_N (n := ce) (by omega), hOB] at h84 h85
                  cases h84
                  cases h81
                  subst h85
                  refine lv_goto (tgt := 1421) hx hb dL_acts_1406 (by decide) ?_
                  refine lv_iload hx hb dL_acts_1421 (lv_at hl 0 rfl) ?_
                  refine lv_icmp_ne (tgt := 1455) hx hb dL_acts_1423 (by decide) (fun c_1423 => ?_) (fun c_1423 => ?_)
                  · exact absurd rfl c_1423
                  · refine lv_iload hx hb dL_acts_1426 (lv_at hl 0 rfl) ?_
                    refine lv_iload hx hb dL_acts_1428 (lv_at hl 1 rfl) ?_
                    refine lv_if_eq (tgt := 1446) hx hb dL_acts_1430 (by decide) (fun c_1430 => ?_) (fun c_1430 => ?_)
                    · exact absurd c_1430 (by decide)
                    · refine lv_aload_n hx hb dL_acts_1433 rfl (lv_at hl 7 rfl) ?_
                      refine lv_iload hx hb dL_acts_1434 (lv_at hl 6 rfl) ?_
                      refine lv_aload_n hx hb dL_acts_1436 rfl (lv_at hl 7 rfl) ?_
                      refine w_calli (va_runV (As := []) (rest := [.int (nI ce), .ref (ad 4 0), .int (σ9 16 ce 0)]) ⟨hx, hb, hml, hown, hts⟩ (c_X4_clock l D B ad g σ9 (tW D ad (g, σ9) (lW D 4 (st3 μ 2 0 ((4 * ce) + 3) (nI (n + 1))))) 0) (cwV 0 hts gL_acts_X4_clock rfl rfl rfl (by decide +kernel) ⟨Nat.le_of_ble_eq_true rfl, Nat.le_of_ble_eq_true rfl⟩) (w_preV hC hP hS cW_4 rfl) rfl rfl hl.1 rfl (lv_room (Nat.le_of_ble_eq_true rfl)) dL_acts_1437 ⟨Nat.le_of_ble_eq_true rfl, Nat.le_of_ble_eq_true rfl⟩) hS (fun r_39 ad1 w1 H locs hq hP hS => ?_)
                      obtain ⟨h81, h82⟩ := hq
                      cases h81
                      subst h82
                      refine w_top (v := nI t) J2.1.2.1 ?_
                      refine w_calli (vx_runSW (As := [.ref (ad 4 0), .int (nI ce), .int (nI t)]) (rest := [.int (σ9 16 ce 0)]) ⟨hx, hb, hml, hown, hts⟩ (c0_L_tells l hns D B ad g σ9 (tW D ad (g, σ9) (lW D 4 (st3 μ 2 0 ((4 * ce) + 3) (nI (n + 1))))) 0 hI2 ce hce t J.1.2.2.1) (vx_cwSW 3 hts gL_acts_L_tells rfl rfl rfl (by decide +kernel) ⟨Nat.le_of_ble_eq_true rfl, Nat.le_of_ble_eq_true rfl⟩) (w_preS hC hP hS) rfl rfl hl.1 rfl (lv_room (Nat.le_of_ble_eq_true rfl)) dL_acts_1440 ⟨Nat.le_of_ble_eq_true rfl, Nat.le_of_ble_eq_true rfl⟩) hS (fun r_40 ad1 w1 H locs hq hP hS => ?_)
                      obtain ⟨S2, h81, h82, h83⟩ := hq
                      cases h82
                      cases h81
                      subst h83
                      refine lv_goto (tgt := 1448) hx hb dL_acts_1443 (by decide) ?_
                      refine lv_icmp_ne (tgt := 1455) hx hb dL_acts_1448 (by decide) (fun c_1448 => ?_) (fun c_1448 => ?_)
                      · exact absurd (ent_ct J2 hce) c_1448
                      · refine lv_iconst (v := 1) hx hb dL_acts_1451 (by decide) ?_
                        refine lv_goto (tgt := 1456) hx hb dL_acts_1452 (by decide) ?_
                        refine lv_istore (lv' := [(19, .int 1), (18, .int (σ9 16 ce 0)), (17, .int 1), (16, .int (nI d9)), (15, .int (nI m9)), (14, .int v), (13, .int 1), (12, .int (nI ce)), (0, .ref (ad 4 0)), (1, .ref (ad 17 0)), (2, .ref (ad 26 0)), (3, .ref (ad 26 1)), (4, .ref (ad 26 2)), (5, .ref (ad 26 3)), (6, .int x), (7, .int y)]) hx hb dL_acts_1456 hl (by decide) rfl (fun ls hl => ?_)
                        refine lv_iload hx hb dL_acts_1458 (lv_at hl 0 rfl) ?_
                        refine lv_if_eq (tgt := 1546) hx hb dL_acts_1460 (by decide) (fun c_1460 => ?_) (fun c_1460 => ?_)
                        · exact absurd c_1460 (by decide)
                        · refine lv_aload_n hx hb dL_acts_1463 rfl (lv_at hl 8 rfl) ?_
                          refine lv_iload hx hb dL_acts_1464 (lv_at hl 7 rfl) ?_
                          refine lv_bipush (v := (7)) hx hb dL_acts_1466 (by decide) ?_
                          refine lv_iconst (v := 0) hx hb dL_acts_1468 (by decide) ?_
                          refine lv_iconst (v := 0) hx hb dL_acts_1469 (by decide) ?_
                          refine w_calli (vx_runSW (As := [.ref (ad 4 0), .int (nI ce), .int 7, .int 0, .int 0]) (rest := []) ⟨hx, hb, hml, hown, hts⟩ (c_L_weekly l hns D B ad g σ9 (tW D ad (g, σ9) (lW D 4 (st3 μ 2 0 ((4 * ce) + 3) (nI (n + 1))))) 0 hI2 t J2.1.2.1 J2.1.2.2.1 (nI ce) 7 0 0) (vx_cwSW 5 hts gL_acts_L_weekly rfl rfl rfl (by decide +kernel) ⟨Nat.le_of_ble_eq_true rfl, Nat.le_of_ble_eq_true rfl⟩) (w_preS hC hP hS) rfl rfl hl.1 rfl (lv_room (Nat.le_of_ble_eq_true rfl)) dL_acts_1470 ⟨Nat.le_of_ble_eq_true rfl, Nat.le_of_ble_eq_true rfl⟩) hS (fun r_41 ad1 w1 H locs hq hP hS => ?_)
                          obtain ⟨S2, h81, -, h83⟩ := hq
                          obtain ⟨h84, h85⟩ := h83 (ne_2 (ee_2 hce (fun z => absurd z.1.2 (by decide))))
                          cases h84
                          cases h81
                          subst h85
                          refine w_top (v := (-1000002)) (en_2 (ee_2 hce (fun z => absurd z.1.2 (by decide)))) ?_
                          refine lv_ldc (v := (-1000002)) hx hb hown (hts (.constant RL 18 (-1000002)) (by decide +kernel)) dL_acts_1473 ?_
                          refine lv_icmp_ne (tgt := 1546) hx hb dL_acts_1475 (by decide) (fun c_1475 => ?_) (fun c_1475 => ?_)
                          · exact absurd c_1475 (by decide)
                          · refine lv_aload_n hx hb dL_acts_1478 rfl (lv_at hl 8 rfl) ?_
                            refine lv_iload hx hb dL_acts_1479 (lv_at hl 7 rfl) ?_
                            refine lv_iconst (v := 0) hx hb dL_acts_1481 (by decide) ?_
                            refine lv_sipush (v := (1440)) hx hb dL_acts_1482 (by decide) ?_
                            refine lv_iconst (v := 0) hx hb dL_acts_1485 (by decide) ?_
                            refine w_calli (vx_runSW (As := [.ref (ad 4 0), .int (nI ce), .int 0, .int 1440, .int 0]) (rest := []) ⟨hx, hb, hml, hown, hts⟩ (c_L_weekly l hns D B ad g σ9 (tW D ad (g, σ9) (lW D 4 (st3 μ 2 0 ((4 * ce) + 3) (nI (n + 1))))) 0 hI2 t J2.1.2.1 J2.1.2.2.1 (nI ce) 0 1440 0) (vx_cwSW 5 hts gL_acts_L_weekly rfl rfl rfl (by decide +kernel) ⟨Nat.le_of_ble_eq_true rfl, Nat.le_of_ble_eq_true rfl⟩) (w_preS hC hP hS) rfl rfl hl.1 rfl (lv_room (Nat.le_of_ble_eq_true rfl)) dL_acts_1486 ⟨Nat.le_of_ble_eq_true rfl, Nat.le_of_ble_eq_true rfl⟩) hS (fun r_42 ad1 w1 H locs hq hP hS => ?_)
                            obtain ⟨S2, h81, -, h83⟩ := hq
                            obtain ⟨h84, h85⟩ := h83 (ne_2 (ee_2 hce (fun z => absurd z.2.1.2 (by decide))))
                            cases h84
                            cases h81
                            subst h85
                            refine w_top (v := (-1000002)) (en_2 (ee_2 hce (fun z => absurd z.2.1.2 (by decide)))) ?_
                            refine lv_ldc (v := (-1000002)) hx hb hown (hts (.constant RL 18 (-1000002)) (by decide +kernel)) dL_acts_1489 ?_
                            refine lv_icmp_ne (tgt := 1546) hx hb dL_acts_1491 (by decide) (fun c_1491 => ?_) (fun c_1491 => ?_)
                            · exact absurd c_1491 (by decide)
                            · refine lv_aload_n hx hb dL_acts_1494 rfl (lv_at hl 8 rfl) ?_
                              refine lv_iload hx hb dL_acts_1495 (lv_at hl 7 rfl) ?_
                              refine lv_sipush (v := (701)) hx hb dL_acts_1497 (by decide) ?_
                              refine lv_iconst (v := 0) hx hb dL_acts_1500 (by decide) ?_
                              refine lv_iconst (v := 0) hx hb dL_acts_1501 (by decide) ?_
                              refine w_calli (vx_runSW (As := [.ref (ad 4 0), .int (nI ce), .int 701, .int 0, .int 0]) (rest := []) ⟨hx, hb, hml, hown, hts⟩ (c_L_once l hns D B ad g σ9 (tW D ad (g, σ9) (lW D 4 (st3 μ 2 0 ((4 * ce) + 3) (nI (n + 1))))) 0 hI2 t J2.1.2.1 J2.1.2.2.1 (nI ce) 701 0 0) (vx_cwSW 5 hts gL_acts_L_once rfl rfl rfl (by decide +kernel) ⟨Nat.le_of_ble_eq_true rfl, Nat.le_of_ble_eq_true rfl⟩) (w_preS hC hP hS) rfl rfl hl.1 rfl (lv_room (Nat.le_of_ble_eq_true rfl)) dL_acts_1502 ⟨Nat.le_of_ble_eq_true rfl, Nat.le_of_ble_eq_true rfl⟩) hS (fun r_43 ad1 w1 H locs hq hP hS => ?_)
                              obtain ⟨S2, h81, -, h83⟩ := hq
                              obtain ⟨h84, h85⟩ := h83 (ne_2 (ee_2 hce (fun z => absurd z.1.2 (by decide))))
                              cases h84
                              cases h81
                              subst h85
                              refine w_top (v := (-1000002)) (en_2 (ee_2 hce (fun z => absurd z.1.2 (by decide)))) ?_
                              refine lv_ldc (v := (-1000002)) hx hb hown (hts (.constant RL 18 (-1000002)) (by decide +kernel)) dL_acts_1505 ?_
                              refine lv_icmp_ne (tgt := 1546) hx hb dL_acts_1507 (by decide) (fun c_1507 => ?_) (fun c_1507 => ?_)
                              · exact absurd c_1507 (by decide)
                              · refine lv_aload_n hx hb dL_acts_1510 rfl (lv_at hl 8 rfl) ?_
                                refine lv_iload hx hb dL_acts_1511 (lv_at hl 7 rfl) ?_
                                refine lv_iconst (v := 0) hx hb dL_acts_1513 (by decide) ?_
                                refine lv_iconst (v := 0) hx hb dL_acts_1514 (by decide) ?_
                                refine lv_sipush (v := (1001)) hx hb dL_acts_1515 (by decide) ?_
                                refine w_calli (vx_runSW (As := [.ref (ad 4 0), .int (nI ce), .int 0, .int 0, .int 1001]) (rest := []) ⟨hx, hb, hml, hown, hts⟩ (c_L_once l hns D B ad g σ9 (tW D ad (g, σ9) (lW D 4 (st3 μ 2 0 ((4 * ce) + 3) (nI (n + 1))))) 0 hI2 t J2.1.2.1 J2.1.2.2.1 (nI ce) 0 0 1001) (vx_cwSW 5 hts gL_acts_L_once rfl rfl rfl (by decide +kernel) ⟨Nat.le_of_ble_eq_true rfl, Nat.le_of_ble_eq_true rfl⟩) (w_preS hC hP hS) rfl rfl hl.1 rfl (lv_room (Nat.le_of_ble_eq_true rfl)) dL_acts_1518 ⟨Nat.le_of_ble_eq_true rfl, Nat.le_of_ble_eq_true rfl⟩) hS (fun r_44 ad1 w1 H locs hq hP hS => ?_)
                                obtain ⟨S2, h81, -, h83⟩ := hq
                                obtain ⟨h84, h85⟩ := h83 (ne_2 (ee_2 hce (fun z => no_1001 z.2.2)))
                                cases h84
                                cases h81
                                subst h85
                                refine w_top (v := (-1000002)) (en_2 (ee_2 hce (fun z => no_1001 z.2.2))) ?_
                                refine lv_ldc (v := (-1000002)) hx hb hown (hts (.constant RL 18 (-1000002)) (by decide +kernel)) dL_acts_1521 ?_
                                refine lv_icmp_ne (tgt := 1546) hx hb dL_acts_1523 (by decide) (fun c_1523 => ?_) (fun c_1523 => ?_)
                                · exact absurd c_1523 (by decide)
                                · refine lv_aload_n hx hb dL_acts_1526 rfl (lv_at hl 8 rfl) ?_
                                  refine lv_aload hx hb dL_acts_1527 (lv_at hl 13 rfl) ?_
                                  refine lv_iconst (v := 2) hx hb dL_acts_1529 (by decide) ?_
                                  refine w_top (v := nI 2) rfl ?_
                                  refine w_ildN hx hb hC hP (eW_L (show 3 < 4 by decide)) (show 2 < 3 from by omega) (by decide) (v := nI g.2.2) (by rw [st3_n (by decide)]; exact l3) dL_acts_1530 ?_
                                  refine lv_iconst (v := (-1)) hx hb dL_acts_1531 (by decide) ?_
                                  refine lv_iconst (v := 0) hx hb dL_acts_1532 (by decide) ?_
                                  refine lv_iconst (v := 0) hx hb dL_acts_1533 (by decide) ?_
                                  refine w_calli (vx_runSW (As := [.ref (ad 4 0), .int (nI g.2.2), .int (-1), .int 0, .int 0]) (rest := []) ⟨hx, hb, hml, hown, hts⟩ (c_L_once l hns D B ad g σ9 (tW D ad (g, σ9) (lW D 4 (st3 μ 2 0 ((4 * ce) + 3) (nI (n + 1))))) 0 hI2 t J2.1.2.1 J2.1.2.2.1 (nI g.2.2) (-1) 0 0) (vx_cwSW 5 hts gL_acts_L_once rfl rfl rfl (by decide +kernel) ⟨Nat.le_of_ble_eq_true rfl, Nat.le_of_ble_eq_true rfl⟩) (w_preS hC hP hS) rfl rfl hl.1 rfl (lv_room (Nat.le_of_ble_eq_true rfl)) dL_acts_1534 ⟨Nat.le_of_ble_eq_true rfl, Nat.le_of_ble_eq_true rfl⟩) hS (fun r_45 ad1 w1 H locs hq hP hS => ?_)
                                  obtain ⟨S2, h81, -, h83⟩ := hq
                                  obtain ⟨h84, h85⟩ := h83 (ne_1 (ee_1 (no_self (by omega))))
                                  cases h84
                                  cases h81
                                  subst h85
                                  refine w_top (v := (-1000001)) (en_1 (ee_1 (no_self (by omega)))) ?_
                                  refine lv_ldc (v := (-1000001)) hx hb hown (hts (.constant RL 32 (-1000001)) (by decide +kernel)) dL_acts_1537 ?_
                                  refine lv_icmp_ne (tgt := 1546) hx hb dL_acts_1539 (by decide) (fun c_1539 => ?_) (fun c_1539 => ?_)
                                  · exact absurd c_1539 (by decide)
                                  · refine lv_iconst (v := 1) hx hb dL_acts_1542 (by decide) ?_
                                    refine lv_goto (tgt := 1547) hx hb dL_acts_1543 (by decide) ?_
                                    refine W.widen (k := 60) (n := 700) (Nat.le_of_ble_eq_true rfl) (Nat.le_of_ble_eq_true rfl) ?_
                                    exact K 1547 H locs ls ad g σ9 (st3 μ 2 0 ((4 * ce) + 3) (nI (n + 1))) t (N + 1) dL_acts_1547 hP hS kpA_r J2 (by omega) (by omega)
        · refine lv_iload hx hb dL_acts_1248 (lv_at hl 2 rfl) ?_
          refine lv_if_eq (tgt := 1274) hx hb dL_acts_1250 (by decide) (fun c_1250 => ?_) (fun c_1250 => ?_)
          · exact absurd c_1250 (by decide)
          · refine lv_aload_n hx hb dL_acts_1253 rfl (lv_at hl 4 rfl) ?_
            refine w_calli (va_runV (As := []) (rest := []) ⟨hx, hb, hml, hown, hts⟩ (c_X4_clock l D B ad g σ (tW D ad (g, σ) (lW D 4 μ)) 0) (cwV 0 hts gL_acts_X4_clock rfl rfl rfl (by decide +kernel) ⟨Nat.le_of_ble_eq_true rfl, Nat.le_of_ble_eq_true rfl⟩) (w_preV hC hP hS cW_4 rfl) rfl rfl hl.1 rfl (lv_room (Nat.le_of_ble_eq_true rfl)) dL_acts_1254 ⟨Nat.le_of_ble_eq_true rfl, Nat.le_of_ble_eq_true rfl⟩) hS (fun r_46 ad1 w1 H locs hq hP hS => ?_)
            obtain ⟨h81, h82⟩ := hq
            cases h81
            subst h82
            refine w_top (v := nI t) J.1.2.1 ?_
            refine lv_sipush (v := (1440)) hx hb dL_acts_1257 (by decide) ?_
            refine lv_idiv hx hb dL_acts_1260 (by decide) ?_
            refine w_top (v := nI (t / 1440)) (pk_div (a := t) (d := 1440) (by omega) (by decide) (by decide)) ?_
            refine lv_iload hx hb dL_acts_1261 (lv_at hl 11 rfl) ?_
            refine lv_bipush (v := (22)) hx hb dL_acts_1263 (by decide) ?_
            refine lv_ishr hx hb dL_acts_1265 ?_
            refine lv_iconst (v := 2) hx hb dL_acts_1266 (by decide) ?_
            refine w_calli (va_runS (As := [.int (y >>> (22 &&& 31)), .int 2]) (rest := [.int (nI (t / 1440))]) ⟨hx, hb, hml, hown, hts⟩ (c_L_low l D B ad (eW D ad (g, σ) (g, σ) (lW D 4 μ)) (y >>> (22 &&& 31)) 2 (by decide)) (va_cwS 2 hts gL_acts_L_low rfl rfl rfl (by decide +kernel) ⟨Nat.le_of_ble_eq_true rfl, Nat.le_of_ble_eq_true rfl⟩) (w_preS hC hP hS) rfl rfl hl.1 rfl (lv_room (Nat.le_of_ble_eq_true rfl)) dL_acts_1267 ⟨Nat.le_of_ble_eq_true rfl, Nat.le_of_ble_eq_true rfl⟩) hS (fun r_47 ad1 w1 H locs hq hP hS => ?_)
            obtain ⟨h81, h82⟩ := hq
            cases h81
            subst h82
            obtain ⟨d8, hd8, ed8⟩ := low_lt (y >>> (22 &&& 31)) (k := 2) (by omega) (by omega)
            refine w_top (v := nI d8) ed8 ?_
            refine lv_iadd hx hb dL_acts_1270 ?_
            refine w_top (v := nI ((t / 1440) + d8)) (nI_add (t / 1440) d8) ?_
            refine lv_goto (tgt := 1310) hx hb dL_acts_1271 (by decide) ?_
            refine lv_istore (lv' := [(16, .int (nI ((t / 1440) + d8))), (15, .int (nI m9)), (14, .int v), (13, .int 1), (12, .int (nI ce)), (0, .ref (ad 4 0)), (1, .ref (ad 17 0)), (2, .ref (ad 26 0)), (3, .ref (ad 26 1)), (4, .ref (ad 26 2)), (5, .ref (ad 26 3)), (6, .int x), (7, .int y)]) hx hb dL_acts_1310 hl (by decide) rfl (fun ls hl => ?_)
            exact Kz _ _ _ ⟨(t / 1440) + d8, by omega, hP, hS, lv_sub hl [0, 1, 2, 3, 4, 5, 6, 7, 8, 9, 10, 11, 12] rfl⟩
      · refine lv_iload hx hb dL_acts_1192 (lv_at hl 10 rfl) ?_
        refine lv_bipush (v := (10)) hx hb dL_acts_1194 (by decide) ?_
        refine lv_ishr hx hb dL_acts_1196 ?_
        refine lv_iconst (v := 3) hx hb dL_acts_1197 (by decide) ?_
        refine w_calli (va_runS (As := [.int (y >>> (10 &&& 31)), .int 3]) (rest := []) ⟨hx, hb, hml, hown, hts⟩ (c_L_low l D B ad (eW D ad (g, σ) (g, σ) (lW D 4 μ)) (y >>> (10 &&& 31)) 3 (by decide)) (va_cwS 2 hts gL_acts_L_low rfl rfl rfl (by decide +kernel) ⟨Nat.le_of_ble_eq_true rfl, Nat.le_of_ble_eq_true rfl⟩) (w_preS hC hP hS) rfl rfl hl.1 rfl (lv_room (Nat.le_of_ble_eq_true rfl)) dL_acts_1198 ⟨Nat.le_of_ble_eq_true rfl, Nat.le_of_ble_eq_true rfl⟩) hS (fun r_48 ad1 w1 H locs hq hP hS => ?_)
        obtain ⟨h81, h82⟩ := hq
        cases h81
        subst h82
        refine lv_if_le (tgt := 1235) hx hb dL_acts_1201 (by decide) (fun c_1201 => ?_) (fun c_1201 => ?_)
        · refine lv_iload hx hb dL_acts_1235 (lv_at hl 10 rfl) ?_
          refine lv_bipush (v := (10)) hx hb dL_acts_1237 (by decide) ?_
          refine lv_ishr hx hb dL_acts_1239 ?_
          refine lv_sipush (v := (1440)) hx hb dL_acts_1240 (by decide) ?_
          refine w_calli (va_runS (As := [.int (y >>> (10 &&& 31)), .int 1440]) (rest := []) ⟨hx, hb, hml, hown, hts⟩ (c_L_low l D B ad (eW D ad (g, σ) (g, σ) (lW D 4 μ)) (y >>> (10 &&& 31)) 1440 (by decide)) (va_cwS 2 hts gL_acts_L_low rfl rfl rfl (by decide +kernel) ⟨Nat.le_of_ble_eq_true rfl, Nat.le_of_ble_eq_true rfl⟩) (w_preS hC hP hS) rfl rfl hl.1 rfl (lv_room (Nat.le_of_ble_eq_true rfl)) dL_acts_1243 ⟨Nat.le_of_ble_eq_true rfl, Nat.le_of_ble_eq_true rfl⟩) hS (fun r_49 ad1 w1 H locs hq hP hS => ?_)
          obtain ⟨h81, h82⟩ := hq
          cases h81
          subst h82
          obtain ⟨m8, hm8, em8⟩ := low_lt (y >>> (10 &&& 31)) (k := 1440) (by omega) (by omega)
          refine w_top (v := nI m8) em8 ?_
          refine lv_istore (lv' := [(15, .int (nI m8)), (14, .int v), (13, .int 1), (12, .int (nI ce)), (0, .ref (ad 4 0)), (1, .ref (ad 17 0)), (2, .ref (ad 26 0)), (3, .ref (ad 26 1)), (4, .ref (ad 26 2)), (5, .ref (ad 26 3)), (6, .int x), (7, .int y)]) hx hb dL_acts_1246 hl (by decide) rfl (fun ls hl => ?_)
          exact Ky _ _ _ ⟨m8, by omega, hP, hS, lv_sub hl [0, 1, 2, 3, 4, 5, 6, 7, 8, 9, 10, 11] rfl⟩
        · refine lv_aload_n hx hb dL_acts_1204 rfl (lv_at hl 3 rfl) ?_
          refine w_calli (va_runV (As := []) (rest := []) ⟨hx, hb, hml, hown, hts⟩ (c_X4_clock l D B ad g σ (tW D ad (g, σ) (lW D 4 μ)) 0) (cwV 0 hts gL_acts_X4_clock rfl rfl rfl (by decide +kernel) ⟨Nat.le_of_ble_eq_true rfl, Nat.le_of_ble_eq_true rfl⟩) (w_preV hC hP hS cW_4 rfl) rfl rfl hl.1 rfl (lv_room (Nat.le_of_ble_eq_true rfl)) dL_acts_1205 ⟨Nat.le_of_ble_eq_true rfl, Nat.le_of_ble_eq_true rfl⟩) hS (fun r_50 ad1 w1 H locs hq hP hS => ?_)
          obtain ⟨h81, h82⟩ := hq
          cases h81
          subst h82
          refine w_top (v := nI t) J.1.2.1 ?_
          refine lv_sipush (v := (1440)) hx hb dL_acts_1208 (by decide) ?_
          refine lv_irem hx hb dL_acts_1211 (by decide) ?_
          refine w_top (v := remF (nI t) 1440) rfl ?_
          refine lv_iload hx hb dL_acts_1212 (lv_at hl 10 rfl) ?_
          refine lv_bipush (v := (12)) hx hb dL_acts_1214 (by decide) ?_
          refine lv_ishr hx hb dL_acts_1216 ?_
          refine lv_bipush (v := (40)) hx hb dL_acts_1217 (by decide) ?_
          refine w_calli (va_runS (As := [.int (y >>> (12 &&& 31)), .int 40]) (rest := [.int (remF (nI t) 1440)]) ⟨hx, hb, hml, hown, hts⟩ (c_L_low l D B ad (eW D ad (g, σ) (g, σ) (lW D 4 μ)) (y >>> (12 &&& 31)) 40 (by decide)) (va_cwS 2 hts gL_acts_L_low rfl rfl rfl (by decide +kernel) ⟨Nat.le_of_ble_eq_true rfl, Nat.le_of_ble_eq_true rfl⟩) (w_preS hC hP hS) rfl rfl hl.1 rfl (lv_room (Nat.le_of_ble_eq_true rfl)) dL_acts_1219 ⟨Nat.le_of_ble_eq_true rfl, Nat.le_of_ble_eq_true rfl⟩) hS (fun r_51 ad1 w1 H locs hq hP hS => ?_)
          obtain ⟨h81, h82⟩ := hq
          cases h81
          subst h82
          refine lv_iadd hx hb dL_acts_1222 ?_
          refine lv_bipush (v := (10)) hx hb dL_acts_1223 (by decide) ?_
          refine lv_isub hx hb dL_acts_1225 ?_
          refine lv_sipush (v := (1440)) hx hb dL_acts_1226 (by decide) ?_
          refine w_calli (va_runS (As := [.int (((remF (nI t) 1440) + (lowO (y >>> (12 &&& 31)) 40)) - 10), .int 1440]) (rest := []) ⟨hx, hb, hml, hown, hts⟩ (c_L_low l D B ad (eW D ad (g, σ) (g, σ) (lW D 4 μ)) (((remF (nI t) 1440) + (lowO (y >>> (12 &&& 31)) 40)) - 10) 1440 (by decide)) (va_cwS 2 hts gL_acts_L_low rfl rfl rfl (by decide +kernel) ⟨Nat.le_of_ble_eq_true rfl, Nat.le_of_ble_eq_true rfl⟩) (w_preS hC hP hS) rfl rfl hl.1 rfl (lv_room (Nat.le_of_ble_eq_true rfl)) dL_acts_1229 ⟨Nat.le_of_ble_eq_true rfl, Nat.le_of_ble_eq_true rfl⟩) hS (fun r_52 ad1 w1 H locs hq hP hS => ?_)
          obtain ⟨h81, h82⟩ := hq
          cases h81
          subst h82
          obtain ⟨m8, hm8, em8⟩ := low_lt (((remF (nI t) 1440) + (lowO (y >>> (12 &&& 31)) 40)) - 10) (k := 1440) (by omega) (by omega)
          refine w_top (v := nI m8) em8 ?_
          refine lv_goto (tgt := 1246) hx hb dL_acts_1232 (by decide) ?_
          refine lv_istore (lv' := [(15, .int (nI m8)), (14, .int v), (13, .int 1), (12, .int (nI ce)), (0, .ref (ad 4 0)), (1, .ref (ad 17 0)), (2, .ref (ad 26 0)), (3, .ref (ad 26 1)), (4, .ref (ad 26 2)), (5, .ref (ad 26 3)), (6, .int x), (7, .int y)]) hx hb dL_acts_1246 hl (by decide) rfl (fun ls hl => ?_)
          exact Ky _ _ _ ⟨m8, by omega, hP, hS, lv_sub hl [0, 1, 2, 3, 4, 5, 6, 7, 8, 9, 10, 11] rfl⟩
    · refine lv_iload hx hb dL_acts_1136 (lv_at hl 9 rfl) ?_
      refine lv_iconst (v := 2) hx hb dL_acts_1138 (by decide) ?_
      refine lv_ishr hx hb dL_acts_1139 ?_
      refine lv_iconst (v := 4) hx hb dL_acts_1140 (by decide) ?_
      refine w_calli (va_runS (As := [.int (y >>> (2 &&& 31)), .int 4]) (rest := []) ⟨hx, hb, hml, hown, hts⟩ (c_L_low l D B ad (eW D ad (g, σ) (g, σ) (lW D 4 μ)) (y >>> (2 &&& 31)) 4 (by decide)) (va_cwS 2 hts gL_acts_L_low rfl rfl rfl (by decide +kernel) ⟨Nat.le_of_ble_eq_true rfl, Nat.le_of_ble_eq_true rfl⟩) (w_preS hC hP hS) rfl rfl hl.1 rfl (lv_room (Nat.le_of_ble_eq_true rfl)) dL_acts_1141 ⟨Nat.le_of_ble_eq_true rfl, Nat.le_of_ble_eq_true rfl⟩) hS (fun r_53 ad1 w1 H locs hq hP hS => ?_)
      obtain ⟨h81, h82⟩ := hq
      cases h81
      subst h82
      refine lv_if_ne (tgt := 1152) hx hb dL_acts_1144 (by decide) (fun c_1144 => ?_) (fun c_1144 => ?_)
      · refine lv_aload_n hx hb dL_acts_1152 rfl (lv_at hl 4 rfl) ?_
        refine lv_bipush (v := (16)) hx hb dL_acts_1153 (by decide) ?_
        refine lv_aload hx hb dL_acts_1155 (lv_at hl 6 rfl) ?_
        refine lv_iconst (v := 4) hx hb dL_acts_1157 (by decide) ?_
        refine lv_iload hx hb dL_acts_1158 (lv_at hl 1 rfl) ?_
        refine lv_imul hx hb dL_acts_1160 ?_
        refine w_top (v := nI (4 * ce)) (pk_mul 4 ce) ?_
        refine w_ildN hx hb hC hP (eW_L (show 2 < 4 by decide)) (show 4 * ce < 16 from by omega) (by decide) (v := nI i) e1 dL_acts_1161 ?_
        refine lv_iadd hx hb dL_acts_1162 ?_
        refine w_top (v := nI (16 + i)) (nI_add 16 i) ?_
        refine w_ildN hx hb hC hP (eW_L (show 0 < 4 by decide)) (show 16 + i < 32 from by omega) (by decide) (v := μ 0 0 (16 + i)) rfl dL_acts_1163 ?_
        refine lv_if_ge (tgt := 1182) hx hb dL_acts_1164 (by decide) (fun c_1164 => ?_) (fun c_1164 => ?_)
        · refine lv_iload hx hb dL_acts_1182 (lv_at hl 9 rfl) ?_
          refine lv_iconst (v := 4) hx hb dL_acts_1184 (by decide) ?_
          refine lv_ishr hx hb dL_acts_1185 ?_
          refine lv_iconst (v := 2) hx hb dL_acts_1186 (by decide) ?_
          refine w_calli (va_runS (As := [.int (y >>> (4 &&& 31)), .int 2]) (rest := []) ⟨hx, hb, hml, hown, hts⟩ (c_L_low l D B ad (eW D ad (g, σ) (g, σ) (lW D 4 μ)) (y >>> (4 &&& 31)) 2 (by decide)) (va_cwS 2 hts gL_acts_L_low rfl rfl rfl (by decide +kernel) ⟨Nat.le_of_ble_eq_true rfl, Nat.le_of_ble_eq_true rfl⟩) (w_preS hC hP hS) rfl rfl hl.1 rfl (lv_room (Nat.le_of_ble_eq_true rfl)) dL_acts_1187 ⟨Nat.le_of_ble_eq_true rfl, Nat.le_of_ble_eq_true rfl⟩) hS (fun r_54 ad1 w1 H locs hq hP hS => ?_)
          obtain ⟨h81, h82⟩ := hq
          cases h81
          subst h82
          obtain ⟨j9, hj9, ej9⟩ := low_lt (y >>> (4 &&& 31)) (k := 2) (by omega) (by omega)
          refine w_top (v := nI j9) ej9 ?_
          refine lv_istore (lv' := [(14, .int (nI j9)), (13, .int 1), (12, .int (nI ce)), (0, .ref (ad 4 0)), (1, .ref (ad 17 0)), (2, .ref (ad 26 0)), (3, .ref (ad 26 1)), (4, .ref (ad 26 2)), (5, .ref (ad 26 3)), (6, .int x), (7, .int y)]) hx hb dL_acts_1190 hl (by decide) rfl (fun ls hl => ?_)
          exact Kx _ _ _ ⟨nI j9, ok_sw (pt_ge J hi c_1164).1 (lo_sw hj9), hP, hS, lv_sub hl [0, 1, 2, 3, 4, 5, 6, 7, 8, 9, 10] rfl⟩
        · refine lv_iload hx hb dL_acts_1167 (lv_at hl 9 rfl) ?_
          refine lv_iconst (v := 4) hx hb dL_acts_1169 (by decide) ?_
          refine lv_ishr hx hb dL_acts_1170 ?_
          refine lv_bipush (v := (41)) hx hb dL_acts_1171 (by decide) ?_
          refine w_calli (va_runS (As := [.int (y >>> (4 &&& 31)), .int 41]) (rest := []) ⟨hx, hb, hml, hown, hts⟩ (c_L_low l D B ad (eW D ad (g, σ) (g, σ) (lW D 4 μ)) (y >>> (4 &&& 31)) 41 (by decide)) (va_cwS 2 hts gL_acts_L_low rfl rfl rfl (by decide +kernel) ⟨Nat.le_of_ble_eq_true rfl, Nat.le_of_ble_eq_true rfl⟩) (w_preS hC hP hS) rfl rfl hl.1 rfl (lv_room (Nat.le_of_ble_eq_true rfl)) dL_acts_1173 ⟨Nat.le_of_ble_eq_true rfl, Nat.le_of_ble_eq_true rfl⟩) hS (fun r_55 ad1 w1 H locs hq hP hS => ?_)
          obtain ⟨h81, h82⟩ := hq
          cases h81
          subst h82
          obtain ⟨j9, hj9, ej9⟩ := low_lt (y >>> (4 &&& 31)) (k := 41) (by omega) (by omega)
          refine w_top (v := nI j9) ej9 ?_
          refine lv_bipush (v := (20)) hx hb dL_acts_1176 (by decide) ?_
          refine lv_isub hx hb dL_acts_1178 ?_
          refine lv_goto (tgt := 1190) hx hb dL_acts_1179 (by decide) ?_
          refine lv_istore (lv' := [(14, .int ((nI j9) - 20)), (13, .int 1), (12, .int (nI ce)), (0, .ref (ad 4 0)), (1, .ref (ad 17 0)), (2, .ref (ad 26 0)), (3, .ref (ad 26 1)), (4, .ref (ad 26 2)), (5, .ref (ad 26 3)), (6, .int x), (7, .int y)]) hx hb dL_acts_1190 hl (by decide) rfl (fun ls hl => ?_)
          exact Kx _ _ _ ⟨(nI j9) - 20, ok_me (pt_lt J hi c_1164) (lo_20 hj9), hP, hS, lv_sub hl [0, 1, 2, 3, 4, 5, 6, 7, 8, 9, 10] rfl⟩
      · refine lv_ldc (v := (-100000)) hx hb hown (hts (.constant RL 107 (-100000)) (by decide +kernel)) dL_acts_1147 ?_
        refine w_top (v := nth) rfl ?_
        refine lv_goto (tgt := 1190) hx hb dL_acts_1149 (by decide) ?_
        refine lv_istore (lv' := [(14, .int nth), (13, .int 1), (12, .int (nI ce)), (0, .ref (ad 4 0)), (1, .ref (ad 17 0)), (2, .ref (ad 26 0)), (3, .ref (ad 26 1)), (4, .ref (ad 26 2)), (5, .ref (ad 26 3)), (6, .int x), (7, .int y)]) hx hb dL_acts_1190 hl (by decide) rfl (fun ls hl => ?_)
        exact Kx _ _ _ ⟨nth, Or.inl rfl, hP, hS, lv_sub hl [0, 1, 2, 3, 4, 5, 6, 7, 8, 9, 10] rfl⟩
