/-! p22: acts: a subscription more -/
set_option maxHeartbeats 4000000 in
set_option maxRecDepth 100000 in
theorem ac_sub {p : Program} {l : Launch} {e : Env} {s : State} {m : MethodId} {args : Array Value} {below : List Frame} {meth : Method} {c : Code} {D : va_G} {B : Nat} (A : AcA p l s m args c D B) {Q : State → Prop} {ad : Ad} {np ns nc : Nat} {σ μ : Me} {t N : Nat} (J : Jt t N (np, ns, nc) σ μ) (hN : N + 4001 < 900000) (ht : t + 200 ≤ 900000) {x y : Int32} {k : Nat} (hk : k < np) (h20 : ns ≤ 20) {H : Heap} {locs : List Loc} {ls : Array Slot} (hP : hw D B ad (eW D ad ((np, ns, nc), σ) ((np, ns, nc), σ) (lW D 4 μ)) H) (hS : va_S (ab B) s.heap H locs) (hl : lv_has ls 20 [(9, .int (nI k)), (0, .ref (ad 4 0)), (1, .ref (ad 17 0)), (2, .ref (ad 26 0)), (3, .ref (ad 26 1)), (4, .ref (ad 26 2)), (5, .ref (ad 26 3)), (6, .int x), (7, .int y)]) (K : AcK p l e s m args below meth c D B ad t N Q) : W p l e (headSpec wsL_acts rmA).room s m args below meth c H locs 0 0 Q (F0 m 468 ls []) := by
  obtain ⟨hns, hx, hb, hml, hown, hts, hC⟩ := A
  have hI := Jt_I J
  have g16 : np ≤ 16 := hI.1
  have g30 : ns ≤ 30 := hI.2.1
  have g4 : nc ≤ 4 := hI.2.2.1
  obtain ⟨l1, l2, l3, -⟩ := J.2.2.2.2.2.1
  refine w_cut 497 0 0 (fun H locs ls => ∃ (i1 : Nat), (i1 < 2000) ∧ hw D B ad (eW D ad ((np, ns, nc), σ) ((np, ns, nc), σ) (lW D 4 μ)) H ∧ va_S (ab B) s.heap H locs ∧ lv_has ls 20 [(12, .int (nI (1 + i1))), (9, .int (nI k)), (0, .ref (ad 4 0)), (1, .ref (ad 17 0)), (2, .ref (ad 26 0)), (3, .ref (ad 26 1)), (4, .ref (ad 26 2)), (5, .ref (ad 26 3)), (6, .int x), (7, .int y)]) (fun H locs ls hJ => ?_) (fun Kx => ?_)
  · obtain ⟨i1, hi1, hP, hS, hl⟩ := hJ
    refine w_cut 528 0 0 (fun H locs ls => ∃ (i2 : Nat), (i2 < 100000) ∧ hw D B ad (eW D ad ((np, ns, nc), σ) ((np, ns, nc), σ) (lW D 4 μ)) H ∧ va_S (ab B) s.heap H locs ∧ lv_has ls 20 [(13, .int (nI (1 + i2))), (12, .int (nI (1 + i1))), (9, .int (nI k)), (0, .ref (ad 4 0)), (1, .ref (ad 17 0)), (2, .ref (ad 26 0)), (3, .ref (ad 26 1)), (4, .ref (ad 26 2)), (5, .ref (ad 26 3)), (6, .int x), (7, .int y)]) (fun H locs ls hJ => ?_) (fun Ky => ?_)
    · obtain ⟨i2, hi2, hP, hS, hl⟩ := hJ
      refine lv_aload hx hb dL_acts_528 (lv_at hl 8 rfl) ?_
      refine lv_iconst (v := 1) hx hb dL_acts_530 (by decide) ?_
      refine w_top (v := nI 1) rfl ?_
      refine w_ildN hx hb hC hP (eW_L (show 3 < 4 by decide)) (show 1 < 3 from by omega) (by decide) (v := nI ns) l2 dL_acts_531 ?_
      refine lv_bipush (v := (30)) hx hb dL_acts_532 (by decide) ?_
      refine lv_icmp_ge (tgt := 544) hx hb dL_acts_534 (by decide) (fun c_534 => ?_) (fun c_534 => ?_)
      · exact absurd c_534 (nI_ge (b := 30) (show ns < 30 by omega) (by decide))
      · refine lv_aload hx hb dL_acts_537 (lv_at hl 8 rfl) ?_
        refine lv_iconst (v := 1) hx hb dL_acts_539 (by decide) ?_
        refine w_top (v := nI 1) rfl ?_
        refine w_ildN hx hb hC hP (eW_L (show 3 < 4 by decide)) (show 1 < 3 from by omega) (by decide) (v := nI ns) l2 dL_acts_540 ?_
        refine lv_goto (tgt := 546) hx hb dL_acts_541 (by decide) ?_
        refine lv_istore (lv' := [(14, .int (nI ns)), (13, .int (nI (1 + i2))), (12, .int (nI (1 + i1))), (9, .int (nI k)), (0, .ref (ad 4 0)), (1, .ref (ad 17 0)), (2, .ref (ad 26 0)), (3, .ref (ad 26 1)), (4, .ref (ad 26 2)), (5, .ref (ad 26 3)), (6, .int x), (7, .int y)]) hx hb dL_acts_546 hl (by decide) rfl (fun ls hl => ?_)
        refine lv_iload hx hb dL_acts_548 (lv_at hl 0 rfl) ?_
        refine lv_if_lt (tgt := 594) hx hb dL_acts_550 (by decide) (fun c_550 => ?_) (fun c_550 => ?_)
        · exact absurd c_550 (nI_pos (by omega))
        · refine lv_aload_n hx hb dL_acts_553 rfl (lv_at hl 7 rfl) ?_
          refine lv_iconst (v := 3) hx hb dL_acts_554 (by decide) ?_
          refine lv_iload hx hb dL_acts_555 (lv_at hl 0 rfl) ?_
          refine lv_imul hx hb dL_acts_557 ?_
          refine w_top (v := nI (3 * ns)) (pk_mul 3 ns) ?_
          refine lv_iload hx hb dL_acts_558 (lv_at hl 3 rfl) ?_
          refine w_istN hx hb hC hP hS (eW_L (show 1 < 4 by decide)) (show 3 * ns < 64 from by omega) (by decide) dL_acts_560 (fun H locs hP hS => ?_)
          have hP := hw_eq hP (eW_put _ (show 1 < 4 by decide))
          refine lv_aload_n hx hb dL_acts_561 rfl (lv_at hl 7 rfl) ?_
          refine lv_iconst (v := 3) hx hb dL_acts_562 (by decide) ?_
          refine lv_iload hx hb dL_acts_563 (lv_at hl 0 rfl) ?_
          refine lv_imul hx hb dL_acts_565 ?_
          refine w_top (v := nI (3 * ns)) (pk_mul 3 ns) ?_
          refine lv_iconst (v := 1) hx hb dL_acts_566 (by decide) ?_
          refine lv_iadd hx hb dL_acts_567 ?_
          refine w_top (v := nI ((3 * ns) + 1)) (nI_add (3 * ns) 1) ?_
          refine lv_iload hx hb dL_acts_568 (lv_at hl 2 rfl) ?_
          refine w_istN hx hb hC hP hS (eW_L (show 1 < 4 by decide)) (show (3 * ns) + 1 < 64 from by omega) (by decide) dL_acts_570 (fun H locs hP hS => ?_)
          have hP := hw_eq hP (eW_put _ (show 1 < 4 by decide))
          refine lv_aload_n hx hb dL_acts_571 rfl (lv_at hl 7 rfl) ?_
          refine lv_iconst (v := 3) hx hb dL_acts_572 (by decide) ?_
          refine lv_iload hx hb dL_acts_573 (lv_at hl 0 rfl) ?_
          refine lv_imul hx hb dL_acts_575 ?_
          refine w_top (v := nI (3 * ns)) (pk_mul 3 ns) ?_
          refine lv_iconst (v := 2) hx hb dL_acts_576 (by decide) ?_
          refine lv_iadd hx hb dL_acts_577 ?_
          refine w_top (v := nI ((3 * ns) + 2)) (nI_add (3 * ns) 2) ?_
          refine lv_aload_n hx hb dL_acts_578 rfl (lv_at hl 4 rfl) ?_
          refine w_calli (va_runV (As := []) (rest := [.int (nI ((3 * ns) + 2)), .ref (ad 26 1)]) ⟨hx, hb, hml, hown, hts⟩ (c_X4_clock l D B ad (np, ns, nc) σ (tW D ad ((np, ns, nc), σ) (lW D 4 (st3 (st3 μ 1 0 (3 * ns) (nI k)) 1 0 ((3 * ns) + 1) (nI (1 + i1))))) 0) (cwV 0 hts gL_acts_X4_clock rfl rfl rfl (by decide +kernel) ⟨Nat.le_of_ble_eq_true rfl, Nat.le_of_ble_eq_true rfl⟩) (w_preV hC hP hS cW_4 rfl) rfl rfl hl.1 rfl (lv_room (Nat.le_of_ble_eq_true rfl)) dL_acts_579 ⟨Nat.le_of_ble_eq_true rfl, Nat.le_of_ble_eq_true rfl⟩) hS (fun r_1 ad1 w1 H locs hq hP hS => ?_)
          obtain ⟨h81, h82⟩ := hq
          cases h81
          subst h82
          refine w_top (v := nI t) J.1.2.1 ?_
          refine lv_iload hx hb dL_acts_582 (lv_at hl 1 rfl) ?_
          refine lv_iadd hx hb dL_acts_584 ?_
          refine w_top (v := nI (t + (1 + i2))) (nI_add t (1 + i2)) ?_
          refine w_istN hx hb hC hP hS (eW_L (show 1 < 4 by decide)) (show (3 * ns) + 2 < 64 from by omega) (by decide) dL_acts_585 (fun H locs hP hS => ?_)
          have hP := hw_eq hP (eW_put _ (show 1 < 4 by decide))
          refine lv_aload hx hb dL_acts_586 (lv_at hl 9 rfl) ?_
          refine lv_iconst (v := 1) hx hb dL_acts_588 (by decide) ?_
          refine lv_dup2_11 hx hb dL_acts_589 rfl rfl ?_
          refine w_top (v := nI 1) rfl ?_
          refine w_ildN hx hb hC hP (eW_L (show 3 < 4 by decide)) (show 1 < 3 from by omega) (by decide) (v := nI ns) (by rw [st3_n (by decide), st3_n (by decide), st3_n (by decide)]; exact l2) dL_acts_590 ?_
          refine lv_iconst (v := 1) hx hb dL_acts_591 (by decide) ?_
          refine lv_iadd hx hb dL_acts_592 ?_
          refine w_top (v := nI (ns + 1)) (nI_add ns 1) ?_
          refine w_top2 (v := nI 1) rfl ?_
          refine w_istN hx hb hC hP hS (eW_L (show 3 < 4 by decide)) (show 1 < 3 from by omega) (by decide) dL_acts_593 (fun H locs hP hS => ?_)
          have hP := hw_eq hP (eW_put _ (show 3 < 4 by decide))
          refine lv_aload_n hx hb dL_acts_594 rfl (lv_at hl 4 rfl) ?_
          refine lv_iload hx hb dL_acts_595 (lv_at hl 3 rfl) ?_
          refine lv_iload hx hb dL_acts_597 (lv_at hl 2 rfl) ?_
          refine lv_iload hx hb dL_acts_599 (lv_at hl 1 rfl) ?_
          have J2 : Jt t N (np, ns + 1, nc) (subF ns (nI k) (nI (1 + i1)) (nI (t + (1 + i2))) (σ 7 k 0) σ) (st3 (st3 (st3 (st3 μ 1 0 (3 * ns) (nI k)) 1 0 ((3 * ns) + 1) (nI (1 + i1))) 1 0 ((3 * ns) + 2) (nI (t + (1 + i2)))) 3 0 1 (nI (ns + 1))) := Jt_sub J (by omega) hk (by rw [nI_toInt (by omega)]; omega) (by omega) (by omega) (fun a j z1 z2 => by rw [st3_ne (by omega), st3_ne (by omega), st3_ne (by omega), st3_ne (by omega)]) (by rw [st3_n (by decide), st3_ne (by omega), st3_ne (by omega), st3_v]) (by rw [st3_n (by decide), st3_ne (by omega), st3_v]) (by rw [st3_n (by decide), st3_v]) st3_v
          have hI2 := Jt_I J2
          refine w_calli (vx_runSW (As := [.ref (ad 4 0), .int (nI k), .int (nI (1 + i1)), .int (nI (1 + i2))]) (rest := []) ⟨hx, hb, hml, hown, hts⟩ (c_L_subscribe l hns D B ad np ns nc σ (tW D ad ((np, ns, nc), σ) (lW D 4 (st3 (st3 (st3 (st3 μ 1 0 (3 * ns) (nI k)) 1 0 ((3 * ns) + 1) (nI (1 + i1))) 1 0 ((3 * ns) + 2) (nI (t + (1 + i2)))) 3 0 1 (nI (ns + 1))))) 0 hI J.2.1 (nI k) (nI (1 + i1)) (nI (1 + i2))) (vx_cwSW 4 hts gL_acts_L_subscribe rfl rfl rfl (by decide +kernel) ⟨Nat.le_of_ble_eq_true rfl, Nat.le_of_ble_eq_true rfl⟩) (w_preS hC hP hS) rfl rfl hl.1 rfl (lv_room (Nat.le_of_ble_eq_true rfl)) dL_acts_601 ⟨Nat.le_of_ble_eq_true rfl, Nat.le_of_ble_eq_true rfl⟩) hS (fun r_2 ad_1 w1 H locs hq hP hS => ?_)
          obtain ⟨ad9, S2, h81, hkp, h82, h83⟩ := hq
          obtain ⟨h84, h85⟩ := h82 (sb_0 hk (lo_b1 (n := 2000) (by omega) (by omega) (by decide)) (lo_b1 (n := 100000) (by omega) (by omega) (by decide)) (by omega))
          rw [nOf_N (n := k) (by omega), J.1.2.1, nI_add] at h84
          cases h84
          cases h81
          subst h85
          have hP := hw_ado hP hkp
          have kp1 : kpA ad ad_1 := kpA_o kpA_r hkp
          have hl : lv_has ls 20 [(14, .int (nI ns)), (13, .int (nI (1 + i2))), (12, .int (nI (1 + i1))), (9, .int (nI k)), (0, .ref (ad_1 4 0)), (1, .ref (ad_1 17 0)), (2, .ref (ad_1 26 0)), (3, .ref (ad_1 26 1)), (4, .ref (ad_1 26 2)), (5, .ref (ad_1 26 3)), (6, .int x), (7, .int y)] := by rw [hkp 4 0 (by omega), hkp 17 0 (by omega), hkp 26 0 (by omega), hkp 26 1 (by omega), hkp 26 2 (by omega), hkp 26 3 (by omega)]; exact hl
          refine lv_iload hx hb dL_acts_604 (lv_at hl 0 rfl) ?_
          refine lv_icmp_ne (tgt := 706) hx hb dL_acts_606 (by decide) (fun c_606 => ?_) (fun c_606 => ?_)
          · exact absurd rfl c_606
          · refine lv_aload_n hx hb dL_acts_609 rfl (lv_at hl 5 rfl) ?_
            refine lv_iload hx hb dL_acts_610 (lv_at hl 3 rfl) ?_
            refine lv_iload hx hb dL_acts_612 (lv_at hl 2 rfl) ?_
            refine lv_iload hx hb dL_acts_614 (lv_at hl 1 rfl) ?_
            refine w_calli (vx_runSW (As := [.ref (ad_1 17 0), .int (nI k), .int (nI (1 + i1)), .int (nI (1 + i2))]) (rest := []) ⟨hx, hb, hml, hown, hts⟩ (t_L_subscribe l hns D B ad_1 np ns nc σ ((np, ns + 1, nc), subF ns (nI k) (nI (1 + i1)) (nI (t + (1 + i2))) (σ 7 k 0) σ) (lW D 4 (st3 (st3 (st3 (st3 μ 1 0 (3 * ns) (nI k)) 1 0 ((3 * ns) + 1) (nI (1 + i1))) 1 0 ((3 * ns) + 2) (nI (t + (1 + i2)))) 3 0 1 (nI (ns + 1)))) hI J.2.1 (nI k) (nI (1 + i1)) (nI (1 + i2))) (vx_cwSW 4 hts gL_acts_L_subscribe rfl rfl rfl (by decide +kernel) ⟨Nat.le_of_ble_eq_true rfl, Nat.le_of_ble_eq_true rfl⟩) (w_preS hC hP hS) rfl rfl hl.1 rfl (lv_room (Nat.le_of_ble_eq_true rfl)) dL_acts_616 ⟨Nat.le_of_ble_eq_true rfl, Nat.le_of_ble_eq_true rfl⟩) hS (fun r_3 ad_2 w1 H locs hq hP hS => ?_)
            obtain ⟨ad9, S2, h81, hkp, h82, h83⟩ := hq
            obtain ⟨h84, h85⟩ := h82 (sb_0 hk (lo_b1 (n := 2000) (by omega) (by omega) (by decide)) (lo_b1 (n := 100000) (by omega) (by omega) (by decide)) (by omega))
            rw [nOf_N (n := k) (by omega), J.1.2.1, nI_add] at h84
            cases h84
            cases h81
            subst h85
            have kp2 : kpA ad ad_2 := kpA_t kp1 hkp
            have hl : lv_has ls 20 [(14, .int (nI ns)), (13, .int (nI (1 + i2))), (12, .int (nI (1 + i1))), (9, .int (nI k)), (0, .ref (ad_2 4 0)), (1, .ref (ad_2 17 0)), (2, .ref (ad_2 26 0)), (3, .ref (ad_2 26 1)), (4, .ref (ad_2 26 2)), (5, .ref (ad_2 26 3)), (6, .int x), (7, .int y)] := by rw [hkp 4 0 (by omega), hkp 17 0 (by omega), hkp 26 0 (by omega), hkp 26 1 (by omega), hkp 26 2 (by omega), hkp 26 3 (by omega)]; exact hl
            refine lv_iload hx hb dL_acts_619 (lv_at hl 0 rfl) ?_
            refine lv_icmp_ne (tgt := 706) hx hb dL_acts_621 (by decide) (fun c_621 => ?_) (fun c_621 => ?_)
            · exact absurd rfl c_621
            · refine lv_aload_n hx hb dL_acts_624 rfl (lv_at hl 4 rfl) ?_
              refine lv_iload hx hb dL_acts_625 (lv_at hl 3 rfl) ?_
              refine lv_iconst (v := 0) hx hb dL_acts_627 (by decide) ?_
              refine lv_iconst (v := 1) hx hb dL_acts_628 (by decide) ?_
              refine w_calli (vx_runSW (As := [.ref (ad_2 4 0), .int (nI k), .int 0, .int 1]) (rest := []) ⟨hx, hb, hml, hown, hts⟩ (c_L_subscribe l hns D B ad_2 np (ns + 1) nc (subF ns (nI k) (nI (1 + i1)) (nI (t + (1 + i2))) (σ 7 k 0) σ) (tW D ad_2 ((np, ns + 1, nc), subF ns (nI k) (nI (1 + i1)) (nI (t + (1 + i2))) (σ 7 k 0) σ) (lW D 4 (st3 (st3 (st3 (st3 μ 1 0 (3 * ns) (nI k)) 1 0 ((3 * ns) + 1) (nI (1 + i1))) 1 0 ((3 * ns) + 2) (nI (t + (1 + i2)))) 3 0 1 (nI (ns + 1))))) 0 hI2 J2.2.1 (nI k) 0 1) (vx_cwSW 4 hts gL_acts_L_subscribe rfl rfl rfl (by decide +kernel) ⟨Nat.le_of_ble_eq_true rfl, Nat.le_of_ble_eq_true rfl⟩) (w_preS hC hP hS) rfl rfl hl.1 rfl (lv_room (Nat.le_of_ble_eq_true rfl)) dL_acts_629 ⟨Nat.le_of_ble_eq_true rfl, Nat.le_of_ble_eq_true rfl⟩) hS (fun r_4 ad_3 w1 H locs hq hP hS => ?_)
              obtain ⟨ad9, S2, h81, hkp, h82, h83⟩ := hq
              obtain ⟨h84, h85⟩ := h83 (ne_2 (sb_2 hk (fun z => absurd z.1.1 (by decide))))
              cases h84
              cases h81
              subst h85
              refine w_top (v := (-1000002)) (en_2 (sb_2 hk (fun z => absurd z.1.1 (by decide)))) ?_
              have hP := hw_ado hP hkp
              have kp3 : kpA ad ad_3 := kpA_o kp2 hkp
              have hl : lv_has ls 20 [(14, .int (nI ns)), (13, .int (nI (1 + i2))), (12, .int (nI (1 + i1))), (9, .int (nI k)), (0, .ref (ad_3 4 0)), (1, .ref (ad_3 17 0)), (2, .ref (ad_3 26 0)), (3, .ref (ad_3 26 1)), (4, .ref (ad_3 26 2)), (5, .ref (ad_3 26 3)), (6, .int x), (7, .int y)] := by rw [hkp 4 0 (by omega), hkp 17 0 (by omega), hkp 26 0 (by omega), hkp 26 1 (by omega), hkp 26 2 (by omega), hkp 26 3 (by omega)]; exact hl
              refine lv_ldc (v := (-1000002)) hx hb hown (hts (.constant RL 18 (-1000002)) (by decide +kernel)) dL_acts_632 ?_
              refine lv_icmp_ne (tgt := 706) hx hb dL_acts_634 (by decide) (fun c_634 => ?_) (fun c_634 => ?_)
              · exact absurd c_634 (by decide)
              · refine lv_aload_n hx hb dL_acts_637 rfl (lv_at hl 4 rfl) ?_
                refine lv_iload hx hb dL_acts_638 (lv_at hl 3 rfl) ?_
                refine lv_iconst (v := 1) hx hb dL_acts_640 (by decide) ?_
                refine lv_ldc (v := (100001)) hx hb hown (hts (.constant RL 137 (100001)) (by decide +kernel)) dL_acts_641 ?_
                refine w_calli (vx_runSW (As := [.ref (ad_3 4 0), .int (nI k), .int 1, .int 100001]) (rest := []) ⟨hx, hb, hml, hown, hts⟩ (c_L_subscribe l hns D B ad_3 np (ns + 1) nc (subF ns (nI k) (nI (1 + i1)) (nI (t + (1 + i2))) (σ 7 k 0) σ) (tW D ad_3 ((np, ns + 1, nc), subF ns (nI k) (nI (1 + i1)) (nI (t + (1 + i2))) (σ 7 k 0) σ) (lW D 4 (st3 (st3 (st3 (st3 μ 1 0 (3 * ns) (nI k)) 1 0 ((3 * ns) + 1) (nI (1 + i1))) 1 0 ((3 * ns) + 2) (nI (t + (1 + i2)))) 3 0 1 (nI (ns + 1))))) 0 hI2 J2.2.1 (nI k) 1 100001) (vx_cwSW 4 hts gL_acts_L_subscribe rfl rfl rfl (by decide +kernel) ⟨Nat.le_of_ble_eq_true rfl, Nat.le_of_ble_eq_true rfl⟩) (w_preS hC hP hS) rfl rfl hl.1 rfl (lv_room (Nat.le_of_ble_eq_true rfl)) dL_acts_643 ⟨Nat.le_of_ble_eq_true rfl, Nat.le_of_ble_eq_true rfl⟩) hS (fun r_5 ad_4 w1 H locs hq hP hS => ?_)
                obtain ⟨ad9, S2, h81, hkp, h82, h83⟩ := hq
                obtain ⟨h84, h85⟩ := h83 (ne_2 (sb_2 hk (fun z => absurd z.2.2 (by decide))))
                cases h84
                cases h81
                subst h85
                refine w_top (v := (-1000002)) (en_2 (sb_2 hk (fun z => absurd z.2.2 (by decide)))) ?_
                have hP := hw_ado hP hkp
                have kp4 : kpA ad ad_4 := kpA_o kp3 hkp
                have hl : lv_has ls 20 [(14, .int (nI ns)), (13, .int (nI (1 + i2))), (12, .int (nI (1 + i1))), (9, .int (nI k)), (0, .ref (ad_4 4 0)), (1, .ref (ad_4 17 0)), (2, .ref (ad_4 26 0)), (3, .ref (ad_4 26 1)), (4, .ref (ad_4 26 2)), (5, .ref (ad_4 26 3)), (6, .int x), (7, .int y)] := by rw [hkp 4 0 (by omega), hkp 17 0 (by omega), hkp 26 0 (by omega), hkp 26 1 (by omega), hkp 26 2 (by omega), hkp 26 3 (by omega)]; exact hl
                refine lv_ldc (v := (-1000002)) hx hb hown (hts (.constant RL 18 (-1000002)) (by decide +kernel)) dL_acts_646 ?_
                refine lv_icmp_ne (tgt := 706) hx hb dL_acts_648 (by decide) (fun c_648 => ?_) (fun c_648 => ?_)
                · exact absurd c_648 (by decide)
                · refine lv_aload_n hx hb dL_acts_651 rfl (lv_at hl 4 rfl) ?_
                  refine lv_iconst (v := (-1)) hx hb dL_acts_652 (by decide) ?_
                  refine lv_iconst (v := 0) hx hb dL_acts_653 (by decide) ?_
                  refine lv_iconst (v := 0) hx hb dL_acts_654 (by decide) ?_
                  refine w_calli (vx_runSW (As := [.ref (ad_4 4 0), .int (-1), .int 0, .int 0]) (rest := []) ⟨hx, hb, hml, hown, hts⟩ (c_L_subscribe l hns D B ad_4 np (ns + 1) nc (subF ns (nI k) (nI (1 + i1)) (nI (t + (1 + i2))) (σ 7 k 0) σ) (tW D ad_4 ((np, ns + 1, nc), subF ns (nI k) (nI (1 + i1)) (nI (t + (1 + i2))) (σ 7 k 0) σ) (lW D 4 (st3 (st3 (st3 (st3 μ 1 0 (3 * ns) (nI k)) 1 0 ((3 * ns) + 1) (nI (1 + i1))) 1 0 ((3 * ns) + 2) (nI (t + (1 + i2)))) 3 0 1 (nI (ns + 1))))) 0 hI2 J2.2.1 (-1) 0 0) (vx_cwSW 4 hts gL_acts_L_subscribe rfl rfl rfl (by decide +kernel) ⟨Nat.le_of_ble_eq_true rfl, Nat.le_of_ble_eq_true rfl⟩) (w_preS hC hP hS) rfl rfl hl.1 rfl (lv_room (Nat.le_of_ble_eq_true rfl)) dL_acts_655 ⟨Nat.le_of_ble_eq_true rfl, Nat.le_of_ble_eq_true rfl⟩) hS (fun r_6 ad_5 w1 H locs hq hP hS => ?_)
                  obtain ⟨ad9, S2, h81, hkp, h82, h83⟩ := hq
                  obtain ⟨h84, h85⟩ := h83 (ne_1 (sb_1 (no_m1 (by omega))))
                  cases h84
                  cases h81
                  subst h85
                  refine w_top (v := (-1000001)) (en_1 (sb_1 (no_m1 (by omega)))) ?_
                  have hP := hw_ado hP hkp
                  have kp5 : kpA ad ad_5 := kpA_o kp4 hkp
                  have hl : lv_has ls 20 [(14, .int (nI ns)), (13, .int (nI (1 + i2))), (12, .int (nI (1 + i1))), (9, .int (nI k)), (0, .ref (ad_5 4 0)), (1, .ref (ad_5 17 0)), (2, .ref (ad_5 26 0)), (3, .ref (ad_5 26 1)), (4, .ref (ad_5 26 2)), (5, .ref (ad_5 26 3)), (6, .int x), (7, .int y)] := by rw [hkp 4 0 (by omega), hkp 17 0 (by omega), hkp 26 0 (by omega), hkp 26 1 (by omega), hkp 26 2 (by omega), hkp 26 3 (by omega)]; exact hl
                  refine lv_ldc (v := (-1000001)) hx hb hown (hts (.constant RL 32 (-1000001)) (by decide +kernel)) dL_acts_658 ?_
                  refine lv_icmp_ne (tgt := 706) hx hb dL_acts_660 (by decide) (fun c_660 => ?_) (fun c_660 => ?_)
                  · exact absurd c_660 (by decide)
                  · refine lv_iload hx hb dL_acts_663 (lv_at hl 0 rfl) ?_
                    refine lv_if_lt (tgt := 702) hx hb dL_acts_665 (by decide) (fun c_665 => ?_) (fun c_665 => ?_)
                    · exact absurd c_665 (nI_pos (by omega))
                    · refine lv_aload_n hx hb dL_acts_668 rfl (lv_at hl 4 rfl) ?_
                      refine lv_iload hx hb dL_acts_669 (lv_at hl 0 rfl) ?_
                      refine w_calli (vx_runSW (As := [.ref (ad_5 4 0), .int (nI ns)]) (rest := []) ⟨hx, hb, hml, hown, hts⟩ (c0_L_reported l hns D B ad_5 (np, ns + 1, nc) (subF ns (nI k) (nI (1 + i1)) (nI (t + (1 + i2))) (σ 7 k 0) σ) (tW D ad_5 ((np, ns + 1, nc), subF ns (nI k) (nI (1 + i1)) (nI (t + (1 + i2))) (σ 7 k 0) σ) (lW D 4 (st3 (st3 (st3 (st3 μ 1 0 (3 * ns) (nI k)) 1 0 ((3 * ns) + 1) (nI (1 + i1))) 1 0 ((3 * ns) + 2) (nI (t + (1 + i2)))) 3 0 1 (nI (ns + 1))))) 0 hI2 ns (Nat.lt_succ_self ns)) (vx_cwSW 2 hts gL_acts_L_reported rfl rfl rfl (by decide +kernel) ⟨Nat.le_of_ble_eq_true rfl, Nat.le_of_ble_eq_true rfl⟩) (w_preS hC hP hS) rfl rfl hl.1 rfl (lv_room (Nat.le_of_ble_eq_true rfl)) dL_acts_671 ⟨Nat.le_of_ble_eq_true rfl, Nat.le_of_ble_eq_true rfl⟩) hS (fun r_7 ad1 w1 H locs hq hP hS => ?_)
                      obtain ⟨S2, h81, h82, h83⟩ := hq
                      cases h82
                      cases h81
                      subst h83
                      refine lv_aload_n hx hb dL_acts_674 rfl (lv_at hl 4 rfl) ?_
                      refine lv_iload hx hb dL_acts_675 (lv_at hl 3 rfl) ?_
                      refine w_calli (vx_runSW (As := [.ref (ad_5 4 0), .int (nI k)]) (rest := [.int ((subF ns (nI k) (nI (1 + i1)) (nI (t + (1 + i2))) (σ 7 k 0) σ) 13 ns 0)]) ⟨hx, hb, hml, hown, hts⟩ (c0_L_value l hns D B ad_5 (np, ns + 1, nc) (subF ns (nI k) (nI (1 + i1)) (nI (t + (1 + i2))) (σ 7 k 0) σ) (tW D ad_5 ((np, ns + 1, nc), subF ns (nI k) (nI (1 + i1)) (nI (t + (1 + i2))) (σ 7 k 0) σ) (lW D 4 (st3 (st3 (st3 (st3 μ 1 0 (3 * ns) (nI k)) 1 0 ((3 * ns) + 1) (nI (1 + i1))) 1 0 ((3 * ns) + 2) (nI (t + (1 + i2)))) 3 0 1 (nI (ns + 1))))) 0 hI2 k hk) (vx_cwSW 2 hts gL_acts_L_value rfl rfl rfl (by decide +kernel) ⟨Nat.le_of_ble_eq_true rfl, Nat.le_of_ble_eq_true rfl⟩) (w_preS hC hP hS) rfl rfl hl.1 rfl (lv_room (Nat.le_of_ble_eq_true rfl)) dL_acts_677 ⟨Nat.le_of_ble_eq_true rfl, Nat.le_of_ble_eq_true rfl⟩) hS (fun r_8 ad1 w1 H locs hq hP hS => ?_)
                      obtain ⟨S2, h81, h82, h83⟩ := hq
                      cases h82
                      cases h81
                      subst h83
                      refine lv_icmp_ne (tgt := 706) hx hb dL_acts_680 (by decide) (fun c_680 => ?_) (fun c_680 => ?_)
                      · exact absurd (sb_13 J2 hk) c_680
                      · refine lv_aload_n hx hb dL_acts_683 rfl (lv_at hl 4 rfl) ?_
                        refine lv_iload hx hb dL_acts_684 (lv_at hl 0 rfl) ?_
                        refine w_calli (vx_runSW (As := [.ref (ad_5 4 0), .int (nI ns)]) (rest := []) ⟨hx, hb, hml, hown, hts⟩ (c0_L_reports l hns D B ad_5 (np, ns + 1, nc) (subF ns (nI k) (nI (1 + i1)) (nI (t + (1 + i2))) (σ 7 k 0) σ) (tW D ad_5 ((np, ns + 1, nc), subF ns (nI k) (nI (1 + i1)) (nI (t + (1 + i2))) (σ 7 k 0) σ) (lW D 4 (st3 (st3 (st3 (st3 μ 1 0 (3 * ns) (nI k)) 1 0 ((3 * ns) + 1) (nI (1 + i1))) 1 0 ((3 * ns) + 2) (nI (t + (1 + i2)))) 3 0 1 (nI (ns + 1))))) 0 hI2 ns (Nat.lt_succ_self ns)) (vx_cwSW 2 hts gL_acts_L_reports rfl rfl rfl (by decide +kernel) ⟨Nat.le_of_ble_eq_true rfl, Nat.le_of_ble_eq_true rfl⟩) (w_preS hC hP hS) rfl rfl hl.1 rfl (lv_room (Nat.le_of_ble_eq_true rfl)) dL_acts_686 ⟨Nat.le_of_ble_eq_true rfl, Nat.le_of_ble_eq_true rfl⟩) hS (fun r_9 ad1 w1 H locs hq hP hS => ?_)
                        obtain ⟨S2, h81, h82, h83⟩ := hq
                        cases h82
                        cases h81
                        subst h83
                        refine lv_if_ne (tgt := 706) hx hb dL_acts_689 (by decide) (fun c_689 => ?_) (fun c_689 => ?_)
                        · exact absurd (sb_12 J) c_689
                        · refine lv_aload_n hx hb dL_acts_692 rfl (lv_at hl 4 rfl) ?_
                          refine lv_iload hx hb dL_acts_693 (lv_at hl 0 rfl) ?_
                          refine w_calli (vx_runSW (As := [.ref (ad_5 4 0), .int (nI ns)]) (rest := []) ⟨hx, hb, hml, hown, hts⟩ (c0_L_goesOn l hns D B ad_5 (np, ns + 1, nc) (subF ns (nI k) (nI (1 + i1)) (nI (t + (1 + i2))) (σ 7 k 0) σ) (tW D ad_5 ((np, ns + 1, nc), subF ns (nI k) (nI (1 + i1)) (nI (t + (1 + i2))) (σ 7 k 0) σ) (lW D 4 (st3 (st3 (st3 (st3 μ 1 0 (3 * ns) (nI k)) 1 0 ((3 * ns) + 1) (nI (1 + i1))) 1 0 ((3 * ns) + 2) (nI (t + (1 + i2)))) 3 0 1 (nI (ns + 1))))) 0 hI2 ns (Nat.lt_succ_self ns)) (vx_cwSW 2 hts gL_acts_L_goesOn rfl rfl rfl (by decide +kernel) ⟨Nat.le_of_ble_eq_true rfl, Nat.le_of_ble_eq_true rfl⟩) (w_preS hC hP hS) rfl rfl hl.1 rfl (lv_room (Nat.le_of_ble_eq_true rfl)) dL_acts_695 ⟨Nat.le_of_ble_eq_true rfl, Nat.le_of_ble_eq_true rfl⟩) hS (fun r_10 ad1 w1 H locs hq hP hS => ?_)
                          obtain ⟨S2, h81, h82, h83⟩ := hq
                          cases h82
                          cases h81
                          subst h83
                          refine lv_iconst (v := 1) hx hb dL_acts_698 (by decide) ?_
                          refine lv_icmp_ne (tgt := 706) hx hb dL_acts_699 (by decide) (fun c_699 => ?_) (fun c_699 => ?_)
                          · exact absurd (sb_11 J) c_699
                          · refine lv_iconst (v := 1) hx hb dL_acts_702 (by decide) ?_
                            refine lv_goto (tgt := 707) hx hb dL_acts_703 (by decide) ?_
                            refine W.widen (k := 60) (n := 700) (Nat.le_of_ble_eq_true rfl) (Nat.le_of_ble_eq_true rfl) ?_
                            exact K 707 H locs ls ad_5 (np, ns + 1, nc) (subF ns (nI k) (nI (1 + i1)) (nI (t + (1 + i2))) (σ 7 k 0) σ) (st3 (st3 (st3 (st3 μ 1 0 (3 * ns) (nI k)) 1 0 ((3 * ns) + 1) (nI (1 + i1))) 1 0 ((3 * ns) + 2) (nI (t + (1 + i2)))) 3 0 1 (nI (ns + 1))) t N dL_acts_707 hP hS kp5 J2 (by omega) (by omega)
    · refine lv_iconst (v := 1) hx hb dL_acts_497 (by decide) ?_
      refine lv_iload hx hb dL_acts_498 (lv_at hl 9 rfl) ?_
      refine lv_bipush (v := (11)) hx hb dL_acts_500 (by decide) ?_
      refine lv_ishr hx hb dL_acts_502 ?_
      refine lv_iload hx hb dL_acts_503 (lv_at hl 8 rfl) ?_
      refine lv_bipush (v := (9)) hx hb dL_acts_505 (by decide) ?_
      refine lv_ishr hx hb dL_acts_507 ?_
      refine lv_iconst (v := 3) hx hb dL_acts_508 (by decide) ?_
      refine w_calli (va_runS (As := [.int (x >>> (9 &&& 31)), .int 3]) (rest := [.int (y >>> (11 &&& 31)), .int 1]) ⟨hx, hb, hml, hown, hts⟩ (c_L_low l D B ad (eW D ad ((np, ns, nc), σ) ((np, ns, nc), σ) (lW D 4 μ)) (x >>> (9 &&& 31)) 3 (by decide)) (va_cwS 2 hts gL_acts_L_low rfl rfl rfl (by decide +kernel) ⟨Nat.le_of_ble_eq_true rfl, Nat.le_of_ble_eq_true rfl⟩) (w_preS hC hP hS) rfl rfl hl.1 rfl (lv_room (Nat.le_of_ble_eq_true rfl)) dL_acts_509 ⟨Nat.le_of_ble_eq_true rfl, Nat.le_of_ble_eq_true rfl⟩) hS (fun r_11 ad1 w1 H locs hq hP hS => ?_)
      obtain ⟨h81, h82⟩ := hq
      cases h81
      subst h82
      refine lv_if_ne (tgt := 520) hx hb dL_acts_512 (by decide) (fun c_512 => ?_) (fun c_512 => ?_)
      · refine lv_bipush (v := (60)) hx hb dL_acts_520 (by decide) ?_
        refine w_calli (va_runS (As := [.int (y >>> (11 &&& 31)), .int 60]) (rest := [.int 1]) ⟨hx, hb, hml, hown, hts⟩ (c_L_low l D B ad (eW D ad ((np, ns, nc), σ) ((np, ns, nc), σ) (lW D 4 μ)) (y >>> (11 &&& 31)) 60 (by decide)) (va_cwS 2 hts gL_acts_L_low rfl rfl rfl (by decide +kernel) ⟨Nat.le_of_ble_eq_true rfl, Nat.le_of_ble_eq_true rfl⟩) (w_preS hC hP hS) rfl rfl hl.1 rfl (lv_room (Nat.le_of_ble_eq_true rfl)) dL_acts_522 ⟨Nat.le_of_ble_eq_true rfl, Nat.le_of_ble_eq_true rfl⟩) hS (fun r_12 ad1 w1 H locs hq hP hS => ?_)
        obtain ⟨h81, h82⟩ := hq
        cases h81
        subst h82
        obtain ⟨j2, hj2, ej2⟩ := low_lt (y >>> (11 &&& 31)) (k := 60) (by omega) (by omega)
        refine w_top (v := nI j2) ej2 ?_
        refine lv_iadd hx hb dL_acts_525 ?_
        refine w_top (v := nI (1 + j2)) (nI_add 1 j2) ?_
        refine lv_istore (lv' := [(13, .int (nI (1 + j2))), (12, .int (nI (1 + i1))), (9, .int (nI k)), (0, .ref (ad 4 0)), (1, .ref (ad 17 0)), (2, .ref (ad 26 0)), (3, .ref (ad 26 1)), (4, .ref (ad 26 2)), (5, .ref (ad 26 3)), (6, .int x), (7, .int y)]) hx hb dL_acts_526 hl (by decide) rfl (fun ls hl => ?_)
        exact Ky _ _ _ ⟨j2, by omega, hP, hS, lv_sub hl [0, 1, 2, 3, 4, 5, 6, 7, 8, 9, 10] rfl⟩
      · refine lv_ldc (v := (100000)) hx hb hown (hts (.constant RL 134 (100000)) (by decide +kernel)) dL_acts_515 ?_
        refine lv_goto (tgt := 522) hx hb dL_acts_517 (by decide) ?_
        refine w_calli (va_runS (As := [.int (y >>> (11 &&& 31)), .int 100000]) (rest := [.int 1]) ⟨hx, hb, hml, hown, hts⟩ (c_L_low l D B ad (eW D ad ((np, ns, nc), σ) ((np, ns, nc), σ) (lW D 4 μ)) (y >>> (11 &&& 31)) 100000 (by decide)) (va_cwS 2 hts gL_acts_L_low rfl rfl rfl (by decide +kernel) ⟨Nat.le_of_ble_eq_true rfl, Nat.le_of_ble_eq_true rfl⟩) (w_preS hC hP hS) rfl rfl hl.1 rfl (lv_room (Nat.le_of_ble_eq_true rfl)) dL_acts_522 ⟨Nat.le_of_ble_eq_true rfl, Nat.le_of_ble_eq_true rfl⟩) hS (fun r_13 ad1 w1 H locs hq hP hS => ?_)
        obtain ⟨h81, h82⟩ := hq
        cases h81
        subst h82
        obtain ⟨j2, hj2, ej2⟩ := low_lt (y >>> (11 &&& 31)) (k := 100000) (by omega) (by omega)
        refine w_top (v := nI j2) ej2 ?_
        refine lv_iadd hx hb dL_acts_525 ?_
        refine w_top (v := nI (1 + j2)) (nI_add 1 j2) ?_
        refine lv_istore (lv' := [(13, .int (nI (1 + j2))), (12, .int (nI (1 + i1))), (9, .int (nI k)), (0, .ref (ad 4 0)), (1, .ref (ad 17 0)), (2, .ref (ad 26 0)), (3, .ref (ad 26 1)), (4, .ref (ad 26 2)), (5, .ref (ad 26 3)), (6, .int x), (7, .int y)]) hx hb dL_acts_526 hl (by decide) rfl (fun ls hl => ?_)
        exact Ky _ _ _ ⟨j2, by omega, hP, hS, lv_sub hl [0, 1, 2, 3, 4, 5, 6, 7, 8, 9, 10] rfl⟩
  · refine lv_iconst (v := 1) hx hb dL_acts_468 (by decide) ?_
    refine lv_iload hx hb dL_acts_469 (lv_at hl 8 rfl) ?_
    refine lv_iload hx hb dL_acts_471 (lv_at hl 7 rfl) ?_
    refine lv_bipush (v := (9)) hx hb dL_acts_473 (by decide) ?_
    refine lv_ishr hx hb dL_acts_475 ?_
    refine lv_iconst (v := 3) hx hb dL_acts_476 (by decide) ?_
    refine w_calli (va_runS (As := [.int (x >>> (9 &&& 31)), .int 3]) (rest := [.int y, .int 1]) ⟨hx, hb, hml, hown, hts⟩ (c_L_low l D B ad (eW D ad ((np, ns, nc), σ) ((np, ns, nc), σ) (lW D 4 μ)) (x >>> (9 &&& 31)) 3 (by decide)) (va_cwS 2 hts gL_acts_L_low rfl rfl rfl (by decide +kernel) ⟨Nat.le_of_ble_eq_true rfl, Nat.le_of_ble_eq_true rfl⟩) (w_preS hC hP hS) rfl rfl hl.1 rfl (lv_room (Nat.le_of_ble_eq_true rfl)) dL_acts_477 ⟨Nat.le_of_ble_eq_true rfl, Nat.le_of_ble_eq_true rfl⟩) hS (fun r_14 ad1 w1 H locs hq hP hS => ?_)
    obtain ⟨h81, h82⟩ := hq
    cases h81
    subst h82
    refine lv_if_ne (tgt := 489) hx hb dL_acts_480 (by decide) (fun c_480 => ?_) (fun c_480 => ?_)
    · refine lv_bipush (v := (10)) hx hb dL_acts_489 (by decide) ?_
      refine w_calli (va_runS (As := [.int y, .int 10]) (rest := [.int 1]) ⟨hx, hb, hml, hown, hts⟩ (c_L_low l D B ad (eW D ad ((np, ns, nc), σ) ((np, ns, nc), σ) (lW D 4 μ)) y 10 (by decide)) (va_cwS 2 hts gL_acts_L_low rfl rfl rfl (by decide +kernel) ⟨Nat.le_of_ble_eq_true rfl, Nat.le_of_ble_eq_true rfl⟩) (w_preS hC hP hS) rfl rfl hl.1 rfl (lv_room (Nat.le_of_ble_eq_true rfl)) dL_acts_491 ⟨Nat.le_of_ble_eq_true rfl, Nat.le_of_ble_eq_true rfl⟩) hS (fun r_15 ad1 w1 H locs hq hP hS => ?_)
      obtain ⟨h81, h82⟩ := hq
      cases h81
      subst h82
      obtain ⟨j1, hj1, ej1⟩ := low_lt (y) (k := 10) (by omega) (by omega)
      refine w_top (v := nI j1) ej1 ?_
      refine lv_iadd hx hb dL_acts_494 ?_
      refine w_top (v := nI (1 + j1)) (nI_add 1 j1) ?_
      refine lv_istore (lv' := [(12, .int (nI (1 + j1))), (9, .int (nI k)), (0, .ref (ad 4 0)), (1, .ref (ad 17 0)), (2, .ref (ad 26 0)), (3, .ref (ad 26 1)), (4, .ref (ad 26 2)), (5, .ref (ad 26 3)), (6, .int x), (7, .int y)]) hx hb dL_acts_495 hl (by decide) rfl (fun ls hl => ?_)
      exact Kx _ _ _ ⟨j1, by omega, hP, hS, lv_sub hl [0, 1, 2, 3, 4, 5, 6, 7, 8, 9] rfl⟩
    · refine lv_sipush (v := (2000)) hx hb dL_acts_483 (by decide) ?_
      refine lv_goto (tgt := 491) hx hb dL_acts_486 (by decide) ?_
      refine w_calli (va_runS (As := [.int y, .int 2000]) (rest := [.int 1]) ⟨hx, hb, hml, hown, hts⟩ (c_L_low l D B ad (eW D ad ((np, ns, nc), σ) ((np, ns, nc), σ) (lW D 4 μ)) y 2000 (by decide)) (va_cwS 2 hts gL_acts_L_low rfl rfl rfl (by decide +kernel) ⟨Nat.le_of_ble_eq_true rfl, Nat.le_of_ble_eq_true rfl⟩) (w_preS hC hP hS) rfl rfl hl.1 rfl (lv_room (Nat.le_of_ble_eq_true rfl)) dL_acts_491 ⟨Nat.le_of_ble_eq_true rfl, Nat.le_of_ble_eq_true rfl⟩) hS (fun r_16 ad1 w1 H locs hq hP hS => ?_)
      obtain ⟨h81, h82⟩ := hq
      cases h81
      subst h82
      obtain ⟨j1, hj1, ej1⟩ := low_lt (y) (k := 2000) (by omega) (by omega)
      refine w_top (v := nI j1) ej1 ?_
      refine lv_iadd hx hb dL_acts_494 ?_
      refine w_top (v := nI (1 + j1)) (nI_add 1 j1) ?_
      refine lv_istore (lv' := [(12, .int (nI (1 + j1))), (9, .int (nI k)), (0, .ref (ad 4 0)), (1, .ref (ad 17 0)), (2, .ref (ad 26 0)), (3, .ref (ad 26 1)), (4, .ref (ad 26 2)), (5, .ref (ad 26 3)), (6, .int x), (7, .int y)]) hx hb dL_acts_495 hl (by decide) rfl (fun ls hl => ?_)
      exact Kx _ _ _ ⟨j1, by omega, hP, hS, lv_sub hl [0, 1, 2, 3, 4, 5, 6, 7, 8, 9] rfl⟩
