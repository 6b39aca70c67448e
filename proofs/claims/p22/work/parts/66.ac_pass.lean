/-! p22: acts: minutes; the end of a subscription -/
set_option maxHeartbeats 4000000 in
set_option maxRecDepth 100000 in
theorem ac_pass {p : Program} {l : Launch} {e : Env} {s : State} {m : MethodId} {args : Array Value} {below : List Frame} {meth : Method} {c : Code} {D : va_G} {B : Nat} (A : AcA p l s m args c D B) {Q : State → Prop} {ad : Ad} {g : GC} {σ μ : Me} {t N : Nat} (J : Jt t N g σ μ) (hN : N + 4001 < 900000) (ht : t + 200 ≤ 900000) {x y : Int32}  {H : Heap} {locs : List Loc} {ls : Array Slot} (hP : hw D B ad (eW D ad (g, σ) (g, σ) (lW D 4 μ)) H) (hS : va_S (ab B) s.heap H locs) (hl : lv_has ls 20 [(0, .ref (ad 4 0)), (1, .ref (ad 17 0)), (2, .ref (ad 26 0)), (3, .ref (ad 26 1)), (4, .ref (ad 26 2)), (5, .ref (ad 26 3)), (6, .int x), (7, .int y)]) (K : AcK p l e s m args below meth c D B ad t N Q) : W p l e (headSpec wsL_acts rmA).room s m args below meth c H locs 0 0 Q (F0 m 1548 ls []) := by
  obtain ⟨hns, hx, hb, hml, hown, hts, hC⟩ := A
  refine lv_aload_n hx hb dL_acts_1548 rfl (lv_at hl 0 rfl) ?_
  refine lv_aload_n hx hb dL_acts_1549 rfl (lv_at hl 1 rfl) ?_
  refine lv_aload_n hx hb dL_acts_1550 rfl (lv_at hl 2 rfl) ?_
  refine lv_aload hx hb dL_acts_1551 (lv_at hl 5 rfl) ?_
  refine lv_iconst (v := 1) hx hb dL_acts_1553 (by decide) ?_
  refine lv_iload hx hb dL_acts_1554 (lv_at hl 7 rfl) ?_
  refine lv_iload hx hb dL_acts_1556 (lv_at hl 6 rfl) ?_
  refine lv_bipush (v := (9)) hx hb dL_acts_1558 (by decide) ?_
  refine lv_ishr hx hb dL_acts_1560 ?_
  refine lv_bipush (v := (8)) hx hb dL_acts_1561 (by decide) ?_
  refine w_calli (va_runS (As := [.int (x >>> (9 &&& 31)), .int 8]) (rest := [.int y, .int 1, .ref (ad 26 3), .ref (ad 26 0), .ref (ad 17 0), .ref (ad 4 0)]) ⟨hx, hb, hml, hown, hts⟩ (c_L_low l D B ad (eW D ad (g, σ) (g, σ) (lW D 4 μ)) (x >>> (9 &&& 31)) 8 (by decide)) (va_cwS 2 hts gL_acts_L_low rfl rfl rfl (by decide +kernel) ⟨Nat.le_of_ble_eq_true rfl, Nat.le_of_ble_eq_true rfl⟩) (w_preS hC hP hS) rfl rfl hl.1 rfl (lv_room (Nat.le_of_ble_eq_true rfl)) dL_acts_1563 ⟨Nat.le_of_ble_eq_true rfl, Nat.le_of_ble_eq_true rfl⟩) hS (fun r_1 ad1 w1 H locs hq hP hS => ?_)
  obtain ⟨h81, h82⟩ := hq
  cases h81
  subst h82
  refine lv_if_ne (tgt := 1575) hx hb dL_acts_1566 (by decide) (fun c_1566 => ?_) (fun c_1566 => ?_)
  · refine lv_bipush (v := (20)) hx hb dL_acts_1575 (by decide) ?_
    refine w_calli (va_runS (As := [.int y, .int 20]) (rest := [.int 1, .ref (ad 26 3), .ref (ad 26 0), .ref (ad 17 0), .ref (ad 4 0)]) ⟨hx, hb, hml, hown, hts⟩ (c_L_low l D B ad (eW D ad (g, σ) (g, σ) (lW D 4 μ)) y 20 (by decide)) (va_cwS 2 hts gL_acts_L_low rfl rfl rfl (by decide +kernel) ⟨Nat.le_of_ble_eq_true rfl, Nat.le_of_ble_eq_true rfl⟩) (w_preS hC hP hS) rfl rfl hl.1 rfl (lv_room (Nat.le_of_ble_eq_true rfl)) dL_acts_1577 ⟨Nat.le_of_ble_eq_true rfl, Nat.le_of_ble_eq_true rfl⟩) hS (fun r_2 ad1 w1 H locs hq hP hS => ?_)
    obtain ⟨h81, h82⟩ := hq
    cases h81
    subst h82
    obtain ⟨i1, hi1, ei1⟩ := low_lt (y) (k := 20) (by omega) (by omega)
    refine w_top (v := nI i1) ei1 ?_
    refine lv_iadd hx hb dL_acts_1580 ?_
    refine w_top (v := nI (1 + i1)) (nI_add 1 i1) ?_
    refine w_calli (va_runS (As := [.ref (ad 4 0), .ref (ad 17 0), .ref (ad 26 0), .ref (ad 26 3), .int (nI (1 + i1))]) (rest := []) ⟨hx, hb, hml, hown, hts⟩ (c_L_passes l hns D B ad g σ μ t N J (1 + i1) (by omega) (by omega) (by omega) (by omega)) (va_cwS 5 hts gL_acts_L_passes rfl rfl rfl (by decide +kernel) ⟨Nat.le_of_ble_eq_true rfl, Nat.le_of_ble_eq_true rfl⟩) (w_preS hC hP hS) rfl rfl hl.1 rfl (lv_room (Nat.le_of_ble_eq_true rfl)) dL_acts_1581 ⟨Nat.le_of_ble_eq_true rfl, Nat.le_of_ble_eq_true rfl⟩) hS (fun r_3 adp w1 H locs hq hP hS => ?_)
    obtain ⟨h81, ad9, h82, k1⟩ := hq
    cases h82
    subst h81
    refine W.widen (k := 60) (n := 700) (Nat.le_of_ble_eq_true rfl) (Nat.le_of_ble_eq_true rfl) ?_
    exact K 1584 H locs ls adp g (pasF g (1 + i1) σ) μ (t + (1 + i1)) (N + 20 * (1 + i1)) dL_acts_1584 hP hS (kpA_p k1) (Jt_pas (1 + i1) t N σ J (by omega) (by omega)) (by omega) (by omega)
  · refine lv_sipush (v := (200)) hx hb dL_acts_1569 (by decide) ?_
    refine lv_goto (tgt := 1577) hx hb dL_acts_1572 (by decide) ?_
    refine w_calli (va_runS (As := [.int y, .int 200]) (rest := [.int 1, .ref (ad 26 3), .ref (ad 26 0), .ref (ad 17 0), .ref (ad 4 0)]) ⟨hx, hb, hml, hown, hts⟩ (c_L_low l D B ad (eW D ad (g, σ) (g, σ) (lW D 4 μ)) y 200 (by decide)) (va_cwS 2 hts gL_acts_L_low rfl rfl rfl (by decide +kernel) ⟨Nat.le_of_ble_eq_true rfl, Nat.le_of_ble_eq_true rfl⟩) (w_preS hC hP hS) rfl rfl hl.1 rfl (lv_room (Nat.le_of_ble_eq_true rfl)) dL_acts_1577 ⟨Nat.le_of_ble_eq_true rfl, Nat.le_of_ble_eq_true rfl⟩) hS (fun r_4 ad1 w1 H locs hq hP hS => ?_)
    obtain ⟨h81, h82⟩ := hq
    cases h81
    subst h82
    obtain ⟨i1, hi1, ei1⟩ := low_lt (y) (k := 200) (by omega) (by omega)
    refine w_top (v := nI i1) ei1 ?_
    refine lv_iadd hx hb dL_acts_1580 ?_
    refine w_top (v := nI (1 + i1)) (nI_add 1 i1) ?_
    refine w_calli (va_runS (As := [.ref (ad 4 0), .ref (ad 17 0), .ref (ad 26 0), .ref (ad 26 3), .int (nI (1 + i1))]) (rest := []) ⟨hx, hb, hml, hown, hts⟩ (c_L_passes l hns D B ad g σ μ t N J (1 + i1) (by omega) (by omega) (by omega) (by omega)) (va_cwS 5 hts gL_acts_L_passes rfl rfl rfl (by decide +kernel) ⟨Nat.le_of_ble_eq_true rfl, Nat.le_of_ble_eq_true rfl⟩) (w_preS hC hP hS) rfl rfl hl.1 rfl (lv_room (Nat.le_of_ble_eq_true rfl)) dL_acts_1581 ⟨Nat.le_of_ble_eq_true rfl, Nat.le_of_ble_eq_true rfl⟩) hS (fun r_5 adp w1 H locs hq hP hS => ?_)
    obtain ⟨h81, ad9, h82, k1⟩ := hq
    cases h82
    subst h81
    refine W.widen (k := 60) (n := 700) (Nat.le_of_ble_eq_true rfl) (Nat.le_of_ble_eq_true rfl) ?_
    exact K 1584 H locs ls adp g (pasF g (1 + i1) σ) μ (t + (1 + i1)) (N + 20 * (1 + i1)) dL_acts_1584 hP hS (kpA_p k1) (Jt_pas (1 + i1) t N σ J (by omega) (by omega)) (by omega) (by omega)
set_option maxHeartbeats 4000000 in
set_option maxRecDepth 100000 in
theorem ac_end {p : Program} {l : Launch} {e : Env} {s : State} {m : MethodId} {args : Array Value} {below : List Frame} {meth : Method} {c : Code} {D : va_G} {B : Nat} (A : AcA p l s m args c D B) {Q : State → Prop} {ad : Ad} {g : GC} {σ μ : Me} {t N : Nat} (J : Jt t N g σ μ) (hN : N + 4001 < 900000) (ht : t + 200 ≤ 900000) {x y : Int32}  {H : Heap} {locs : List Loc} {ls : Array Slot} (hP : hw D B ad (eW D ad (g, σ) (g, σ) (lW D 4 μ)) H) (hS : va_S (ab B) s.heap H locs) (hl : lv_has ls 20 [(0, .ref (ad 4 0)), (1, .ref (ad 17 0)), (2, .ref (ad 26 0)), (3, .ref (ad 26 1)), (4, .ref (ad 26 2)), (5, .ref (ad 26 3)), (6, .int x), (7, .int y)]) (K : AcK p l e s m args below meth c D B ad t N Q) : W p l e (headSpec wsL_acts rmA).room s m args below meth c H locs 0 0 Q (F0 m 715 ls []) := by
  obtain ⟨hns, hx, hb, hml, hown, hts, hC⟩ := A
  have hI := Jt_I J
  have g30 := hI.2.1
  obtain ⟨-, l2, -⟩ := J.2.2.2.2.2.1
  refine lv_iload hx hb dL_acts_715 (lv_at hl 7 rfl) ?_
  refine lv_aload hx hb dL_acts_717 (lv_at hl 5 rfl) ?_
  refine lv_iconst (v := 1) hx hb dL_acts_719 (by decide) ?_
  refine w_top (v := nI 1) rfl ?_
  refine w_ildN hx hb hC hP (eW_L (show 3 < 4 by decide)) (show 1 < 3 from by omega) (by decide) (v := nI g.2.1) l2 dL_acts_720 ?_
  refine lv_iconst (v := 1) hx hb dL_acts_721 (by decide) ?_
  refine lv_iadd hx hb dL_acts_722 ?_
  refine w_top (v := nI (g.2.1 + 1)) (nI_add g.2.1 1) ?_
  refine w_calli (va_runS (As := [.int y, .int (nI (g.2.1 + 1))]) (rest := []) ⟨hx, hb, hml, hown, hts⟩ (c_L_low l D B ad (eW D ad (g, σ) (g, σ) (lW D 4 μ)) y (nI (g.2.1 + 1)) (nI_ne0 (by omega) (by omega))) (va_cwS 2 hts gL_acts_L_low rfl rfl rfl (by decide +kernel) ⟨Nat.le_of_ble_eq_true rfl, Nat.le_of_ble_eq_true rfl⟩) (w_preS hC hP hS) rfl rfl hl.1 rfl (lv_room (Nat.le_of_ble_eq_true rfl)) dL_acts_723 ⟨Nat.le_of_ble_eq_true rfl, Nat.le_of_ble_eq_true rfl⟩) hS (fun r_1 ad1 w1 H locs hq hP hS => ?_)
  obtain ⟨h81, h82⟩ := hq
  cases h81
  subst h82
  obtain ⟨q, hq, eq⟩ := low_lt (y) (k := g.2.1 + 1) (by omega) (by omega)
  refine w_top (v := nI q) eq ?_
  refine lv_istore (lv' := [(12, .int (nI q)), (0, .ref (ad 4 0)), (1, .ref (ad 17 0)), (2, .ref (ad 26 0)), (3, .ref (ad 26 1)), (4, .ref (ad 26 2)), (5, .ref (ad 26 3)), (6, .int x), (7, .int y)]) hx hb dL_acts_726 hl (by decide) rfl (fun ls hl => ?_)
  refine lv_iload hx hb dL_acts_728 (lv_at hl 0 rfl) ?_
  refine lv_aload hx hb dL_acts_730 (lv_at hl 6 rfl) ?_
  refine lv_iconst (v := 1) hx hb dL_acts_732 (by decide) ?_
  refine w_top (v := nI 1) rfl ?_
  refine w_ildN hx hb hC hP (eW_L (show 3 < 4 by decide)) (show 1 < 3 from by omega) (by decide) (v := nI g.2.1) l2 dL_acts_733 ?_
  refine lv_icmp_ne (tgt := 742) hx hb dL_acts_734 (by decide) (fun c_734 => ?_) (fun c_734 => ?_)
  · have hq : q < g.2.1 := by
      have : ¬ q = g.2.1 := fun z => c_734 (by rw [z])
      omega
    refine lv_aload_n hx hb dL_acts_742 rfl (lv_at hl 1 rfl) ?_
    refine lv_iload hx hb dL_acts_743 (lv_at hl 0 rfl) ?_
    refine w_calli (vx_runSW (As := [.ref (ad 4 0), .int (nI q)]) (rest := []) ⟨hx, hb, hml, hown, hts⟩ (c0_L_goesOn l hns D B ad g σ (tW D ad (g, σ) (lW D 4 μ)) 0 hI q hq) (vx_cwSW 2 hts gL_acts_L_goesOn rfl rfl rfl (by decide +kernel) ⟨Nat.le_of_ble_eq_true rfl, Nat.le_of_ble_eq_true rfl⟩) (w_preS hC hP hS) rfl rfl hl.1 rfl (lv_room (Nat.le_of_ble_eq_true rfl)) dL_acts_745 ⟨Nat.le_of_ble_eq_true rfl, Nat.le_of_ble_eq_true rfl⟩) hS (fun r_2 ad1 w1 H locs hq hP hS => ?_)
    obtain ⟨S2, h81, h82, h83⟩ := hq
    cases h82
    cases h81
    subst h83
    refine lv_iconst (v := 1) hx hb dL_acts_748 (by decide) ?_
    refine lv_icmp_ne (tgt := 756) hx hb dL_acts_749 (by decide) (fun c_749 => ?_) (fun c_749 => ?_)
    · have h11 : ¬ σ 11 q 0 = 0 := fun z => c_749 (by rw [z]; rfl)
      refine lv_ldc (v := (-1000003)) hx hb hown (hts (.constant RL 21 (-1000003)) (by decide +kernel)) dL_acts_756 ?_
      refine lv_istore (lv' := [(13, .int (-1000003)), (12, .int (nI q)), (0, .ref (ad 4 0)), (1, .ref (ad 17 0)), (2, .ref (ad 26 0)), (3, .ref (ad 26 1)), (4, .ref (ad 26 2)), (5, .ref (ad 26 3)), (6, .int x), (7, .int y)]) hx hb dL_acts_758 hl (by decide) rfl (fun ls hl => ?_)
      refine lv_iload hx hb dL_acts_760 (lv_at hl 9 rfl) ?_
      refine lv_iconst (v := 5) hx hb dL_acts_762 (by decide) ?_
      refine lv_ishr hx hb dL_acts_763 ?_
      refine lv_iconst (v := 3) hx hb dL_acts_764 (by decide) ?_
      refine w_calli (va_runS (As := [.int (y >>> (5 &&& 31)), .int 3]) (rest := []) ⟨hx, hb, hml, hown, hts⟩ (c_L_low l D B ad (eW D ad (g, σ) (g, σ) (lW D 4 μ)) (y >>> (5 &&& 31)) 3 (by decide)) (va_cwS 2 hts gL_acts_L_low rfl rfl rfl (by decide +kernel) ⟨Nat.le_of_ble_eq_true rfl, Nat.le_of_ble_eq_true rfl⟩) (w_preS hC hP hS) rfl rfl hl.1 rfl (lv_room (Nat.le_of_ble_eq_true rfl)) dL_acts_765 ⟨Nat.le_of_ble_eq_true rfl, Nat.le_of_ble_eq_true rfl⟩) hS (fun r_3 ad1 w1 H locs hq hP hS => ?_)
      obtain ⟨h81, h82⟩ := hq
      cases h81
      subst h82
      refine lv_if_gt (tgt := 822) hx hb dL_acts_768 (by decide) (fun c_768 => ?_) (fun c_768 => ?_)
      · refine lv_iconst (v := 1) hx hb dL_acts_822 (by decide) ?_
        refine lv_goto (tgt := 827) hx hb dL_acts_823 (by decide) ?_
        refine W.widen (k := 60) (n := 700) (Nat.le_of_ble_eq_true rfl) (Nat.le_of_ble_eq_true rfl) ?_
        exact K 827 H locs ls ad g σ μ t N dL_acts_827 hP hS kpA_r J (by omega) (by omega)
      · refine lv_aload_n hx hb dL_acts_771 rfl (lv_at hl 2 rfl) ?_
        refine lv_iload hx hb dL_acts_772 (lv_at hl 1 rfl) ?_
        refine w_calli (vx_runSW (As := [.ref (ad 4 0), .int (nI q)]) (rest := []) ⟨hx, hb, hml, hown, hts⟩ (c_L_end l hns D B ad g σ (tW D ad (g, σ) (lW D 4 μ)) 0 hI (nI q)) (vx_cwSW 2 hts gL_acts_L_end rfl rfl rfl (by decide +kernel) ⟨Nat.le_of_ble_eq_true rfl, Nat.le_of_ble_eq_true rfl⟩) (w_preS hC hP hS) rfl rfl hl.1 rfl (lv_room (Nat.le_of_ble_eq_true rfl)) dL_acts_774 ⟨Nat.le_of_ble_eq_true rfl, Nat.le_of_ble_eq_true rfl⟩) hS (fun r_4 ad1 w1 H locs hq hP hS => ?_)
        obtain ⟨S2, h81, h82, h83⟩ := hq
        obtain ⟨h84, h85⟩ := h83 (ne_2 (ed_2 g30 hq h11))
        cases h84
        cases h81
        subst h85
        refine w_top (v := (-1000003)) (en_2 (ed_2 g30 hq h11)) ?_
        refine lv_iload hx hb dL_acts_777 (lv_at hl 0 rfl) ?_
        refine lv_icmp_ne (tgt := 826) hx hb dL_acts_779 (by decide) (fun c_779 => ?_) (fun c_779 => ?_)
        · exact absurd c_779 (by decide)
        · refine lv_aload_n hx hb dL_acts_782 rfl (lv_at hl 3 rfl) ?_
          refine lv_iload hx hb dL_acts_783 (lv_at hl 1 rfl) ?_
          refine w_calli (vx_runSW (As := [.ref (ad 17 0), .int (nI q)]) (rest := []) ⟨hx, hb, hml, hown, hts⟩ (t_L_end l hns D B ad g σ (g, σ) (lW D 4 μ) hI (nI q)) (vx_cwSW 2 hts gL_acts_L_end rfl rfl rfl (by decide +kernel) ⟨Nat.le_of_ble_eq_true rfl, Nat.le_of_ble_eq_true rfl⟩) (w_preS hC hP hS) rfl rfl hl.1 rfl (lv_room (Nat.le_of_ble_eq_true rfl)) dL_acts_785 ⟨Nat.le_of_ble_eq_true rfl, Nat.le_of_ble_eq_true rfl⟩) hS (fun r_5 ad1 w1 H locs hq hP hS => ?_)
          obtain ⟨S2, h81, h82, h83⟩ := hq
          obtain ⟨h84, h85⟩ := h83 (ne_2 (ed_2 g30 hq h11))
          cases h84
          cases h81
          subst h85
          refine w_top (v := (-1000003)) (en_2 (ed_2 g30 hq h11)) ?_
          refine lv_iload hx hb dL_acts_788 (lv_at hl 0 rfl) ?_
          refine lv_icmp_ne (tgt := 826) hx hb dL_acts_790 (by decide) (fun c_790 => ?_) (fun c_790 => ?_)
          · exact absurd c_790 (by decide)
          · refine lv_iload hx hb dL_acts_793 (lv_at hl 1 rfl) ?_
            refine lv_aload hx hb dL_acts_795 (lv_at hl 7 rfl) ?_
            refine lv_iconst (v := 1) hx hb dL_acts_797 (by decide) ?_
            refine w_top (v := nI 1) rfl ?_
            refine w_ildN hx hb hC hP (eW_L (show 3 < 4 by decide)) (show 1 < 3 from by omega) (by decide) (v := nI g.2.1) l2 dL_acts_798 ?_
            refine lv_icmp_eq (tgt := 822) hx hb dL_acts_799 (by decide) (fun c_799 => ?_) (fun c_799 => ?_)
            · exact absurd (nI_inj (by omega) (by omega) c_799) (by omega)
            · refine lv_aload_n hx hb dL_acts_802 rfl (lv_at hl 2 rfl) ?_
              refine lv_iload hx hb dL_acts_803 (lv_at hl 1 rfl) ?_
              refine w_calli (vx_runSW (As := [.ref (ad 4 0), .int (nI q)]) (rest := []) ⟨hx, hb, hml, hown, hts⟩ (c_L_end l hns D B ad g σ (tW D ad (g, σ) (lW D 4 μ)) 0 hI (nI q)) (vx_cwSW 2 hts gL_acts_L_end rfl rfl rfl (by decide +kernel) ⟨Nat.le_of_ble_eq_true rfl, Nat.le_of_ble_eq_true rfl⟩) (w_preS hC hP hS) rfl rfl hl.1 rfl (lv_room (Nat.le_of_ble_eq_true rfl)) dL_acts_805 ⟨Nat.le_of_ble_eq_true rfl, Nat.le_of_ble_eq_true rfl⟩) hS (fun r_6 ad1 w1 H locs hq hP hS => ?_)
              obtain ⟨S2, h81, h82, h83⟩ := hq
              obtain ⟨h84, h85⟩ := h83 (ne_2 (ed_2 g30 hq h11))
              cases h84
              cases h81
              subst h85
              refine w_top (v := (-1000003)) (en_2 (ed_2 g30 hq h11)) ?_
              refine lv_ldc (v := (-1000003)) hx hb hown (hts (.constant RL 21 (-1000003)) (by decide +kernel)) dL_acts_808 ?_
              refine lv_icmp_ne (tgt := 826) hx hb dL_acts_810 (by decide) (fun c_810 => ?_) (fun c_810 => ?_)
              · exact absurd c_810 (by decide)
              · refine lv_aload_n hx hb dL_acts_813 rfl (lv_at hl 2 rfl) ?_
                refine lv_iload hx hb dL_acts_814 (lv_at hl 1 rfl) ?_
                refine w_calli (vx_runSW (As := [.ref (ad 4 0), .int (nI q)]) (rest := []) ⟨hx, hb, hml, hown, hts⟩ (c0_L_goesOn l hns D B ad g σ (tW D ad (g, σ) (lW D 4 μ)) 0 hI q hq) (vx_cwSW 2 hts gL_acts_L_goesOn rfl rfl rfl (by decide +kernel) ⟨Nat.le_of_ble_eq_true rfl, Nat.le_of_ble_eq_true rfl⟩) (w_preS hC hP hS) rfl rfl hl.1 rfl (lv_room (Nat.le_of_ble_eq_true rfl)) dL_acts_816 ⟨Nat.le_of_ble_eq_true rfl, Nat.le_of_ble_eq_true rfl⟩) hS (fun r_7 ad1 w1 H locs hq hP hS => ?_)
                obtain ⟨S2, h81, h82, h83⟩ := hq
                cases h82
                cases h81
                subst h83
                refine lv_if_ne (tgt := 826) hx hb dL_acts_819 (by decide) (fun c_819 => ?_) (fun c_819 => ?_)
                · exact absurd (by rcases (hI.2.2.2.2.1 q hq).1 with z | z; exact absurd z h11; rw [z]; decide) c_819
                · refine lv_iconst (v := 1) hx hb dL_acts_822 (by decide) ?_
                  refine lv_goto (tgt := 827) hx hb dL_acts_823 (by decide) ?_
                  refine W.widen (k := 60) (n := 700) (Nat.le_of_ble_eq_true rfl) (Nat.le_of_ble_eq_true rfl) ?_
                  exact K 827 H locs ls ad g σ μ t N dL_acts_827 hP hS kpA_r J (by omega) (by omega)
    · have h11 : σ 11 q 0 = 0 := by
        rcases (hI.2.2.2.2.1 q hq).1 with z | z
        · exact z
        · rw [z] at c_749; exact absurd c_749 (by decide)
      have J2 := Jt_end J hq
      have hI2 := Jt_I J2
      refine lv_iconst (v := 0) hx hb dL_acts_752 (by decide) ?_
      refine lv_goto (tgt := 758) hx hb dL_acts_753 (by decide) ?_
      refine lv_istore (lv' := [(13, .int 0), (12, .int (nI q)), (0, .ref (ad 4 0)), (1, .ref (ad 17 0)), (2, .ref (ad 26 0)), (3, .ref (ad 26 1)), (4, .ref (ad 26 2)), (5, .ref (ad 26 3)), (6, .int x), (7, .int y)]) hx hb dL_acts_758 hl (by decide) rfl (fun ls hl => ?_)
      refine lv_iload hx hb dL_acts_760 (lv_at hl 9 rfl) ?_
      refine lv_iconst (v := 5) hx hb dL_acts_762 (by decide) ?_
      refine lv_ishr hx hb dL_acts_763 ?_
      refine lv_iconst (v := 3) hx hb dL_acts_764 (by decide) ?_
      refine w_calli (va_runS (As := [.int (y >>> (5 &&& 31)), .int 3]) (rest := []) ⟨hx, hb, hml, hown, hts⟩ (c_L_low l D B ad (eW D ad (g, σ) (g, σ) (lW D 4 μ)) (y >>> (5 &&& 31)) 3 (by decide)) (va_cwS 2 hts gL_acts_L_low rfl rfl rfl (by decide +kernel) ⟨Nat.le_of_ble_eq_true rfl, Nat.le_of_ble_eq_true rfl⟩) (w_preS hC hP hS) rfl rfl hl.1 rfl (lv_room (Nat.le_of_ble_eq_true rfl)) dL_acts_765 ⟨Nat.le_of_ble_eq_true rfl, Nat.le_of_ble_eq_true rfl⟩) hS (fun r_8 ad1 w1 H locs hq hP hS => ?_)
      obtain ⟨h81, h82⟩ := hq
      cases h81
      subst h82
      refine lv_if_gt (tgt := 822) hx hb dL_acts_768 (by decide) (fun c_768 => ?_) (fun c_768 => ?_)
      · refine lv_iconst (v := 1) hx hb dL_acts_822 (by decide) ?_
        refine lv_goto (tgt := 827) hx hb dL_acts_823 (by decide) ?_
        refine W.widen (k := 60) (n := 700) (Nat.le_of_ble_eq_true rfl) (Nat.le_of_ble_eq_true rfl) ?_
        exact K 827 H locs ls ad g σ μ t N dL_acts_827 hP hS kpA_r J (by omega) (by omega)
      · refine lv_aload_n hx hb dL_acts_771 rfl (lv_at hl 2 rfl) ?_
        refine lv_iload hx hb dL_acts_772 (lv_at hl 1 rfl) ?_
        refine w_calli (vx_runSW (As := [.ref (ad 4 0), .int (nI q)]) (rest := []) ⟨hx, hb, hml, hown, hts⟩ (c_L_end l hns D B ad g σ (tW D ad (g, σ) (lW D 4 μ)) 0 hI (nI q)) (vx_cwSW 2 hts gL_acts_L_end rfl rfl rfl (by decide +kernel) ⟨Nat.le_of_ble_eq_true rfl, Nat.le_of_ble_eq_true rfl⟩) (w_preS hC hP hS) rfl rfl hl.1 rfl (lv_room (Nat.le_of_ble_eq_true rfl)) dL_acts_774 ⟨Nat.le_of_ble_eq_true rfl, Nat.le_of_ble_eq_true rfl⟩) hS (fun r_9 ad1 w1 H locs hq hP hS => ?_)
        obtain ⟨S2, h81, h82, h83⟩ := hq
        obtain ⟨h84, h85⟩ := h82 (ed_0 g30 hq h11)
        rw [nOf_N (n := q) (by omega)] at h84
        cases h84
        cases h81
        subst h85
        refine lv_iload hx hb dL_acts_777 (lv_at hl 0 rfl) ?_
        refine lv_icmp_ne (tgt := 826) hx hb dL_acts_779 (by decide) (fun c_779 => ?_) (fun c_779 => ?_)
        · exact absurd c_779 (by decide)
        · refine lv_aload_n hx hb dL_acts_782 rfl (lv_at hl 3 rfl) ?_
          refine lv_iload hx hb dL_acts_783 (lv_at hl 1 rfl) ?_
          refine w_calli (vx_runSW (As := [.ref (ad 17 0), .int (nI q)]) (rest := []) ⟨hx, hb, hml, hown, hts⟩ (t_L_end l hns D B ad g σ (g, st3 σ 11 q 0 1) (lW D 4 μ) hI (nI q)) (vx_cwSW 2 hts gL_acts_L_end rfl rfl rfl (by decide +kernel) ⟨Nat.le_of_ble_eq_true rfl, Nat.le_of_ble_eq_true rfl⟩) (w_preS hC hP hS) rfl rfl hl.1 rfl (lv_room (Nat.le_of_ble_eq_true rfl)) dL_acts_785 ⟨Nat.le_of_ble_eq_true rfl, Nat.le_of_ble_eq_true rfl⟩) hS (fun r_10 ad1 w1 H locs hq hP hS => ?_)
          obtain ⟨S2, h81, h82, h83⟩ := hq
          obtain ⟨h84, h85⟩ := h82 (ed_0 g30 hq h11)
          rw [nOf_N (n := q) (by omega)] at h84
          cases h84
          cases h81
          subst h85
          refine lv_iload hx hb dL_acts_788 (lv_at hl 0 rfl) ?_
          refine lv_icmp_ne (tgt := 826) hx hb dL_acts_790 (by decide) (fun c_790 => ?_) (fun c_790 => ?_)
          · exact absurd c_790 (by decide)
          · refine lv_iload hx hb dL_acts_793 (lv_at hl 1 rfl) ?_
            refine lv_aload hx hb dL_acts_795 (lv_at hl 7 rfl) ?_
            refine lv_iconst (v := 1) hx hb dL_acts_797 (by decide) ?_
            refine w_top (v := nI 1) rfl ?_
            refine w_ildN hx hb hC hP (eW_L (show 3 < 4 by decide)) (show 1 < 3 from by omega) (by decide) (v := nI g.2.1) l2 dL_acts_798 ?_
            refine lv_icmp_eq (tgt := 822) hx hb dL_acts_799 (by decide) (fun c_799 => ?_) (fun c_799 => ?_)
            · exact absurd (nI_inj (by omega) (by omega) c_799) (by omega)
            · refine lv_aload_n hx hb dL_acts_802 rfl (lv_at hl 2 rfl) ?_
              refine lv_iload hx hb dL_acts_803 (lv_at hl 1 rfl) ?_
              refine w_calli (vx_runSW (As := [.ref (ad 4 0), .int (nI q)]) (rest := []) ⟨hx, hb, hml, hown, hts⟩ (c_L_end l hns D B ad g (st3 σ 11 q 0 1) (tW D ad (g, st3 σ 11 q 0 1) (lW D 4 μ)) 0 hI2 (nI q)) (vx_cwSW 2 hts gL_acts_L_end rfl rfl rfl (by decide +kernel) ⟨Nat.le_of_ble_eq_true rfl, Nat.le_of_ble_eq_true rfl⟩) (w_preS hC hP hS) rfl rfl hl.1 rfl (lv_room (Nat.le_of_ble_eq_true rfl)) dL_acts_805 ⟨Nat.le_of_ble_eq_true rfl, Nat.le_of_ble_eq_true rfl⟩) hS (fun r_11 ad1 w1 H locs hq hP hS => ?_)
              obtain ⟨S2, h81, h82, h83⟩ := hq
              obtain ⟨h84, h85⟩ := h83 (ne_2 (ed_2 g30 hq (by rw [st3_v]; decide)))
              cases h84
              cases h81
              subst h85
              refine w_top (v := (-1000003)) (en_2 (ed_2 g30 hq (by rw [st3_v]; decide))) ?_
              refine lv_ldc (v := (-1000003)) hx hb hown (hts (.constant RL 21 (-1000003)) (by decide +kernel)) dL_acts_808 ?_
              refine lv_icmp_ne (tgt := 826) hx hb dL_acts_810 (by decide) (fun c_810 => ?_) (fun c_810 => ?_)
              · exact absurd c_810 (by decide)
              · refine lv_aload_n hx hb dL_acts_813 rfl (lv_at hl 2 rfl) ?_
                refine lv_iload hx hb dL_acts_814 (lv_at hl 1 rfl) ?_
                refine w_calli (vx_runSW (As := [.ref (ad 4 0), .int (nI q)]) (rest := []) ⟨hx, hb, hml, hown, hts⟩ (c0_L_goesOn l hns D B ad g (st3 σ 11 q 0 1) (tW D ad (g, st3 σ 11 q 0 1) (lW D 4 μ)) 0 hI2 q hq) (vx_cwSW 2 hts gL_acts_L_goesOn rfl rfl rfl (by decide +kernel) ⟨Nat.le_of_ble_eq_true rfl, Nat.le_of_ble_eq_true rfl⟩) (w_preS hC hP hS) rfl rfl hl.1 rfl (lv_room (Nat.le_of_ble_eq_true rfl)) dL_acts_816 ⟨Nat.le_of_ble_eq_true rfl, Nat.le_of_ble_eq_true rfl⟩) hS (fun r_12 ad1 w1 H locs hq hP hS => ?_)
                obtain ⟨S2, h81, h82, h83⟩ := hq
                cases h82
                cases h81
                subst h83
                refine lv_if_ne (tgt := 826) hx hb dL_acts_819 (by decide) (fun c_819 => ?_) (fun c_819 => ?_)
                · exact absurd (by rw [st3_v]; decide) c_819
                · refine lv_iconst (v := 1) hx hb dL_acts_822 (by decide) ?_
                  refine lv_goto (tgt := 827) hx hb dL_acts_823 (by decide) ?_
                  refine W.widen (k := 60) (n := 700) (Nat.le_of_ble_eq_true rfl) (Nat.le_of_ble_eq_true rfl) ?_
                  exact K 827 H locs ls ad g (st3 σ 11 q 0 1) μ t N dL_acts_827 hP hS kpA_r J2 (by omega) (by omega)
  · have hqe : q = g.2.1 := nI_inj (by omega) (by omega) c_734
    have hno : ¬ isN g.2.1 (nI q) := by rw [hqe]; exact no_self (by omega)
    refine lv_ldc (v := (-1000001)) hx hb hown (hts (.constant RL 32 (-1000001)) (by decide +kernel)) dL_acts_737 ?_
    refine lv_goto (tgt := 758) hx hb dL_acts_739 (by decide) ?_
    refine lv_istore (lv' := [(13, .int (-1000001)), (12, .int (nI q)), (0, .ref (ad 4 0)), (1, .ref (ad 17 0)), (2, .ref (ad 26 0)), (3, .ref (ad 26 1)), (4, .ref (ad 26 2)), (5, .ref (ad 26 3)), (6, .int x), (7, .int y)]) hx hb dL_acts_758 hl (by decide) rfl (fun ls hl => ?_)
    refine lv_iload hx hb dL_acts_760 (lv_at hl 9 rfl) ?_
    refine lv_iconst (v := 5) hx hb dL_acts_762 (by decide) ?_
    refine lv_ishr hx hb dL_acts_763 ?_
    refine lv_iconst (v := 3) hx hb dL_acts_764 (by decide) ?_
    refine w_calli (va_runS (As := [.int (y >>> (5 &&& 31)), .int 3]) (rest := []) ⟨hx, hb, hml, hown, hts⟩ (c_L_low l D B ad (eW D ad (g, σ) (g, σ) (lW D 4 μ)) (y >>> (5 &&& 31)) 3 (by decide)) (va_cwS 2 hts gL_acts_L_low rfl rfl rfl (by decide +kernel) ⟨Nat.le_of_ble_eq_true rfl, Nat.le_of_ble_eq_true rfl⟩) (w_preS hC hP hS) rfl rfl hl.1 rfl (lv_room (Nat.le_of_ble_eq_true rfl)) dL_acts_765 ⟨Nat.le_of_ble_eq_true rfl, Nat.le_of_ble_eq_true rfl⟩) hS (fun r_13 ad1 w1 H locs hq hP hS => ?_)
    obtain ⟨h81, h82⟩ := hq
    cases h81
    subst h82
    refine lv_if_gt (tgt := 822) hx hb dL_acts_768 (by decide) (fun c_768 => ?_) (fun c_768 => ?_)
    · refine lv_iconst (v := 1) hx hb dL_acts_822 (by decide) ?_
      refine lv_goto (tgt := 827) hx hb dL_acts_823 (by decide) ?_
      refine W.widen (k := 60) (n := 700) (Nat.le_of_ble_eq_true rfl) (Nat.le_of_ble_eq_true rfl) ?_
      exact K 827 H locs ls ad g σ μ t N dL_acts_827 hP hS kpA_r J (by omega) (by omega)
    · refine lv_aload_n hx hb dL_acts_771 rfl (lv_at hl 2 rfl) ?_
      refine lv_iload hx hb dL_acts_772 (lv_at hl 1 rfl) ?_
      refine w_calli (vx_runSW (As := [.ref (ad 4 0), .int (nI q)]) (rest := []) ⟨hx, hb, hml, hown, hts⟩ (c_L_end l hns D B ad g σ (tW D ad (g, σ) (lW D 4 μ)) 0 hI (nI q)) (vx_cwSW 2 hts gL_acts_L_end rfl rfl rfl (by decide +kernel) ⟨Nat.le_of_ble_eq_true rfl, Nat.le_of_ble_eq_true rfl⟩) (w_preS hC hP hS) rfl rfl hl.1 rfl (lv_room (Nat.le_of_ble_eq_true rfl)) dL_acts_774 ⟨Nat.le_of_ble_eq_true rfl, Nat.le_of_ble_eq_true rfl⟩) hS (fun r_14 ad1 w1 H locs hq hP hS => ?_)
      obtain ⟨S2, h81, h82, h83⟩ := hq
      obtain ⟨h84, h85⟩ := h83 (ne_1 (ed_1 hno))
      cases h84
      cases h81
      subst h85
      refine w_top (v := (-1000001)) (en_1 (ed_1 hno)) ?_
      refine lv_iload hx hb dL_acts_777 (lv_at hl 0 rfl) ?_
      refine lv_icmp_ne (tgt := 826) hx hb dL_acts_779 (by decide) (fun c_779 => ?_) (fun c_779 => ?_)
      · exact absurd c_779 (by decide)
      · refine lv_aload_n hx hb dL_acts_782 rfl (lv_at hl 3 rfl) ?_
        refine lv_iload hx hb dL_acts_783 (lv_at hl 1 rfl) ?_
        refine w_calli (vx_runSW (As := [.ref (ad 17 0), .int (nI q)]) (rest := []) ⟨hx, hb, hml, hown, hts⟩ (t_L_end l hns D B ad g σ (g, σ) (lW D 4 μ) hI (nI q)) (vx_cwSW 2 hts gL_acts_L_end rfl rfl rfl (by decide +kernel) ⟨Nat.le_of_ble_eq_true rfl, Nat.le_of_ble_eq_true rfl⟩) (w_preS hC hP hS) rfl rfl hl.1 rfl (lv_room (Nat.le_of_ble_eq_true rfl)) dL_acts_785 ⟨Nat.le_of_ble_eq_true rfl, Nat.le_of_ble_eq_true rfl⟩) hS (fun r_15 ad1 w1 H locs hq hP hS => ?_)
        obtain ⟨S2, h81, h82, h83⟩ := hq
        obtain ⟨h84, h85⟩ := h83 (ne_1 (ed_1 hno))
        cases h84
        cases h81
        subst h85
        refine w_top (v := (-1000001)) (en_1 (ed_1 hno)) ?_
        refine lv_iload hx hb dL_acts_788 (lv_at hl 0 rfl) ?_
        refine lv_icmp_ne (tgt := 826) hx hb dL_acts_790 (by decide) (fun c_790 => ?_) (fun c_790 => ?_)
        · exact absurd c_790 (by decide)
        · refine lv_iload hx hb dL_acts_793 (lv_at hl 1 rfl) ?_
          refine lv_aload hx hb dL_acts_795 (lv_at hl 7 rfl) ?_
          refine lv_iconst (v := 1) hx hb dL_acts_797 (by decide) ?_
          refine w_top (v := nI 1) rfl ?_
          refine w_ildN hx hb hC hP (eW_L (show 3 < 4 by decide)) (show 1 < 3 from by omega) (by decide) (v := nI g.2.1) l2 dL_acts_798 ?_
          refine lv_icmp_eq (tgt := 822) hx hb dL_acts_799 (by decide) (fun c_799 => ?_) (fun c_799 => ?_)
          · refine lv_iconst (v := 1) hx hb dL_acts_822 (by decide) ?_
            refine lv_goto (tgt := 827) hx hb dL_acts_823 (by decide) ?_
            refine W.widen (k := 60) (n := 700) (Nat.le_of_ble_eq_true rfl) (Nat.le_of_ble_eq_true rfl) ?_
            exact K 827 H locs ls ad g σ μ t N dL_acts_827 hP hS kpA_r J (by omega) (by omega)
          · exact absurd (by rw [hqe]) c_799
