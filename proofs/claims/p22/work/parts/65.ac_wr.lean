/-! p22: acts: a write -/
set_option maxHeartbeats 4000000 in
set_option maxRecDepth 100000 in
theorem ac_wr {p : Program} {l : Launch} {e : Env} {s : State} {m : MethodId} {args : Array Value} {below : List Frame} {meth : Method} {c : Code} {D : va_G} {B : Nat} (A : AcA p l s m args c D B) {Q : State → Prop} {ad : Ad} {g : GC} {σ μ : Me} {t N : Nat} (J : Jt t N g σ μ) (hN : N + 4001 < 900000) (ht : t + 200 ≤ 900000) {x y : Int32} {v b kd : Int32} {k : Nat} (hk : k < g.1) (hv : okV σ k v) (hb9 : ¬ b = 0 ∨ σ 1 k 0 = 1) {H : Heap} {locs : List Loc} {ls : Array Slot} (hP : hw D B ad (eW D ad (g, σ) (g, σ) (lW D 4 μ)) H) (hS : va_S (ab B) s.heap H locs) (hl : lv_has ls 20 [(11, .int v), (10, .int b), (9, .int (nI k)), (8, .int kd), (0, .ref (ad 4 0)), (1, .ref (ad 17 0)), (2, .ref (ad 26 0)), (3, .ref (ad 26 1)), (4, .ref (ad 26 2)), (5, .ref (ad 26 3)), (6, .int x), (7, .int y)]) (K : AcK p l e s m args below meth c D B ad t N Q) : W p l e (headSpec wsL_acts rmA).room s m args below meth c H locs 0 0 Q (F0 m 370 ls []) := by
  obtain ⟨hns, hx, hb, hml, hown, hts, hC⟩ := A
  have hI := Jt_I J
  have g16 := hI.1
  refine lv_iconst (v := 1) hx hb dL_acts_370 (by decide) ?_
  refine lv_iload hx hb dL_acts_371 (lv_at hl 11 rfl) ?_
  refine lv_bipush (v := (14)) hx hb dL_acts_373 (by decide) ?_
  refine lv_ishr hx hb dL_acts_375 ?_
  refine lv_bipush (v := (16)) hx hb dL_acts_376 (by decide) ?_
  refine w_calli (va_runS (As := [.int (y >>> (14 &&& 31)), .int 16]) (rest := [.int 1]) ⟨hx, hb, hml, hown, hts⟩ (c_L_low l D B ad (eW D ad (g, σ) (g, σ) (lW D 4 μ)) (y >>> (14 &&& 31)) 16 (by decide)) (va_cwS 2 hts gL_acts_L_low rfl rfl rfl (by decide +kernel) ⟨Nat.le_of_ble_eq_true rfl, Nat.le_of_ble_eq_true rfl⟩) (w_preS hC hP hS) rfl rfl hl.1 rfl (lv_room (Nat.le_of_ble_eq_true rfl)) dL_acts_378 ⟨Nat.le_of_ble_eq_true rfl, Nat.le_of_ble_eq_true rfl⟩) hS (fun r_1 ad1 w1 H locs hq hP hS => ?_)
  obtain ⟨h81, h82⟩ := hq
  cases h81
  subst h82
  obtain ⟨i1, hi1, ei1⟩ := low_lt (y >>> (14 &&& 31)) (k := 16) (by omega) (by omega)
  refine w_top (v := nI i1) ei1 ?_
  refine lv_iadd hx hb dL_acts_381 ?_
  refine w_top (v := nI (1 + i1)) (nI_add 1 i1) ?_
  refine lv_istore (lv' := [(12, .int (nI (1 + i1))), (11, .int v), (10, .int b), (9, .int (nI k)), (8, .int kd), (0, .ref (ad 4 0)), (1, .ref (ad 17 0)), (2, .ref (ad 26 0)), (3, .ref (ad 26 1)), (4, .ref (ad 26 2)), (5, .ref (ad 26 3)), (6, .int x), (7, .int y)]) hx hb dL_acts_382 hl (by decide) rfl (fun ls hl => ?_)
  refine lv_aload_n hx hb dL_acts_384 rfl (lv_at hl 5 rfl) ?_
  refine lv_aload_n hx hb dL_acts_385 rfl (lv_at hl 6 rfl) ?_
  refine lv_aload hx hb dL_acts_386 (lv_at hl 9 rfl) ?_
  refine lv_aload hx hb dL_acts_388 (lv_at hl 10 rfl) ?_
  refine lv_iload hx hb dL_acts_390 (lv_at hl 3 rfl) ?_
  refine lv_iload hx hb dL_acts_392 (lv_at hl 0 rfl) ?_
  refine lv_iload hx hb dL_acts_394 (lv_at hl 1 rfl) ?_
  refine w_calli (va_runS (As := [.ref (ad 4 0), .ref (ad 17 0), .ref (ad 26 2), .ref (ad 26 3), .int (nI k), .int (nI (1 + i1)), .int v]) (rest := []) ⟨hx, hb, hml, hown, hts⟩ (c_L_writes l hns D B ad g σ μ t N J (by omega) k (1 + i1) v hk (by omega) (by omega) hv) (va_cwS 7 hts gL_acts_L_writes rfl rfl rfl (by decide +kernel) ⟨Nat.le_of_ble_eq_true rfl, Nat.le_of_ble_eq_true rfl⟩) (w_preS hC hP hS) rfl rfl hl.1 rfl (lv_room (Nat.le_of_ble_eq_true rfl)) dL_acts_396 ⟨Nat.le_of_ble_eq_true rfl, Nat.le_of_ble_eq_true rfl⟩) hS (fun r_2 ad1 w1 H locs hq hP hS => ?_)
  obtain ⟨h81, σ9, μ9, h82, J9, e19⟩ := hq
  cases h82
  subst h81
  have hI9 := Jt_I J9
  obtain ⟨l1, -⟩ := J9.2.2.2.2.2.1
  refine lv_if_eq (tgt := 459) hx hb dL_acts_399 (by decide) (fun c_399 => ?_) (fun c_399 => ?_)
  · exact absurd c_399 (by decide)
  · refine lv_aload_n hx hb dL_acts_402 rfl (lv_at hl 5 rfl) ?_
    refine lv_iload hx hb dL_acts_403 (lv_at hl 3 rfl) ?_
    refine lv_bipush (v := (17)) hx hb dL_acts_405 (by decide) ?_
    refine lv_iconst (v := 0) hx hb dL_acts_407 (by decide) ?_
    refine w_calli (vx_runSW (As := [.ref (ad 4 0), .int (nI k), .int 17, .int 0]) (rest := []) ⟨hx, hb, hml, hown, hts⟩ (c_L_write l hns D B ad g σ9 (tW D ad (g, σ9) (lW D 4 μ9)) 0 hI9 (nI k) 17 0) (vx_cwSW 4 hts gL_acts_L_write rfl rfl rfl (by decide +kernel) ⟨Nat.le_of_ble_eq_true rfl, Nat.le_of_ble_eq_true rfl⟩) (w_preS hC hP hS) rfl rfl hl.1 rfl (lv_room (Nat.le_of_ble_eq_true rfl)) dL_acts_408 ⟨Nat.le_of_ble_eq_true rfl, Nat.le_of_ble_eq_true rfl⟩) hS (fun r_3 ad1 w1 H locs hq hP hS => ?_)
    obtain ⟨S2, h81, -, h83⟩ := hq
    obtain ⟨h84, h85⟩ := h83 (ne_2 (wq_2 g16 hk (fun z => absurd z.1.2 (by decide))))
    cases h84
    cases h81
    subst h85
    refine w_top (v := (-1000002)) (en_2 (wq_2 g16 hk (fun z => absurd z.1.2 (by decide)))) ?_
    refine lv_ldc (v := (-1000002)) hx hb hown (hts (.constant RL 18 (-1000002)) (by decide +kernel)) dL_acts_411 ?_
    refine lv_icmp_ne (tgt := 459) hx hb dL_acts_413 (by decide) (fun c_413 => ?_) (fun c_413 => ?_)
    · exact absurd c_413 (by decide)
    · refine lv_aload_n hx hb dL_acts_416 rfl (lv_at hl 5 rfl) ?_
      refine lv_iload hx hb dL_acts_417 (lv_at hl 3 rfl) ?_
      refine lv_iconst (v := 1) hx hb dL_acts_419 (by decide) ?_
      refine lv_iload hx hb dL_acts_420 (lv_at hl 2 rfl) ?_
      refine lv_if_eq (tgt := 431) hx hb dL_acts_422 (by decide) (fun c_422 => ?_) (fun c_422 => ?_)
      · have h1s : σ9 1 k 0 = 1 := by rw [e19]; exact hb9.resolve_left (fun z => z c_422)
        refine lv_iconst (v := 2) hx hb dL_acts_431 (by decide) ?_
        refine w_calli (vx_runSW (As := [.ref (ad 4 0), .int (nI k), .int 1, .int 2]) (rest := []) ⟨hx, hb, hml, hown, hts⟩ (c_L_write l hns D B ad g σ9 (tW D ad (g, σ9) (lW D 4 μ9)) 0 hI9 (nI k) 1 2) (vx_cwSW 4 hts gL_acts_L_write rfl rfl rfl (by decide +kernel) ⟨Nat.le_of_ble_eq_true rfl, Nat.le_of_ble_eq_true rfl⟩) (w_preS hC hP hS) rfl rfl hl.1 rfl (lv_room (Nat.le_of_ble_eq_true rfl)) dL_acts_432 ⟨Nat.le_of_ble_eq_true rfl, Nat.le_of_ble_eq_true rfl⟩) hS (fun r_4 ad1 w1 H locs hq hP hS => ?_)
        obtain ⟨S2, h81, -, h83⟩ := hq
        obtain ⟨h84, h85⟩ := h83 (ne_2 (wq_2 g16 hk (fun z => no_2 h1s z.2)))
        cases h84
        cases h81
        subst h85
        refine w_top (v := (-1000002)) (en_2 (wq_2 g16 hk (fun z => no_2 h1s z.2))) ?_
        refine lv_ldc (v := (-1000002)) hx hb hown (hts (.constant RL 18 (-1000002)) (by decide +kernel)) dL_acts_435 ?_
        refine lv_icmp_ne (tgt := 459) hx hb dL_acts_437 (by decide) (fun c_437 => ?_) (fun c_437 => ?_)
        · exact absurd c_437 (by decide)
        · refine lv_aload_n hx hb dL_acts_440 rfl (lv_at hl 5 rfl) ?_
          refine lv_aload hx hb dL_acts_441 (lv_at hl 10 rfl) ?_
          refine lv_iconst (v := 0) hx hb dL_acts_443 (by decide) ?_
          refine w_top (v := nI 0) rfl ?_
          refine w_ildN hx hb hC hP (eW_L (show 3 < 4 by decide)) (show 0 < 3 from by omega) (by decide) (v := nI g.1) l1 dL_acts_444 ?_
          refine lv_iconst (v := 0) hx hb dL_acts_445 (by decide) ?_
          refine lv_iconst (v := 0) hx hb dL_acts_446 (by decide) ?_
          refine w_calli (vx_runSW (As := [.ref (ad 4 0), .int (nI g.1), .int 0, .int 0]) (rest := []) ⟨hx, hb, hml, hown, hts⟩ (c_L_write l hns D B ad g σ9 (tW D ad (g, σ9) (lW D 4 μ9)) 0 hI9 (nI g.1) 0 0) (vx_cwSW 4 hts gL_acts_L_write rfl rfl rfl (by decide +kernel) ⟨Nat.le_of_ble_eq_true rfl, Nat.le_of_ble_eq_true rfl⟩) (w_preS hC hP hS) rfl rfl hl.1 rfl (lv_room (Nat.le_of_ble_eq_true rfl)) dL_acts_447 ⟨Nat.le_of_ble_eq_true rfl, Nat.le_of_ble_eq_true rfl⟩) hS (fun r_5 ad1 w1 H locs hq hP hS => ?_)
          obtain ⟨S2, h81, -, h83⟩ := hq
          obtain ⟨h84, h85⟩ := h83 (ne_1 (wq_1 (no_self (by omega))))
          cases h84
          cases h81
          subst h85
          refine w_top (v := (-1000001)) (en_1 (wq_1 (no_self (by omega)))) ?_
          refine lv_ldc (v := (-1000001)) hx hb hown (hts (.constant RL 32 (-1000001)) (by decide +kernel)) dL_acts_450 ?_
          refine lv_icmp_ne (tgt := 459) hx hb dL_acts_452 (by decide) (fun c_452 => ?_) (fun c_452 => ?_)
          · exact absurd c_452 (by decide)
          · refine lv_iconst (v := 1) hx hb dL_acts_455 (by decide) ?_
            refine lv_goto (tgt := 460) hx hb dL_acts_456 (by decide) ?_
            refine W.widen (k := 60) (n := 700) (Nat.le_of_ble_eq_true rfl) (Nat.le_of_ble_eq_true rfl) ?_
            exact K 460 H locs ls ad g σ9 μ9 t (N + 1) dL_acts_460 hP hS kpA_r J9 (by omega) (by omega)
      · refine lv_sipush (v := (1001)) hx hb dL_acts_425 (by decide) ?_
        refine lv_goto (tgt := 432) hx hb dL_acts_428 (by decide) ?_
        refine w_calli (vx_runSW (As := [.ref (ad 4 0), .int (nI k), .int 1, .int 1001]) (rest := []) ⟨hx, hb, hml, hown, hts⟩ (c_L_write l hns D B ad g σ9 (tW D ad (g, σ9) (lW D 4 μ9)) 0 hI9 (nI k) 1 1001) (vx_cwSW 4 hts gL_acts_L_write rfl rfl rfl (by decide +kernel) ⟨Nat.le_of_ble_eq_true rfl, Nat.le_of_ble_eq_true rfl⟩) (w_preS hC hP hS) rfl rfl hl.1 rfl (lv_room (Nat.le_of_ble_eq_true rfl)) dL_acts_432 ⟨Nat.le_of_ble_eq_true rfl, Nat.le_of_ble_eq_true rfl⟩) hS (fun r_6 ad1 w1 H locs hq hP hS => ?_)
        obtain ⟨S2, h81, -, h83⟩ := hq
        obtain ⟨h84, h85⟩ := h83 (ne_2 (wq_2 g16 hk (fun z => no_1001 z.2)))
        cases h84
        cases h81
        subst h85
        refine w_top (v := (-1000002)) (en_2 (wq_2 g16 hk (fun z => no_1001 z.2))) ?_
        refine lv_ldc (v := (-1000002)) hx hb hown (hts (.constant RL 18 (-1000002)) (by decide +kernel)) dL_acts_435 ?_
        refine lv_icmp_ne (tgt := 459) hx hb dL_acts_437 (by decide) (fun c_437 => ?_) (fun c_437 => ?_)
        · exact absurd c_437 (by decide)
        · refine lv_aload_n hx hb dL_acts_440 rfl (lv_at hl 5 rfl) ?_
          refine lv_aload hx hb dL_acts_441 (lv_at hl 10 rfl) ?_
          refine lv_iconst (v := 0) hx hb dL_acts_443 (by decide) ?_
          refine w_top (v := nI 0) rfl ?_
          refine w_ildN hx hb hC hP (eW_L (show 3 < 4 by decide)) (show 0 < 3 from by omega) (by decide) (v := nI g.1) l1 dL_acts_444 ?_
          refine lv_iconst (v := 0) hx hb dL_acts_445 (by decide) ?_
          refine lv_iconst (v := 0) hx hb dL_acts_446 (by decide) ?_
          refine w_calli (vx_runSW (As := [.ref (ad 4 0), .int (nI g.1), .int 0, .int 0]) (rest := []) ⟨hx, hb, hml, hown, hts⟩ (c_L_write l hns D B ad g σ9 (tW D ad (g, σ9) (lW D 4 μ9)) 0 hI9 (nI g.1) 0 0) (vx_cwSW 4 hts gL_acts_L_write rfl rfl rfl (by decide +kernel) ⟨Nat.le_of_ble_eq_true rfl, Nat.le_of_ble_eq_true rfl⟩) (w_preS hC hP hS) rfl rfl hl.1 rfl (lv_room (Nat.le_of_ble_eq_true rfl)) dL_acts_447 ⟨Nat.le_of_ble_eq_true rfl, Nat.le_of_ble_eq_true rfl⟩) hS (fun r_7 ad1 w1 H locs hq hP hS => ?_)
          obtain ⟨S2, h81, -, h83⟩ := hq
          obtain ⟨h84, h85⟩ := h83 (ne_1 (wq_1 (no_self (by omega))))
          cases h84
          cases h81
          subst h85
          refine w_top (v := (-1000001)) (en_1 (wq_1 (no_self (by omega)))) ?_
          refine lv_ldc (v := (-1000001)) hx hb hown (hts (.constant RL 32 (-1000001)) (by decide +kernel)) dL_acts_450 ?_
          refine lv_icmp_ne (tgt := 459) hx hb dL_acts_452 (by decide) (fun c_452 => ?_) (fun c_452 => ?_)
          · exact absurd c_452 (by decide)
          · refine lv_iconst (v := 1) hx hb dL_acts_455 (by decide) ?_
            refine lv_goto (tgt := 460) hx hb dL_acts_456 (by decide) ?_
            refine W.widen (k := 60) (n := 700) (Nat.le_of_ble_eq_true rfl) (Nat.le_of_ble_eq_true rfl) ?_
            exact K 460 H locs ls ad g σ9 μ9 t (N + 1) dL_acts_460 hP hS kpA_r J9 (by omega) (by omega)
