/-! the cases of the loop: held, command, tells, goesOn, end, clock -/
set_option maxHeartbeats 4000000 in
set_option maxRecDepth 100000 in
theorem lc_held {p : Program} {l : Launch} {e : Env} {s : State} {m : MethodId} {below : List Frame} {meth : Method} {c : Code} {b L : Nat} {xs : Nat → Int32} {D : va_G} (A : LoA p l s m c b L xs D) {Q : State → Prop} {cells slots : Nat} (hcc : cells + 12 ≤ room_1.cells) (hcs : slots + 151 ≤ room_1.slots) {i : Nat} (hi : i + 5 ≤ L) {ad : Ad} {g : GC} {σ : Me} {d th : Int32} {o : Int64} {H : Heap} {locs : List Loc} {ls : Array Slot} (Z : LoS D s b i ad g σ d th o H locs ls) (K : LoK p l e s m below meth c b i D cells slots Q) : W p l e room_1 s m #[Value.ref b] below meth c H locs cells slots Q (F0 m 512 ls []) := by
  obtain ⟨hns, hx, hb, hml, hown, hts, hX, hbl, hL, hC⟩ := A
  obtain ⟨hP, hS, hR, hl⟩ := Z
  obtain ⟨t, hRt⟩ := id hR.1
  have hu : ∀ k, k < g.1 → ∃ u : Nat, (sh d σ) 4 k 0 = nI u ∧ u ≤ 2000000 := fun k hk => by obtain ⟨u, h1, h2, -⟩ := hRt.2.2.2.1 k hk; exact ⟨u, by rw [sh_n (a := 4) (by decide)]; exact h1, h2⟩
  refine lv_aload_n hx hb dL_law_512 rfl (lv_at hl 3 rfl) ?_
  refine lv_aload_n hx hb dL_law_513 rfl (lv_at hl 4 rfl) ?_
  refine lv_iload hx hb dL_law_514 (lv_at hl 0 rfl) ?_
  refine lv_iconst (v := 1) hx hb dL_law_516 (by decide) ?_
  refine lv_iadd hx hb dL_law_517 ?_
  refine w_top (v := nI (i + 1)) (nI_add i 1) ?_
  refine w_sld hx hb hX hbl rfl hS (by omega) hL dL_law_518 ?_
  refine lv_aload_n hx hb dL_law_519 rfl (lv_at hl 1 rfl) ?_
  refine w_calli (vx_runSW (As := [.ref (ad 4 0), .int (xs (i + 1)), .ref (ad 6 0)]) (rest := []) ⟨hx, hb, hml, hown, hts⟩ (c_L_held l hns D s.heap.size ad g σ (g, sh d σ, th) o (Rf_Ib hR) (xs (i + 1))) (vx_cwSW 3 hts gL_law_L_held rfl rfl rfl (by decide +kernel) ⟨(Nat.le_of_ble_eq_true rfl), (Nat.le_of_ble_eq_true rfl)⟩) (w_preS hC hP hS) rfl rfl hl.1 rfl (lv_room (Nat.le_of_ble_eq_true rfl)) dL_law_520 ⟨Nat.le_trans (Nat.add_le_add_left (Nat.le_of_ble_eq_true rfl) _) hcc, Nat.le_trans (Nat.add_le_add_left (Nat.le_of_ble_eq_true rfl) _) hcs⟩) hS (fun r5 ad1 w1 H locs hq hP hS => ?_)
  refine W.widen (k := cells + 12) (n := slots + 151) (Nat.add_le_add_left (Nat.le_of_ble_eq_true rfl) _) (Nat.add_le_add_left (Nat.le_of_ble_eq_true rfl) _) ?_
  by_cases c9 : cdPt g.1 (xs (i + 1)) = 0
  · obtain ⟨h81, h82⟩ := hq.1 c9
    cases h81
    subst h82
    refine lv_istore (lv' := [(5, .int 0), (4, .int (nI i)), (3, .ref (ad 6 0)), (2, .ref (ad 5 0)), (1, .ref (ad 4 0)), (0, .ref b)]) hx hb dL_law_523 hl (by decide) rfl (fun ls hl => ?_)
    refine lv_aload_n hx hb dL_law_525 rfl (lv_at hl 3 rfl) ?_
    refine lv_aload_n hx hb dL_law_526 rfl (lv_at hl 5 rfl) ?_
    refine lv_iload hx hb dL_law_527 (lv_at hl 1 rfl) ?_
    refine lv_iconst (v := 1) hx hb dL_law_529 (by decide) ?_
    refine lv_iadd hx hb dL_law_530 ?_
    refine w_top (v := nI (i + 1)) (nI_add i 1) ?_
    refine w_sld hx hb hX hbl rfl hS (by omega) hL dL_law_531 ?_
    refine w_calli (va_runV (As := [.int (xs (i + 1))]) (rest := []) ⟨hx, hb, hml, hown, hts⟩ (c_X5_held l D s.heap.size ad (g, σ) g (sh d σ) th ((if σ 4 (nOf (xs (i + 1))) 0 = 0 then 0 else σ 4 (nOf (xs (i + 1))) 0 - σ 25 0 0).toInt64) (Ib_sh (Rf_Ib hR)) hu (xs (i + 1))) (cwV 1 hts gL_law_X5_held rfl rfl rfl (by decide +kernel) ⟨(Nat.le_of_ble_eq_true rfl), (Nat.le_of_ble_eq_true rfl)⟩) (w_preV hC hP hS cW_5 rfl) rfl rfl hl.1 rfl (lv_room (Nat.le_of_ble_eq_true rfl)) dL_law_532 ⟨hcc, hcs⟩) hS (fun r6 ad1 w1 H locs hq hP hS => ?_)
    rw [sh_n (a := 4) (by decide), sh_n (a := 25) (by decide)] at hq
    obtain ⟨h91, h92⟩ := hq.1 c9
    cases h91
    subst h92
    have hP : hw D s.heap.size ad (cW D ad (g, σ) (g, sh d (σ), nI (cdPt g.1 (xs (i + 1)))) ((if σ 4 (nOf (xs (i + 1))) 0 = 0 then 0 else σ 4 (nOf (xs (i + 1))) 0 - σ 25 0 0).toInt64)) H := hP
    refine lv_istore (lv' := [(6, .int (if σ 4 (nOf (xs (i + 1))) 0 = 0 then 0 else σ 4 (nOf (xs (i + 1))) 0 - σ 25 0 0)), (5, .int 0), (4, .int (nI i)), (3, .ref (ad 6 0)), (2, .ref (ad 5 0)), (1, .ref (ad 4 0)), (0, .ref b)]) hx hb dL_law_535 hl (by decide) rfl (fun ls hl => ?_)
    refine lv_aload_n hx hb dL_law_537 rfl (lv_at hl 4 rfl) ?_
    refine w_calli (va_runV (As := []) (rest := []) ⟨hx, hb, hml, hown, hts⟩ (c_X5_thrown l D s.heap.size ad (g, σ) g (sh d (σ)) (nI (cdPt g.1 (xs (i + 1)))) ((if σ 4 (nOf (xs (i + 1))) 0 = 0 then 0 else σ 4 (nOf (xs (i + 1))) 0 - σ 25 0 0).toInt64)) (cwV 0 hts gL_law_X5_thrown rfl rfl rfl (by decide +kernel) ⟨(Nat.le_of_ble_eq_true rfl), (Nat.le_of_ble_eq_true rfl)⟩) (w_preV hC hP hS cW_5 rfl) rfl rfl hl.1 rfl (lv_room (Nat.le_of_ble_eq_true rfl)) dL_law_538 ⟨hcc, hcs⟩) hS (fun r7 ad1 w1 H locs hq hP hS => ?_)
    obtain ⟨h91, h92⟩ := hq
    cases h91
    subst h92
    refine lv_iload hx hb dL_law_541 (lv_at hl 1 rfl) ?_
    refine lv_icmp_eq (tgt := 548) hx hb dL_law_543 (by decide) (fun _ => ?_) (fun c1 => absurd (by rw [c9]; rfl) c1)
    refine lv_iload hx hb dL_law_548 (lv_at hl 1 rfl) ?_
    refine lv_if_ne (tgt := 565) hx hb dL_law_550 (by decide) (fun c2 => absurd rfl c2) (fun _ => ?_)
    refine lv_aload_n hx hb dL_law_553 rfl (lv_at hl 3 rfl) ?_
    refine lv_iconst (v := 0) hx hb dL_law_554 (by decide) ?_
    refine w_laldV hx hb hC hP cW_6 (i := 0) (v := (if σ 4 (nOf (xs (i + 1))) 0 = 0 then 0 else σ 4 (nOf (xs (i + 1))) 0 - σ 25 0 0).toInt64) (by unfold vp_in; decide) rfl dL_law_555 ?_
    refine lv_iload hx hb dL_law_556 (lv_at hl 0 rfl) ?_
    refine lv_i2l (v := (if σ 4 (nOf (xs (i + 1))) 0 = 0 then 0 else σ 4 (nOf (xs (i + 1))) 0 - σ 25 0 0).toInt64) hx hb dL_law_558 rfl ?_
    refine W.lcmp hx hb dL_law_559 ?_
    refine lv_if_eq (tgt := 565) hx hb dL_law_560 (by decide) (fun _ => ?_) (fun c3 => absurd (lg_cmp_self _) c3)
    refine lv_goto (tgt := 1304) hx hb dL_law_565 (by decide) ?_
    refine W.widen (k := cells + 12) (n := slots + 151) (by omega) (by omega) ?_
    exact K ad g σ d (nI (cdPt g.1 (xs (i + 1)))) ((if σ 4 (nOf (xs (i + 1))) 0 = 0 then 0 else σ 4 (nOf (xs (i + 1))) 0 - σ 25 0 0).toInt64) H locs ls ⟨hP, hS, hR, lv_sub hl [2, 3, 4, 5, 6] rfl⟩
  · obtain ⟨h81, h82⟩ := hq.2 c9
    cases h81
    subst h82
    refine lv_istore (lv' := [(5, .int (nI (cdPt g.1 (xs (i + 1))))), (4, .int (nI i)), (3, .ref (ad 6 0)), (2, .ref (ad 5 0)), (1, .ref (ad 4 0)), (0, .ref b)]) hx hb dL_law_523 hl (by decide) rfl (fun ls hl => ?_)
    refine lv_aload_n hx hb dL_law_525 rfl (lv_at hl 3 rfl) ?_
    refine lv_aload_n hx hb dL_law_526 rfl (lv_at hl 5 rfl) ?_
    refine lv_iload hx hb dL_law_527 (lv_at hl 1 rfl) ?_
    refine lv_iconst (v := 1) hx hb dL_law_529 (by decide) ?_
    refine lv_iadd hx hb dL_law_530 ?_
    refine w_top (v := nI (i + 1)) (nI_add i 1) ?_
    refine w_sld hx hb hX hbl rfl hS (by omega) hL dL_law_531 ?_
    refine w_calli (va_runV (As := [.int (xs (i + 1))]) (rest := []) ⟨hx, hb, hml, hown, hts⟩ (c_X5_held l D s.heap.size ad (g, σ) g (sh d σ) th (o) (Ib_sh (Rf_Ib hR)) hu (xs (i + 1))) (cwV 1 hts gL_law_X5_held rfl rfl rfl (by decide +kernel) ⟨(Nat.le_of_ble_eq_true rfl), (Nat.le_of_ble_eq_true rfl)⟩) (w_preV hC hP hS cW_5 rfl) rfl rfl hl.1 rfl (lv_room (Nat.le_of_ble_eq_true rfl)) dL_law_532 ⟨hcc, hcs⟩) hS (fun r6 ad1 w1 H locs hq hP hS => ?_)
    cases hq.2 c9
    have hP : hw D s.heap.size ad (cW D ad (g, σ) (g, sh d (σ), nI (cdPt g.1 (xs (i + 1)))) (o)) H := hP
    refine lv_istore (lv' := [(6, .int r6), (5, .int (nI (cdPt g.1 (xs (i + 1))))), (4, .int (nI i)), (3, .ref (ad 6 0)), (2, .ref (ad 5 0)), (1, .ref (ad 4 0)), (0, .ref b)]) hx hb dL_law_535 hl (by decide) rfl (fun ls hl => ?_)
    refine lv_aload_n hx hb dL_law_537 rfl (lv_at hl 4 rfl) ?_
    refine w_calli (va_runV (As := []) (rest := []) ⟨hx, hb, hml, hown, hts⟩ (c_X5_thrown l D s.heap.size ad (g, σ) g (sh d (σ)) (nI (cdPt g.1 (xs (i + 1)))) (o)) (cwV 0 hts gL_law_X5_thrown rfl rfl rfl (by decide +kernel) ⟨(Nat.le_of_ble_eq_true rfl), (Nat.le_of_ble_eq_true rfl)⟩) (w_preV hC hP hS cW_5 rfl) rfl rfl hl.1 rfl (lv_room (Nat.le_of_ble_eq_true rfl)) dL_law_538 ⟨hcc, hcs⟩) hS (fun r7 ad1 w1 H locs hq hP hS => ?_)
    obtain ⟨h91, h92⟩ := hq
    cases h91
    subst h92
    refine lv_iload hx hb dL_law_541 (lv_at hl 1 rfl) ?_
    refine lv_icmp_eq (tgt := 548) hx hb dL_law_543 (by decide) (fun _ => ?_) (fun c1 => absurd rfl c1)
    refine lv_iload hx hb dL_law_548 (lv_at hl 1 rfl) ?_
    refine lv_if_ne (tgt := 565) hx hb dL_law_550 (by decide) (fun _ => ?_) (fun c2 => absurd (nI_cod c2) c9)
    refine lv_goto (tgt := 1304) hx hb dL_law_565 (by decide) ?_
    refine W.widen (k := cells + 12) (n := slots + 151) (by omega) (by omega) ?_
    exact K ad g σ d (nI (cdPt g.1 (xs (i + 1)))) (o) H locs ls ⟨hP, hS, hR, lv_sub hl [2, 3, 4, 5, 6] rfl⟩
set_option maxHeartbeats 4000000 in
set_option maxRecDepth 100000 in
theorem lc_command {p : Program} {l : Launch} {e : Env} {s : State} {m : MethodId} {below : List Frame} {meth : Method} {c : Code} {b L : Nat} {xs : Nat → Int32} {D : va_G} (A : LoA p l s m c b L xs D) {Q : State → Prop} {cells slots : Nat} (hcc : cells + 12 ≤ room_1.cells) (hcs : slots + 151 ≤ room_1.slots) {i : Nat} (hi : i + 5 ≤ L) {ad : Ad} {g : GC} {σ : Me} {d th : Int32} {o : Int64} {H : Heap} {locs : List Loc} {ls : Array Slot} (Z : LoS D s b i ad g σ d th o H locs ls) (K : LoK p l e s m below meth c b i D cells slots Q) : W p l e room_1 s m #[Value.ref b] below meth c H locs cells slots Q (F0 m 388 ls []) := by
  obtain ⟨hns, hx, hb, hml, hown, hts, hX, hbl, hL, hC⟩ := A
  obtain ⟨hP, hS, hR, hl⟩ := Z
  refine lv_aload_n hx hb dL_law_388 rfl (lv_at hl 3 rfl) ?_
  refine lv_aload_n hx hb dL_law_389 rfl (lv_at hl 4 rfl) ?_
  refine lv_iload hx hb dL_law_390 (lv_at hl 0 rfl) ?_
  refine lv_iconst (v := 1) hx hb dL_law_392 (by decide) ?_
  refine lv_iadd hx hb dL_law_393 ?_
  refine w_top (v := nI (i + 1)) (nI_add i 1) ?_
  refine w_sld hx hb hX hbl rfl hS (by omega) hL dL_law_394 ?_
  refine lv_aload_n hx hb dL_law_395 rfl (lv_at hl 4 rfl) ?_
  refine lv_iload hx hb dL_law_396 (lv_at hl 0 rfl) ?_
  refine lv_iconst (v := 2) hx hb dL_law_398 (by decide) ?_
  refine lv_iadd hx hb dL_law_399 ?_
  refine w_top (v := nI (i + 2)) (nI_add i 2) ?_
  refine w_sld hx hb hX hbl rfl hS (by omega) hL dL_law_400 ?_
  refine lv_aload_n hx hb dL_law_401 rfl (lv_at hl 1 rfl) ?_
  refine w_calli (vx_runSW (As := [.ref (ad 4 0), .int (xs (i + 1)), .int (xs (i + 2)), .ref (ad 6 0)]) (rest := []) ⟨hx, hb, hml, hown, hts⟩ (c_L_command l hns D s.heap.size ad g σ (g, sh d σ, th) o (Rf_Ib hR) (xs (i + 1)) (xs (i + 2))) (vx_cwSW 4 hts gL_law_L_command rfl rfl rfl (by decide +kernel) ⟨(Nat.le_of_ble_eq_true rfl), (Nat.le_of_ble_eq_true rfl)⟩) (w_preS hC hP hS) rfl rfl hl.1 rfl (lv_room (Nat.le_of_ble_eq_true rfl)) dL_law_402 ⟨Nat.le_trans (Nat.add_le_add_left (Nat.le_of_ble_eq_true rfl) _) hcc, Nat.le_trans (Nat.add_le_add_left (Nat.le_of_ble_eq_true rfl) _) hcs⟩) hS (fun r5 ad1 w1 H locs hq hP hS => ?_)
  refine W.widen (k := cells + 12) (n := slots + 151) (Nat.add_le_add_left (Nat.le_of_ble_eq_true rfl) _) (Nat.add_le_add_left (Nat.le_of_ble_eq_true rfl) _) ?_
  by_cases c9 : cdCom g (xs (i + 1)) (xs (i + 2)) = 0
  · obtain ⟨h81, h82⟩ := hq.1 c9
    cases h81
    subst h82
    refine lv_istore (lv' := [(5, .int 0), (4, .int (nI i)), (3, .ref (ad 6 0)), (2, .ref (ad 5 0)), (1, .ref (ad 4 0)), (0, .ref b)]) hx hb dL_law_405 hl (by decide) rfl (fun ls hl => ?_)
    refine lv_aload_n hx hb dL_law_407 rfl (lv_at hl 3 rfl) ?_
    refine lv_aload_n hx hb dL_law_408 rfl (lv_at hl 5 rfl) ?_
    refine lv_iload hx hb dL_law_409 (lv_at hl 1 rfl) ?_
    refine lv_iconst (v := 1) hx hb dL_law_411 (by decide) ?_
    refine lv_iadd hx hb dL_law_412 ?_
    refine w_top (v := nI (i + 1)) (nI_add i 1) ?_
    refine w_sld hx hb hX hbl rfl hS (by omega) hL dL_law_413 ?_
    refine lv_aload_n hx hb dL_law_414 rfl (lv_at hl 5 rfl) ?_
    refine lv_iload hx hb dL_law_415 (lv_at hl 1 rfl) ?_
    refine lv_iconst (v := 2) hx hb dL_law_417 (by decide) ?_
    refine lv_iadd hx hb dL_law_418 ?_
    refine w_top (v := nI (i + 2)) (nI_add i 2) ?_
    refine w_sld hx hb hX hbl rfl hS (by omega) hL dL_law_419 ?_
    refine w_calli (va_runV (As := [.int (xs (i + 1)), .int (xs (i + 2))]) (rest := []) ⟨hx, hb, hml, hown, hts⟩ (c_X5_command l D s.heap.size ad (g, σ) g (sh d σ) th ((σ 6 (nOf (xs (i + 1))) (nOf (xs (i + 2)))).toInt64) (Ib_sh (Rf_Ib hR)) (xs (i + 1)) (xs (i + 2))) (cwV 2 hts gL_law_X5_command rfl rfl rfl (by decide +kernel) ⟨(Nat.le_of_ble_eq_true rfl), (Nat.le_of_ble_eq_true rfl)⟩) (w_preV hC hP hS cW_5 rfl) rfl rfl hl.1 rfl (lv_room (Nat.le_of_ble_eq_true rfl)) dL_law_420 ⟨hcc, hcs⟩) hS (fun r6 ad1 w1 H locs hq hP hS => ?_)
    rw [sh_n (a := 6) (by decide)] at hq
    obtain ⟨h91, h92⟩ := hq.1 c9
    cases h91
    subst h92
    have hP : hw D s.heap.size ad (cW D ad (g, σ) (g, sh d (σ), nI (cdCom g (xs (i + 1)) (xs (i + 2)))) ((σ 6 (nOf (xs (i + 1))) (nOf (xs (i + 2)))).toInt64)) H := hP
    refine lv_istore (lv' := [(6, .int (σ 6 (nOf (xs (i + 1))) (nOf (xs (i + 2))))), (5, .int 0), (4, .int (nI i)), (3, .ref (ad 6 0)), (2, .ref (ad 5 0)), (1, .ref (ad 4 0)), (0, .ref b)]) hx hb dL_law_423 hl (by decide) rfl (fun ls hl => ?_)
    refine lv_aload_n hx hb dL_law_425 rfl (lv_at hl 4 rfl) ?_
    refine w_calli (va_runV (As := []) (rest := []) ⟨hx, hb, hml, hown, hts⟩ (c_X5_thrown l D s.heap.size ad (g, σ) g (sh d (σ)) (nI (cdCom g (xs (i + 1)) (xs (i + 2)))) ((σ 6 (nOf (xs (i + 1))) (nOf (xs (i + 2)))).toInt64)) (cwV 0 hts gL_law_X5_thrown rfl rfl rfl (by decide +kernel) ⟨(Nat.le_of_ble_eq_true rfl), (Nat.le_of_ble_eq_true rfl)⟩) (w_preV hC hP hS cW_5 rfl) rfl rfl hl.1 rfl (lv_room (Nat.le_of_ble_eq_true rfl)) dL_law_426 ⟨hcc, hcs⟩) hS (fun r7 ad1 w1 H locs hq hP hS => ?_)
    obtain ⟨h91, h92⟩ := hq
    cases h91
    subst h92
    refine lv_iload hx hb dL_law_429 (lv_at hl 1 rfl) ?_
    refine lv_icmp_eq (tgt := 436) hx hb dL_law_431 (by decide) (fun _ => ?_) (fun c1 => absurd (by rw [c9]; rfl) c1)
    refine lv_iload hx hb dL_law_436 (lv_at hl 1 rfl) ?_
    refine lv_if_ne (tgt := 453) hx hb dL_law_438 (by decide) (fun c2 => absurd rfl c2) (fun _ => ?_)
    refine lv_aload_n hx hb dL_law_441 rfl (lv_at hl 3 rfl) ?_
    refine lv_iconst (v := 0) hx hb dL_law_442 (by decide) ?_
    refine w_laldV hx hb hC hP cW_6 (i := 0) (v := (σ 6 (nOf (xs (i + 1))) (nOf (xs (i + 2)))).toInt64) (by unfold vp_in; decide) rfl dL_law_443 ?_
    refine lv_iload hx hb dL_law_444 (lv_at hl 0 rfl) ?_
    refine lv_i2l (v := (σ 6 (nOf (xs (i + 1))) (nOf (xs (i + 2)))).toInt64) hx hb dL_law_446 rfl ?_
    refine W.lcmp hx hb dL_law_447 ?_
    refine lv_if_eq (tgt := 453) hx hb dL_law_448 (by decide) (fun _ => ?_) (fun c3 => absurd (lg_cmp_self _) c3)
    refine lv_goto (tgt := 1304) hx hb dL_law_453 (by decide) ?_
    refine W.widen (k := cells + 12) (n := slots + 151) (by omega) (by omega) ?_
    exact K ad g σ d (nI (cdCom g (xs (i + 1)) (xs (i + 2)))) ((σ 6 (nOf (xs (i + 1))) (nOf (xs (i + 2)))).toInt64) H locs ls ⟨hP, hS, hR, lv_sub hl [2, 3, 4, 5, 6] rfl⟩
  · obtain ⟨h81, h82⟩ := hq.2 c9
    cases h81
    subst h82
    refine lv_istore (lv' := [(5, .int (nI (cdCom g (xs (i + 1)) (xs (i + 2))))), (4, .int (nI i)), (3, .ref (ad 6 0)), (2, .ref (ad 5 0)), (1, .ref (ad 4 0)), (0, .ref b)]) hx hb dL_law_405 hl (by decide) rfl (fun ls hl => ?_)
    refine lv_aload_n hx hb dL_law_407 rfl (lv_at hl 3 rfl) ?_
    refine lv_aload_n hx hb dL_law_408 rfl (lv_at hl 5 rfl) ?_
    refine lv_iload hx hb dL_law_409 (lv_at hl 1 rfl) ?_
    refine lv_iconst (v := 1) hx hb dL_law_411 (by decide) ?_
    refine lv_iadd hx hb dL_law_412 ?_
    refine w_top (v := nI (i + 1)) (nI_add i 1) ?_
    refine w_sld hx hb hX hbl rfl hS (by omega) hL dL_law_413 ?_
    refine lv_aload_n hx hb dL_law_414 rfl (lv_at hl 5 rfl) ?_
    refine lv_iload hx hb dL_law_415 (lv_at hl 1 rfl) ?_
    refine lv_iconst (v := 2) hx hb dL_law_417 (by decide) ?_
    refine lv_iadd hx hb dL_law_418 ?_
    refine w_top (v := nI (i + 2)) (nI_add i 2) ?_
    refine w_sld hx hb hX hbl rfl hS (by omega) hL dL_law_419 ?_
    refine w_calli (va_runV (As := [.int (xs (i + 1)), .int (xs (i + 2))]) (rest := []) ⟨hx, hb, hml, hown, hts⟩ (c_X5_command l D s.heap.size ad (g, σ) g (sh d σ) th (o) (Ib_sh (Rf_Ib hR)) (xs (i + 1)) (xs (i + 2))) (cwV 2 hts gL_law_X5_command rfl rfl rfl (by decide +kernel) ⟨(Nat.le_of_ble_eq_true rfl), (Nat.le_of_ble_eq_true rfl)⟩) (w_preV hC hP hS cW_5 rfl) rfl rfl hl.1 rfl (lv_room (Nat.le_of_ble_eq_true rfl)) dL_law_420 ⟨hcc, hcs⟩) hS (fun r6 ad1 w1 H locs hq hP hS => ?_)
    cases hq.2 c9
    have hP : hw D s.heap.size ad (cW D ad (g, σ) (g, sh d (σ), nI (cdCom g (xs (i + 1)) (xs (i + 2)))) (o)) H := hP
    refine lv_istore (lv' := [(6, .int r6), (5, .int (nI (cdCom g (xs (i + 1)) (xs (i + 2))))), (4, .int (nI i)), (3, .ref (ad 6 0)), (2, .ref (ad 5 0)), (1, .ref (ad 4 0)), (0, .ref b)]) hx hb dL_law_423 hl (by decide) rfl (fun ls hl => ?_)
    refine lv_aload_n hx hb dL_law_425 rfl (lv_at hl 4 rfl) ?_
    refine w_calli (va_runV (As := []) (rest := []) ⟨hx, hb, hml, hown, hts⟩ (c_X5_thrown l D s.heap.size ad (g, σ) g (sh d (σ)) (nI (cdCom g (xs (i + 1)) (xs (i + 2)))) (o)) (cwV 0 hts gL_law_X5_thrown rfl rfl rfl (by decide +kernel) ⟨(Nat.le_of_ble_eq_true rfl), (Nat.le_of_ble_eq_true rfl)⟩) (w_preV hC hP hS cW_5 rfl) rfl rfl hl.1 rfl (lv_room (Nat.le_of_ble_eq_true rfl)) dL_law_426 ⟨hcc, hcs⟩) hS (fun r7 ad1 w1 H locs hq hP hS => ?_)
    obtain ⟨h91, h92⟩ := hq
    cases h91
    subst h92
    refine lv_iload hx hb dL_law_429 (lv_at hl 1 rfl) ?_
    refine lv_icmp_eq (tgt := 436) hx hb dL_law_431 (by decide) (fun _ => ?_) (fun c1 => absurd rfl c1)
    refine lv_iload hx hb dL_law_436 (lv_at hl 1 rfl) ?_
    refine lv_if_ne (tgt := 453) hx hb dL_law_438 (by decide) (fun _ => ?_) (fun c2 => absurd (nI_cod c2) c9)
    refine lv_goto (tgt := 1304) hx hb dL_law_453 (by decide) ?_
    refine W.widen (k := cells + 12) (n := slots + 151) (by omega) (by omega) ?_
    exact K ad g σ d (nI (cdCom g (xs (i + 1)) (xs (i + 2)))) (o) H locs ls ⟨hP, hS, hR, lv_sub hl [2, 3, 4, 5, 6] rfl⟩
set_option maxHeartbeats 4000000 in
set_option maxRecDepth 100000 in
theorem lc_tells {p : Program} {l : Launch} {e : Env} {s : State} {m : MethodId} {below : List Frame} {meth : Method} {c : Code} {b L : Nat} {xs : Nat → Int32} {D : va_G} (A : LoA p l s m c b L xs D) {Q : State → Prop} {cells slots : Nat} (hcc : cells + 12 ≤ room_1.cells) (hcs : slots + 151 ≤ room_1.slots) {i : Nat} (hi : i + 5 ≤ L) {ad : Ad} {g : GC} {σ : Me} {d th : Int32} {o : Int64} {H : Heap} {locs : List Loc} {ls : Array Slot} (Z : LoS D s b i ad g σ d th o H locs ls) (K : LoK p l e s m below meth c b i D cells slots Q) : W p l e room_1 s m #[Value.ref b] below meth c H locs cells slots Q (F0 m 1167 ls []) := by
  obtain ⟨hns, hx, hb, hml, hown, hts, hX, hbl, hL, hC⟩ := A
  obtain ⟨hP, hS, hR, hl⟩ := Z
  refine lv_aload_n hx hb dL_law_1167 rfl (lv_at hl 3 rfl) ?_
  refine lv_aload_n hx hb dL_law_1168 rfl (lv_at hl 4 rfl) ?_
  refine lv_iload hx hb dL_law_1169 (lv_at hl 0 rfl) ?_
  refine lv_iconst (v := 1) hx hb dL_law_1171 (by decide) ?_
  refine lv_iadd hx hb dL_law_1172 ?_
  refine w_top (v := nI (i + 1)) (nI_add i 1) ?_
  refine w_sld hx hb hX hbl rfl hS (by omega) hL dL_law_1173 ?_
  refine lv_aload_n hx hb dL_law_1174 rfl (lv_at hl 4 rfl) ?_
  refine lv_iload hx hb dL_law_1175 (lv_at hl 0 rfl) ?_
  refine lv_iconst (v := 2) hx hb dL_law_1177 (by decide) ?_
  refine lv_iadd hx hb dL_law_1178 ?_
  refine w_top (v := nI (i + 2)) (nI_add i 2) ?_
  refine w_sld hx hb hX hbl rfl hS (by omega) hL dL_law_1179 ?_
  refine lv_aload_n hx hb dL_law_1180 rfl (lv_at hl 1 rfl) ?_
  refine w_calli (vx_runSW (As := [.ref (ad 4 0), .int (xs (i + 1)), .int (xs (i + 2)), .ref (ad 6 0)]) (rest := []) ⟨hx, hb, hml, hown, hts⟩ (c_L_tells l hns D s.heap.size ad g σ (g, sh d σ, th) o (Rf_Ib hR) (xs (i + 1)) (xs (i + 2))) (vx_cwSW 4 hts gL_law_L_tells rfl rfl rfl (by decide +kernel) ⟨(Nat.le_of_ble_eq_true rfl), (Nat.le_of_ble_eq_true rfl)⟩) (w_preS hC hP hS) rfl rfl hl.1 rfl (lv_room (Nat.le_of_ble_eq_true rfl)) dL_law_1181 ⟨Nat.le_trans (Nat.add_le_add_left (Nat.le_of_ble_eq_true rfl) _) hcc, Nat.le_trans (Nat.add_le_add_left (Nat.le_of_ble_eq_true rfl) _) hcs⟩) hS (fun r5 ad1 w1 H locs hq hP hS => ?_)
  refine W.widen (k := cells + 12) (n := slots + 151) (Nat.add_le_add_left (Nat.le_of_ble_eq_true rfl) _) (Nat.add_le_add_left (Nat.le_of_ble_eq_true rfl) _) ?_
  by_cases c9 : cdTel g (xs (i + 1)) (xs (i + 2)) = 0
  · obtain ⟨h81, h82⟩ := hq.1 c9
    cases h81
    subst h82
    refine lv_istore (lv' := [(5, .int 0), (4, .int (nI i)), (3, .ref (ad 6 0)), (2, .ref (ad 5 0)), (1, .ref (ad 4 0)), (0, .ref b)]) hx hb dL_law_1184 hl (by decide) rfl (fun ls hl => ?_)
    refine lv_aload_n hx hb dL_law_1186 rfl (lv_at hl 3 rfl) ?_
    refine lv_aload_n hx hb dL_law_1187 rfl (lv_at hl 5 rfl) ?_
    refine lv_iload hx hb dL_law_1188 (lv_at hl 1 rfl) ?_
    refine lv_iconst (v := 1) hx hb dL_law_1190 (by decide) ?_
    refine lv_iadd hx hb dL_law_1191 ?_
    refine w_top (v := nI (i + 1)) (nI_add i 1) ?_
    refine w_sld hx hb hX hbl rfl hS (by omega) hL dL_law_1192 ?_
    refine lv_aload_n hx hb dL_law_1193 rfl (lv_at hl 5 rfl) ?_
    refine lv_iload hx hb dL_law_1194 (lv_at hl 1 rfl) ?_
    refine lv_iconst (v := 2) hx hb dL_law_1196 (by decide) ?_
    refine lv_iadd hx hb dL_law_1197 ?_
    refine w_top (v := nI (i + 2)) (nI_add i 2) ?_
    refine w_sld hx hb hX hbl rfl hS (by omega) hL dL_law_1198 ?_
    refine w_calli (va_runV (As := [.int (xs (i + 1)), .int (xs (i + 2))]) (rest := []) ⟨hx, hb, hml, hown, hts⟩ (c_X5_tells l D s.heap.size ad (g, σ) g (sh d σ) th ((tolO σ (nOf (xs (i + 1))) (xs (i + 2))).toInt64) (Ib_sh (Rf_Ib hR)) (xs (i + 1)) (xs (i + 2))) (cwV 2 hts gL_law_X5_tells rfl rfl rfl (by decide +kernel) ⟨(Nat.le_of_ble_eq_true rfl), (Nat.le_of_ble_eq_true rfl)⟩) (w_preV hC hP hS cW_5 rfl) rfl rfl hl.1 rfl (lv_room (Nat.le_of_ble_eq_true rfl)) dL_law_1199 ⟨hcc, hcs⟩) hS (fun r6 ad1 w1 H locs hq hP hS => ?_)
    rw [tolO_sh] at hq
    obtain ⟨h91, h92⟩ := hq.1 c9
    cases h91
    subst h92
    have hP : hw D s.heap.size ad (cW D ad (g, σ) (g, sh d (σ), nI (cdTel g (xs (i + 1)) (xs (i + 2)))) ((tolO σ (nOf (xs (i + 1))) (xs (i + 2))).toInt64)) H := hP
    refine lv_istore (lv' := [(6, .int (tolO σ (nOf (xs (i + 1))) (xs (i + 2)))), (5, .int 0), (4, .int (nI i)), (3, .ref (ad 6 0)), (2, .ref (ad 5 0)), (1, .ref (ad 4 0)), (0, .ref b)]) hx hb dL_law_1202 hl (by decide) rfl (fun ls hl => ?_)
    refine lv_aload_n hx hb dL_law_1204 rfl (lv_at hl 4 rfl) ?_
    refine w_calli (va_runV (As := []) (rest := []) ⟨hx, hb, hml, hown, hts⟩ (c_X5_thrown l D s.heap.size ad (g, σ) g (sh d (σ)) (nI (cdTel g (xs (i + 1)) (xs (i + 2)))) ((tolO σ (nOf (xs (i + 1))) (xs (i + 2))).toInt64)) (cwV 0 hts gL_law_X5_thrown rfl rfl rfl (by decide +kernel) ⟨(Nat.le_of_ble_eq_true rfl), (Nat.le_of_ble_eq_true rfl)⟩) (w_preV hC hP hS cW_5 rfl) rfl rfl hl.1 rfl (lv_room (Nat.le_of_ble_eq_true rfl)) dL_law_1205 ⟨hcc, hcs⟩) hS (fun r7 ad1 w1 H locs hq hP hS => ?_)
    obtain ⟨h91, h92⟩ := hq
    cases h91
    subst h92
    refine lv_iload hx hb dL_law_1208 (lv_at hl 1 rfl) ?_
    refine lv_icmp_eq (tgt := 1215) hx hb dL_law_1210 (by decide) (fun _ => ?_) (fun c1 => absurd (by rw [c9]; rfl) c1)
    refine lv_iload hx hb dL_law_1215 (lv_at hl 1 rfl) ?_
    refine lv_if_ne (tgt := 1232) hx hb dL_law_1217 (by decide) (fun c2 => absurd rfl c2) (fun _ => ?_)
    refine lv_aload_n hx hb dL_law_1220 rfl (lv_at hl 3 rfl) ?_
    refine lv_iconst (v := 0) hx hb dL_law_1221 (by decide) ?_
    refine w_laldV hx hb hC hP cW_6 (i := 0) (v := (tolO σ (nOf (xs (i + 1))) (xs (i + 2))).toInt64) (by unfold vp_in; decide) rfl dL_law_1222 ?_
    refine lv_iload hx hb dL_law_1223 (lv_at hl 0 rfl) ?_
    refine lv_i2l (v := (tolO σ (nOf (xs (i + 1))) (xs (i + 2))).toInt64) hx hb dL_law_1225 rfl ?_
    refine W.lcmp hx hb dL_law_1226 ?_
    refine lv_if_eq (tgt := 1232) hx hb dL_law_1227 (by decide) (fun _ => ?_) (fun c3 => absurd (lg_cmp_self _) c3)
    refine lv_goto (tgt := 1304) hx hb dL_law_1232 (by decide) ?_
    refine W.widen (k := cells + 12) (n := slots + 151) (by omega) (by omega) ?_
    exact K ad g σ d (nI (cdTel g (xs (i + 1)) (xs (i + 2)))) ((tolO σ (nOf (xs (i + 1))) (xs (i + 2))).toInt64) H locs ls ⟨hP, hS, hR, lv_sub hl [2, 3, 4, 5, 6] rfl⟩
  · obtain ⟨h81, h82⟩ := hq.2 c9
    cases h81
    subst h82
    refine lv_istore (lv' := [(5, .int (nI (cdTel g (xs (i + 1)) (xs (i + 2))))), (4, .int (nI i)), (3, .ref (ad 6 0)), (2, .ref (ad 5 0)), (1, .ref (ad 4 0)), (0, .ref b)]) hx hb dL_law_1184 hl (by decide) rfl (fun ls hl => ?_)
    refine lv_aload_n hx hb dL_law_1186 rfl (lv_at hl 3 rfl) ?_
    refine lv_aload_n hx hb dL_law_1187 rfl (lv_at hl 5 rfl) ?_
    refine lv_iload hx hb dL_law_1188 (lv_at hl 1 rfl) ?_
    refine lv_iconst (v := 1) hx hb dL_law_1190 (by decide) ?_
    refine lv_iadd hx hb dL_law_1191 ?_
    refine w_top (v := nI (i + 1)) (nI_add i 1) ?_
    refine w_sld hx hb hX hbl rfl hS (by omega) hL dL_law_1192 ?_
    refine lv_aload_n hx hb dL_law_1193 rfl (lv_at hl 5 rfl) ?_
    refine lv_iload hx hb dL_law_1194 (lv_at hl 1 rfl) ?_
    refine lv_iconst (v := 2) hx hb dL_law_1196 (by decide) ?_
    refine lv_iadd hx hb dL_law_1197 ?_
    refine w_top (v := nI (i + 2)) (nI_add i 2) ?_
    refine w_sld hx hb hX hbl rfl hS (by omega) hL dL_law_1198 ?_
    refine w_calli (va_runV (As := [.int (xs (i + 1)), .int (xs (i + 2))]) (rest := []) ⟨hx, hb, hml, hown, hts⟩ (c_X5_tells l D s.heap.size ad (g, σ) g (sh d σ) th (o) (Ib_sh (Rf_Ib hR)) (xs (i + 1)) (xs (i + 2))) (cwV 2 hts gL_law_X5_tells rfl rfl rfl (by decide +kernel) ⟨(Nat.le_of_ble_eq_true rfl), (Nat.le_of_ble_eq_true rfl)⟩) (w_preV hC hP hS cW_5 rfl) rfl rfl hl.1 rfl (lv_room (Nat.le_of_ble_eq_true rfl)) dL_law_1199 ⟨hcc, hcs⟩) hS (fun r6 ad1 w1 H locs hq hP hS => ?_)
    cases hq.2 c9
    have hP : hw D s.heap.size ad (cW D ad (g, σ) (g, sh d (σ), nI (cdTel g (xs (i + 1)) (xs (i + 2)))) (o)) H := hP
    refine lv_istore (lv' := [(6, .int r6), (5, .int (nI (cdTel g (xs (i + 1)) (xs (i + 2))))), (4, .int (nI i)), (3, .ref (ad 6 0)), (2, .ref (ad 5 0)), (1, .ref (ad 4 0)), (0, .ref b)]) hx hb dL_law_1202 hl (by decide) rfl (fun ls hl => ?_)
    refine lv_aload_n hx hb dL_law_1204 rfl (lv_at hl 4 rfl) ?_
    refine w_calli (va_runV (As := []) (rest := []) ⟨hx, hb, hml, hown, hts⟩ (c_X5_thrown l D s.heap.size ad (g, σ) g (sh d (σ)) (nI (cdTel g (xs (i + 1)) (xs (i + 2)))) (o)) (cwV 0 hts gL_law_X5_thrown rfl rfl rfl (by decide +kernel) ⟨(Nat.le_of_ble_eq_true rfl), (Nat.le_of_ble_eq_true rfl)⟩) (w_preV hC hP hS cW_5 rfl) rfl rfl hl.1 rfl (lv_room (Nat.le_of_ble_eq_true rfl)) dL_law_1205 ⟨hcc, hcs⟩) hS (fun r7 ad1 w1 H locs hq hP hS => ?_)
    obtain ⟨h91, h92⟩ := hq
    cases h91
    subst h92
    refine lv_iload hx hb dL_law_1208 (lv_at hl 1 rfl) ?_
    refine lv_icmp_eq (tgt := 1215) hx hb dL_law_1210 (by decide) (fun _ => ?_) (fun c1 => absurd rfl c1)
    refine lv_iload hx hb dL_law_1215 (lv_at hl 1 rfl) ?_
    refine lv_if_ne (tgt := 1232) hx hb dL_law_1217 (by decide) (fun _ => ?_) (fun c2 => absurd (nI_cod c2) c9)
    refine lv_goto (tgt := 1304) hx hb dL_law_1232 (by decide) ?_
    refine W.widen (k := cells + 12) (n := slots + 151) (by omega) (by omega) ?_
    exact K ad g σ d (nI (cdTel g (xs (i + 1)) (xs (i + 2)))) (o) H locs ls ⟨hP, hS, hR, lv_sub hl [2, 3, 4, 5, 6] rfl⟩
set_option maxHeartbeats 4000000 in
set_option maxRecDepth 100000 in
theorem lc_goesOn {p : Program} {l : Launch} {e : Env} {s : State} {m : MethodId} {below : List Frame} {meth : Method} {c : Code} {b L : Nat} {xs : Nat → Int32} {D : va_G} (A : LoA p l s m c b L xs D) {Q : State → Prop} {cells slots : Nat} (hcc : cells + 12 ≤ room_1.cells) (hcs : slots + 151 ≤ room_1.slots) {i : Nat} (hi : i + 5 ≤ L) {ad : Ad} {g : GC} {σ : Me} {d th : Int32} {o : Int64} {H : Heap} {locs : List Loc} {ls : Array Slot} (Z : LoS D s b i ad g σ d th o H locs ls) (K : LoK p l e s m below meth c b i D cells slots Q) : W p l e room_1 s m #[Value.ref b] below meth c H locs cells slots Q (F0 m 740 ls []) := by
  obtain ⟨hns, hx, hb, hml, hown, hts, hX, hbl, hL, hC⟩ := A
  obtain ⟨hP, hS, hR, hl⟩ := Z
  refine lv_aload_n hx hb dL_law_740 rfl (lv_at hl 3 rfl) ?_
  refine lv_aload_n hx hb dL_law_741 rfl (lv_at hl 4 rfl) ?_
  refine lv_iload hx hb dL_law_742 (lv_at hl 0 rfl) ?_
  refine lv_iconst (v := 1) hx hb dL_law_744 (by decide) ?_
  refine lv_iadd hx hb dL_law_745 ?_
  refine w_top (v := nI (i + 1)) (nI_add i 1) ?_
  refine w_sld hx hb hX hbl rfl hS (by omega) hL dL_law_746 ?_
  refine lv_aload_n hx hb dL_law_747 rfl (lv_at hl 1 rfl) ?_
  refine w_calli (vx_runSW (As := [.ref (ad 4 0), .int (xs (i + 1)), .ref (ad 6 0)]) (rest := []) ⟨hx, hb, hml, hown, hts⟩ (c_L_goesOn l hns D s.heap.size ad g σ (g, sh d σ, th) o (Rf_Ib hR) (xs (i + 1))) (vx_cwSW 3 hts gL_law_L_goesOn rfl rfl rfl (by decide +kernel) ⟨(Nat.le_of_ble_eq_true rfl), (Nat.le_of_ble_eq_true rfl)⟩) (w_preS hC hP hS) rfl rfl hl.1 rfl (lv_room (Nat.le_of_ble_eq_true rfl)) dL_law_748 ⟨Nat.le_trans (Nat.add_le_add_left (Nat.le_of_ble_eq_true rfl) _) hcc, Nat.le_trans (Nat.add_le_add_left (Nat.le_of_ble_eq_true rfl) _) hcs⟩) hS (fun r5 ad1 w1 H locs hq hP hS => ?_)
  refine W.widen (k := cells + 12) (n := slots + 151) (Nat.add_le_add_left (Nat.le_of_ble_eq_true rfl) _) (Nat.add_le_add_left (Nat.le_of_ble_eq_true rfl) _) ?_
  by_cases c9 : cdPt g.2.1 (xs (i + 1)) = 0
  · obtain ⟨h81, h82⟩ := hq.1 c9
    cases h81
    subst h82
    refine lv_istore (lv' := [(5, .int 0), (4, .int (nI i)), (3, .ref (ad 6 0)), (2, .ref (ad 5 0)), (1, .ref (ad 4 0)), (0, .ref b)]) hx hb dL_law_751 hl (by decide) rfl (fun ls hl => ?_)
    refine lv_aload_n hx hb dL_law_753 rfl (lv_at hl 3 rfl) ?_
    refine lv_aload_n hx hb dL_law_754 rfl (lv_at hl 5 rfl) ?_
    refine lv_iload hx hb dL_law_755 (lv_at hl 1 rfl) ?_
    refine lv_iconst (v := 1) hx hb dL_law_757 (by decide) ?_
    refine lv_iadd hx hb dL_law_758 ?_
    refine w_top (v := nI (i + 1)) (nI_add i 1) ?_
    refine w_sld hx hb hX hbl rfl hS (by omega) hL dL_law_759 ?_
    refine w_calli (va_runV (As := [.int (xs (i + 1))]) (rest := []) ⟨hx, hb, hml, hown, hts⟩ (c_X5_goesOn l D s.heap.size ad (g, σ) g (sh d σ) th ((1 - σ 11 (nOf (xs (i + 1))) 0).toInt64) (Ib_sh (Rf_Ib hR)) (xs (i + 1))) (cwV 1 hts gL_law_X5_goesOn rfl rfl rfl (by decide +kernel) ⟨(Nat.le_of_ble_eq_true rfl), (Nat.le_of_ble_eq_true rfl)⟩) (w_preV hC hP hS cW_5 rfl) rfl rfl hl.1 rfl (lv_room (Nat.le_of_ble_eq_true rfl)) dL_law_760 ⟨hcc, hcs⟩) hS (fun r6 ad1 w1 H locs hq hP hS => ?_)
    rw [sh_n (a := 11) (by decide)] at hq
    obtain ⟨h91, h92⟩ := hq.1 c9
    cases h91
    subst h92
    have hP : hw D s.heap.size ad (cW D ad (g, σ) (g, sh d (σ), nI (cdPt g.2.1 (xs (i + 1)))) ((1 - σ 11 (nOf (xs (i + 1))) 0).toInt64)) H := hP
    refine lv_istore (lv' := [(6, .int (1 - σ 11 (nOf (xs (i + 1))) 0)), (5, .int 0), (4, .int (nI i)), (3, .ref (ad 6 0)), (2, .ref (ad 5 0)), (1, .ref (ad 4 0)), (0, .ref b)]) hx hb dL_law_763 hl (by decide) rfl (fun ls hl => ?_)
    refine lv_aload_n hx hb dL_law_765 rfl (lv_at hl 4 rfl) ?_
    refine w_calli (va_runV (As := []) (rest := []) ⟨hx, hb, hml, hown, hts⟩ (c_X5_thrown l D s.heap.size ad (g, σ) g (sh d (σ)) (nI (cdPt g.2.1 (xs (i + 1)))) ((1 - σ 11 (nOf (xs (i + 1))) 0).toInt64)) (cwV 0 hts gL_law_X5_thrown rfl rfl rfl (by decide +kernel) ⟨(Nat.le_of_ble_eq_true rfl), (Nat.le_of_ble_eq_true rfl)⟩) (w_preV hC hP hS cW_5 rfl) rfl rfl hl.1 rfl (lv_room (Nat.le_of_ble_eq_true rfl)) dL_law_766 ⟨hcc, hcs⟩) hS (fun r7 ad1 w1 H locs hq hP hS => ?_)
    obtain ⟨h91, h92⟩ := hq
    cases h91
    subst h92
    refine lv_iload hx hb dL_law_769 (lv_at hl 1 rfl) ?_
    refine lv_icmp_eq (tgt := 776) hx hb dL_law_771 (by decide) (fun _ => ?_) (fun c1 => absurd (by rw [c9]; rfl) c1)
    refine lv_iload hx hb dL_law_776 (lv_at hl 1 rfl) ?_
    refine lv_if_ne (tgt := 800) hx hb dL_law_778 (by decide) (fun c2 => absurd rfl c2) (fun _ => ?_)
    refine lv_aload_n hx hb dL_law_781 rfl (lv_at hl 3 rfl) ?_
    refine lv_iconst (v := 0) hx hb dL_law_782 (by decide) ?_
    refine w_laldV hx hb hC hP cW_6 (i := 0) (v := (1 - σ 11 (nOf (xs (i + 1))) 0).toInt64) (by unfold vp_in; decide) rfl dL_law_783 ?_
    refine lv_iload hx hb dL_law_784 (lv_at hl 0 rfl) ?_
    refine lv_if_eq (tgt := 793) hx hb dL_law_786 (by decide) (fun c4 => ?_) (fun c4 => ?_)
    · refine lv_lconst (v := 0) hx hb dL_law_793 rfl ?_
      refine W.lcmp hx hb dL_law_794 ?_
      refine lv_if_eq (tgt := 800) hx hb dL_law_795 (by decide) (fun _ => ?_) (fun c3 => absurd (by rw [c4]; rfl) c3)
      refine lv_goto (tgt := 1304) hx hb dL_law_800 (by decide) ?_
      refine W.widen (k := cells + 12) (n := slots + 151) (by omega) (by omega) ?_
      exact K ad g σ d (nI (cdPt g.2.1 (xs (i + 1)))) ((1 - σ 11 (nOf (xs (i + 1))) 0).toInt64) H locs ls ⟨hP, hS, hR, lv_sub hl [2, 3, 4, 5, 6] rfl⟩
    · have e1 : 1 - σ 11 (nOf (xs (i + 1))) 0 = 1 := go_one hR c9 c4
      refine lv_lconst (v := 1) hx hb dL_law_789 rfl ?_
      refine lv_goto (tgt := 794) hx hb dL_law_790 (by decide) ?_
      refine W.lcmp hx hb dL_law_794 ?_
      refine lv_if_eq (tgt := 800) hx hb dL_law_795 (by decide) (fun _ => ?_) (fun c3 => absurd (by rw [e1]; rfl) c3)
      refine lv_goto (tgt := 1304) hx hb dL_law_800 (by decide) ?_
      refine W.widen (k := cells + 12) (n := slots + 151) (by omega) (by omega) ?_
      exact K ad g σ d (nI (cdPt g.2.1 (xs (i + 1)))) ((1 - σ 11 (nOf (xs (i + 1))) 0).toInt64) H locs ls ⟨hP, hS, hR, lv_sub hl [2, 3, 4, 5, 6] rfl⟩
  · obtain ⟨h81, h82⟩ := hq.2 c9
    cases h81
    subst h82
    refine lv_istore (lv' := [(5, .int (nI (cdPt g.2.1 (xs (i + 1))))), (4, .int (nI i)), (3, .ref (ad 6 0)), (2, .ref (ad 5 0)), (1, .ref (ad 4 0)), (0, .ref b)]) hx hb dL_law_751 hl (by decide) rfl (fun ls hl => ?_)
    refine lv_aload_n hx hb dL_law_753 rfl (lv_at hl 3 rfl) ?_
    refine lv_aload_n hx hb dL_law_754 rfl (lv_at hl 5 rfl) ?_
    refine lv_iload hx hb dL_law_755 (lv_at hl 1 rfl) ?_
    refine lv_iconst (v := 1) hx hb dL_law_757 (by decide) ?_
    refine lv_iadd hx hb dL_law_758 ?_
    refine w_top (v := nI (i + 1)) (nI_add i 1) ?_
    refine w_sld hx hb hX hbl rfl hS (by omega) hL dL_law_759 ?_
    refine w_calli (va_runV (As := [.int (xs (i + 1))]) (rest := []) ⟨hx, hb, hml, hown, hts⟩ (c_X5_goesOn l D s.heap.size ad (g, σ) g (sh d σ) th (o) (Ib_sh (Rf_Ib hR)) (xs (i + 1))) (cwV 1 hts gL_law_X5_goesOn rfl rfl rfl (by decide +kernel) ⟨(Nat.le_of_ble_eq_true rfl), (Nat.le_of_ble_eq_true rfl)⟩) (w_preV hC hP hS cW_5 rfl) rfl rfl hl.1 rfl (lv_room (Nat.le_of_ble_eq_true rfl)) dL_law_760 ⟨hcc, hcs⟩) hS (fun r6 ad1 w1 H locs hq hP hS => ?_)
    cases hq.2 c9
    have hP : hw D s.heap.size ad (cW D ad (g, σ) (g, sh d (σ), nI (cdPt g.2.1 (xs (i + 1)))) (o)) H := hP
    refine lv_istore (lv' := [(6, .int r6), (5, .int (nI (cdPt g.2.1 (xs (i + 1))))), (4, .int (nI i)), (3, .ref (ad 6 0)), (2, .ref (ad 5 0)), (1, .ref (ad 4 0)), (0, .ref b)]) hx hb dL_law_763 hl (by decide) rfl (fun ls hl => ?_)
    refine lv_aload_n hx hb dL_law_765 rfl (lv_at hl 4 rfl) ?_
    refine w_calli (va_runV (As := []) (rest := []) ⟨hx, hb, hml, hown, hts⟩ (c_X5_thrown l D s.heap.size ad (g, σ) g (sh d (σ)) (nI (cdPt g.2.1 (xs (i + 1)))) (o)) (cwV 0 hts gL_law_X5_thrown rfl rfl rfl (by decide +kernel) ⟨(Nat.le_of_ble_eq_true rfl), (Nat.le_of_ble_eq_true rfl)⟩) (w_preV hC hP hS cW_5 rfl) rfl rfl hl.1 rfl (lv_room (Nat.le_of_ble_eq_true rfl)) dL_law_766 ⟨hcc, hcs⟩) hS (fun r7 ad1 w1 H locs hq hP hS => ?_)
    obtain ⟨h91, h92⟩ := hq
    cases h91
    subst h92
    refine lv_iload hx hb dL_law_769 (lv_at hl 1 rfl) ?_
    refine lv_icmp_eq (tgt := 776) hx hb dL_law_771 (by decide) (fun _ => ?_) (fun c1 => absurd rfl c1)
    refine lv_iload hx hb dL_law_776 (lv_at hl 1 rfl) ?_
    refine lv_if_ne (tgt := 800) hx hb dL_law_778 (by decide) (fun _ => ?_) (fun c2 => absurd (nI_cod c2) c9)
    refine lv_goto (tgt := 1304) hx hb dL_law_800 (by decide) ?_
    refine W.widen (k := cells + 12) (n := slots + 151) (by omega) (by omega) ?_
    exact K ad g σ d (nI (cdPt g.2.1 (xs (i + 1)))) (o) H locs ls ⟨hP, hS, hR, lv_sub hl [2, 3, 4, 5, 6] rfl⟩
set_option maxHeartbeats 4000000 in
set_option maxRecDepth 100000 in
theorem lc_end {p : Program} {l : Launch} {e : Env} {s : State} {m : MethodId} {below : List Frame} {meth : Method} {c : Code} {b L : Nat} {xs : Nat → Int32} {D : va_G} (A : LoA p l s m c b L xs D) {Q : State → Prop} {cells slots : Nat} (hcc : cells + 12 ≤ room_1.cells) (hcs : slots + 151 ≤ room_1.slots) {i : Nat} (hi : i + 5 ≤ L) {ad : Ad} {g : GC} {σ : Me} {d th : Int32} {o : Int64} {H : Heap} {locs : List Loc} {ls : Array Slot} (Z : LoS D s b i ad g σ d th o H locs ls) (K : LoK p l e s m below meth c b i D cells slots Q) : W p l e room_1 s m #[Value.ref b] below meth c H locs cells slots Q (F0 m 704 ls []) := by
  obtain ⟨hns, hx, hb, hml, hown, hts, hX, hbl, hL, hC⟩ := A
  obtain ⟨hP, hS, hR, hl⟩ := Z
  refine lv_aload_n hx hb dL_law_704 rfl (lv_at hl 3 rfl) ?_
  refine lv_aload_n hx hb dL_law_705 rfl (lv_at hl 4 rfl) ?_
  refine lv_iload hx hb dL_law_706 (lv_at hl 0 rfl) ?_
  refine lv_iconst (v := 1) hx hb dL_law_708 (by decide) ?_
  refine lv_iadd hx hb dL_law_709 ?_
  refine w_top (v := nI (i + 1)) (nI_add i 1) ?_
  refine w_sld hx hb hX hbl rfl hS (by omega) hL dL_law_710 ?_
  refine w_calli (vx_runSW (As := [.ref (ad 4 0), .int (xs (i + 1))]) (rest := []) ⟨hx, hb, hml, hown, hts⟩ (c_L_end l hns D s.heap.size ad g σ (g, sh d σ, th) o (Rf_Ib hR) (xs (i + 1))) (vx_cwSW 2 hts gL_law_L_end rfl rfl rfl (by decide +kernel) ⟨(Nat.le_of_ble_eq_true rfl), (Nat.le_of_ble_eq_true rfl)⟩) (w_preS hC hP hS) rfl rfl hl.1 rfl (lv_room (Nat.le_of_ble_eq_true rfl)) dL_law_711 ⟨Nat.le_trans (Nat.add_le_add_left (Nat.le_of_ble_eq_true rfl) _) hcc, Nat.le_trans (Nat.add_le_add_left (Nat.le_of_ble_eq_true rfl) _) hcs⟩) hS (fun r5 ad1 w1 H locs hq hP hS => ?_)
  refine W.widen (k := cells + 12) (n := slots + 151) (Nat.add_le_add_left (Nat.le_of_ble_eq_true rfl) _) (Nat.add_le_add_left (Nat.le_of_ble_eq_true rfl) _) ?_
  by_cases c9 : cdEnd g σ (xs (i + 1)) = 0
  · obtain ⟨h81, h82⟩ := hq.1 c9
    cases h81
    subst h82
    refine lv_istore (lv' := [(5, .int 0), (4, .int (nI i)), (3, .ref (ad 6 0)), (2, .ref (ad 5 0)), (1, .ref (ad 4 0)), (0, .ref b)]) hx hb dL_law_714 hl (by decide) rfl (fun ls hl => ?_)
    refine lv_aload_n hx hb dL_law_716 rfl (lv_at hl 3 rfl) ?_
    refine lv_aload_n hx hb dL_law_717 rfl (lv_at hl 5 rfl) ?_
    refine lv_iload hx hb dL_law_718 (lv_at hl 1 rfl) ?_
    refine lv_iconst (v := 1) hx hb dL_law_720 (by decide) ?_
    refine lv_iadd hx hb dL_law_721 ?_
    refine w_top (v := nI (i + 1)) (nI_add i 1) ?_
    refine w_sld hx hb hX hbl rfl hS (by omega) hL dL_law_722 ?_
    refine w_callv (va_runV (As := [.int (xs (i + 1))]) (rest := []) ⟨hx, hb, hml, hown, hts⟩ (c_X5_end l D s.heap.size ad (g, st3 σ 11 (nOf (xs (i + 1))) 0 1) g (sh d σ) th (o) (Ib_sh (Rf_Ib hR)) (xs (i + 1))) (cwV 1 hts gL_law_X5_end rfl rfl rfl (by decide +kernel) ⟨(Nat.le_of_ble_eq_true rfl), (Nat.le_of_ble_eq_true rfl)⟩) (w_preV hC hP hS cW_5 rfl) rfl rfl hl.1 rfl (lv_room (Nat.le_of_ble_eq_true rfl)) dL_law_723 ⟨hcc, hcs⟩) hS (fun ad1 w1 H locs hq hP hS => ?_)
    rw [cdEnd_sh, sh_st (a := 11) (by decide)] at hq
    cases hq.1 c9
    have hP : hw D s.heap.size ad (cW D ad (g, st3 σ 11 (nOf (xs (i + 1))) 0 1) (g, sh d (st3 σ 11 (nOf (xs (i + 1))) 0 1), nI (cdEnd g σ (xs (i + 1)))) (o)) H := hP
    refine lv_aload_n hx hb dL_law_726 rfl (lv_at hl 3 rfl) ?_
    refine w_calli (va_runV (As := []) (rest := []) ⟨hx, hb, hml, hown, hts⟩ (c_X5_thrown l D s.heap.size ad (g, st3 σ 11 (nOf (xs (i + 1))) 0 1) g (sh d (st3 σ 11 (nOf (xs (i + 1))) 0 1)) (nI (cdEnd g σ (xs (i + 1)))) (o)) (cwV 0 hts gL_law_X5_thrown rfl rfl rfl (by decide +kernel) ⟨(Nat.le_of_ble_eq_true rfl), (Nat.le_of_ble_eq_true rfl)⟩) (w_preV hC hP hS cW_5 rfl) rfl rfl hl.1 rfl (lv_room (Nat.le_of_ble_eq_true rfl)) dL_law_727 ⟨hcc, hcs⟩) hS (fun r7 ad1 w1 H locs hq hP hS => ?_)
    obtain ⟨h91, h92⟩ := hq
    cases h91
    subst h92
    refine lv_iload hx hb dL_law_730 (lv_at hl 0 rfl) ?_
    refine lv_icmp_eq (tgt := 737) hx hb dL_law_732 (by decide) (fun _ => ?_) (fun c1 => absurd (by rw [c9]; rfl) c1)
    refine lv_goto (tgt := 1304) hx hb dL_law_737 (by decide) ?_
    refine W.widen (k := cells + 12) (n := slots + 151) (by omega) (by omega) ?_
    exact K ad g (st3 σ 11 (nOf (xs (i + 1))) 0 1) d (nI (cdEnd g σ (xs (i + 1)))) (o) H locs ls ⟨hP, hS, st_end hR c9, lv_sub hl [1, 2, 3, 4, 5] rfl⟩
  · obtain ⟨h81, h82⟩ := hq.2 c9
    cases h81
    subst h82
    refine lv_istore (lv' := [(5, .int (nI (cdEnd g σ (xs (i + 1))))), (4, .int (nI i)), (3, .ref (ad 6 0)), (2, .ref (ad 5 0)), (1, .ref (ad 4 0)), (0, .ref b)]) hx hb dL_law_714 hl (by decide) rfl (fun ls hl => ?_)
    refine lv_aload_n hx hb dL_law_716 rfl (lv_at hl 3 rfl) ?_
    refine lv_aload_n hx hb dL_law_717 rfl (lv_at hl 5 rfl) ?_
    refine lv_iload hx hb dL_law_718 (lv_at hl 1 rfl) ?_
    refine lv_iconst (v := 1) hx hb dL_law_720 (by decide) ?_
    refine lv_iadd hx hb dL_law_721 ?_
    refine w_top (v := nI (i + 1)) (nI_add i 1) ?_
    refine w_sld hx hb hX hbl rfl hS (by omega) hL dL_law_722 ?_
    refine w_callv (va_runV (As := [.int (xs (i + 1))]) (rest := []) ⟨hx, hb, hml, hown, hts⟩ (c_X5_end l D s.heap.size ad (g, σ) g (sh d σ) th (o) (Ib_sh (Rf_Ib hR)) (xs (i + 1))) (cwV 1 hts gL_law_X5_end rfl rfl rfl (by decide +kernel) ⟨(Nat.le_of_ble_eq_true rfl), (Nat.le_of_ble_eq_true rfl)⟩) (w_preV hC hP hS cW_5 rfl) rfl rfl hl.1 rfl (lv_room (Nat.le_of_ble_eq_true rfl)) dL_law_723 ⟨hcc, hcs⟩) hS (fun ad1 w1 H locs hq hP hS => ?_)
    rw [cdEnd_sh] at hq
    cases hq.2 c9
    have hP : hw D s.heap.size ad (cW D ad (g, σ) (g, sh d (σ), nI (cdEnd g σ (xs (i + 1)))) (o)) H := hP
    refine lv_aload_n hx hb dL_law_726 rfl (lv_at hl 3 rfl) ?_
    refine w_calli (va_runV (As := []) (rest := []) ⟨hx, hb, hml, hown, hts⟩ (c_X5_thrown l D s.heap.size ad (g, σ) g (sh d (σ)) (nI (cdEnd g σ (xs (i + 1)))) (o)) (cwV 0 hts gL_law_X5_thrown rfl rfl rfl (by decide +kernel) ⟨(Nat.le_of_ble_eq_true rfl), (Nat.le_of_ble_eq_true rfl)⟩) (w_preV hC hP hS cW_5 rfl) rfl rfl hl.1 rfl (lv_room (Nat.le_of_ble_eq_true rfl)) dL_law_727 ⟨hcc, hcs⟩) hS (fun r7 ad1 w1 H locs hq hP hS => ?_)
    obtain ⟨h91, h92⟩ := hq
    cases h91
    subst h92
    refine lv_iload hx hb dL_law_730 (lv_at hl 0 rfl) ?_
    refine lv_icmp_eq (tgt := 737) hx hb dL_law_732 (by decide) (fun _ => ?_) (fun c1 => absurd rfl c1)
    refine lv_goto (tgt := 1304) hx hb dL_law_737 (by decide) ?_
    refine W.widen (k := cells + 12) (n := slots + 151) (by omega) (by omega) ?_
    exact K ad g σ d (nI (cdEnd g σ (xs (i + 1)))) (o) H locs ls ⟨hP, hS, hR, lv_sub hl [1, 2, 3, 4, 5] rfl⟩
set_option maxHeartbeats 4000000 in
set_option maxRecDepth 100000 in
theorem lc_clock {p : Program} {l : Launch} {e : Env} {s : State} {m : MethodId} {below : List Frame} {meth : Method} {c : Code} {b L : Nat} {xs : Nat → Int32} {D : va_G} (A : LoA p l s m c b L xs D) {Q : State → Prop} {cells slots : Nat} (hcc : cells + 12 ≤ room_1.cells) (hcs : slots + 151 ≤ room_1.slots) {i : Nat} (hi : i + 5 ≤ L) {ad : Ad} {g : GC} {σ : Me} {d th : Int32} {o : Int64} {H : Heap} {locs : List Loc} {ls : Array Slot} (Z : LoS D s b i ad g σ d th o H locs ls) (K : LoK p l e s m below meth c b i D cells slots Q) : W p l e room_1 s m #[Value.ref b] below meth c H locs cells slots Q (F0 m 1291 ls []) := by
  obtain ⟨hns, hx, hb, hml, hown, hts, hX, hbl, hL, hC⟩ := A
  obtain ⟨hP, hS, hR, hl⟩ := Z
  refine W.widen (k := cells + 12) (n := slots + 151) (Nat.le_add_right _ _) (Nat.le_add_right _ _) ?_
  refine lv_aload_n hx hb dL_law_1291 rfl (lv_at hl 3 rfl) ?_
  refine w_calli (va_runV (As := []) (rest := []) ⟨hx, hb, hml, hown, hts⟩ (c_X4_clock l D s.heap.size ad g σ (g, sh d σ, th) o) (cwV 0 hts gL_law_X4_clock rfl rfl rfl (by decide +kernel) ⟨(Nat.le_of_ble_eq_true rfl), (Nat.le_of_ble_eq_true rfl)⟩) (w_preV hC hP hS cW_4 rfl) rfl rfl hl.1 rfl (lv_room (Nat.le_of_ble_eq_true rfl)) dL_law_1292 ⟨hcc, hcs⟩) hS (fun r5 ad1 w1 H locs hq hP hS => ?_)
  obtain ⟨h81, h82⟩ := hq
  cases h81
  subst h82
  refine lv_aload_n hx hb dL_law_1295 rfl (lv_at hl 2 rfl) ?_
  refine w_calli (va_runV (As := []) (rest := [.int (σ 25 0 0)]) ⟨hx, hb, hml, hown, hts⟩ (c_X5_clock l D s.heap.size ad (g, σ) g (sh d σ) th o) (cwV 0 hts gL_law_X5_clock rfl rfl rfl (by decide +kernel) ⟨(Nat.le_of_ble_eq_true rfl), (Nat.le_of_ble_eq_true rfl)⟩) (w_preV hC hP hS cW_5 rfl) rfl rfl hl.1 rfl (lv_room (Nat.le_of_ble_eq_true rfl)) dL_law_1296 ⟨hcc, hcs⟩) hS (fun r6 ad1 w1 H locs hq hP hS => ?_)
  obtain ⟨h81, h82⟩ := hq
  cases h81
  subst h82
  refine lv_icmp_eq (tgt := 1304) hx hb dL_law_1299 (by decide) (fun _ => ?_) (fun c1 => absurd (by rw [sh_n (a := 25) (by decide)]) c1)
  exact K ad g σ d 0 o H locs ls ⟨hP, hS, hR, hl⟩
