/-! the cases of the loop: value, standing, changes, reports, reported -/
set_option maxHeartbeats 4000000 in
set_option maxRecDepth 100000 in
theorem lc_value {p : Program} {l : Launch} {e : Env} {s : State} {m : MethodId} {below : List Frame} {meth : Method} {c : Code} {b L : Nat} {xs : Nat → Int32} {D : va_G} (A : LoA p l s m c b L xs D) {Q : State → Prop} {cells slots : Nat} (hcc : cells + 12 ≤ room_1.cells) (hcs : slots + 151 ≤ room_1.slots) {i : Nat} (hi : i + 5 ≤ L) {ad : Ad} {g : GC} {σ : Me} {d th : Int32} {o : Int64} {H : Heap} {locs : List Loc} {ls : Array Slot} (Z : LoS D s b i ad g σ d th o H locs ls) (K : LoK p l e s m below meth c b i D cells slots Q) : W p l e room_1 s m #[Value.ref b] below meth c H locs cells slots Q (F0 m 332 ls []) := by
  obtain ⟨hns, hx, hb, hml, hown, hts, hX, hbl, hL, hC⟩ := A
  obtain ⟨hP, hS, hR, hl⟩ := Z
  refine lv_aload_n hx hb dL_law_332 rfl (lv_at hl 3 rfl) ?_
  refine lv_aload_n hx hb dL_law_333 rfl (lv_at hl 4 rfl) ?_
  refine lv_iload hx hb dL_law_334 (lv_at hl 0 rfl) ?_
  refine lv_iconst (v := 1) hx hb dL_law_336 (by decide) ?_
  refine lv_iadd hx hb dL_law_337 ?_
  refine w_top (v := nI (i + 1)) (nI_add i 1) ?_
  refine w_sld hx hb hX hbl rfl hS (by omega) hL dL_law_338 ?_
  refine lv_aload_n hx hb dL_law_339 rfl (lv_at hl 1 rfl) ?_
  refine w_calli (vx_runSW (As := [.ref (ad 4 0), .int (xs (i + 1)), .ref (ad 6 0)]) (rest := []) ⟨hx, hb, hml, hown, hts⟩ (c_L_value l hns D s.heap.size ad g σ (g, sh d σ, th) o (Rf_Ib hR) (xs (i + 1))) (vx_cwSW 3 hts gL_law_L_value rfl rfl rfl (by decide +kernel) ⟨(Nat.le_of_ble_eq_true rfl), (Nat.le_of_ble_eq_true rfl)⟩) (w_preS hC hP hS) rfl rfl hl.1 rfl (lv_room (Nat.le_of_ble_eq_true rfl)) dL_law_340 ⟨Nat.le_trans (Nat.add_le_add_left (Nat.le_of_ble_eq_true rfl) _) hcc, Nat.le_trans (Nat.add_le_add_left (Nat.le_of_ble_eq_true rfl) _) hcs⟩) hS (fun r5 ad1 w1 H locs hq hP hS => ?_)
  refine W.widen (k := cells + 12) (n := slots + 151) (Nat.add_le_add_left (Nat.le_of_ble_eq_true rfl) _) (Nat.add_le_add_left (Nat.le_of_ble_eq_true rfl) _) ?_
  by_cases c9 : cdPt g.1 (xs (i + 1)) = 0
  · obtain ⟨h81, h82⟩ := hq.1 c9
    cases h81
    subst h82
    refine lv_istore (lv' := [(5, .int 0), (4, .int (nI i)), (3, .ref (ad 6 0)), (2, .ref (ad 5 0)), (1, .ref (ad 4 0)), (0, .ref b)]) hx hb dL_law_343 hl (by decide) rfl (fun ls hl => ?_)
    refine lv_aload_n hx hb dL_law_345 rfl (lv_at hl 3 rfl) ?_
    refine lv_aload_n hx hb dL_law_346 rfl (lv_at hl 5 rfl) ?_
    refine lv_iload hx hb dL_law_347 (lv_at hl 1 rfl) ?_
    refine lv_iconst (v := 1) hx hb dL_law_349 (by decide) ?_
    refine lv_iadd hx hb dL_law_350 ?_
    refine w_top (v := nI (i + 1)) (nI_add i 1) ?_
    refine w_sld hx hb hX hbl rfl hS (by omega) hL dL_law_351 ?_
    refine w_calli (va_runV (As := [.int (xs (i + 1))]) (rest := []) ⟨hx, hb, hml, hown, hts⟩ (c_X5_value l D s.heap.size ad (g, σ) g (sh d σ) th ((vaO σ (nOf (xs (i + 1)))).toInt64) (Ib_sh (Rf_Ib hR)) (xs (i + 1))) (cwV 1 hts gL_law_X5_value rfl rfl rfl (by decide +kernel) ⟨(Nat.le_of_ble_eq_true rfl), (Nat.le_of_ble_eq_true rfl)⟩) (w_preV hC hP hS cW_5 rfl) rfl rfl hl.1 rfl (lv_room (Nat.le_of_ble_eq_true rfl)) dL_law_352 ⟨hcc, hcs⟩) hS (fun r6 ad1 w1 H locs hq hP hS => ?_)
    rw [vaO_sh] at hq
    obtain ⟨h91, h92⟩ := hq.1 c9
    cases h91
    subst h92
    have hP : hw D s.heap.size ad (cW D ad (g, σ) (g, sh d (σ), nI (cdPt g.1 (xs (i + 1)))) ((vaO σ (nOf (xs (i + 1)))).toInt64)) H := hP
    refine lv_istore (lv' := [(6, .int (vaO σ (nOf (xs (i + 1))))), (5, .int 0), (4, .int (nI i)), (3, .ref (ad 6 0)), (2, .ref (ad 5 0)), (1, .ref (ad 4 0)), (0, .ref b)]) hx hb dL_law_355 hl (by decide) rfl (fun ls hl => ?_)
    refine lv_aload_n hx hb dL_law_357 rfl (lv_at hl 4 rfl) ?_
    refine w_calli (va_runV (As := []) (rest := []) ⟨hx, hb, hml, hown, hts⟩ (c_X5_thrown l D s.heap.size ad (g, σ) g (sh d (σ)) (nI (cdPt g.1 (xs (i + 1)))) ((vaO σ (nOf (xs (i + 1)))).toInt64)) (cwV 0 hts gL_law_X5_thrown rfl rfl rfl (by decide +kernel) ⟨(Nat.le_of_ble_eq_true rfl), (Nat.le_of_ble_eq_true rfl)⟩) (w_preV hC hP hS cW_5 rfl) rfl rfl hl.1 rfl (lv_room (Nat.le_of_ble_eq_true rfl)) dL_law_358 ⟨hcc, hcs⟩) hS (fun r7 ad1 w1 H locs hq hP hS => ?_)
    obtain ⟨h91, h92⟩ := hq
    cases h91
    subst h92
    refine lv_iload hx hb dL_law_361 (lv_at hl 1 rfl) ?_
    refine lv_icmp_eq (tgt := 368) hx hb dL_law_363 (by decide) (fun _ => ?_) (fun c1 => absurd (by rw [c9]; rfl) c1)
    refine lv_iload hx hb dL_law_368 (lv_at hl 1 rfl) ?_
    refine lv_if_ne (tgt := 385) hx hb dL_law_370 (by decide) (fun c2 => absurd rfl c2) (fun _ => ?_)
    refine lv_aload_n hx hb dL_law_373 rfl (lv_at hl 3 rfl) ?_
    refine lv_iconst (v := 0) hx hb dL_law_374 (by decide) ?_
    refine w_laldV hx hb hC hP cW_6 (i := 0) (v := (vaO σ (nOf (xs (i + 1)))).toInt64) (by unfold vp_in; decide) rfl dL_law_375 ?_
    refine lv_iload hx hb dL_law_376 (lv_at hl 0 rfl) ?_
    refine lv_i2l (v := (vaO σ (nOf (xs (i + 1)))).toInt64) hx hb dL_law_378 rfl ?_
    refine W.lcmp hx hb dL_law_379 ?_
    refine lv_if_eq (tgt := 385) hx hb dL_law_380 (by decide) (fun _ => ?_) (fun c3 => absurd (lg_cmp_self _) c3)
    refine lv_goto (tgt := 1304) hx hb dL_law_385 (by decide) ?_
    refine W.widen (k := cells + 12) (n := slots + 151) (by omega) (by omega) ?_
    exact K ad g σ d (nI (cdPt g.1 (xs (i + 1)))) ((vaO σ (nOf (xs (i + 1)))).toInt64) H locs ls ⟨hP, hS, hR, lv_sub hl [2, 3, 4, 5, 6] rfl⟩
  · obtain ⟨h81, h82⟩ := hq.2 c9
    cases h81
    subst h82
    refine lv_istore (lv' := [(5, .int (nI (cdPt g.1 (xs (i + 1))))), (4, .int (nI i)), (3, .ref (ad 6 0)), (2, .ref (ad 5 0)), (1, .ref (ad 4 0)), (0, .ref b)]) hx hb dL_law_343 hl (by decide) rfl (fun ls hl => ?_)
    refine lv_aload_n hx hb dL_law_345 rfl (lv_at hl 3 rfl) ?_
    refine lv_aload_n hx hb dL_law_346 rfl (lv_at hl 5 rfl) ?_
    refine lv_iload hx hb dL_law_347 (lv_at hl 1 rfl) ?_
    refine lv_iconst (v := 1) hx hb dL_law_349 (by decide) ?_
    refine lv_iadd hx hb dL_law_350 ?_
    refine w_top (v := nI (i + 1)) (nI_add i 1) ?_
    refine w_sld hx hb hX hbl rfl hS (by omega) hL dL_law_351 ?_
    refine w_calli (va_runV (As := [.int (xs (i + 1))]) (rest := []) ⟨hx, hb, hml, hown, hts⟩ (c_X5_value l D s.heap.size ad (g, σ) g (sh d σ) th (o) (Ib_sh (Rf_Ib hR)) (xs (i + 1))) (cwV 1 hts gL_law_X5_value rfl rfl rfl (by decide +kernel) ⟨(Nat.le_of_ble_eq_true rfl), (Nat.le_of_ble_eq_true rfl)⟩) (w_preV hC hP hS cW_5 rfl) rfl rfl hl.1 rfl (lv_room (Nat.le_of_ble_eq_true rfl)) dL_law_352 ⟨hcc, hcs⟩) hS (fun r6 ad1 w1 H locs hq hP hS => ?_)
    cases hq.2 c9
    have hP : hw D s.heap.size ad (cW D ad (g, σ) (g, sh d (σ), nI (cdPt g.1 (xs (i + 1)))) (o)) H := hP
    refine lv_istore (lv' := [(6, .int r6), (5, .int (nI (cdPt g.1 (xs (i + 1))))), (4, .int (nI i)), (3, .ref (ad 6 0)), (2, .ref (ad 5 0)), (1, .ref (ad 4 0)), (0, .ref b)]) hx hb dL_law_355 hl (by decide) rfl (fun ls hl => ?_)
    refine lv_aload_n hx hb dL_law_357 rfl (lv_at hl 4 rfl) ?_
    refine w_calli (va_runV (As := []) (rest := []) ⟨hx, hb, hml, hown, hts⟩ (c_X5_thrown l D s.heap.size ad (g, σ) g (sh d (σ)) (nI (cdPt g.1 (xs (i + 1)))) (o)) (cwV 0 hts gL_law_X5_thrown rfl rfl rfl (by decide +kernel) ⟨(Nat.le_of_ble_eq_true rfl), (Nat.le_of_ble_eq_true rfl)⟩) (w_preV hC hP hS cW_5 rfl) rfl rfl hl.1 rfl (lv_room (Nat.le_of_ble_eq_true rfl)) dL_law_358 ⟨hcc, hcs⟩) hS (fun r7 ad1 w1 H locs hq hP hS => ?_)
    obtain ⟨h91, h92⟩ := hq
    cases h91
    subst h92
    refine lv_iload hx hb dL_law_361 (lv_at hl 1 rfl) ?_
    refine lv_icmp_eq (tgt := 368) hx hb dL_law_363 (by decide) (fun _ => ?_) (fun c1 => absurd rfl c1)
    refine lv_iload hx hb dL_law_368 (lv_at hl 1 rfl) ?_
    refine lv_if_ne (tgt := 385) hx hb dL_law_370 (by decide) (fun _ => ?_) (fun c2 => absurd (nI_cod c2) c9)
    refine lv_goto (tgt := 1304) hx hb dL_law_385 (by decide) ?_
    refine W.widen (k := cells + 12) (n := slots + 151) (by omega) (by omega) ?_
    exact K ad g σ d (nI (cdPt g.1 (xs (i + 1)))) (o) H locs ls ⟨hP, hS, hR, lv_sub hl [2, 3, 4, 5, 6] rfl⟩
set_option maxHeartbeats 4000000 in
set_option maxRecDepth 100000 in
theorem lc_standing {p : Program} {l : Launch} {e : Env} {s : State} {m : MethodId} {below : List Frame} {meth : Method} {c : Code} {b L : Nat} {xs : Nat → Int32} {D : va_G} (A : LoA p l s m c b L xs D) {Q : State → Prop} {cells slots : Nat} (hcc : cells + 12 ≤ room_1.cells) (hcs : slots + 151 ≤ room_1.slots) {i : Nat} (hi : i + 5 ≤ L) {ad : Ad} {g : GC} {σ : Me} {d th : Int32} {o : Int64} {H : Heap} {locs : List Loc} {ls : Array Slot} (Z : LoS D s b i ad g σ d th o H locs ls) (K : LoK p l e s m below meth c b i D cells slots Q) : W p l e room_1 s m #[Value.ref b] below meth c H locs cells slots Q (F0 m 456 ls []) := by
  obtain ⟨hns, hx, hb, hml, hown, hts, hX, hbl, hL, hC⟩ := A
  obtain ⟨hP, hS, hR, hl⟩ := Z
  refine lv_aload_n hx hb dL_law_456 rfl (lv_at hl 3 rfl) ?_
  refine lv_aload_n hx hb dL_law_457 rfl (lv_at hl 4 rfl) ?_
  refine lv_iload hx hb dL_law_458 (lv_at hl 0 rfl) ?_
  refine lv_iconst (v := 1) hx hb dL_law_460 (by decide) ?_
  refine lv_iadd hx hb dL_law_461 ?_
  refine w_top (v := nI (i + 1)) (nI_add i 1) ?_
  refine w_sld hx hb hX hbl rfl hS (by omega) hL dL_law_462 ?_
  refine lv_aload_n hx hb dL_law_463 rfl (lv_at hl 1 rfl) ?_
  refine w_calli (vx_runSW (As := [.ref (ad 4 0), .int (xs (i + 1)), .ref (ad 6 0)]) (rest := []) ⟨hx, hb, hml, hown, hts⟩ (c_L_standing l hns D s.heap.size ad g σ (g, sh d σ, th) o (Rf_Ib hR) (xs (i + 1))) (vx_cwSW 3 hts gL_law_L_standing rfl rfl rfl (by decide +kernel) ⟨(Nat.le_of_ble_eq_true rfl), (Nat.le_of_ble_eq_true rfl)⟩) (w_preS hC hP hS) rfl rfl hl.1 rfl (lv_room (Nat.le_of_ble_eq_true rfl)) dL_law_464 ⟨Nat.le_trans (Nat.add_le_add_left (Nat.le_of_ble_eq_true rfl) _) hcc, Nat.le_trans (Nat.add_le_add_left (Nat.le_of_ble_eq_true rfl) _) hcs⟩) hS (fun r5 ad1 w1 H locs hq hP hS => ?_)
  refine W.widen (k := cells + 12) (n := slots + 151) (Nat.add_le_add_left (Nat.le_of_ble_eq_true rfl) _) (Nat.add_le_add_left (Nat.le_of_ble_eq_true rfl) _) ?_
  by_cases c9 : cdPt g.1 (xs (i + 1)) = 0
  · obtain ⟨h81, h82⟩ := hq.1 c9
    cases h81
    subst h82
    refine lv_istore (lv' := [(5, .int 0), (4, .int (nI i)), (3, .ref (ad 6 0)), (2, .ref (ad 5 0)), (1, .ref (ad 4 0)), (0, .ref b)]) hx hb dL_law_467 hl (by decide) rfl (fun ls hl => ?_)
    refine lv_aload_n hx hb dL_law_469 rfl (lv_at hl 3 rfl) ?_
    refine lv_aload_n hx hb dL_law_470 rfl (lv_at hl 5 rfl) ?_
    refine lv_iload hx hb dL_law_471 (lv_at hl 1 rfl) ?_
    refine lv_iconst (v := 1) hx hb dL_law_473 (by decide) ?_
    refine lv_iadd hx hb dL_law_474 ?_
    refine w_top (v := nI (i + 1)) (nI_add i 1) ?_
    refine w_sld hx hb hX hbl rfl hS (by omega) hL dL_law_475 ?_
    refine w_calli (va_runV (As := [.int (xs (i + 1))]) (rest := []) ⟨hx, hb, hml, hown, hts⟩ (c_X5_standing l D s.heap.size ad (g, σ) g (sh d σ) th ((nI (stO σ (nOf (xs (i + 1))))).toInt64) (Ib_sh (Rf_Ib hR)) (xs (i + 1))) (cwV 1 hts gL_law_X5_standing rfl rfl rfl (by decide +kernel) ⟨(Nat.le_of_ble_eq_true rfl), (Nat.le_of_ble_eq_true rfl)⟩) (w_preV hC hP hS cW_5 rfl) rfl rfl hl.1 rfl (lv_room (Nat.le_of_ble_eq_true rfl)) dL_law_476 ⟨hcc, hcs⟩) hS (fun r6 ad1 w1 H locs hq hP hS => ?_)
    rw [stO_sh] at hq
    obtain ⟨h91, h92⟩ := hq.1 c9
    cases h91
    subst h92
    have hP : hw D s.heap.size ad (cW D ad (g, σ) (g, sh d (σ), nI (cdPt g.1 (xs (i + 1)))) ((nI (stO σ (nOf (xs (i + 1))))).toInt64)) H := hP
    refine lv_istore (lv' := [(6, .int (nI (stO σ (nOf (xs (i + 1)))))), (5, .int 0), (4, .int (nI i)), (3, .ref (ad 6 0)), (2, .ref (ad 5 0)), (1, .ref (ad 4 0)), (0, .ref b)]) hx hb dL_law_479 hl (by decide) rfl (fun ls hl => ?_)
    refine lv_aload_n hx hb dL_law_481 rfl (lv_at hl 4 rfl) ?_
    refine w_calli (va_runV (As := []) (rest := []) ⟨hx, hb, hml, hown, hts⟩ (c_X5_thrown l D s.heap.size ad (g, σ) g (sh d (σ)) (nI (cdPt g.1 (xs (i + 1)))) ((nI (stO σ (nOf (xs (i + 1))))).toInt64)) (cwV 0 hts gL_law_X5_thrown rfl rfl rfl (by decide +kernel) ⟨(Nat.le_of_ble_eq_true rfl), (Nat.le_of_ble_eq_true rfl)⟩) (w_preV hC hP hS cW_5 rfl) rfl rfl hl.1 rfl (lv_room (Nat.le_of_ble_eq_true rfl)) dL_law_482 ⟨hcc, hcs⟩) hS (fun r7 ad1 w1 H locs hq hP hS => ?_)
    obtain ⟨h91, h92⟩ := hq
    cases h91
    subst h92
    refine lv_iload hx hb dL_law_485 (lv_at hl 1 rfl) ?_
    refine lv_icmp_eq (tgt := 492) hx hb dL_law_487 (by decide) (fun _ => ?_) (fun c1 => absurd (by rw [c9]; rfl) c1)
    refine lv_iload hx hb dL_law_492 (lv_at hl 1 rfl) ?_
    refine lv_if_ne (tgt := 509) hx hb dL_law_494 (by decide) (fun c2 => absurd rfl c2) (fun _ => ?_)
    refine lv_aload_n hx hb dL_law_497 rfl (lv_at hl 3 rfl) ?_
    refine lv_iconst (v := 0) hx hb dL_law_498 (by decide) ?_
    refine w_laldV hx hb hC hP cW_6 (i := 0) (v := (nI (stO σ (nOf (xs (i + 1))))).toInt64) (by unfold vp_in; decide) rfl dL_law_499 ?_
    refine lv_iload hx hb dL_law_500 (lv_at hl 0 rfl) ?_
    refine lv_i2l (v := (nI (stO σ (nOf (xs (i + 1))))).toInt64) hx hb dL_law_502 rfl ?_
    refine W.lcmp hx hb dL_law_503 ?_
    refine lv_if_eq (tgt := 509) hx hb dL_law_504 (by decide) (fun _ => ?_) (fun c3 => absurd (lg_cmp_self _) c3)
    refine lv_goto (tgt := 1304) hx hb dL_law_509 (by decide) ?_
    refine W.widen (k := cells + 12) (n := slots + 151) (by omega) (by omega) ?_
    exact K ad g σ d (nI (cdPt g.1 (xs (i + 1)))) ((nI (stO σ (nOf (xs (i + 1))))).toInt64) H locs ls ⟨hP, hS, hR, lv_sub hl [2, 3, 4, 5, 6] rfl⟩
  · obtain ⟨h81, h82⟩ := hq.2 c9
    cases h81
    subst h82
    refine lv_istore (lv' := [(5, .int (nI (cdPt g.1 (xs (i + 1))))), (4, .int (nI i)), (3, .ref (ad 6 0)), (2, .ref (ad 5 0)), (1, .ref (ad 4 0)), (0, .ref b)]) hx hb dL_law_467 hl (by decide) rfl (fun ls hl => ?_)
    refine lv_aload_n hx hb dL_law_469 rfl (lv_at hl 3 rfl) ?_
    refine lv_aload_n hx hb dL_law_470 rfl (lv_at hl 5 rfl) ?_
    refine lv_iload hx hb dL_law_471 (lv_at hl 1 rfl) ?_
    refine lv_iconst (v := 1) hx hb dL_law_473 (by decide) ?_
    refine lv_iadd hx hb dL_law_474 ?_
    refine w_top (v := nI (i + 1)) (nI_add i 1) ?_
    refine w_sld hx hb hX hbl rfl hS (by omega) hL dL_law_475 ?_
    refine w_calli (va_runV (As := [.int (xs (i + 1))]) (rest := []) ⟨hx, hb, hml, hown, hts⟩ (c_X5_standing l D s.heap.size ad (g, σ) g (sh d σ) th (o) (Ib_sh (Rf_Ib hR)) (xs (i + 1))) (cwV 1 hts gL_law_X5_standing rfl rfl rfl (by decide +kernel) ⟨(Nat.le_of_ble_eq_true rfl), (Nat.le_of_ble_eq_true rfl)⟩) (w_preV hC hP hS cW_5 rfl) rfl rfl hl.1 rfl (lv_room (Nat.le_of_ble_eq_true rfl)) dL_law_476 ⟨hcc, hcs⟩) hS (fun r6 ad1 w1 H locs hq hP hS => ?_)
    cases hq.2 c9
    have hP : hw D s.heap.size ad (cW D ad (g, σ) (g, sh d (σ), nI (cdPt g.1 (xs (i + 1)))) (o)) H := hP
    refine lv_istore (lv' := [(6, .int r6), (5, .int (nI (cdPt g.1 (xs (i + 1))))), (4, .int (nI i)), (3, .ref (ad 6 0)), (2, .ref (ad 5 0)), (1, .ref (ad 4 0)), (0, .ref b)]) hx hb dL_law_479 hl (by decide) rfl (fun ls hl => ?_)
    refine lv_aload_n hx hb dL_law_481 rfl (lv_at hl 4 rfl) ?_
    refine w_calli (va_runV (As := []) (rest := []) ⟨hx, hb, hml, hown, hts⟩ (c_X5_thrown l D s.heap.size ad (g, σ) g (sh d (σ)) (nI (cdPt g.1 (xs (i + 1)))) (o)) (cwV 0 hts gL_law_X5_thrown rfl rfl rfl (by decide +kernel) ⟨(Nat.le_of_ble_eq_true rfl), (Nat.le_of_ble_eq_true rfl)⟩) (w_preV hC hP hS cW_5 rfl) rfl rfl hl.1 rfl (lv_room (Nat.le_of_ble_eq_true rfl)) dL_law_482 ⟨hcc, hcs⟩) hS (fun r7 ad1 w1 H locs hq hP hS => ?_)
    obtain ⟨h91, h92⟩ := hq
    cases h91
    subst h92
    refine lv_iload hx hb dL_law_485 (lv_at hl 1 rfl) ?_
    refine lv_icmp_eq (tgt := 492) hx hb dL_law_487 (by decide) (fun _ => ?_) (fun c1 => absurd rfl c1)
    refine lv_iload hx hb dL_law_492 (lv_at hl 1 rfl) ?_
    refine lv_if_ne (tgt := 509) hx hb dL_law_494 (by decide) (fun _ => ?_) (fun c2 => absurd (nI_cod c2) c9)
    refine lv_goto (tgt := 1304) hx hb dL_law_509 (by decide) ?_
    refine W.widen (k := cells + 12) (n := slots + 151) (by omega) (by omega) ?_
    exact K ad g σ d (nI (cdPt g.1 (xs (i + 1)))) (o) H locs ls ⟨hP, hS, hR, lv_sub hl [2, 3, 4, 5, 6] rfl⟩
set_option maxHeartbeats 4000000 in
set_option maxRecDepth 100000 in
theorem lc_changes {p : Program} {l : Launch} {e : Env} {s : State} {m : MethodId} {below : List Frame} {meth : Method} {c : Code} {b L : Nat} {xs : Nat → Int32} {D : va_G} (A : LoA p l s m c b L xs D) {Q : State → Prop} {cells slots : Nat} (hcc : cells + 12 ≤ room_1.cells) (hcs : slots + 151 ≤ room_1.slots) {i : Nat} (hi : i + 5 ≤ L) {ad : Ad} {g : GC} {σ : Me} {d th : Int32} {o : Int64} {H : Heap} {locs : List Loc} {ls : Array Slot} (Z : LoS D s b i ad g σ d th o H locs ls) (K : LoK p l e s m below meth c b i D cells slots Q) : W p l e room_1 s m #[Value.ref b] below meth c H locs cells slots Q (F0 m 568 ls []) := by
  obtain ⟨hns, hx, hb, hml, hown, hts, hX, hbl, hL, hC⟩ := A
  obtain ⟨hP, hS, hR, hl⟩ := Z
  refine lv_aload_n hx hb dL_law_568 rfl (lv_at hl 3 rfl) ?_
  refine lv_aload_n hx hb dL_law_569 rfl (lv_at hl 4 rfl) ?_
  refine lv_iload hx hb dL_law_570 (lv_at hl 0 rfl) ?_
  refine lv_iconst (v := 1) hx hb dL_law_572 (by decide) ?_
  refine lv_iadd hx hb dL_law_573 ?_
  refine w_top (v := nI (i + 1)) (nI_add i 1) ?_
  refine w_sld hx hb hX hbl rfl hS (by omega) hL dL_law_574 ?_
  refine lv_aload_n hx hb dL_law_575 rfl (lv_at hl 1 rfl) ?_
  refine w_calli (vx_runSW (As := [.ref (ad 4 0), .int (xs (i + 1)), .ref (ad 6 0)]) (rest := []) ⟨hx, hb, hml, hown, hts⟩ (c_L_changes l hns D s.heap.size ad g σ (g, sh d σ, th) o (Rf_Ib hR) (xs (i + 1))) (vx_cwSW 3 hts gL_law_L_changes rfl rfl rfl (by decide +kernel) ⟨(Nat.le_of_ble_eq_true rfl), (Nat.le_of_ble_eq_true rfl)⟩) (w_preS hC hP hS) rfl rfl hl.1 rfl (lv_room (Nat.le_of_ble_eq_true rfl)) dL_law_576 ⟨Nat.le_trans (Nat.add_le_add_left (Nat.le_of_ble_eq_true rfl) _) hcc, Nat.le_trans (Nat.add_le_add_left (Nat.le_of_ble_eq_true rfl) _) hcs⟩) hS (fun r5 ad1 w1 H locs hq hP hS => ?_)
  refine W.widen (k := cells + 12) (n := slots + 151) (Nat.add_le_add_left (Nat.le_of_ble_eq_true rfl) _) (Nat.add_le_add_left (Nat.le_of_ble_eq_true rfl) _) ?_
  by_cases c9 : cdPt g.1 (xs (i + 1)) = 0
  · obtain ⟨h81, h82⟩ := hq.1 c9
    cases h81
    subst h82
    refine lv_istore (lv' := [(5, .int 0), (4, .int (nI i)), (3, .ref (ad 6 0)), (2, .ref (ad 5 0)), (1, .ref (ad 4 0)), (0, .ref b)]) hx hb dL_law_579 hl (by decide) rfl (fun ls hl => ?_)
    refine lv_aload_n hx hb dL_law_581 rfl (lv_at hl 3 rfl) ?_
    refine lv_aload_n hx hb dL_law_582 rfl (lv_at hl 5 rfl) ?_
    refine lv_iload hx hb dL_law_583 (lv_at hl 1 rfl) ?_
    refine lv_iconst (v := 1) hx hb dL_law_585 (by decide) ?_
    refine lv_iadd hx hb dL_law_586 ?_
    refine w_top (v := nI (i + 1)) (nI_add i 1) ?_
    refine w_sld hx hb hX hbl rfl hS (by omega) hL dL_law_587 ?_
    refine w_calli (va_runV (As := [.int (xs (i + 1))]) (rest := []) ⟨hx, hb, hml, hown, hts⟩ (c_X5_changes l D s.heap.size ad (g, σ) g (sh d σ) th ((σ 5 (nOf (xs (i + 1))) 0).toInt64) (Ib_sh (Rf_Ib hR)) (xs (i + 1))) (cwV 1 hts gL_law_X5_changes rfl rfl rfl (by decide +kernel) ⟨(Nat.le_of_ble_eq_true rfl), (Nat.le_of_ble_eq_true rfl)⟩) (w_preV hC hP hS cW_5 rfl) rfl rfl hl.1 rfl (lv_room (Nat.le_of_ble_eq_true rfl)) dL_law_588 ⟨hcc, hcs⟩) hS (fun r6 ad1 w1 H locs hq hP hS => ?_)
    rw [sh_n (a := 5) (by decide)] at hq
    obtain ⟨h91, h92⟩ := hq.1 c9
    cases h91
    subst h92
    have hP : hw D s.heap.size ad (cW D ad (g, σ) (g, sh d (σ), nI (cdPt g.1 (xs (i + 1)))) ((σ 5 (nOf (xs (i + 1))) 0).toInt64)) H := hP
    refine lv_istore (lv' := [(6, .int (σ 5 (nOf (xs (i + 1))) 0)), (5, .int 0), (4, .int (nI i)), (3, .ref (ad 6 0)), (2, .ref (ad 5 0)), (1, .ref (ad 4 0)), (0, .ref b)]) hx hb dL_law_591 hl (by decide) rfl (fun ls hl => ?_)
    refine lv_aload_n hx hb dL_law_593 rfl (lv_at hl 4 rfl) ?_
    refine w_calli (va_runV (As := []) (rest := []) ⟨hx, hb, hml, hown, hts⟩ (c_X5_thrown l D s.heap.size ad (g, σ) g (sh d (σ)) (nI (cdPt g.1 (xs (i + 1)))) ((σ 5 (nOf (xs (i + 1))) 0).toInt64)) (cwV 0 hts gL_law_X5_thrown rfl rfl rfl (by decide +kernel) ⟨(Nat.le_of_ble_eq_true rfl), (Nat.le_of_ble_eq_true rfl)⟩) (w_preV hC hP hS cW_5 rfl) rfl rfl hl.1 rfl (lv_room (Nat.le_of_ble_eq_true rfl)) dL_law_594 ⟨hcc, hcs⟩) hS (fun r7 ad1 w1 H locs hq hP hS => ?_)
    obtain ⟨h91, h92⟩ := hq
    cases h91
    subst h92
    refine lv_iload hx hb dL_law_597 (lv_at hl 1 rfl) ?_
    refine lv_icmp_eq (tgt := 604) hx hb dL_law_599 (by decide) (fun _ => ?_) (fun c1 => absurd (by rw [c9]; rfl) c1)
    refine lv_iload hx hb dL_law_604 (lv_at hl 1 rfl) ?_
    refine lv_if_ne (tgt := 621) hx hb dL_law_606 (by decide) (fun c2 => absurd rfl c2) (fun _ => ?_)
    refine lv_aload_n hx hb dL_law_609 rfl (lv_at hl 3 rfl) ?_
    refine lv_iconst (v := 0) hx hb dL_law_610 (by decide) ?_
    refine w_laldV hx hb hC hP cW_6 (i := 0) (v := (σ 5 (nOf (xs (i + 1))) 0).toInt64) (by unfold vp_in; decide) rfl dL_law_611 ?_
    refine lv_iload hx hb dL_law_612 (lv_at hl 0 rfl) ?_
    refine lv_i2l (v := (σ 5 (nOf (xs (i + 1))) 0).toInt64) hx hb dL_law_614 rfl ?_
    refine W.lcmp hx hb dL_law_615 ?_
    refine lv_if_eq (tgt := 621) hx hb dL_law_616 (by decide) (fun _ => ?_) (fun c3 => absurd (lg_cmp_self _) c3)
    refine lv_goto (tgt := 1304) hx hb dL_law_621 (by decide) ?_
    refine W.widen (k := cells + 12) (n := slots + 151) (by omega) (by omega) ?_
    exact K ad g σ d (nI (cdPt g.1 (xs (i + 1)))) ((σ 5 (nOf (xs (i + 1))) 0).toInt64) H locs ls ⟨hP, hS, hR, lv_sub hl [2, 3, 4, 5, 6] rfl⟩
  · obtain ⟨h81, h82⟩ := hq.2 c9
    cases h81
    subst h82
    refine lv_istore (lv' := [(5, .int (nI (cdPt g.1 (xs (i + 1))))), (4, .int (nI i)), (3, .ref (ad 6 0)), (2, .ref (ad 5 0)), (1, .ref (ad 4 0)), (0, .ref b)]) hx hb dL_law_579 hl (by decide) rfl (fun ls hl => ?_)
    refine lv_aload_n hx hb dL_law_581 rfl (lv_at hl 3 rfl) ?_
    refine lv_aload_n hx hb dL_law_582 rfl (lv_at hl 5 rfl) ?_
    refine lv_iload hx hb dL_law_583 (lv_at hl 1 rfl) ?_
    refine lv_iconst (v := 1) hx hb dL_law_585 (by decide) ?_
    refine lv_iadd hx hb dL_law_586 ?_
    refine w_top (v := nI (i + 1)) (nI_add i 1) ?_
    refine w_sld hx hb hX hbl rfl hS (by omega) hL dL_law_587 ?_
    refine w_calli (va_runV (As := [.int (xs (i + 1))]) (rest := []) ⟨hx, hb, hml, hown, hts⟩ (c_X5_changes l D s.heap.size ad (g, σ) g (sh d σ) th (o) (Ib_sh (Rf_Ib hR)) (xs (i + 1))) (cwV 1 hts gL_law_X5_changes rfl rfl rfl (by decide +kernel) ⟨(Nat.le_of_ble_eq_true rfl), (Nat.le_of_ble_eq_true rfl)⟩) (w_preV hC hP hS cW_5 rfl) rfl rfl hl.1 rfl (lv_room (Nat.le_of_ble_eq_true rfl)) dL_law_588 ⟨hcc, hcs⟩) hS (fun r6 ad1 w1 H locs hq hP hS => ?_)
    cases hq.2 c9
    have hP : hw D s.heap.size ad (cW D ad (g, σ) (g, sh d (σ), nI (cdPt g.1 (xs (i + 1)))) (o)) H := hP
    refine lv_istore (lv' := [(6, .int r6), (5, .int (nI (cdPt g.1 (xs (i + 1))))), (4, .int (nI i)), (3, .ref (ad 6 0)), (2, .ref (ad 5 0)), (1, .ref (ad 4 0)), (0, .ref b)]) hx hb dL_law_591 hl (by decide) rfl (fun ls hl => ?_)
    refine lv_aload_n hx hb dL_law_593 rfl (lv_at hl 4 rfl) ?_
    refine w_calli (va_runV (As := []) (rest := []) ⟨hx, hb, hml, hown, hts⟩ (c_X5_thrown l D s.heap.size ad (g, σ) g (sh d (σ)) (nI (cdPt g.1 (xs (i + 1)))) (o)) (cwV 0 hts gL_law_X5_thrown rfl rfl rfl (by decide +kernel) ⟨(Nat.le_of_ble_eq_true rfl), (Nat.le_of_ble_eq_true rfl)⟩) (w_preV hC hP hS cW_5 rfl) rfl rfl hl.1 rfl (lv_room (Nat.le_of_ble_eq_true rfl)) dL_law_594 ⟨hcc, hcs⟩) hS (fun r7 ad1 w1 H locs hq hP hS => ?_)
    obtain ⟨h91, h92⟩ := hq
    cases h91
    subst h92
    refine lv_iload hx hb dL_law_597 (lv_at hl 1 rfl) ?_
    refine lv_icmp_eq (tgt := 604) hx hb dL_law_599 (by decide) (fun _ => ?_) (fun c1 => absurd rfl c1)
    refine lv_iload hx hb dL_law_604 (lv_at hl 1 rfl) ?_
    refine lv_if_ne (tgt := 621) hx hb dL_law_606 (by decide) (fun _ => ?_) (fun c2 => absurd (nI_cod c2) c9)
    refine lv_goto (tgt := 1304) hx hb dL_law_621 (by decide) ?_
    refine W.widen (k := cells + 12) (n := slots + 151) (by omega) (by omega) ?_
    exact K ad g σ d (nI (cdPt g.1 (xs (i + 1)))) (o) H locs ls ⟨hP, hS, hR, lv_sub hl [2, 3, 4, 5, 6] rfl⟩
set_option maxHeartbeats 4000000 in
set_option maxRecDepth 100000 in
theorem lc_reports {p : Program} {l : Launch} {e : Env} {s : State} {m : MethodId} {below : List Frame} {meth : Method} {c : Code} {b L : Nat} {xs : Nat → Int32} {D : va_G} (A : LoA p l s m c b L xs D) {Q : State → Prop} {cells slots : Nat} (hcc : cells + 12 ≤ room_1.cells) (hcs : slots + 151 ≤ room_1.slots) {i : Nat} (hi : i + 5 ≤ L) {ad : Ad} {g : GC} {σ : Me} {d th : Int32} {o : Int64} {H : Heap} {locs : List Loc} {ls : Array Slot} (Z : LoS D s b i ad g σ d th o H locs ls) (K : LoK p l e s m below meth c b i D cells slots Q) : W p l e room_1 s m #[Value.ref b] below meth c H locs cells slots Q (F0 m 803 ls []) := by
  obtain ⟨hns, hx, hb, hml, hown, hts, hX, hbl, hL, hC⟩ := A
  obtain ⟨hP, hS, hR, hl⟩ := Z
  refine lv_aload_n hx hb dL_law_803 rfl (lv_at hl 3 rfl) ?_
  refine lv_aload_n hx hb dL_law_804 rfl (lv_at hl 4 rfl) ?_
  refine lv_iload hx hb dL_law_805 (lv_at hl 0 rfl) ?_
  refine lv_iconst (v := 1) hx hb dL_law_807 (by decide) ?_
  refine lv_iadd hx hb dL_law_808 ?_
  refine w_top (v := nI (i + 1)) (nI_add i 1) ?_
  refine w_sld hx hb hX hbl rfl hS (by omega) hL dL_law_809 ?_
  refine lv_aload_n hx hb dL_law_810 rfl (lv_at hl 1 rfl) ?_
  refine w_calli (vx_runSW (As := [.ref (ad 4 0), .int (xs (i + 1)), .ref (ad 6 0)]) (rest := []) ⟨hx, hb, hml, hown, hts⟩ (c_L_reports l hns D s.heap.size ad g σ (g, sh d σ, th) o (Rf_Ib hR) (xs (i + 1))) (vx_cwSW 3 hts gL_law_L_reports rfl rfl rfl (by decide +kernel) ⟨(Nat.le_of_ble_eq_true rfl), (Nat.le_of_ble_eq_true rfl)⟩) (w_preS hC hP hS) rfl rfl hl.1 rfl (lv_room (Nat.le_of_ble_eq_true rfl)) dL_law_811 ⟨Nat.le_trans (Nat.add_le_add_left (Nat.le_of_ble_eq_true rfl) _) hcc, Nat.le_trans (Nat.add_le_add_left (Nat.le_of_ble_eq_true rfl) _) hcs⟩) hS (fun r5 ad1 w1 H locs hq hP hS => ?_)
  refine W.widen (k := cells + 12) (n := slots + 151) (Nat.add_le_add_left (Nat.le_of_ble_eq_true rfl) _) (Nat.add_le_add_left (Nat.le_of_ble_eq_true rfl) _) ?_
  by_cases c9 : cdPt g.2.1 (xs (i + 1)) = 0
  · obtain ⟨h81, h82⟩ := hq.1 c9
    cases h81
    subst h82
    refine lv_istore (lv' := [(5, .int 0), (4, .int (nI i)), (3, .ref (ad 6 0)), (2, .ref (ad 5 0)), (1, .ref (ad 4 0)), (0, .ref b)]) hx hb dL_law_814 hl (by decide) rfl (fun ls hl => ?_)
    refine lv_aload_n hx hb dL_law_816 rfl (lv_at hl 3 rfl) ?_
    refine lv_aload_n hx hb dL_law_817 rfl (lv_at hl 5 rfl) ?_
    refine lv_iload hx hb dL_law_818 (lv_at hl 1 rfl) ?_
    refine lv_iconst (v := 1) hx hb dL_law_820 (by decide) ?_
    refine lv_iadd hx hb dL_law_821 ?_
    refine w_top (v := nI (i + 1)) (nI_add i 1) ?_
    refine w_sld hx hb hX hbl rfl hS (by omega) hL dL_law_822 ?_
    refine w_calli (va_runV (As := [.int (xs (i + 1))]) (rest := []) ⟨hx, hb, hml, hown, hts⟩ (c_X5_reports l D s.heap.size ad (g, σ) g (sh d σ) th ((σ 12 (nOf (xs (i + 1))) 0).toInt64) (Ib_sh (Rf_Ib hR)) (xs (i + 1))) (cwV 1 hts gL_law_X5_reports rfl rfl rfl (by decide +kernel) ⟨(Nat.le_of_ble_eq_true rfl), (Nat.le_of_ble_eq_true rfl)⟩) (w_preV hC hP hS cW_5 rfl) rfl rfl hl.1 rfl (lv_room (Nat.le_of_ble_eq_true rfl)) dL_law_823 ⟨hcc, hcs⟩) hS (fun r6 ad1 w1 H locs hq hP hS => ?_)
    rw [sh_n (a := 12) (by decide)] at hq
    obtain ⟨h91, h92⟩ := hq.1 c9
    cases h91
    subst h92
    have hP : hw D s.heap.size ad (cW D ad (g, σ) (g, sh d (σ), nI (cdPt g.2.1 (xs (i + 1)))) ((σ 12 (nOf (xs (i + 1))) 0).toInt64)) H := hP
    refine lv_istore (lv' := [(6, .int (σ 12 (nOf (xs (i + 1))) 0)), (5, .int 0), (4, .int (nI i)), (3, .ref (ad 6 0)), (2, .ref (ad 5 0)), (1, .ref (ad 4 0)), (0, .ref b)]) hx hb dL_law_826 hl (by decide) rfl (fun ls hl => ?_)
    refine lv_aload_n hx hb dL_law_828 rfl (lv_at hl 4 rfl) ?_
    refine w_calli (va_runV (As := []) (rest := []) ⟨hx, hb, hml, hown, hts⟩ (c_X5_thrown l D s.heap.size ad (g, σ) g (sh d (σ)) (nI (cdPt g.2.1 (xs (i + 1)))) ((σ 12 (nOf (xs (i + 1))) 0).toInt64)) (cwV 0 hts gL_law_X5_thrown rfl rfl rfl (by decide +kernel) ⟨(Nat.le_of_ble_eq_true rfl), (Nat.le_of_ble_eq_true rfl)⟩) (w_preV hC hP hS cW_5 rfl) rfl rfl hl.1 rfl (lv_room (Nat.le_of_ble_eq_true rfl)) dL_law_829 ⟨hcc, hcs⟩) hS (fun r7 ad1 w1 H locs hq hP hS => ?_)
    obtain ⟨h91, h92⟩ := hq
    cases h91
    subst h92
    refine lv_iload hx hb dL_law_832 (lv_at hl 1 rfl) ?_
    refine lv_icmp_eq (tgt := 839) hx hb dL_law_834 (by decide) (fun _ => ?_) (fun c1 => absurd (by rw [c9]; rfl) c1)
    refine lv_iload hx hb dL_law_839 (lv_at hl 1 rfl) ?_
    refine lv_if_ne (tgt := 856) hx hb dL_law_841 (by decide) (fun c2 => absurd rfl c2) (fun _ => ?_)
    refine lv_aload_n hx hb dL_law_844 rfl (lv_at hl 3 rfl) ?_
    refine lv_iconst (v := 0) hx hb dL_law_845 (by decide) ?_
    refine w_laldV hx hb hC hP cW_6 (i := 0) (v := (σ 12 (nOf (xs (i + 1))) 0).toInt64) (by unfold vp_in; decide) rfl dL_law_846 ?_
    refine lv_iload hx hb dL_law_847 (lv_at hl 0 rfl) ?_
    refine lv_i2l (v := (σ 12 (nOf (xs (i + 1))) 0).toInt64) hx hb dL_law_849 rfl ?_
    refine W.lcmp hx hb dL_law_850 ?_
    refine lv_if_eq (tgt := 856) hx hb dL_law_851 (by decide) (fun _ => ?_) (fun c3 => absurd (lg_cmp_self _) c3)
    refine lv_goto (tgt := 1304) hx hb dL_law_856 (by decide) ?_
    refine W.widen (k := cells + 12) (n := slots + 151) (by omega) (by omega) ?_
    exact K ad g σ d (nI (cdPt g.2.1 (xs (i + 1)))) ((σ 12 (nOf (xs (i + 1))) 0).toInt64) H locs ls ⟨hP, hS, hR, lv_sub hl [2, 3, 4, 5, 6] rfl⟩
  · obtain ⟨h81, h82⟩ := hq.2 c9
    cases h81
    subst h82
    refine lv_istore (lv' := [(5, .int (nI (cdPt g.2.1 (xs (i + 1))))), (4, .int (nI i)), (3, .ref (ad 6 0)), (2, .ref (ad 5 0)), (1, .ref (ad 4 0)), (0, .ref b)]) hx hb dL_law_814 hl (by decide) rfl (fun ls hl => ?_)
    refine lv_aload_n hx hb dL_law_816 rfl (lv_at hl 3 rfl) ?_
    refine lv_aload_n hx hb dL_law_817 rfl (lv_at hl 5 rfl) ?_
    refine lv_iload hx hb dL_law_818 (lv_at hl 1 rfl) ?_
    refine lv_iconst (v := 1) hx hb dL_law_820 (by decide) ?_
    refine lv_iadd hx hb dL_law_821 ?_
    refine w_top (v := nI (i + 1)) (nI_add i 1) ?_
    refine w_sld hx hb hX hbl rfl hS (by omega) hL dL_law_822 ?_
    refine w_calli (va_runV (As := [.int (xs (i + 1))]) (rest := []) ⟨hx, hb, hml, hown, hts⟩ (c_X5_reports l D s.heap.size ad (g, σ) g (sh d σ) th (o) (Ib_sh (Rf_Ib hR)) (xs (i + 1))) (cwV 1 hts gL_law_X5_reports rfl rfl rfl (by decide +kernel) ⟨(Nat.le_of_ble_eq_true rfl), (Nat.le_of_ble_eq_true rfl)⟩) (w_preV hC hP hS cW_5 rfl) rfl rfl hl.1 rfl (lv_room (Nat.le_of_ble_eq_true rfl)) dL_law_823 ⟨hcc, hcs⟩) hS (fun r6 ad1 w1 H locs hq hP hS => ?_)
    cases hq.2 c9
    have hP : hw D s.heap.size ad (cW D ad (g, σ) (g, sh d (σ), nI (cdPt g.2.1 (xs (i + 1)))) (o)) H := hP
    refine lv_istore (lv' := [(6, .int r6), (5, .int (nI (cdPt g.2.1 (xs (i + 1))))), (4, .int (nI i)), (3, .ref (ad 6 0)), (2, .ref (ad 5 0)), (1, .ref (ad 4 0)), (0, .ref b)]) hx hb dL_law_826 hl (by decide) rfl (fun ls hl => ?_)
    refine lv_aload_n hx hb dL_law_828 rfl (lv_at hl 4 rfl) ?_
    refine w_calli (va_runV (As := []) (rest := []) ⟨hx, hb, hml, hown, hts⟩ (c_X5_thrown l D s.heap.size ad (g, σ) g (sh d (σ)) (nI (cdPt g.2.1 (xs (i + 1)))) (o)) (cwV 0 hts gL_law_X5_thrown rfl rfl rfl (by decide +kernel) ⟨(Nat.le_of_ble_eq_true rfl), (Nat.le_of_ble_eq_true rfl)⟩) (w_preV hC hP hS cW_5 rfl) rfl rfl hl.1 rfl (lv_room (Nat.le_of_ble_eq_true rfl)) dL_law_829 ⟨hcc, hcs⟩) hS (fun r7 ad1 w1 H locs hq hP hS => ?_)
    obtain ⟨h91, h92⟩ := hq
    cases h91
    subst h92
    refine lv_iload hx hb dL_law_832 (lv_at hl 1 rfl) ?_
    refine lv_icmp_eq (tgt := 839) hx hb dL_law_834 (by decide) (fun _ => ?_) (fun c1 => absurd rfl c1)
    refine lv_iload hx hb dL_law_839 (lv_at hl 1 rfl) ?_
    refine lv_if_ne (tgt := 856) hx hb dL_law_841 (by decide) (fun _ => ?_) (fun c2 => absurd (nI_cod c2) c9)
    refine lv_goto (tgt := 1304) hx hb dL_law_856 (by decide) ?_
    refine W.widen (k := cells + 12) (n := slots + 151) (by omega) (by omega) ?_
    exact K ad g σ d (nI (cdPt g.2.1 (xs (i + 1)))) (o) H locs ls ⟨hP, hS, hR, lv_sub hl [2, 3, 4, 5, 6] rfl⟩
set_option maxHeartbeats 4000000 in
set_option maxRecDepth 100000 in
theorem lc_reported {p : Program} {l : Launch} {e : Env} {s : State} {m : MethodId} {below : List Frame} {meth : Method} {c : Code} {b L : Nat} {xs : Nat → Int32} {D : va_G} (A : LoA p l s m c b L xs D) {Q : State → Prop} {cells slots : Nat} (hcc : cells + 12 ≤ room_1.cells) (hcs : slots + 151 ≤ room_1.slots) {i : Nat} (hi : i + 5 ≤ L) {ad : Ad} {g : GC} {σ : Me} {d th : Int32} {o : Int64} {H : Heap} {locs : List Loc} {ls : Array Slot} (Z : LoS D s b i ad g σ d th o H locs ls) (K : LoK p l e s m below meth c b i D cells slots Q) : W p l e room_1 s m #[Value.ref b] below meth c H locs cells slots Q (F0 m 859 ls []) := by
  obtain ⟨hns, hx, hb, hml, hown, hts, hX, hbl, hL, hC⟩ := A
  obtain ⟨hP, hS, hR, hl⟩ := Z
  refine lv_aload_n hx hb dL_law_859 rfl (lv_at hl 3 rfl) ?_
  refine lv_aload_n hx hb dL_law_860 rfl (lv_at hl 4 rfl) ?_
  refine lv_iload hx hb dL_law_861 (lv_at hl 0 rfl) ?_
  refine lv_iconst (v := 1) hx hb dL_law_863 (by decide) ?_
  refine lv_iadd hx hb dL_law_864 ?_
  refine w_top (v := nI (i + 1)) (nI_add i 1) ?_
  refine w_sld hx hb hX hbl rfl hS (by omega) hL dL_law_865 ?_
  refine lv_aload_n hx hb dL_law_866 rfl (lv_at hl 1 rfl) ?_
  refine w_calli (vx_runSW (As := [.ref (ad 4 0), .int (xs (i + 1)), .ref (ad 6 0)]) (rest := []) ⟨hx, hb, hml, hown, hts⟩ (c_L_reported l hns D s.heap.size ad g σ (g, sh d σ, th) o (Rf_Ib hR) (xs (i + 1))) (vx_cwSW 3 hts gL_law_L_reported rfl rfl rfl (by decide +kernel) ⟨(Nat.le_of_ble_eq_true rfl), (Nat.le_of_ble_eq_true rfl)⟩) (w_preS hC hP hS) rfl rfl hl.1 rfl (lv_room (Nat.le_of_ble_eq_true rfl)) dL_law_867 ⟨Nat.le_trans (Nat.add_le_add_left (Nat.le_of_ble_eq_true rfl) _) hcc, Nat.le_trans (Nat.add_le_add_left (Nat.le_of_ble_eq_true rfl) _) hcs⟩) hS (fun r5 ad1 w1 H locs hq hP hS => ?_)
  refine W.widen (k := cells + 12) (n := slots + 151) (Nat.add_le_add_left (Nat.le_of_ble_eq_true rfl) _) (Nat.add_le_add_left (Nat.le_of_ble_eq_true rfl) _) ?_
  by_cases c9 : cdPt g.2.1 (xs (i + 1)) = 0
  · obtain ⟨h81, h82⟩ := hq.1 c9
    cases h81
    subst h82
    refine lv_istore (lv' := [(5, .int 0), (4, .int (nI i)), (3, .ref (ad 6 0)), (2, .ref (ad 5 0)), (1, .ref (ad 4 0)), (0, .ref b)]) hx hb dL_law_870 hl (by decide) rfl (fun ls hl => ?_)
    refine lv_aload_n hx hb dL_law_872 rfl (lv_at hl 3 rfl) ?_
    refine lv_aload_n hx hb dL_law_873 rfl (lv_at hl 5 rfl) ?_
    refine lv_iload hx hb dL_law_874 (lv_at hl 1 rfl) ?_
    refine lv_iconst (v := 1) hx hb dL_law_876 (by decide) ?_
    refine lv_iadd hx hb dL_law_877 ?_
    refine w_top (v := nI (i + 1)) (nI_add i 1) ?_
    refine w_sld hx hb hX hbl rfl hS (by omega) hL dL_law_878 ?_
    refine w_calli (va_runV (As := [.int (xs (i + 1))]) (rest := []) ⟨hx, hb, hml, hown, hts⟩ (c_X5_reported l D s.heap.size ad (g, σ) g (sh d σ) th ((σ 13 (nOf (xs (i + 1))) 0).toInt64) (Ib_sh (Rf_Ib hR)) (xs (i + 1))) (cwV 1 hts gL_law_X5_reported rfl rfl rfl (by decide +kernel) ⟨(Nat.le_of_ble_eq_true rfl), (Nat.le_of_ble_eq_true rfl)⟩) (w_preV hC hP hS cW_5 rfl) rfl rfl hl.1 rfl (lv_room (Nat.le_of_ble_eq_true rfl)) dL_law_879 ⟨hcc, hcs⟩) hS (fun r6 ad1 w1 H locs hq hP hS => ?_)
    rw [sh_n (a := 13) (by decide)] at hq
    obtain ⟨h91, h92⟩ := hq.1 c9
    cases h91
    subst h92
    have hP : hw D s.heap.size ad (cW D ad (g, σ) (g, sh d (σ), nI (cdPt g.2.1 (xs (i + 1)))) ((σ 13 (nOf (xs (i + 1))) 0).toInt64)) H := hP
    refine lv_istore (lv' := [(6, .int (σ 13 (nOf (xs (i + 1))) 0)), (5, .int 0), (4, .int (nI i)), (3, .ref (ad 6 0)), (2, .ref (ad 5 0)), (1, .ref (ad 4 0)), (0, .ref b)]) hx hb dL_law_882 hl (by decide) rfl (fun ls hl => ?_)
    refine lv_aload_n hx hb dL_law_884 rfl (lv_at hl 4 rfl) ?_
    refine w_calli (va_runV (As := []) (rest := []) ⟨hx, hb, hml, hown, hts⟩ (c_X5_thrown l D s.heap.size ad (g, σ) g (sh d (σ)) (nI (cdPt g.2.1 (xs (i + 1)))) ((σ 13 (nOf (xs (i + 1))) 0).toInt64)) (cwV 0 hts gL_law_X5_thrown rfl rfl rfl (by decide +kernel) ⟨(Nat.le_of_ble_eq_true rfl), (Nat.le_of_ble_eq_true rfl)⟩) (w_preV hC hP hS cW_5 rfl) rfl rfl hl.1 rfl (lv_room (Nat.le_of_ble_eq_true rfl)) dL_law_885 ⟨hcc, hcs⟩) hS (fun r7 ad1 w1 H locs hq hP hS => ?_)
    obtain ⟨h91, h92⟩ := hq
    cases h91
    subst h92
    refine lv_iload hx hb dL_law_888 (lv_at hl 1 rfl) ?_
    refine lv_icmp_eq (tgt := 895) hx hb dL_law_890 (by decide) (fun _ => ?_) (fun c1 => absurd (by rw [c9]; rfl) c1)
    refine lv_iload hx hb dL_law_895 (lv_at hl 1 rfl) ?_
    refine lv_if_ne (tgt := 912) hx hb dL_law_897 (by decide) (fun c2 => absurd rfl c2) (fun _ => ?_)
    refine lv_aload_n hx hb dL_law_900 rfl (lv_at hl 3 rfl) ?_
    refine lv_iconst (v := 0) hx hb dL_law_901 (by decide) ?_
    refine w_laldV hx hb hC hP cW_6 (i := 0) (v := (σ 13 (nOf (xs (i + 1))) 0).toInt64) (by unfold vp_in; decide) rfl dL_law_902 ?_
    refine lv_iload hx hb dL_law_903 (lv_at hl 0 rfl) ?_
    refine lv_i2l (v := (σ 13 (nOf (xs (i + 1))) 0).toInt64) hx hb dL_law_905 rfl ?_
    refine W.lcmp hx hb dL_law_906 ?_
    refine lv_if_eq (tgt := 912) hx hb dL_law_907 (by decide) (fun _ => ?_) (fun c3 => absurd (lg_cmp_self _) c3)
    refine lv_goto (tgt := 1304) hx hb dL_law_912 (by decide) ?_
    refine W.widen (k := cells + 12) (n := slots + 151) (by omega) (by omega) ?_
    exact K ad g σ d (nI (cdPt g.2.1 (xs (i + 1)))) ((σ 13 (nOf (xs (i + 1))) 0).toInt64) H locs ls ⟨hP, hS, hR, lv_sub hl [2, 3, 4, 5, 6] rfl⟩
  · obtain ⟨h81, h82⟩ := hq.2 c9
    cases h81
    subst h82
    refine lv_istore (lv' := [(5, .int (nI (cdPt g.2.1 (xs (i + 1))))), (4, .int (nI i)), (3, .ref (ad 6 0)), (2, .ref (ad 5 0)), (1, .ref (ad 4 0)), (0, .ref b)]) hx hb dL_law_870 hl (by decide) rfl (fun ls hl => ?_)
    refine lv_aload_n hx hb dL_law_872 rfl (lv_at hl 3 rfl) ?_
    refine lv_aload_n hx hb dL_law_873 rfl (lv_at hl 5 rfl) ?_
    refine lv_iload hx hb dL_law_874 (lv_at hl 1 rfl) ?_
    refine lv_iconst (v := 1) hx hb dL_law_876 (by decide) ?_
    refine lv_iadd hx hb dL_law_877 ?_
    refine w_top (v := nI (i + 1)) (nI_add i 1) ?_
    refine w_sld hx hb hX hbl rfl hS (by omega) hL dL_law_878 ?_
    refine w_calli (va_runV (As := [.int (xs (i + 1))]) (rest := []) ⟨hx, hb, hml, hown, hts⟩ (c_X5_reported l D s.heap.size ad (g, σ) g (sh d σ) th (o) (Ib_sh (Rf_Ib hR)) (xs (i + 1))) (cwV 1 hts gL_law_X5_reported rfl rfl rfl (by decide +kernel) ⟨(Nat.le_of_ble_eq_true rfl), (Nat.le_of_ble_eq_true rfl)⟩) (w_preV hC hP hS cW_5 rfl) rfl rfl hl.1 rfl (lv_room (Nat.le_of_ble_eq_true rfl)) dL_law_879 ⟨hcc, hcs⟩) hS (fun r6 ad1 w1 H locs hq hP hS => ?_)
    cases hq.2 c9
    have hP : hw D s.heap.size ad (cW D ad (g, σ) (g, sh d (σ), nI (cdPt g.2.1 (xs (i + 1)))) (o)) H := hP
    refine lv_istore (lv' := [(6, .int r6), (5, .int (nI (cdPt g.2.1 (xs (i + 1))))), (4, .int (nI i)), (3, .ref (ad 6 0)), (2, .ref (ad 5 0)), (1, .ref (ad 4 0)), (0, .ref b)]) hx hb dL_law_882 hl (by decide) rfl (fun ls hl => ?_)
    refine lv_aload_n hx hb dL_law_884 rfl (lv_at hl 4 rfl) ?_
    refine w_calli (va_runV (As := []) (rest := []) ⟨hx, hb, hml, hown, hts⟩ (c_X5_thrown l D s.heap.size ad (g, σ) g (sh d (σ)) (nI (cdPt g.2.1 (xs (i + 1)))) (o)) (cwV 0 hts gL_law_X5_thrown rfl rfl rfl (by decide +kernel) ⟨(Nat.le_of_ble_eq_true rfl), (Nat.le_of_ble_eq_true rfl)⟩) (w_preV hC hP hS cW_5 rfl) rfl rfl hl.1 rfl (lv_room (Nat.le_of_ble_eq_true rfl)) dL_law_885 ⟨hcc, hcs⟩) hS (fun r7 ad1 w1 H locs hq hP hS => ?_)
    obtain ⟨h91, h92⟩ := hq
    cases h91
    subst h92
    refine lv_iload hx hb dL_law_888 (lv_at hl 1 rfl) ?_
    refine lv_icmp_eq (tgt := 895) hx hb dL_law_890 (by decide) (fun _ => ?_) (fun c1 => absurd rfl c1)
    refine lv_iload hx hb dL_law_895 (lv_at hl 1 rfl) ?_
    refine lv_if_ne (tgt := 912) hx hb dL_law_897 (by decide) (fun _ => ?_) (fun c2 => absurd (nI_cod c2) c9)
    refine lv_goto (tgt := 1304) hx hb dL_law_912 (by decide) ?_
    refine W.widen (k := cells + 12) (n := slots + 151) (by omega) (by omega) ?_
    exact K ad g σ d (nI (cdPt g.2.1 (xs (i + 1)))) (o) H locs ls ⟨hP, hS, hR, lv_sub hl [2, 3, 4, 5, 6] rfl⟩
