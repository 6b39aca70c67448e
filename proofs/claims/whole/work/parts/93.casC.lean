/-! the cases of the loop: write, weekly, once, pass -/
set_option maxHeartbeats 4000000 in
set_option maxRecDepth 100000 in
theorem lc_write {p : Program} {l : Launch} {e : Env} {s : State} {m : MethodId} {below : List Frame} {meth : Method} {c : Code} {b L : Nat} {xs : Nat → Int32} {D : va_G} (A : LoA p l s m c b L xs D) {Q : State → Prop} {cells slots : Nat} (hcc : cells + 12 ≤ room_1.cells) (hcs : slots + 151 ≤ room_1.slots) {i : Nat} (hi : i + 5 ≤ L) {ad : Ad} {g : GC} {σ : Me} {d th : Int32} {o : Int64} {H : Heap} {locs : List Loc} {ls : Array Slot} (Z : LoS D s b i ad g σ d th o H locs ls) (K : LoK p l e s m below meth c b i D cells slots Q) : W p l e room_1 s m #[Value.ref b] below meth c H locs cells slots Q (F0 m 252 ls []) := by
  obtain ⟨hns, hx, hb, hml, hown, hts, hX, hbl, hL, hC⟩ := A
  obtain ⟨hP, hS, hR, hl⟩ := Z
  refine lv_aload_n hx hb dL_law_252 rfl (lv_at hl 3 rfl) ?_
  refine lv_aload_n hx hb dL_law_253 rfl (lv_at hl 4 rfl) ?_
  refine lv_iload hx hb dL_law_254 (lv_at hl 0 rfl) ?_
  refine lv_iconst (v := 1) hx hb dL_law_256 (by decide) ?_
  refine lv_iadd hx hb dL_law_257 ?_
  refine w_top (v := nI (i + 1)) (nI_add i 1) ?_
  refine w_sld hx hb hX hbl rfl hS (by omega) hL dL_law_258 ?_
  refine lv_aload_n hx hb dL_law_259 rfl (lv_at hl 4 rfl) ?_
  refine lv_iload hx hb dL_law_260 (lv_at hl 0 rfl) ?_
  refine lv_iconst (v := 2) hx hb dL_law_262 (by decide) ?_
  refine lv_iadd hx hb dL_law_263 ?_
  refine w_top (v := nI (i + 2)) (nI_add i 2) ?_
  refine w_sld hx hb hX hbl rfl hS (by omega) hL dL_law_264 ?_
  refine lv_aload_n hx hb dL_law_265 rfl (lv_at hl 4 rfl) ?_
  refine lv_iload hx hb dL_law_266 (lv_at hl 0 rfl) ?_
  refine lv_iconst (v := 3) hx hb dL_law_268 (by decide) ?_
  refine lv_iadd hx hb dL_law_269 ?_
  refine w_top (v := nI (i + 3)) (nI_add i 3) ?_
  refine w_sld hx hb hX hbl rfl hS (by omega) hL dL_law_270 ?_
  refine lv_aload_n hx hb dL_law_271 rfl (lv_at hl 1 rfl) ?_
  refine w_calli (vx_runSW (As := [.ref (ad 4 0), .int (xs (i + 1)), .int (xs (i + 2)), .int (xs (i + 3)), .ref (ad 6 0)]) (rest := []) ⟨hx, hb, hml, hown, hts⟩ (c_L_write l hns D s.heap.size ad g σ (g, sh d σ, th) o (Rf_Ib hR) (xs (i + 1)) (xs (i + 2)) (xs (i + 3))) (vx_cwSW 5 hts gL_law_L_write rfl rfl rfl (by decide +kernel) ⟨(Nat.le_of_ble_eq_true rfl), (Nat.le_of_ble_eq_true rfl)⟩) (w_preS hC hP hS) rfl rfl hl.1 rfl (lv_room (Nat.le_of_ble_eq_true rfl)) dL_law_272 ⟨Nat.le_trans (Nat.add_le_add_left (Nat.le_of_ble_eq_true rfl) _) hcc, Nat.le_trans (Nat.add_le_add_left (Nat.le_of_ble_eq_true rfl) _) hcs⟩) hS (fun r5 ad1 w1 H locs hq hP hS => ?_)
  refine W.widen (k := cells + 12) (n := slots + 151) (Nat.add_le_add_left (Nat.le_of_ble_eq_true rfl) _) (Nat.add_le_add_left (Nat.le_of_ble_eq_true rfl) _) ?_
  by_cases c9 : cdWri g σ (xs (i + 1)) (xs (i + 2)) (xs (i + 3)) = 0
  · obtain ⟨h81, h82⟩ := hq.1 c9
    cases h81
    subst h82
    refine lv_istore (lv' := [(5, .int 0), (4, .int (nI i)), (3, .ref (ad 6 0)), (2, .ref (ad 5 0)), (1, .ref (ad 4 0)), (0, .ref b)]) hx hb dL_law_275 hl (by decide) rfl (fun ls hl => ?_)
    refine lv_aload_n hx hb dL_law_277 rfl (lv_at hl 3 rfl) ?_
    refine lv_aload_n hx hb dL_law_278 rfl (lv_at hl 5 rfl) ?_
    refine lv_iload hx hb dL_law_279 (lv_at hl 1 rfl) ?_
    refine lv_iconst (v := 1) hx hb dL_law_281 (by decide) ?_
    refine lv_iadd hx hb dL_law_282 ?_
    refine w_top (v := nI (i + 1)) (nI_add i 1) ?_
    refine w_sld hx hb hX hbl rfl hS (by omega) hL dL_law_283 ?_
    refine lv_aload_n hx hb dL_law_284 rfl (lv_at hl 5 rfl) ?_
    refine lv_iload hx hb dL_law_285 (lv_at hl 1 rfl) ?_
    refine lv_iconst (v := 2) hx hb dL_law_287 (by decide) ?_
    refine lv_iadd hx hb dL_law_288 ?_
    refine w_top (v := nI (i + 2)) (nI_add i 2) ?_
    refine w_sld hx hb hX hbl rfl hS (by omega) hL dL_law_289 ?_
    refine lv_aload_n hx hb dL_law_290 rfl (lv_at hl 5 rfl) ?_
    refine lv_iload hx hb dL_law_291 (lv_at hl 1 rfl) ?_
    refine lv_iconst (v := 3) hx hb dL_law_293 (by decide) ?_
    refine lv_iadd hx hb dL_law_294 ?_
    refine w_top (v := nI (i + 3)) (nI_add i 3) ?_
    refine w_sld hx hb hX hbl rfl hS (by omega) hL dL_law_295 ?_
    refine w_calli (va_runV (As := [.int (xs (i + 1)), .int (xs (i + 2)), .int (xs (i + 3))]) (rest := []) ⟨hx, hb, hml, hown, hts⟩ (c_X5_write l D s.heap.size ad (g, setF g.2.1 (nOf (xs (i + 1))) (nOf (xs (i + 2))) (xs (i + 3)) σ) g (sh d σ) th ((vaO (setF g.2.1 (nOf (xs (i + 1))) (nOf (xs (i + 2))) (xs (i + 3)) σ) (nOf (xs (i + 1)))).toInt64) (Ib_sh (Rf_Ib hR)) (xs (i + 1)) (xs (i + 2)) (xs (i + 3))) (cwV 3 hts gL_law_X5_write rfl rfl rfl (by decide +kernel) ⟨(Nat.le_of_ble_eq_true rfl), (Nat.le_of_ble_eq_true rfl)⟩) (w_preV hC hP hS cW_5 rfl) rfl rfl hl.1 rfl (lv_room (Nat.le_of_ble_eq_true rfl)) dL_law_296 ⟨hcc, hcs⟩) hS (fun r6 ad1 w1 H locs hq hP hS => ?_)
    rw [cdWri_sh, setF_sh, vaO_sh] at hq
    obtain ⟨h91, h92⟩ := hq.1 c9
    cases h91
    subst h92
    have hP : hw D s.heap.size ad (cW D ad (g, setF g.2.1 (nOf (xs (i + 1))) (nOf (xs (i + 2))) (xs (i + 3)) σ) (g, sh d (setF g.2.1 (nOf (xs (i + 1))) (nOf (xs (i + 2))) (xs (i + 3)) σ), nI (cdWri g σ (xs (i + 1)) (xs (i + 2)) (xs (i + 3)))) ((vaO (setF g.2.1 (nOf (xs (i + 1))) (nOf (xs (i + 2))) (xs (i + 3)) σ) (nOf (xs (i + 1)))).toInt64)) H := hP
    refine lv_istore (lv' := [(6, .int (vaO (setF g.2.1 (nOf (xs (i + 1))) (nOf (xs (i + 2))) (xs (i + 3)) σ) (nOf (xs (i + 1))))), (5, .int 0), (4, .int (nI i)), (3, .ref (ad 6 0)), (2, .ref (ad 5 0)), (1, .ref (ad 4 0)), (0, .ref b)]) hx hb dL_law_299 hl (by decide) rfl (fun ls hl => ?_)
    refine lv_aload_n hx hb dL_law_301 rfl (lv_at hl 4 rfl) ?_
    refine w_calli (va_runV (As := []) (rest := []) ⟨hx, hb, hml, hown, hts⟩ (c_X5_thrown l D s.heap.size ad (g, setF g.2.1 (nOf (xs (i + 1))) (nOf (xs (i + 2))) (xs (i + 3)) σ) g (sh d (setF g.2.1 (nOf (xs (i + 1))) (nOf (xs (i + 2))) (xs (i + 3)) σ)) (nI (cdWri g σ (xs (i + 1)) (xs (i + 2)) (xs (i + 3)))) ((vaO (setF g.2.1 (nOf (xs (i + 1))) (nOf (xs (i + 2))) (xs (i + 3)) σ) (nOf (xs (i + 1)))).toInt64)) (cwV 0 hts gL_law_X5_thrown rfl rfl rfl (by decide +kernel) ⟨(Nat.le_of_ble_eq_true rfl), (Nat.le_of_ble_eq_true rfl)⟩) (w_preV hC hP hS cW_5 rfl) rfl rfl hl.1 rfl (lv_room (Nat.le_of_ble_eq_true rfl)) dL_law_302 ⟨hcc, hcs⟩) hS (fun r7 ad1 w1 H locs hq hP hS => ?_)
    obtain ⟨h91, h92⟩ := hq
    cases h91
    subst h92
    refine lv_iload hx hb dL_law_305 (lv_at hl 1 rfl) ?_
    refine lv_icmp_eq (tgt := 312) hx hb dL_law_307 (by decide) (fun _ => ?_) (fun c1 => absurd (by rw [c9]; rfl) c1)
    refine lv_iload hx hb dL_law_312 (lv_at hl 1 rfl) ?_
    refine lv_if_ne (tgt := 329) hx hb dL_law_314 (by decide) (fun c2 => absurd rfl c2) (fun _ => ?_)
    refine lv_aload_n hx hb dL_law_317 rfl (lv_at hl 3 rfl) ?_
    refine lv_iconst (v := 0) hx hb dL_law_318 (by decide) ?_
    refine w_laldV hx hb hC hP cW_6 (i := 0) (v := (vaO (setF g.2.1 (nOf (xs (i + 1))) (nOf (xs (i + 2))) (xs (i + 3)) σ) (nOf (xs (i + 1)))).toInt64) (by unfold vp_in; decide) rfl dL_law_319 ?_
    refine lv_iload hx hb dL_law_320 (lv_at hl 0 rfl) ?_
    refine lv_i2l (v := (vaO (setF g.2.1 (nOf (xs (i + 1))) (nOf (xs (i + 2))) (xs (i + 3)) σ) (nOf (xs (i + 1)))).toInt64) hx hb dL_law_322 rfl ?_
    refine W.lcmp hx hb dL_law_323 ?_
    refine lv_if_eq (tgt := 329) hx hb dL_law_324 (by decide) (fun _ => ?_) (fun c3 => absurd (lg_cmp_self _) c3)
    refine lv_goto (tgt := 1304) hx hb dL_law_329 (by decide) ?_
    refine W.widen (k := cells + 12) (n := slots + 151) (by omega) (by omega) ?_
    exact K ad g (setF g.2.1 (nOf (xs (i + 1))) (nOf (xs (i + 2))) (xs (i + 3)) σ) d (nI (cdWri g σ (xs (i + 1)) (xs (i + 2)) (xs (i + 3)))) ((vaO (setF g.2.1 (nOf (xs (i + 1))) (nOf (xs (i + 2))) (xs (i + 3)) σ) (nOf (xs (i + 1)))).toInt64) H locs ls ⟨hP, hS, st_wri hR c9, lv_sub hl [2, 3, 4, 5, 6] rfl⟩
  · obtain ⟨h81, h82⟩ := hq.2 c9
    cases h81
    subst h82
    refine lv_istore (lv' := [(5, .int (nI (cdWri g σ (xs (i + 1)) (xs (i + 2)) (xs (i + 3))))), (4, .int (nI i)), (3, .ref (ad 6 0)), (2, .ref (ad 5 0)), (1, .ref (ad 4 0)), (0, .ref b)]) hx hb dL_law_275 hl (by decide) rfl (fun ls hl => ?_)
    refine lv_aload_n hx hb dL_law_277 rfl (lv_at hl 3 rfl) ?_
    refine lv_aload_n hx hb dL_law_278 rfl (lv_at hl 5 rfl) ?_
    refine lv_iload hx hb dL_law_279 (lv_at hl 1 rfl) ?_
    refine lv_iconst (v := 1) hx hb dL_law_281 (by decide) ?_
    refine lv_iadd hx hb dL_law_282 ?_
    refine w_top (v := nI (i + 1)) (nI_add i 1) ?_
    refine w_sld hx hb hX hbl rfl hS (by omega) hL dL_law_283 ?_
    refine lv_aload_n hx hb dL_law_284 rfl (lv_at hl 5 rfl) ?_
    refine lv_iload hx hb dL_law_285 (lv_at hl 1 rfl) ?_
    refine lv_iconst (v := 2) hx hb dL_law_287 (by decide) ?_
    refine lv_iadd hx hb dL_law_288 ?_
    refine w_top (v := nI (i + 2)) (nI_add i 2) ?_
    refine w_sld hx hb hX hbl rfl hS (by omega) hL dL_law_289 ?_
    refine lv_aload_n hx hb dL_law_290 rfl (lv_at hl 5 rfl) ?_
    refine lv_iload hx hb dL_law_291 (lv_at hl 1 rfl) ?_
    refine lv_iconst (v := 3) hx hb dL_law_293 (by decide) ?_
    refine lv_iadd hx hb dL_law_294 ?_
    refine w_top (v := nI (i + 3)) (nI_add i 3) ?_
    refine w_sld hx hb hX hbl rfl hS (by omega) hL dL_law_295 ?_
    refine w_calli (va_runV (As := [.int (xs (i + 1)), .int (xs (i + 2)), .int (xs (i + 3))]) (rest := []) ⟨hx, hb, hml, hown, hts⟩ (c_X5_write l D s.heap.size ad (g, σ) g (sh d σ) th (o) (Ib_sh (Rf_Ib hR)) (xs (i + 1)) (xs (i + 2)) (xs (i + 3))) (cwV 3 hts gL_law_X5_write rfl rfl rfl (by decide +kernel) ⟨(Nat.le_of_ble_eq_true rfl), (Nat.le_of_ble_eq_true rfl)⟩) (w_preV hC hP hS cW_5 rfl) rfl rfl hl.1 rfl (lv_room (Nat.le_of_ble_eq_true rfl)) dL_law_296 ⟨hcc, hcs⟩) hS (fun r6 ad1 w1 H locs hq hP hS => ?_)
    rw [cdWri_sh] at hq
    cases hq.2 c9
    have hP : hw D s.heap.size ad (cW D ad (g, σ) (g, sh d (σ), nI (cdWri g σ (xs (i + 1)) (xs (i + 2)) (xs (i + 3)))) (o)) H := hP
    refine lv_istore (lv' := [(6, .int r6), (5, .int (nI (cdWri g σ (xs (i + 1)) (xs (i + 2)) (xs (i + 3))))), (4, .int (nI i)), (3, .ref (ad 6 0)), (2, .ref (ad 5 0)), (1, .ref (ad 4 0)), (0, .ref b)]) hx hb dL_law_299 hl (by decide) rfl (fun ls hl => ?_)
    refine lv_aload_n hx hb dL_law_301 rfl (lv_at hl 4 rfl) ?_
    refine w_calli (va_runV (As := []) (rest := []) ⟨hx, hb, hml, hown, hts⟩ (c_X5_thrown l D s.heap.size ad (g, σ) g (sh d (σ)) (nI (cdWri g σ (xs (i + 1)) (xs (i + 2)) (xs (i + 3)))) (o)) (cwV 0 hts gL_law_X5_thrown rfl rfl rfl (by decide +kernel) ⟨(Nat.le_of_ble_eq_true rfl), (Nat.le_of_ble_eq_true rfl)⟩) (w_preV hC hP hS cW_5 rfl) rfl rfl hl.1 rfl (lv_room (Nat.le_of_ble_eq_true rfl)) dL_law_302 ⟨hcc, hcs⟩) hS (fun r7 ad1 w1 H locs hq hP hS => ?_)
    obtain ⟨h91, h92⟩ := hq
    cases h91
    subst h92
    refine lv_iload hx hb dL_law_305 (lv_at hl 1 rfl) ?_
    refine lv_icmp_eq (tgt := 312) hx hb dL_law_307 (by decide) (fun _ => ?_) (fun c1 => absurd rfl c1)
    refine lv_iload hx hb dL_law_312 (lv_at hl 1 rfl) ?_
    refine lv_if_ne (tgt := 329) hx hb dL_law_314 (by decide) (fun _ => ?_) (fun c2 => absurd (nI_cod c2) c9)
    refine lv_goto (tgt := 1304) hx hb dL_law_329 (by decide) ?_
    refine W.widen (k := cells + 12) (n := slots + 151) (by omega) (by omega) ?_
    exact K ad g σ d (nI (cdWri g σ (xs (i + 1)) (xs (i + 2)) (xs (i + 3)))) (o) H locs ls ⟨hP, hS, hR, lv_sub hl [2, 3, 4, 5, 6] rfl⟩
set_option maxHeartbeats 4000000 in
set_option maxRecDepth 100000 in
theorem lc_weekly {p : Program} {l : Launch} {e : Env} {s : State} {m : MethodId} {below : List Frame} {meth : Method} {c : Code} {b L : Nat} {xs : Nat → Int32} {D : va_G} (A : LoA p l s m c b L xs D) {Q : State → Prop} {cells slots : Nat} (hcc : cells + 12 ≤ room_1.cells) (hcs : slots + 151 ≤ room_1.slots) {i : Nat} (hi : i + 5 ≤ L) {ad : Ad} {g : GC} {σ : Me} {d th : Int32} {o : Int64} {H : Heap} {locs : List Loc} {ls : Array Slot} (Z : LoS D s b i ad g σ d th o H locs ls) (K : LoK p l e s m below meth c b i D cells slots Q) : W p l e room_1 s m #[Value.ref b] below meth c H locs cells slots Q (F0 m 983 ls []) := by
  obtain ⟨hns, hx, hb, hml, hown, hts, hX, hbl, hL, hC⟩ := A
  obtain ⟨hP, hS, hR, hl⟩ := Z
  obtain ⟨t, hRt⟩ := id hR.1
  refine lv_aload_n hx hb dL_law_983 rfl (lv_at hl 3 rfl) ?_
  refine lv_aload_n hx hb dL_law_984 rfl (lv_at hl 4 rfl) ?_
  refine lv_iload hx hb dL_law_985 (lv_at hl 0 rfl) ?_
  refine lv_iconst (v := 1) hx hb dL_law_987 (by decide) ?_
  refine lv_iadd hx hb dL_law_988 ?_
  refine w_top (v := nI (i + 1)) (nI_add i 1) ?_
  refine w_sld hx hb hX hbl rfl hS (by omega) hL dL_law_989 ?_
  refine lv_aload_n hx hb dL_law_990 rfl (lv_at hl 4 rfl) ?_
  refine lv_iload hx hb dL_law_991 (lv_at hl 0 rfl) ?_
  refine lv_iconst (v := 2) hx hb dL_law_993 (by decide) ?_
  refine lv_iadd hx hb dL_law_994 ?_
  refine w_top (v := nI (i + 2)) (nI_add i 2) ?_
  refine w_sld hx hb hX hbl rfl hS (by omega) hL dL_law_995 ?_
  refine lv_aload_n hx hb dL_law_996 rfl (lv_at hl 4 rfl) ?_
  refine lv_iload hx hb dL_law_997 (lv_at hl 0 rfl) ?_
  refine lv_iconst (v := 3) hx hb dL_law_999 (by decide) ?_
  refine lv_iadd hx hb dL_law_1000 ?_
  refine w_top (v := nI (i + 3)) (nI_add i 3) ?_
  refine w_sld hx hb hX hbl rfl hS (by omega) hL dL_law_1001 ?_
  refine lv_aload_n hx hb dL_law_1002 rfl (lv_at hl 4 rfl) ?_
  refine lv_iload hx hb dL_law_1003 (lv_at hl 0 rfl) ?_
  refine lv_iconst (v := 4) hx hb dL_law_1005 (by decide) ?_
  refine lv_iadd hx hb dL_law_1006 ?_
  refine w_top (v := nI (i + 4)) (nI_add i 4) ?_
  refine w_sld hx hb hX hbl rfl hS (by omega) hL dL_law_1007 ?_
  refine lv_aload_n hx hb dL_law_1008 rfl (lv_at hl 1 rfl) ?_
  refine w_calli (vx_runSW (As := [.ref (ad 4 0), .int (xs (i + 1)), .int (xs (i + 2)), .int (xs (i + 3)), .int (xs (i + 4)), .ref (ad 6 0)]) (rest := []) ⟨hx, hb, hml, hown, hts⟩ (c_L_weekly l hns D s.heap.size ad g σ (g, sh d σ, th) o (Rf_Ib hR) t hRt.2.1 hRt.2.2.1 (xs (i + 1)) (xs (i + 2)) (xs (i + 3)) (xs (i + 4))) (vx_cwSW 6 hts gL_law_L_weekly rfl rfl rfl (by decide +kernel) ⟨(Nat.le_of_ble_eq_true rfl), (Nat.le_of_ble_eq_true rfl)⟩) (w_preS hC hP hS) rfl rfl hl.1 rfl (lv_room (Nat.le_of_ble_eq_true rfl)) dL_law_1009 ⟨Nat.le_trans (Nat.add_le_add_left (Nat.le_of_ble_eq_true rfl) _) hcc, Nat.le_trans (Nat.add_le_add_left (Nat.le_of_ble_eq_true rfl) _) hcs⟩) hS (fun r5 ad1 w1 H locs hq hP hS => ?_)
  refine W.widen (k := cells + 12) (n := slots + 151) (Nat.add_le_add_left (Nat.le_of_ble_eq_true rfl) _) (Nat.add_le_add_left (Nat.le_of_ble_eq_true rfl) _) ?_
  by_cases c9 : cdEnt g σ 6 (xs (i + 1)) (xs (i + 2)) (xs (i + 3)) (xs (i + 4)) = 0
  · obtain ⟨h81, h82⟩ := hq.1 c9
    cases h81
    subst h82
    refine lv_istore (lv' := [(5, .int 0), (4, .int (nI i)), (3, .ref (ad 6 0)), (2, .ref (ad 5 0)), (1, .ref (ad 4 0)), (0, .ref b)]) hx hb dL_law_1012 hl (by decide) rfl (fun ls hl => ?_)
    refine lv_aload_n hx hb dL_law_1014 rfl (lv_at hl 3 rfl) ?_
    refine lv_aload_n hx hb dL_law_1015 rfl (lv_at hl 5 rfl) ?_
    refine lv_iload hx hb dL_law_1016 (lv_at hl 1 rfl) ?_
    refine lv_iconst (v := 1) hx hb dL_law_1018 (by decide) ?_
    refine lv_iadd hx hb dL_law_1019 ?_
    refine w_top (v := nI (i + 1)) (nI_add i 1) ?_
    refine w_sld hx hb hX hbl rfl hS (by omega) hL dL_law_1020 ?_
    refine lv_aload_n hx hb dL_law_1021 rfl (lv_at hl 5 rfl) ?_
    refine lv_iload hx hb dL_law_1022 (lv_at hl 1 rfl) ?_
    refine lv_iconst (v := 2) hx hb dL_law_1024 (by decide) ?_
    refine lv_iadd hx hb dL_law_1025 ?_
    refine w_top (v := nI (i + 2)) (nI_add i 2) ?_
    refine w_sld hx hb hX hbl rfl hS (by omega) hL dL_law_1026 ?_
    refine lv_aload_n hx hb dL_law_1027 rfl (lv_at hl 5 rfl) ?_
    refine lv_iload hx hb dL_law_1028 (lv_at hl 1 rfl) ?_
    refine lv_iconst (v := 3) hx hb dL_law_1030 (by decide) ?_
    refine lv_iadd hx hb dL_law_1031 ?_
    refine w_top (v := nI (i + 3)) (nI_add i 3) ?_
    refine w_sld hx hb hX hbl rfl hS (by omega) hL dL_law_1032 ?_
    refine lv_aload_n hx hb dL_law_1033 rfl (lv_at hl 5 rfl) ?_
    refine lv_iload hx hb dL_law_1034 (lv_at hl 1 rfl) ?_
    refine lv_iconst (v := 4) hx hb dL_law_1036 (by decide) ?_
    refine lv_iadd hx hb dL_law_1037 ?_
    refine w_top (v := nI (i + 4)) (nI_add i 4) ?_
    refine w_sld hx hb hX hbl rfl hS (by omega) hL dL_law_1038 ?_
    refine w_calli (va_runV (As := [.int (xs (i + 1)), .int (xs (i + 2)), .int (xs (i + 3)), .int (xs (i + 4))]) (rest := []) ⟨hx, hb, hml, hown, hts⟩ (c_X5_weekly l D s.heap.size ad (g, obeF g.2.1 (nOf (xs (i + 1))) (entM (nOf (xs (i + 1))) (xs (i + 2)) (xs (i + 3)) (xs (i + 4)) (entC (2 * nOf (xs (i + 1))) (xs (i + 2)) (xs (i + 3)) (xs (i + 4)) σ))) g (sh d σ) th ((obeF g.2.1 (nOf (xs (i + 1))) (entM (nOf (xs (i + 1))) (xs (i + 2)) (xs (i + 3)) (xs (i + 4)) (entC (2 * nOf (xs (i + 1))) (xs (i + 2)) (xs (i + 3)) (xs (i + 4)) σ)) 16 (nOf (xs (i + 1))) 0).toInt64) (Ib_sh (Rf_Ib hR)) (xs (i + 1)) (xs (i + 2)) (xs (i + 3)) (xs (i + 4))) (cwV 4 hts gL_law_X5_weekly rfl rfl rfl (by decide +kernel) ⟨(Nat.le_of_ble_eq_true rfl), (Nat.le_of_ble_eq_true rfl)⟩) (w_preV hC hP hS cW_5 rfl) rfl rfl hl.1 rfl (lv_room (Nat.le_of_ble_eq_true rfl)) dL_law_1039 ⟨hcc, hcs⟩) hS (fun r6 ad1 w1 H locs hq hP hS => ?_)
    rw [cdEnt_sh, entC_sh, entM_sh, obeF_sh, sh_n (a := 16) (by decide)] at hq
    obtain ⟨h91, h92⟩ := hq.1 c9
    cases h91
    subst h92
    have hP : hw D s.heap.size ad (cW D ad (g, obeF g.2.1 (nOf (xs (i + 1))) (entM (nOf (xs (i + 1))) (xs (i + 2)) (xs (i + 3)) (xs (i + 4)) (entC (2 * nOf (xs (i + 1))) (xs (i + 2)) (xs (i + 3)) (xs (i + 4)) σ))) (g, sh d (obeF g.2.1 (nOf (xs (i + 1))) (entM (nOf (xs (i + 1))) (xs (i + 2)) (xs (i + 3)) (xs (i + 4)) (entC (2 * nOf (xs (i + 1))) (xs (i + 2)) (xs (i + 3)) (xs (i + 4)) σ))), nI (cdEnt g σ 6 (xs (i + 1)) (xs (i + 2)) (xs (i + 3)) (xs (i + 4)))) ((obeF g.2.1 (nOf (xs (i + 1))) (entM (nOf (xs (i + 1))) (xs (i + 2)) (xs (i + 3)) (xs (i + 4)) (entC (2 * nOf (xs (i + 1))) (xs (i + 2)) (xs (i + 3)) (xs (i + 4)) σ)) 16 (nOf (xs (i + 1))) 0).toInt64)) H := hP
    refine lv_istore (lv' := [(6, .int (obeF g.2.1 (nOf (xs (i + 1))) (entM (nOf (xs (i + 1))) (xs (i + 2)) (xs (i + 3)) (xs (i + 4)) (entC (2 * nOf (xs (i + 1))) (xs (i + 2)) (xs (i + 3)) (xs (i + 4)) σ)) 16 (nOf (xs (i + 1))) 0)), (5, .int 0), (4, .int (nI i)), (3, .ref (ad 6 0)), (2, .ref (ad 5 0)), (1, .ref (ad 4 0)), (0, .ref b)]) hx hb dL_law_1042 hl (by decide) rfl (fun ls hl => ?_)
    refine lv_aload_n hx hb dL_law_1044 rfl (lv_at hl 4 rfl) ?_
    refine w_calli (va_runV (As := []) (rest := []) ⟨hx, hb, hml, hown, hts⟩ (c_X5_thrown l D s.heap.size ad (g, obeF g.2.1 (nOf (xs (i + 1))) (entM (nOf (xs (i + 1))) (xs (i + 2)) (xs (i + 3)) (xs (i + 4)) (entC (2 * nOf (xs (i + 1))) (xs (i + 2)) (xs (i + 3)) (xs (i + 4)) σ))) g (sh d (obeF g.2.1 (nOf (xs (i + 1))) (entM (nOf (xs (i + 1))) (xs (i + 2)) (xs (i + 3)) (xs (i + 4)) (entC (2 * nOf (xs (i + 1))) (xs (i + 2)) (xs (i + 3)) (xs (i + 4)) σ)))) (nI (cdEnt g σ 6 (xs (i + 1)) (xs (i + 2)) (xs (i + 3)) (xs (i + 4)))) ((obeF g.2.1 (nOf (xs (i + 1))) (entM (nOf (xs (i + 1))) (xs (i + 2)) (xs (i + 3)) (xs (i + 4)) (entC (2 * nOf (xs (i + 1))) (xs (i + 2)) (xs (i + 3)) (xs (i + 4)) σ)) 16 (nOf (xs (i + 1))) 0).toInt64)) (cwV 0 hts gL_law_X5_thrown rfl rfl rfl (by decide +kernel) ⟨(Nat.le_of_ble_eq_true rfl), (Nat.le_of_ble_eq_true rfl)⟩) (w_preV hC hP hS cW_5 rfl) rfl rfl hl.1 rfl (lv_room (Nat.le_of_ble_eq_true rfl)) dL_law_1045 ⟨hcc, hcs⟩) hS (fun r7 ad1 w1 H locs hq hP hS => ?_)
    obtain ⟨h91, h92⟩ := hq
    cases h91
    subst h92
    refine lv_iload hx hb dL_law_1048 (lv_at hl 1 rfl) ?_
    refine lv_icmp_eq (tgt := 1055) hx hb dL_law_1050 (by decide) (fun _ => ?_) (fun c1 => absurd (by rw [c9]; rfl) c1)
    refine lv_iload hx hb dL_law_1055 (lv_at hl 1 rfl) ?_
    refine lv_if_ne (tgt := 1072) hx hb dL_law_1057 (by decide) (fun c2 => absurd rfl c2) (fun _ => ?_)
    refine lv_aload_n hx hb dL_law_1060 rfl (lv_at hl 3 rfl) ?_
    refine lv_iconst (v := 0) hx hb dL_law_1061 (by decide) ?_
    refine w_laldV hx hb hC hP cW_6 (i := 0) (v := (obeF g.2.1 (nOf (xs (i + 1))) (entM (nOf (xs (i + 1))) (xs (i + 2)) (xs (i + 3)) (xs (i + 4)) (entC (2 * nOf (xs (i + 1))) (xs (i + 2)) (xs (i + 3)) (xs (i + 4)) σ)) 16 (nOf (xs (i + 1))) 0).toInt64) (by unfold vp_in; decide) rfl dL_law_1062 ?_
    refine lv_iload hx hb dL_law_1063 (lv_at hl 0 rfl) ?_
    refine lv_i2l (v := (obeF g.2.1 (nOf (xs (i + 1))) (entM (nOf (xs (i + 1))) (xs (i + 2)) (xs (i + 3)) (xs (i + 4)) (entC (2 * nOf (xs (i + 1))) (xs (i + 2)) (xs (i + 3)) (xs (i + 4)) σ)) 16 (nOf (xs (i + 1))) 0).toInt64) hx hb dL_law_1065 rfl ?_
    refine W.lcmp hx hb dL_law_1066 ?_
    refine lv_if_eq (tgt := 1072) hx hb dL_law_1067 (by decide) (fun _ => ?_) (fun c3 => absurd (lg_cmp_self _) c3)
    refine lv_goto (tgt := 1304) hx hb dL_law_1072 (by decide) ?_
    refine W.widen (k := cells + 12) (n := slots + 151) (by omega) (by omega) ?_
    exact K ad g (obeF g.2.1 (nOf (xs (i + 1))) (entM (nOf (xs (i + 1))) (xs (i + 2)) (xs (i + 3)) (xs (i + 4)) (entC (2 * nOf (xs (i + 1))) (xs (i + 2)) (xs (i + 3)) (xs (i + 4)) σ))) d (nI (cdEnt g σ 6 (xs (i + 1)) (xs (i + 2)) (xs (i + 3)) (xs (i + 4)))) ((obeF g.2.1 (nOf (xs (i + 1))) (entM (nOf (xs (i + 1))) (xs (i + 2)) (xs (i + 3)) (xs (i + 4)) (entC (2 * nOf (xs (i + 1))) (xs (i + 2)) (xs (i + 3)) (xs (i + 4)) σ)) 16 (nOf (xs (i + 1))) 0).toInt64) H locs ls ⟨hP, hS, st_wee hR c9, lv_sub hl [2, 3, 4, 5, 6] rfl⟩
  · obtain ⟨h81, h82⟩ := hq.2 c9
    cases h81
    subst h82
    refine lv_istore (lv' := [(5, .int (nI (cdEnt g σ 6 (xs (i + 1)) (xs (i + 2)) (xs (i + 3)) (xs (i + 4))))), (4, .int (nI i)), (3, .ref (ad 6 0)), (2, .ref (ad 5 0)), (1, .ref (ad 4 0)), (0, .ref b)]) hx hb dL_law_1012 hl (by decide) rfl (fun ls hl => ?_)
    refine lv_aload_n hx hb dL_law_1014 rfl (lv_at hl 3 rfl) ?_
    refine lv_aload_n hx hb dL_law_1015 rfl (lv_at hl 5 rfl) ?_
    refine lv_iload hx hb dL_law_1016 (lv_at hl 1 rfl) ?_
    refine lv_iconst (v := 1) hx hb dL_law_1018 (by decide) ?_
    refine lv_iadd hx hb dL_law_1019 ?_
    refine w_top (v := nI (i + 1)) (nI_add i 1) ?_
    refine w_sld hx hb hX hbl rfl hS (by omega) hL dL_law_1020 ?_
    refine lv_aload_n hx hb dL_law_1021 rfl (lv_at hl 5 rfl) ?_
    refine lv_iload hx hb dL_law_1022 (lv_at hl 1 rfl) ?_
    refine lv_iconst (v := 2) hx hb dL_law_1024 (by decide) ?_
    refine lv_iadd hx hb dL_law_1025 ?_
    refine w_top (v := nI (i + 2)) (nI_add i 2) ?_
    refine w_sld hx hb hX hbl rfl hS (by omega) hL dL_law_1026 ?_
    refine lv_aload_n hx hb dL_law_1027 rfl (lv_at hl 5 rfl) ?_
    refine lv_iload hx hb dL_law_1028 (lv_at hl 1 rfl) ?_
    refine lv_iconst (v := 3) hx hb dL_law_1030 (by decide) ?_
    refine lv_iadd hx hb dL_law_1031 ?_
    refine w_top (v := nI (i + 3)) (nI_add i 3) ?_
    refine w_sld hx hb hX hbl rfl hS (by omega) hL dL_law_1032 ?_
    refine lv_aload_n hx hb dL_law_1033 rfl (lv_at hl 5 rfl) ?_
    refine lv_iload hx hb dL_law_1034 (lv_at hl 1 rfl) ?_
    refine lv_iconst (v := 4) hx hb dL_law_1036 (by decide) ?_
    refine lv_iadd hx hb dL_law_1037 ?_
    refine w_top (v := nI (i + 4)) (nI_add i 4) ?_
    refine w_sld hx hb hX hbl rfl hS (by omega) hL dL_law_1038 ?_
    refine w_calli (va_runV (As := [.int (xs (i + 1)), .int (xs (i + 2)), .int (xs (i + 3)), .int (xs (i + 4))]) (rest := []) ⟨hx, hb, hml, hown, hts⟩ (c_X5_weekly l D s.heap.size ad (g, σ) g (sh d σ) th (o) (Ib_sh (Rf_Ib hR)) (xs (i + 1)) (xs (i + 2)) (xs (i + 3)) (xs (i + 4))) (cwV 4 hts gL_law_X5_weekly rfl rfl rfl (by decide +kernel) ⟨(Nat.le_of_ble_eq_true rfl), (Nat.le_of_ble_eq_true rfl)⟩) (w_preV hC hP hS cW_5 rfl) rfl rfl hl.1 rfl (lv_room (Nat.le_of_ble_eq_true rfl)) dL_law_1039 ⟨hcc, hcs⟩) hS (fun r6 ad1 w1 H locs hq hP hS => ?_)
    rw [cdEnt_sh] at hq
    cases hq.2 c9
    have hP : hw D s.heap.size ad (cW D ad (g, σ) (g, sh d (σ), nI (cdEnt g σ 6 (xs (i + 1)) (xs (i + 2)) (xs (i + 3)) (xs (i + 4)))) (o)) H := hP
    refine lv_istore (lv' := [(6, .int r6), (5, .int (nI (cdEnt g σ 6 (xs (i + 1)) (xs (i + 2)) (xs (i + 3)) (xs (i + 4))))), (4, .int (nI i)), (3, .ref (ad 6 0)), (2, .ref (ad 5 0)), (1, .ref (ad 4 0)), (0, .ref b)]) hx hb dL_law_1042 hl (by decide) rfl (fun ls hl => ?_)
    refine lv_aload_n hx hb dL_law_1044 rfl (lv_at hl 4 rfl) ?_
    refine w_calli (va_runV (As := []) (rest := []) ⟨hx, hb, hml, hown, hts⟩ (c_X5_thrown l D s.heap.size ad (g, σ) g (sh d (σ)) (nI (cdEnt g σ 6 (xs (i + 1)) (xs (i + 2)) (xs (i + 3)) (xs (i + 4)))) (o)) (cwV 0 hts gL_law_X5_thrown rfl rfl rfl (by decide +kernel) ⟨(Nat.le_of_ble_eq_true rfl), (Nat.le_of_ble_eq_true rfl)⟩) (w_preV hC hP hS cW_5 rfl) rfl rfl hl.1 rfl (lv_room (Nat.le_of_ble_eq_true rfl)) dL_law_1045 ⟨hcc, hcs⟩) hS (fun r7 ad1 w1 H locs hq hP hS => ?_)
    obtain ⟨h91, h92⟩ := hq
    cases h91
    subst h92
    refine lv_iload hx hb dL_law_1048 (lv_at hl 1 rfl) ?_
    refine lv_icmp_eq (tgt := 1055) hx hb dL_law_1050 (by decide) (fun _ => ?_) (fun c1 => absurd rfl c1)
    refine lv_iload hx hb dL_law_1055 (lv_at hl 1 rfl) ?_
    refine lv_if_ne (tgt := 1072) hx hb dL_law_1057 (by decide) (fun _ => ?_) (fun c2 => absurd (nI_cod c2) c9)
    refine lv_goto (tgt := 1304) hx hb dL_law_1072 (by decide) ?_
    refine W.widen (k := cells + 12) (n := slots + 151) (by omega) (by omega) ?_
    exact K ad g σ d (nI (cdEnt g σ 6 (xs (i + 1)) (xs (i + 2)) (xs (i + 3)) (xs (i + 4)))) (o) H locs ls ⟨hP, hS, hR, lv_sub hl [2, 3, 4, 5, 6] rfl⟩
set_option maxHeartbeats 4000000 in
set_option maxRecDepth 100000 in
theorem lc_once {p : Program} {l : Launch} {e : Env} {s : State} {m : MethodId} {below : List Frame} {meth : Method} {c : Code} {b L : Nat} {xs : Nat → Int32} {D : va_G} (A : LoA p l s m c b L xs D) {Q : State → Prop} {cells slots : Nat} (hcc : cells + 12 ≤ room_1.cells) (hcs : slots + 151 ≤ room_1.slots) {i : Nat} (hi : i + 5 ≤ L) {ad : Ad} {g : GC} {σ : Me} {d th : Int32} {o : Int64} {H : Heap} {locs : List Loc} {ls : Array Slot} (Z : LoS D s b i ad g σ d th o H locs ls) (K : LoK p l e s m below meth c b i D cells slots Q) : W p l e room_1 s m #[Value.ref b] below meth c H locs cells slots Q (F0 m 1075 ls []) := by
  obtain ⟨hns, hx, hb, hml, hown, hts, hX, hbl, hL, hC⟩ := A
  obtain ⟨hP, hS, hR, hl⟩ := Z
  obtain ⟨t, hRt⟩ := id hR.1
  refine lv_aload_n hx hb dL_law_1075 rfl (lv_at hl 3 rfl) ?_
  refine lv_aload_n hx hb dL_law_1076 rfl (lv_at hl 4 rfl) ?_
  refine lv_iload hx hb dL_law_1077 (lv_at hl 0 rfl) ?_
  refine lv_iconst (v := 1) hx hb dL_law_1079 (by decide) ?_
  refine lv_iadd hx hb dL_law_1080 ?_
  refine w_top (v := nI (i + 1)) (nI_add i 1) ?_
  refine w_sld hx hb hX hbl rfl hS (by omega) hL dL_law_1081 ?_
  refine lv_aload_n hx hb dL_law_1082 rfl (lv_at hl 4 rfl) ?_
  refine lv_iload hx hb dL_law_1083 (lv_at hl 0 rfl) ?_
  refine lv_iconst (v := 2) hx hb dL_law_1085 (by decide) ?_
  refine lv_iadd hx hb dL_law_1086 ?_
  refine w_top (v := nI (i + 2)) (nI_add i 2) ?_
  refine w_sld hx hb hX hbl rfl hS (by omega) hL dL_law_1087 ?_
  refine lv_aload_n hx hb dL_law_1088 rfl (lv_at hl 4 rfl) ?_
  refine lv_iload hx hb dL_law_1089 (lv_at hl 0 rfl) ?_
  refine lv_iconst (v := 3) hx hb dL_law_1091 (by decide) ?_
  refine lv_iadd hx hb dL_law_1092 ?_
  refine w_top (v := nI (i + 3)) (nI_add i 3) ?_
  refine w_sld hx hb hX hbl rfl hS (by omega) hL dL_law_1093 ?_
  refine lv_aload_n hx hb dL_law_1094 rfl (lv_at hl 4 rfl) ?_
  refine lv_iload hx hb dL_law_1095 (lv_at hl 0 rfl) ?_
  refine lv_iconst (v := 4) hx hb dL_law_1097 (by decide) ?_
  refine lv_iadd hx hb dL_law_1098 ?_
  refine w_top (v := nI (i + 4)) (nI_add i 4) ?_
  refine w_sld hx hb hX hbl rfl hS (by omega) hL dL_law_1099 ?_
  refine lv_aload_n hx hb dL_law_1100 rfl (lv_at hl 1 rfl) ?_
  refine w_calli (vx_runSW (As := [.ref (ad 4 0), .int (xs (i + 1)), .int (xs (i + 2)), .int (xs (i + 3)), .int (xs (i + 4)), .ref (ad 6 0)]) (rest := []) ⟨hx, hb, hml, hown, hts⟩ (c_L_once l hns D s.heap.size ad g σ (g, sh d σ, th) o (Rf_Ib hR) t hRt.2.1 hRt.2.2.1 (xs (i + 1)) (xs (i + 2)) (xs (i + 3)) (xs (i + 4))) (vx_cwSW 6 hts gL_law_L_once rfl rfl rfl (by decide +kernel) ⟨(Nat.le_of_ble_eq_true rfl), (Nat.le_of_ble_eq_true rfl)⟩) (w_preS hC hP hS) rfl rfl hl.1 rfl (lv_room (Nat.le_of_ble_eq_true rfl)) dL_law_1101 ⟨Nat.le_trans (Nat.add_le_add_left (Nat.le_of_ble_eq_true rfl) _) hcc, Nat.le_trans (Nat.add_le_add_left (Nat.le_of_ble_eq_true rfl) _) hcs⟩) hS (fun r5 ad1 w1 H locs hq hP hS => ?_)
  refine W.widen (k := cells + 12) (n := slots + 151) (Nat.add_le_add_left (Nat.le_of_ble_eq_true rfl) _) (Nat.add_le_add_left (Nat.le_of_ble_eq_true rfl) _) ?_
  by_cases c9 : cdEnt g σ 700 (xs (i + 1)) (xs (i + 2)) (xs (i + 3)) (xs (i + 4)) = 0
  · obtain ⟨h81, h82⟩ := hq.1 c9
    cases h81
    subst h82
    refine lv_istore (lv' := [(5, .int 0), (4, .int (nI i)), (3, .ref (ad 6 0)), (2, .ref (ad 5 0)), (1, .ref (ad 4 0)), (0, .ref b)]) hx hb dL_law_1104 hl (by decide) rfl (fun ls hl => ?_)
    refine lv_aload_n hx hb dL_law_1106 rfl (lv_at hl 3 rfl) ?_
    refine lv_aload_n hx hb dL_law_1107 rfl (lv_at hl 5 rfl) ?_
    refine lv_iload hx hb dL_law_1108 (lv_at hl 1 rfl) ?_
    refine lv_iconst (v := 1) hx hb dL_law_1110 (by decide) ?_
    refine lv_iadd hx hb dL_law_1111 ?_
    refine w_top (v := nI (i + 1)) (nI_add i 1) ?_
    refine w_sld hx hb hX hbl rfl hS (by omega) hL dL_law_1112 ?_
    refine lv_aload_n hx hb dL_law_1113 rfl (lv_at hl 5 rfl) ?_
    refine lv_iload hx hb dL_law_1114 (lv_at hl 1 rfl) ?_
    refine lv_iconst (v := 2) hx hb dL_law_1116 (by decide) ?_
    refine lv_iadd hx hb dL_law_1117 ?_
    refine w_top (v := nI (i + 2)) (nI_add i 2) ?_
    refine w_sld hx hb hX hbl rfl hS (by omega) hL dL_law_1118 ?_
    refine lv_aload_n hx hb dL_law_1119 rfl (lv_at hl 5 rfl) ?_
    refine lv_iload hx hb dL_law_1120 (lv_at hl 1 rfl) ?_
    refine lv_iconst (v := 3) hx hb dL_law_1122 (by decide) ?_
    refine lv_iadd hx hb dL_law_1123 ?_
    refine w_top (v := nI (i + 3)) (nI_add i 3) ?_
    refine w_sld hx hb hX hbl rfl hS (by omega) hL dL_law_1124 ?_
    refine lv_aload_n hx hb dL_law_1125 rfl (lv_at hl 5 rfl) ?_
    refine lv_iload hx hb dL_law_1126 (lv_at hl 1 rfl) ?_
    refine lv_iconst (v := 4) hx hb dL_law_1128 (by decide) ?_
    refine lv_iadd hx hb dL_law_1129 ?_
    refine w_top (v := nI (i + 4)) (nI_add i 4) ?_
    refine w_sld hx hb hX hbl rfl hS (by omega) hL dL_law_1130 ?_
    refine w_calli (va_runV (As := [.int (xs (i + 1)), .int (xs (i + 2)), .int (xs (i + 3)), .int (xs (i + 4))]) (rest := []) ⟨hx, hb, hml, hown, hts⟩ (c_X5_once l D s.heap.size ad (g, obeF g.2.1 (nOf (xs (i + 1))) (entM (nOf (xs (i + 1))) (10 + (xs (i + 2))) (xs (i + 3)) (xs (i + 4)) (entC (2 * nOf (xs (i + 1)) + 1) (xs (i + 2)) (xs (i + 3)) (xs (i + 4)) σ))) g (sh d σ) th ((obeF g.2.1 (nOf (xs (i + 1))) (entM (nOf (xs (i + 1))) (10 + (xs (i + 2))) (xs (i + 3)) (xs (i + 4)) (entC (2 * nOf (xs (i + 1)) + 1) (xs (i + 2)) (xs (i + 3)) (xs (i + 4)) σ)) 16 (nOf (xs (i + 1))) 0).toInt64) (Ib_sh (Rf_Ib hR)) (xs (i + 1)) (xs (i + 2)) (xs (i + 3)) (xs (i + 4))) (cwV 4 hts gL_law_X5_once rfl rfl rfl (by decide +kernel) ⟨(Nat.le_of_ble_eq_true rfl), (Nat.le_of_ble_eq_true rfl)⟩) (w_preV hC hP hS cW_5 rfl) rfl rfl hl.1 rfl (lv_room (Nat.le_of_ble_eq_true rfl)) dL_law_1131 ⟨hcc, hcs⟩) hS (fun r6 ad1 w1 H locs hq hP hS => ?_)
    rw [cdEnt_sh, entC_sh, entM_sh, obeF_sh, sh_n (a := 16) (by decide)] at hq
    obtain ⟨h91, h92⟩ := hq.1 c9
    cases h91
    subst h92
    have hP : hw D s.heap.size ad (cW D ad (g, obeF g.2.1 (nOf (xs (i + 1))) (entM (nOf (xs (i + 1))) (10 + (xs (i + 2))) (xs (i + 3)) (xs (i + 4)) (entC (2 * nOf (xs (i + 1)) + 1) (xs (i + 2)) (xs (i + 3)) (xs (i + 4)) σ))) (g, sh d (obeF g.2.1 (nOf (xs (i + 1))) (entM (nOf (xs (i + 1))) (10 + (xs (i + 2))) (xs (i + 3)) (xs (i + 4)) (entC (2 * nOf (xs (i + 1)) + 1) (xs (i + 2)) (xs (i + 3)) (xs (i + 4)) σ))), nI (cdEnt g σ 700 (xs (i + 1)) (xs (i + 2)) (xs (i + 3)) (xs (i + 4)))) ((obeF g.2.1 (nOf (xs (i + 1))) (entM (nOf (xs (i + 1))) (10 + (xs (i + 2))) (xs (i + 3)) (xs (i + 4)) (entC (2 * nOf (xs (i + 1)) + 1) (xs (i + 2)) (xs (i + 3)) (xs (i + 4)) σ)) 16 (nOf (xs (i + 1))) 0).toInt64)) H := hP
    refine lv_istore (lv' := [(6, .int (obeF g.2.1 (nOf (xs (i + 1))) (entM (nOf (xs (i + 1))) (10 + (xs (i + 2))) (xs (i + 3)) (xs (i + 4)) (entC (2 * nOf (xs (i + 1)) + 1) (xs (i + 2)) (xs (i + 3)) (xs (i + 4)) σ)) 16 (nOf (xs (i + 1))) 0)), (5, .int 0), (4, .int (nI i)), (3, .ref (ad 6 0)), (2, .ref (ad 5 0)), (1, .ref (ad 4 0)), (0, .ref b)]) hx hb dL_law_1134 hl (by decide) rfl (fun ls hl => ?_)
    refine lv_aload_n hx hb dL_law_1136 rfl (lv_at hl 4 rfl) ?_
    refine w_calli (va_runV (As := []) (rest := []) ⟨hx, hb, hml, hown, hts⟩ (c_X5_thrown l D s.heap.size ad (g, obeF g.2.1 (nOf (xs (i + 1))) (entM (nOf (xs (i + 1))) (10 + (xs (i + 2))) (xs (i + 3)) (xs (i + 4)) (entC (2 * nOf (xs (i + 1)) + 1) (xs (i + 2)) (xs (i + 3)) (xs (i + 4)) σ))) g (sh d (obeF g.2.1 (nOf (xs (i + 1))) (entM (nOf (xs (i + 1))) (10 + (xs (i + 2))) (xs (i + 3)) (xs (i + 4)) (entC (2 * nOf (xs (i + 1)) + 1) (xs (i + 2)) (xs (i + 3)) (xs (i + 4)) σ)))) (nI (cdEnt g σ 700 (xs (i + 1)) (xs (i + 2)) (xs (i + 3)) (xs (i + 4)))) ((obeF g.2.1 (nOf (xs (i + 1))) (entM (nOf (xs (i + 1))) (10 + (xs (i + 2))) (xs (i + 3)) (xs (i + 4)) (entC (2 * nOf (xs (i + 1)) + 1) (xs (i + 2)) (xs (i + 3)) (xs (i + 4)) σ)) 16 (nOf (xs (i + 1))) 0).toInt64)) (cwV 0 hts gL_law_X5_thrown rfl rfl rfl (by decide +kernel) ⟨(Nat.le_of_ble_eq_true rfl), (Nat.le_of_ble_eq_true rfl)⟩) (w_preV hC hP hS cW_5 rfl) rfl rfl hl.1 rfl (lv_room (Nat.le_of_ble_eq_true rfl)) dL_law_1137 ⟨hcc, hcs⟩) hS (fun r7 ad1 w1 H locs hq hP hS => ?_)
    obtain ⟨h91, h92⟩ := hq
    cases h91
    subst h92
    refine lv_iload hx hb dL_law_1140 (lv_at hl 1 rfl) ?_
    refine lv_icmp_eq (tgt := 1147) hx hb dL_law_1142 (by decide) (fun _ => ?_) (fun c1 => absurd (by rw [c9]; rfl) c1)
    refine lv_iload hx hb dL_law_1147 (lv_at hl 1 rfl) ?_
    refine lv_if_ne (tgt := 1164) hx hb dL_law_1149 (by decide) (fun c2 => absurd rfl c2) (fun _ => ?_)
    refine lv_aload_n hx hb dL_law_1152 rfl (lv_at hl 3 rfl) ?_
    refine lv_iconst (v := 0) hx hb dL_law_1153 (by decide) ?_
    refine w_laldV hx hb hC hP cW_6 (i := 0) (v := (obeF g.2.1 (nOf (xs (i + 1))) (entM (nOf (xs (i + 1))) (10 + (xs (i + 2))) (xs (i + 3)) (xs (i + 4)) (entC (2 * nOf (xs (i + 1)) + 1) (xs (i + 2)) (xs (i + 3)) (xs (i + 4)) σ)) 16 (nOf (xs (i + 1))) 0).toInt64) (by unfold vp_in; decide) rfl dL_law_1154 ?_
    refine lv_iload hx hb dL_law_1155 (lv_at hl 0 rfl) ?_
    refine lv_i2l (v := (obeF g.2.1 (nOf (xs (i + 1))) (entM (nOf (xs (i + 1))) (10 + (xs (i + 2))) (xs (i + 3)) (xs (i + 4)) (entC (2 * nOf (xs (i + 1)) + 1) (xs (i + 2)) (xs (i + 3)) (xs (i + 4)) σ)) 16 (nOf (xs (i + 1))) 0).toInt64) hx hb dL_law_1157 rfl ?_
    refine W.lcmp hx hb dL_law_1158 ?_
    refine lv_if_eq (tgt := 1164) hx hb dL_law_1159 (by decide) (fun _ => ?_) (fun c3 => absurd (lg_cmp_self _) c3)
    refine lv_goto (tgt := 1304) hx hb dL_law_1164 (by decide) ?_
    refine W.widen (k := cells + 12) (n := slots + 151) (by omega) (by omega) ?_
    exact K ad g (obeF g.2.1 (nOf (xs (i + 1))) (entM (nOf (xs (i + 1))) (10 + (xs (i + 2))) (xs (i + 3)) (xs (i + 4)) (entC (2 * nOf (xs (i + 1)) + 1) (xs (i + 2)) (xs (i + 3)) (xs (i + 4)) σ))) d (nI (cdEnt g σ 700 (xs (i + 1)) (xs (i + 2)) (xs (i + 3)) (xs (i + 4)))) ((obeF g.2.1 (nOf (xs (i + 1))) (entM (nOf (xs (i + 1))) (10 + (xs (i + 2))) (xs (i + 3)) (xs (i + 4)) (entC (2 * nOf (xs (i + 1)) + 1) (xs (i + 2)) (xs (i + 3)) (xs (i + 4)) σ)) 16 (nOf (xs (i + 1))) 0).toInt64) H locs ls ⟨hP, hS, st_onc hR c9, lv_sub hl [2, 3, 4, 5, 6] rfl⟩
  · obtain ⟨h81, h82⟩ := hq.2 c9
    cases h81
    subst h82
    refine lv_istore (lv' := [(5, .int (nI (cdEnt g σ 700 (xs (i + 1)) (xs (i + 2)) (xs (i + 3)) (xs (i + 4))))), (4, .int (nI i)), (3, .ref (ad 6 0)), (2, .ref (ad 5 0)), (1, .ref (ad 4 0)), (0, .ref b)]) hx hb dL_law_1104 hl (by decide) rfl (fun ls hl => ?_)
    refine lv_aload_n hx hb dL_law_1106 rfl (lv_at hl 3 rfl) ?_
    refine lv_aload_n hx hb dL_law_1107 rfl (lv_at hl 5 rfl) ?_
    refine lv_iload hx hb dL_law_1108 (lv_at hl 1 rfl) ?_
    refine lv_iconst (v := 1) hx hb dL_law_1110 (by decide) ?_
    refine lv_iadd hx hb dL_law_1111 ?_
    refine w_top (v := nI (i + 1)) (nI_add i 1) ?_
    refine w_sld hx hb hX hbl rfl hS (by omega) hL dL_law_1112 ?_
    refine lv_aload_n hx hb dL_law_1113 rfl (lv_at hl 5 rfl) ?_
    refine lv_iload hx hb dL_law_1114 (lv_at hl 1 rfl) ?_
    refine lv_iconst (v := 2) hx hb dL_law_1116 (by decide) ?_
    refine lv_iadd hx hb dL_law_1117 ?_
    refine w_top (v := nI (i + 2)) (nI_add i 2) ?_
    refine w_sld hx hb hX hbl rfl hS (by omega) hL dL_law_1118 ?_
    refine lv_aload_n hx hb dL_law_1119 rfl (lv_at hl 5 rfl) ?_
    refine lv_iload hx hb dL_law_1120 (lv_at hl 1 rfl) ?_
    refine lv_iconst (v := 3) hx hb dL_law_1122 (by decide) ?_
    refine lv_iadd hx hb dL_law_1123 ?_
    refine w_top (v := nI (i + 3)) (nI_add i 3) ?_
    refine w_sld hx hb hX hbl rfl hS (by omega) hL dL_law_1124 ?_
    refine lv_aload_n hx hb dL_law_1125 rfl (lv_at hl 5 rfl) ?_
    refine lv_iload hx hb dL_law_1126 (lv_at hl 1 rfl) ?_
    refine lv_iconst (v := 4) hx hb dL_law_1128 (by decide) ?_
    refine lv_iadd hx hb dL_law_1129 ?_
    refine w_top (v := nI (i + 4)) (nI_add i 4) ?_
    refine w_sld hx hb hX hbl rfl hS (by omega) hL dL_law_1130 ?_
    refine w_calli (va_runV (As := [.int (xs (i + 1)), .int (xs (i + 2)), .int (xs (i + 3)), .int (xs (i + 4))]) (rest := []) ⟨hx, hb, hml, hown, hts⟩ (c_X5_once l D s.heap.size ad (g, σ) g (sh d σ) th (o) (Ib_sh (Rf_Ib hR)) (xs (i + 1)) (xs (i + 2)) (xs (i + 3)) (xs (i + 4))) (cwV 4 hts gL_law_X5_once rfl rfl rfl (by decide +kernel) ⟨(Nat.le_of_ble_eq_true rfl), (Nat.le_of_ble_eq_true rfl)⟩) (w_preV hC hP hS cW_5 rfl) rfl rfl hl.1 rfl (lv_room (Nat.le_of_ble_eq_true rfl)) dL_law_1131 ⟨hcc, hcs⟩) hS (fun r6 ad1 w1 H locs hq hP hS => ?_)
    rw [cdEnt_sh] at hq
    cases hq.2 c9
    have hP : hw D s.heap.size ad (cW D ad (g, σ) (g, sh d (σ), nI (cdEnt g σ 700 (xs (i + 1)) (xs (i + 2)) (xs (i + 3)) (xs (i + 4)))) (o)) H := hP
    refine lv_istore (lv' := [(6, .int r6), (5, .int (nI (cdEnt g σ 700 (xs (i + 1)) (xs (i + 2)) (xs (i + 3)) (xs (i + 4))))), (4, .int (nI i)), (3, .ref (ad 6 0)), (2, .ref (ad 5 0)), (1, .ref (ad 4 0)), (0, .ref b)]) hx hb dL_law_1134 hl (by decide) rfl (fun ls hl => ?_)
    refine lv_aload_n hx hb dL_law_1136 rfl (lv_at hl 4 rfl) ?_
    refine w_calli (va_runV (As := []) (rest := []) ⟨hx, hb, hml, hown, hts⟩ (c_X5_thrown l D s.heap.size ad (g, σ) g (sh d (σ)) (nI (cdEnt g σ 700 (xs (i + 1)) (xs (i + 2)) (xs (i + 3)) (xs (i + 4)))) (o)) (cwV 0 hts gL_law_X5_thrown rfl rfl rfl (by decide +kernel) ⟨(Nat.le_of_ble_eq_true rfl), (Nat.le_of_ble_eq_true rfl)⟩) (w_preV hC hP hS cW_5 rfl) rfl rfl hl.1 rfl (lv_room (Nat.le_of_ble_eq_true rfl)) dL_law_1137 ⟨hcc, hcs⟩) hS (fun r7 ad1 w1 H locs hq hP hS => ?_)
    obtain ⟨h91, h92⟩ := hq
    cases h91
    subst h92
    refine lv_iload hx hb dL_law_1140 (lv_at hl 1 rfl) ?_
    refine lv_icmp_eq (tgt := 1147) hx hb dL_law_1142 (by decide) (fun _ => ?_) (fun c1 => absurd rfl c1)
    refine lv_iload hx hb dL_law_1147 (lv_at hl 1 rfl) ?_
    refine lv_if_ne (tgt := 1164) hx hb dL_law_1149 (by decide) (fun _ => ?_) (fun c2 => absurd (nI_cod c2) c9)
    refine lv_goto (tgt := 1304) hx hb dL_law_1164 (by decide) ?_
    refine W.widen (k := cells + 12) (n := slots + 151) (by omega) (by omega) ?_
    exact K ad g σ d (nI (cdEnt g σ 700 (xs (i + 1)) (xs (i + 2)) (xs (i + 3)) (xs (i + 4)))) (o) H locs ls ⟨hP, hS, hR, lv_sub hl [2, 3, 4, 5, 6] rfl⟩
set_option maxHeartbeats 4000000 in
set_option maxRecDepth 100000 in
theorem lc_pass {p : Program} {l : Launch} {e : Env} {s : State} {m : MethodId} {below : List Frame} {meth : Method} {c : Code} {b L : Nat} {xs : Nat → Int32} {D : va_G} (A : LoA p l s m c b L xs D) {Q : State → Prop} {cells slots : Nat} (hcc : cells + 12 ≤ room_1.cells) (hcs : slots + 151 ≤ room_1.slots) {i : Nat} (hi : i + 5 ≤ L) {ad : Ad} {g : GC} {σ : Me} {d th : Int32} {o : Int64} {H : Heap} {locs : List Loc} {ls : Array Slot} (Z : LoS D s b i ad g σ d th o H locs ls) (K : LoK p l e s m below meth c b i D cells slots Q) : W p l e room_1 s m #[Value.ref b] below meth c H locs cells slots Q (F0 m 1235 ls []) := by
  obtain ⟨hns, hx, hb, hml, hown, hts, hX, hbl, hL, hC⟩ := A
  obtain ⟨hP, hS, hR, hl⟩ := Z
  obtain ⟨t, hRt⟩ := id hR.1
  refine lv_aload_n hx hb dL_law_1235 rfl (lv_at hl 3 rfl) ?_
  refine lv_aload_n hx hb dL_law_1236 rfl (lv_at hl 4 rfl) ?_
  refine lv_iload hx hb dL_law_1237 (lv_at hl 0 rfl) ?_
  refine lv_iconst (v := 1) hx hb dL_law_1239 (by decide) ?_
  refine lv_iadd hx hb dL_law_1240 ?_
  refine w_top (v := nI (i + 1)) (nI_add i 1) ?_
  refine w_sld hx hb hX hbl rfl hS (by omega) hL dL_law_1241 ?_
  refine lv_aload_n hx hb dL_law_1242 rfl (lv_at hl 1 rfl) ?_
  refine w_calli (vx_runSW (As := [.ref (ad 4 0), .int (xs (i + 1)), .ref (ad 6 0)]) (rest := []) ⟨hx, hb, hml, hown, hts⟩ (c_L_pass l hns D s.heap.size ad g σ (g, sh d σ, th) o (Rf_Ib hR) t hRt (xs (i + 1))) (vx_cwSW 3 hts gL_law_L_pass rfl rfl rfl (by decide +kernel) ⟨(Nat.le_of_ble_eq_true rfl), (Nat.le_of_ble_eq_true rfl)⟩) (w_preS hC hP hS) rfl rfl hl.1 rfl (lv_room (Nat.le_of_ble_eq_true rfl)) dL_law_1243 ⟨Nat.le_trans (Nat.add_le_add_left (Nat.le_of_ble_eq_true rfl) _) hcc, Nat.le_trans (Nat.add_le_add_left (Nat.le_of_ble_eq_true rfl) _) hcs⟩) hS (fun r5 ad1 w1 H locs hq hP hS => ?_)
  refine W.widen (k := cells + 12) (n := slots + 151) (Nat.add_le_add_left (Nat.le_of_ble_eq_true rfl) _) (Nat.add_le_add_left (Nat.le_of_ble_eq_true rfl) _) ?_
  by_cases c9 : cdPas σ (xs (i + 1)) = 0
  · obtain ⟨h81, h82⟩ := hq.1 c9
    cases h81
    subst h82
    refine lv_istore (lv' := [(5, .int 0), (4, .int (nI i)), (3, .ref (ad 6 0)), (2, .ref (ad 5 0)), (1, .ref (ad 4 0)), (0, .ref b)]) hx hb dL_law_1246 hl (by decide) rfl (fun ls hl => ?_)
    refine lv_aload_n hx hb dL_law_1248 rfl (lv_at hl 3 rfl) ?_
    refine lv_aload_n hx hb dL_law_1249 rfl (lv_at hl 5 rfl) ?_
    refine lv_iload hx hb dL_law_1250 (lv_at hl 1 rfl) ?_
    refine lv_iconst (v := 1) hx hb dL_law_1252 (by decide) ?_
    refine lv_iadd hx hb dL_law_1253 ?_
    refine w_top (v := nI (i + 1)) (nI_add i 1) ?_
    refine w_sld hx hb hX hbl rfl hS (by omega) hL dL_law_1254 ?_
    refine w_calli (va_runV (As := [.int (xs (i + 1))]) (rest := []) ⟨hx, hb, hml, hown, hts⟩ (c_X5_pass l D s.heap.size ad (g, pasF g (nOf (xs (i + 1))) σ) g (sh d σ) th ((pasF g (nOf (xs (i + 1))) σ 26 0 0 - σ 26 0 0).toInt64) (Ib_sh (Rf_Ib hR)) t (Rs_sh hRt) (xs (i + 1))) (cwV 1 hts gL_law_X5_pass rfl rfl rfl (by decide +kernel) ⟨(Nat.le_of_ble_eq_true rfl), (Nat.le_of_ble_eq_true rfl)⟩) (w_preV hC hP hS cW_5 rfl) rfl rfl hl.1 rfl (lv_room (Nat.le_of_ble_eq_true rfl)) dL_law_1255 ⟨hcc, hcs⟩) hS (fun r6 ad1 w1 H locs hq hP hS => ?_)
    rw [cdPas_sh, pas_told.2, pas_told.1] at hq
    obtain ⟨h91, h92⟩ := hq.1 c9
    cases h91
    subst h92
    have hP : hw D s.heap.size ad (cW D ad (g, pasF g (nOf (xs (i + 1))) σ) (g, sh (0 - σ 26 0 0) (pasF g (nOf (xs (i + 1))) σ), nI (cdPas σ (xs (i + 1)))) ((pasF g (nOf (xs (i + 1))) σ 26 0 0 - σ 26 0 0).toInt64)) H := hP
    refine lv_istore (lv' := [(6, .int (pasF g (nOf (xs (i + 1))) σ 26 0 0 - σ 26 0 0)), (5, .int 0), (4, .int (nI i)), (3, .ref (ad 6 0)), (2, .ref (ad 5 0)), (1, .ref (ad 4 0)), (0, .ref b)]) hx hb dL_law_1258 hl (by decide) rfl (fun ls hl => ?_)
    refine lv_aload_n hx hb dL_law_1260 rfl (lv_at hl 4 rfl) ?_
    refine w_calli (va_runV (As := []) (rest := []) ⟨hx, hb, hml, hown, hts⟩ (c_X5_thrown l D s.heap.size ad (g, pasF g (nOf (xs (i + 1))) σ) g (sh (0 - σ 26 0 0) (pasF g (nOf (xs (i + 1))) σ)) (nI (cdPas σ (xs (i + 1)))) ((pasF g (nOf (xs (i + 1))) σ 26 0 0 - σ 26 0 0).toInt64)) (cwV 0 hts gL_law_X5_thrown rfl rfl rfl (by decide +kernel) ⟨(Nat.le_of_ble_eq_true rfl), (Nat.le_of_ble_eq_true rfl)⟩) (w_preV hC hP hS cW_5 rfl) rfl rfl hl.1 rfl (lv_room (Nat.le_of_ble_eq_true rfl)) dL_law_1261 ⟨hcc, hcs⟩) hS (fun r7 ad1 w1 H locs hq hP hS => ?_)
    obtain ⟨h91, h92⟩ := hq
    cases h91
    subst h92
    refine lv_iload hx hb dL_law_1264 (lv_at hl 1 rfl) ?_
    refine lv_icmp_eq (tgt := 1271) hx hb dL_law_1266 (by decide) (fun _ => ?_) (fun c1 => absurd (by rw [c9]; rfl) c1)
    refine lv_iload hx hb dL_law_1271 (lv_at hl 1 rfl) ?_
    refine lv_if_ne (tgt := 1288) hx hb dL_law_1273 (by decide) (fun c2 => absurd rfl c2) (fun _ => ?_)
    refine lv_aload_n hx hb dL_law_1276 rfl (lv_at hl 3 rfl) ?_
    refine lv_iconst (v := 0) hx hb dL_law_1277 (by decide) ?_
    refine w_laldV hx hb hC hP cW_6 (i := 0) (v := (pasF g (nOf (xs (i + 1))) σ 26 0 0 - σ 26 0 0).toInt64) (by unfold vp_in; decide) rfl dL_law_1278 ?_
    refine lv_iload hx hb dL_law_1279 (lv_at hl 0 rfl) ?_
    refine lv_i2l (v := (pasF g (nOf (xs (i + 1))) σ 26 0 0 - σ 26 0 0).toInt64) hx hb dL_law_1281 rfl ?_
    refine W.lcmp hx hb dL_law_1282 ?_
    refine lv_if_eq (tgt := 1288) hx hb dL_law_1283 (by decide) (fun _ => ?_) (fun c3 => absurd (lg_cmp_self _) c3)
    refine lv_goto (tgt := 1304) hx hb dL_law_1288 (by decide) ?_
    refine W.widen (k := cells + 12) (n := slots + 151) (by omega) (by omega) ?_
    exact K ad g (pasF g (nOf (xs (i + 1))) σ) (0 - σ 26 0 0) (nI (cdPas σ (xs (i + 1)))) ((pasF g (nOf (xs (i + 1))) σ 26 0 0 - σ 26 0 0).toInt64) H locs ls ⟨hP, hS, st_pas hR c9, lv_sub hl [2, 3, 4, 5, 6] rfl⟩
  · obtain ⟨h81, h82⟩ := hq.2 c9
    cases h81
    subst h82
    refine lv_istore (lv' := [(5, .int (nI (cdPas σ (xs (i + 1))))), (4, .int (nI i)), (3, .ref (ad 6 0)), (2, .ref (ad 5 0)), (1, .ref (ad 4 0)), (0, .ref b)]) hx hb dL_law_1246 hl (by decide) rfl (fun ls hl => ?_)
    refine lv_aload_n hx hb dL_law_1248 rfl (lv_at hl 3 rfl) ?_
    refine lv_aload_n hx hb dL_law_1249 rfl (lv_at hl 5 rfl) ?_
    refine lv_iload hx hb dL_law_1250 (lv_at hl 1 rfl) ?_
    refine lv_iconst (v := 1) hx hb dL_law_1252 (by decide) ?_
    refine lv_iadd hx hb dL_law_1253 ?_
    refine w_top (v := nI (i + 1)) (nI_add i 1) ?_
    refine w_sld hx hb hX hbl rfl hS (by omega) hL dL_law_1254 ?_
    refine w_calli (va_runV (As := [.int (xs (i + 1))]) (rest := []) ⟨hx, hb, hml, hown, hts⟩ (c_X5_pass l D s.heap.size ad (g, σ) g (sh d σ) th (o) (Ib_sh (Rf_Ib hR)) t (Rs_sh hRt) (xs (i + 1))) (cwV 1 hts gL_law_X5_pass rfl rfl rfl (by decide +kernel) ⟨(Nat.le_of_ble_eq_true rfl), (Nat.le_of_ble_eq_true rfl)⟩) (w_preV hC hP hS cW_5 rfl) rfl rfl hl.1 rfl (lv_room (Nat.le_of_ble_eq_true rfl)) dL_law_1255 ⟨hcc, hcs⟩) hS (fun r6 ad1 w1 H locs hq hP hS => ?_)
    rw [cdPas_sh] at hq
    cases hq.2 c9
    have hP : hw D s.heap.size ad (cW D ad (g, σ) (g, sh d (σ), nI (cdPas σ (xs (i + 1)))) (o)) H := hP
    refine lv_istore (lv' := [(6, .int r6), (5, .int (nI (cdPas σ (xs (i + 1))))), (4, .int (nI i)), (3, .ref (ad 6 0)), (2, .ref (ad 5 0)), (1, .ref (ad 4 0)), (0, .ref b)]) hx hb dL_law_1258 hl (by decide) rfl (fun ls hl => ?_)
    refine lv_aload_n hx hb dL_law_1260 rfl (lv_at hl 4 rfl) ?_
    refine w_calli (va_runV (As := []) (rest := []) ⟨hx, hb, hml, hown, hts⟩ (c_X5_thrown l D s.heap.size ad (g, σ) g (sh d (σ)) (nI (cdPas σ (xs (i + 1)))) (o)) (cwV 0 hts gL_law_X5_thrown rfl rfl rfl (by decide +kernel) ⟨(Nat.le_of_ble_eq_true rfl), (Nat.le_of_ble_eq_true rfl)⟩) (w_preV hC hP hS cW_5 rfl) rfl rfl hl.1 rfl (lv_room (Nat.le_of_ble_eq_true rfl)) dL_law_1261 ⟨hcc, hcs⟩) hS (fun r7 ad1 w1 H locs hq hP hS => ?_)
    obtain ⟨h91, h92⟩ := hq
    cases h91
    subst h92
    refine lv_iload hx hb dL_law_1264 (lv_at hl 1 rfl) ?_
    refine lv_icmp_eq (tgt := 1271) hx hb dL_law_1266 (by decide) (fun _ => ?_) (fun c1 => absurd rfl c1)
    refine lv_iload hx hb dL_law_1271 (lv_at hl 1 rfl) ?_
    refine lv_if_ne (tgt := 1288) hx hb dL_law_1273 (by decide) (fun _ => ?_) (fun c2 => absurd (nI_cod c2) c9)
    refine lv_goto (tgt := 1304) hx hb dL_law_1288 (by decide) ?_
    refine W.widen (k := cells + 12) (n := slots + 151) (by omega) (by omega) ?_
    exact K ad g σ d (nI (cdPas σ (xs (i + 1)))) (o) H locs ls ⟨hP, hS, hR, lv_sub hl [2, 3, 4, 5, 6] rfl⟩
