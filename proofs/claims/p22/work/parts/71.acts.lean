/-! p22: acts -/
set_option maxHeartbeats 4000000 in
set_option maxRecDepth 100000 in
theorem c_L_acts (l : Launch) (hns : l.stackTraces = false) (D : va_G) (B : Nat) (ad : Ad) (np ns nc : Nat) (σ μ : Me) (t N : Nat) (J : Jt t N (np, ns, nc) σ μ) (hN : N + 4001 < 900000) (ht : t + 200 ≤ 900000) (x y : Int32) (hkd : ∀ i : Nat, lowO x (nI 24) = nI i → 12 ≤ i → i ≤ 13 → ns ≤ 20) : Met l yL_acts wsL_acts rmA (Pre D B ad (eW D ad ((np, ns, nc), σ) ((np, ns, nc), σ) (lW D 4 μ)) [.ref (ad 4 0), .ref (ad 17 0), .ref (ad 26 0), .ref (ad 26 1), .ref (ad 26 2), .ref (ad 26 3), .int x, .int y]) (Qi D B (AcP D ad t N)) 60 700 (ab B) := by
  refine Met.ofW (cc := cL_acts) (maxL := 20) (ret := (some .boolean)) (by decide) rfl ?_
  intro p e s m args below meth c s₁ Bd hml hv
  obtain ⟨rfl, hC, hP⟩ := hv
  have hx := Bd.exec
  have hb := Bd.bytes
  have hr := Bd.returns
  have hts := atoms_spec (ws := wsL_acts) Bd.pre
  have hown : s.vm.findClass RL = some m.cls := findClass_of_methodNamed Bd.named
  have hlocks := Bd.notSynchronized
  have hS : va_S (ab B) s.heap s.heap [] := va_S.rf
  have hl := lv_entry ([.ref (ad 4 0), .ref (ad 17 0), .ref (ad 26 0), .ref (ad 26 1), .ref (ad 26 2), .ref (ad 26 3), .int x, .int y]) (n := 20) (Nat.le_of_ble_eq_true rfl)
  rw [lg_entry_eq]
  generalize (lg_sl ([.ref (ad 4 0), .ref (ad 17 0), .ref (ad 26 0), .ref (ad 26 1), .ref (ad 26 2), .ref (ad 26 3), .int x, .int y]) ++ List.replicate (20 - (lg_sl ([.ref (ad 4 0), .ref (ad 17 0), .ref (ad 26 0), .ref (ad 26 1), .ref (ad 26 2), .ref (ad 26 3), .int x, .int y])).length) Slot.unset).toArray = ls at hl ⊢
  have hl : lv_has ls 20 [(0, .ref (ad 4 0)), (1, .ref (ad 17 0)), (2, .ref (ad 26 0)), (3, .ref (ad 26 1)), (4, .ref (ad 26 2)), (5, .ref (ad 26 3)), (6, .int x), (7, .int y)] := hl
  have hI := Jt_I J
  have g16 : np ≤ 16 := hI.1
  have g30 : ns ≤ 30 := hI.2.1
  have g4 : nc ≤ 4 := hI.2.2.1
  obtain ⟨l1, l2, l3, -⟩ := J.2.2.2.2.2.1
  have A : AcA p l s m #[.ref (ad 4 0), .ref (ad 17 0), .ref (ad 26 0), .ref (ad 26 1), .ref (ad 26 2), .ref (ad 26 3), .int x, .int y] c D B := ⟨hns, hx, hb, hml, hown, hts, hC⟩
  have K : AcK p l e s m #[.ref (ad 4 0), .ref (ad 17 0), .ref (ad 26 0), .ref (ad 26 1), .ref (ad 26 2), .ref (ad 26 3), .int x, .int y] below meth c D B ad t N (MQ below (Qi D B (AcP D ad t N)) #[.ref (ad 4 0), .ref (ad 17 0), .ref (ad 26 0), .ref (ad 26 1), .ref (ad 26 2), .ref (ad 26 3), .int x, .int y] s 60 700 (ab B)) := fun pc H locs ls ad9 g9 σ9 μ9 t9 N9 hd hP hS hk9 J9 ht9 hN9 => W.zret (v := 1) hx hb hr rfl (fun t1 ht1 hW => Qi_of (post := AcP D ad t N) ⟨rfl, ad9, g9, σ9, μ9, t9, N9, rfl, hk9, J9, ht9, hN9⟩ hP hS ht1) hS.2.2 hd
  refine lv_iload hx hb dL_acts_0 (lv_at hl 6 rfl) ?_
  refine lv_bipush (v := (24)) hx hb dL_acts_2 (by decide) ?_
  refine w_calli (va_runS (As := [.int x, .int 24]) (rest := []) ⟨hx, hb, hml, hown, hts⟩ (c_L_low l D B ad (eW D ad ((np, ns, nc), σ) ((np, ns, nc), σ) (lW D 4 μ)) x 24 (by decide)) (va_cwS 2 hts gL_acts_L_low rfl rfl rfl (by decide +kernel) ⟨Nat.le_of_ble_eq_true rfl, Nat.le_of_ble_eq_true rfl⟩) (w_preS hC hP hS) rfl rfl hl.1 rfl (lv_room (Nat.le_of_ble_eq_true rfl)) dL_acts_4 ⟨Nat.le_of_ble_eq_true rfl, Nat.le_of_ble_eq_true rfl⟩) hS (fun r_1 ad1 w1 H locs hq hP hS => ?_)
  obtain ⟨h81, h82⟩ := hq
  cases h81
  subst h82
  obtain ⟨i8, hi8, ei8⟩ := low_lt (x) (k := 24) (by omega) (by omega)
  refine w_top (v := nI i8) ei8 ?_
  refine lv_istore (lv' := [(8, .int (nI i8)), (0, .ref (ad 4 0)), (1, .ref (ad 17 0)), (2, .ref (ad 26 0)), (3, .ref (ad 26 1)), (4, .ref (ad 26 2)), (5, .ref (ad 26 3)), (6, .int x), (7, .int y)]) hx hb dL_acts_7 hl (by decide) rfl (fun ls hl => ?_)
  refine lv_iload hx hb dL_acts_9 (lv_at hl 0 rfl) ?_
  refine lv_iconst (v := 2) hx hb dL_acts_11 (by decide) ?_
  refine lv_icmp_lt (tgt := 23) hx hb dL_acts_12 (by decide) (fun c_12 => ?_) (fun c_12 => ?_)
  · exact ac_add A J hN ht hP hS (lv_sub hl [1, 2, 3, 4, 5, 6, 7, 8] rfl) K
  · refine lv_aload hx hb dL_acts_15 (lv_at hl 6 rfl) ?_
    refine lv_iconst (v := 0) hx hb dL_acts_17 (by decide) ?_
    refine w_top (v := nI 0) rfl ?_
    refine w_ildN hx hb hC hP (eW_L (show 3 < 4 by decide)) (show 0 < 3 from by omega) (by decide) (v := nI np) l1 dL_acts_18 ?_
    refine lv_iconst (v := 2) hx hb dL_acts_19 (by decide) ?_
    refine lv_icmp_ge (tgt := 253) hx hb dL_acts_20 (by decide) (fun c_20 => ?_) (fun c_20 => ?_)
    · have h2n : 2 ≤ np := (nI_leI (a := 2) (b := np) (by decide) (by omega)).mp c_20
      refine lv_iload hx hb dL_acts_253 (lv_at hl 7 rfl) ?_
      refine lv_iconst (v := 5) hx hb dL_acts_255 (by decide) ?_
      refine lv_ishr hx hb dL_acts_256 ?_
      refine lv_aload hx hb dL_acts_257 (lv_at hl 6 rfl) ?_
      refine lv_iconst (v := 0) hx hb dL_acts_259 (by decide) ?_
      refine w_top (v := nI 0) rfl ?_
      refine w_ildN hx hb hC hP (eW_L (show 3 < 4 by decide)) (show 0 < 3 from by omega) (by decide) (v := nI np) l1 dL_acts_260 ?_
      refine w_calli (va_runS (As := [.int (x >>> (5 &&& 31)), .int (nI np)]) (rest := []) ⟨hx, hb, hml, hown, hts⟩ (c_L_low l D B ad (eW D ad ((np, ns, nc), σ) ((np, ns, nc), σ) (lW D 4 μ)) (x >>> (5 &&& 31)) (nI np) (nI_ne0 (by omega) (by omega))) (va_cwS 2 hts gL_acts_L_low rfl rfl rfl (by decide +kernel) ⟨Nat.le_of_ble_eq_true rfl, Nat.le_of_ble_eq_true rfl⟩) (w_preS hC hP hS) rfl rfl hl.1 rfl (lv_room (Nat.le_of_ble_eq_true rfl)) dL_acts_261 ⟨Nat.le_of_ble_eq_true rfl, Nat.le_of_ble_eq_true rfl⟩) hS (fun r_2 ad1 w1 H locs hq hP hS => ?_)
      obtain ⟨h81, h82⟩ := hq
      cases h81
      subst h82
      obtain ⟨k, hk, ek⟩ := low_lt (x >>> (5 &&& 31)) (k := np) (by omega) (by omega)
      refine w_top (v := nI k) ek ?_
      refine lv_istore (lv' := [(9, .int (nI k)), (8, .int (nI i8)), (0, .ref (ad 4 0)), (1, .ref (ad 17 0)), (2, .ref (ad 26 0)), (3, .ref (ad 26 1)), (4, .ref (ad 26 2)), (5, .ref (ad 26 3)), (6, .int x), (7, .int y)]) hx hb dL_acts_264 hl (by decide) rfl (fun ls hl => ?_)
      refine lv_aload_n hx hb dL_acts_266 rfl (lv_at hl 4 rfl) ?_
      refine lv_bipush (v := (16)) hx hb dL_acts_267 (by decide) ?_
      refine lv_iload hx hb dL_acts_269 (lv_at hl 0 rfl) ?_
      refine lv_iadd hx hb dL_acts_271 ?_
      refine w_top (v := nI (16 + k)) (nI_add 16 k) ?_
      refine w_ildN hx hb hC hP (eW_L (show 0 < 4 by decide)) (show 16 + k < 32 from by omega) (by decide) (v := μ 0 0 (16 + k)) rfl dL_acts_272 ?_
      refine lv_if_ge (tgt := 280) hx hb dL_acts_273 (by decide) (fun c_273 => ?_) (fun c_273 => ?_)
      · have h1s : σ 1 k 0 = 1 := (pt_ge J hk c_273).1
        refine lv_iconst (v := 0) hx hb dL_acts_280 (by decide) ?_
        refine lv_istore (lv' := [(10, .int 0), (9, .int (nI k)), (8, .int (nI i8)), (0, .ref (ad 4 0)), (1, .ref (ad 17 0)), (2, .ref (ad 26 0)), (3, .ref (ad 26 1)), (4, .ref (ad 26 2)), (5, .ref (ad 26 3)), (6, .int x), (7, .int y)]) hx hb dL_acts_281 hl (by decide) rfl (fun ls hl => ?_)
        refine w_cut 363 0 0 (fun H locs ls => ∃ (v : Int32), (okV σ k v) ∧ hw D B ad (eW D ad ((np, ns, nc), σ) ((np, ns, nc), σ) (lW D 4 μ)) H ∧ va_S (ab B) s.heap H locs ∧ lv_has ls 20 [(11, .int v), (10, .int 0), (9, .int (nI k)), (8, .int (nI i8)), (0, .ref (ad 4 0)), (1, .ref (ad 17 0)), (2, .ref (ad 26 0)), (3, .ref (ad 26 1)), (4, .ref (ad 26 2)), (5, .ref (ad 26 3)), (6, .int x), (7, .int y)]) (fun H locs ls hJ => ?_) (fun Kx => ?_)
        · obtain ⟨v, hv, hP, hS, hl⟩ := hJ
          refine lv_iload hx hb dL_acts_363 (lv_at hl 3 rfl) ?_
          refine lv_bipush (v := (12)) hx hb dL_acts_365 (by decide) ?_
          refine lv_icmp_ge (tgt := 461) hx hb dL_acts_367 (by decide) (fun c_367 => ?_) (fun c_367 => ?_)
          · refine lv_iload hx hb dL_acts_461 (lv_at hl 3 rfl) ?_
            refine lv_bipush (v := (14)) hx hb dL_acts_463 (by decide) ?_
            refine lv_icmp_ge (tgt := 708) hx hb dL_acts_465 (by decide) (fun c_465 => ?_) (fun c_465 => ?_)
            · refine lv_iload hx hb dL_acts_708 (lv_at hl 3 rfl) ?_
              refine lv_bipush (v := (14)) hx hb dL_acts_710 (by decide) ?_
              refine lv_icmp_ne (tgt := 828) hx hb dL_acts_712 (by decide) (fun c_712 => ?_) (fun c_712 => ?_)
              · refine lv_iload hx hb dL_acts_828 (lv_at hl 3 rfl) ?_
                refine lv_bipush (v := (15)) hx hb dL_acts_830 (by decide) ?_
                refine lv_icmp_eq (tgt := 849) hx hb dL_acts_832 (by decide) (fun c_832 => ?_) (fun c_832 => ?_)
                · exact ac_sch A J hN ht hk hP hS (lv_sub hl [2, 4, 5, 6, 7, 8, 9, 10, 11] rfl) K
                · refine lv_iload hx hb dL_acts_835 (lv_at hl 3 rfl) ?_
                  refine lv_bipush (v := (20)) hx hb dL_acts_837 (by decide) ?_
                  refine lv_icmp_ge (tgt := 1099) hx hb dL_acts_839 (by decide) (fun c_839 => ?_) (fun c_839 => ?_)
                  · refine lv_iload hx hb dL_acts_1099 (lv_at hl 3 rfl) ?_
                    refine lv_bipush (v := (20)) hx hb dL_acts_1101 (by decide) ?_
                    refine lv_icmp_ge (tgt := 1548) hx hb dL_acts_1103 (by decide) (fun c_1103 => ?_) (fun c_1103 => ?_)
                    · exact ac_pass A J hN ht hP hS (lv_sub hl [4, 5, 6, 7, 8, 9, 10, 11] rfl) K
                    · exact absurd c_839 c_1103
                  · refine lv_aload hx hb dL_acts_842 (lv_at hl 9 rfl) ?_
                    refine lv_iconst (v := 2) hx hb dL_acts_844 (by decide) ?_
                    refine w_top (v := nI 2) rfl ?_
                    refine w_ildN hx hb hC hP (eW_L (show 3 < 4 by decide)) (show 2 < 3 from by omega) (by decide) (v := nI nc) l3 dL_acts_845 ?_
                    refine lv_if_ne (tgt := 1099) hx hb dL_acts_846 (by decide) (fun c_846 => ?_) (fun c_846 => ?_)
                    · have h0c : 0 < (np, ns, nc).2.2 := Nat.pos_of_ne_zero (fun z => c_846 (by rw [show nc = 0 from z]; rfl))
                      refine lv_iload hx hb dL_acts_1099 (lv_at hl 3 rfl) ?_
                      refine lv_bipush (v := (20)) hx hb dL_acts_1101 (by decide) ?_
                      refine lv_icmp_ge (tgt := 1548) hx hb dL_acts_1103 (by decide) (fun c_1103 => ?_) (fun c_1103 => ?_)
                      · exact ac_pass A J hN ht hP hS (lv_sub hl [4, 5, 6, 7, 8, 9, 10, 11] rfl) K
                      · exact ac_ent A J hN ht h0c hP hS (lv_sub hl [4, 5, 6, 7, 8, 9, 10, 11] rfl) K
                    · exact ac_sch A J hN ht hk hP hS (lv_sub hl [2, 4, 5, 6, 7, 8, 9, 10, 11] rfl) K
              · exact ac_end A J hN ht hP hS (lv_sub hl [4, 5, 6, 7, 8, 9, 10, 11] rfl) K
            · have h20 : ns ≤ 20 := hkd i8 ei8 ((nI_leI (a := 12) (b := i8) (by decide) (by omega)).mp c_367) (by have : ¬ 14 ≤ i8 := fun z => c_465 ((nI_leI (a := 14) (b := i8) (by decide) (by omega)).mpr z); omega)
              exact ac_sub A J hN ht hk h20 hP hS (lv_sub hl [2, 4, 5, 6, 7, 8, 9, 10, 11] rfl) K
          · exact ac_wr A J hN ht hk hv (Or.inr h1s) hP hS (lv_sub hl [0, 1, 2, 3, 4, 5, 6, 7, 8, 9, 10, 11] rfl) K
        · refine lv_iload hx hb dL_acts_283 (lv_at hl 10 rfl) ?_
          refine lv_iconst (v := 3) hx hb dL_acts_285 (by decide) ?_
          refine w_calli (va_runS (As := [.int y, .int 3]) (rest := []) ⟨hx, hb, hml, hown, hts⟩ (c_L_low l D B ad (eW D ad ((np, ns, nc), σ) ((np, ns, nc), σ) (lW D 4 μ)) y 3 (by decide)) (va_cwS 2 hts gL_acts_L_low rfl rfl rfl (by decide +kernel) ⟨Nat.le_of_ble_eq_true rfl, Nat.le_of_ble_eq_true rfl⟩) (w_preS hC hP hS) rfl rfl hl.1 rfl (lv_room (Nat.le_of_ble_eq_true rfl)) dL_acts_286 ⟨Nat.le_of_ble_eq_true rfl, Nat.le_of_ble_eq_true rfl⟩) hS (fun r_3 ad1 w1 H locs hq hP hS => ?_)
          obtain ⟨h81, h82⟩ := hq
          cases h81
          subst h82
          refine lv_if_ne (tgt := 297) hx hb dL_acts_289 (by decide) (fun c_289 => ?_) (fun c_289 => ?_)
          · refine lv_iload hx hb dL_acts_297 (lv_at hl 0 rfl) ?_
            refine lv_if_eq (tgt := 353) hx hb dL_acts_299 (by decide) (fun c_299 => ?_) (fun c_299 => ?_)
            · refine lv_iload hx hb dL_acts_353 (lv_at hl 10 rfl) ?_
              refine lv_iconst (v := 2) hx hb dL_acts_355 (by decide) ?_
              refine lv_ishr hx hb dL_acts_356 ?_
              refine lv_iconst (v := 2) hx hb dL_acts_357 (by decide) ?_
              refine w_calli (va_runS (As := [.int (y >>> (2 &&& 31)), .int 2]) (rest := []) ⟨hx, hb, hml, hown, hts⟩ (c_L_low l D B ad (eW D ad ((np, ns, nc), σ) ((np, ns, nc), σ) (lW D 4 μ)) (y >>> (2 &&& 31)) 2 (by decide)) (va_cwS 2 hts gL_acts_L_low rfl rfl rfl (by decide +kernel) ⟨Nat.le_of_ble_eq_true rfl, Nat.le_of_ble_eq_true rfl⟩) (w_preS hC hP hS) rfl rfl hl.1 rfl (lv_room (Nat.le_of_ble_eq_true rfl)) dL_acts_358 ⟨Nat.le_of_ble_eq_true rfl, Nat.le_of_ble_eq_true rfl⟩) hS (fun r_4 ad1 w1 H locs hq hP hS => ?_)
              obtain ⟨h81, h82⟩ := hq
              cases h81
              subst h82
              obtain ⟨j1, hj1, ej1⟩ := low_lt (y >>> (2 &&& 31)) (k := 2) (by omega) (by omega)
              refine w_top (v := nI j1) ej1 ?_
              refine lv_istore (lv' := [(11, .int (nI j1)), (10, .int 0), (9, .int (nI k)), (8, .int (nI i8)), (0, .ref (ad 4 0)), (1, .ref (ad 17 0)), (2, .ref (ad 26 0)), (3, .ref (ad 26 1)), (4, .ref (ad 26 2)), (5, .ref (ad 26 3)), (6, .int x), (7, .int y)]) hx hb dL_acts_361 hl (by decide) rfl (fun ls hl => ?_)
              exact Kx _ _ _ ⟨nI j1, ok_sw h1s (lo_sw hj1), hP, hS, lv_sub hl [0, 1, 2, 3, 4, 5, 6, 7, 8, 9, 10, 11] rfl⟩
            · exact absurd c_299 (by decide)
          · refine lv_ldc (v := (-100000)) hx hb hown (hts (.constant RL 107 (-100000)) (by decide +kernel)) dL_acts_292 ?_
            refine w_top (v := nth) rfl ?_
            refine lv_goto (tgt := 361) hx hb dL_acts_294 (by decide) ?_
            refine lv_istore (lv' := [(11, .int nth), (10, .int 0), (9, .int (nI k)), (8, .int (nI i8)), (0, .ref (ad 4 0)), (1, .ref (ad 17 0)), (2, .ref (ad 26 0)), (3, .ref (ad 26 1)), (4, .ref (ad 26 2)), (5, .ref (ad 26 3)), (6, .int x), (7, .int y)]) hx hb dL_acts_361 hl (by decide) rfl (fun ls hl => ?_)
            exact Kx _ _ _ ⟨nth, Or.inl rfl, hP, hS, lv_sub hl [0, 1, 2, 3, 4, 5, 6, 7, 8, 9, 10, 11] rfl⟩
      · have h1m : σ 1 k 0 = 0 := pt_lt J hk c_273
        refine lv_iconst (v := 1) hx hb dL_acts_276 (by decide) ?_
        refine lv_goto (tgt := 281) hx hb dL_acts_277 (by decide) ?_
        refine lv_istore (lv' := [(10, .int 1), (9, .int (nI k)), (8, .int (nI i8)), (0, .ref (ad 4 0)), (1, .ref (ad 17 0)), (2, .ref (ad 26 0)), (3, .ref (ad 26 1)), (4, .ref (ad 26 2)), (5, .ref (ad 26 3)), (6, .int x), (7, .int y)]) hx hb dL_acts_281 hl (by decide) rfl (fun ls hl => ?_)
        refine w_cut 363 0 0 (fun H locs ls => ∃ (v : Int32), (okV σ k v) ∧ hw D B ad (eW D ad ((np, ns, nc), σ) ((np, ns, nc), σ) (lW D 4 μ)) H ∧ va_S (ab B) s.heap H locs ∧ lv_has ls 20 [(11, .int v), (10, .int 1), (9, .int (nI k)), (8, .int (nI i8)), (0, .ref (ad 4 0)), (1, .ref (ad 17 0)), (2, .ref (ad 26 0)), (3, .ref (ad 26 1)), (4, .ref (ad 26 2)), (5, .ref (ad 26 3)), (6, .int x), (7, .int y)]) (fun H locs ls hJ => ?_) (fun Kx => ?_)
        · obtain ⟨v, hv, hP, hS, hl⟩ := hJ
          refine lv_iload hx hb dL_acts_363 (lv_at hl 3 rfl) ?_
          refine lv_bipush (v := (12)) hx hb dL_acts_365 (by decide) ?_
          refine lv_icmp_ge (tgt := 461) hx hb dL_acts_367 (by decide) (fun c_367 => ?_) (fun c_367 => ?_)
          · refine lv_iload hx hb dL_acts_461 (lv_at hl 3 rfl) ?_
            refine lv_bipush (v := (14)) hx hb dL_acts_463 (by decide) ?_
            refine lv_icmp_ge (tgt := 708) hx hb dL_acts_465 (by decide) (fun c_465 => ?_) (fun c_465 => ?_)
            · refine lv_iload hx hb dL_acts_708 (lv_at hl 3 rfl) ?_
              refine lv_bipush (v := (14)) hx hb dL_acts_710 (by decide) ?_
              refine lv_icmp_ne (tgt := 828) hx hb dL_acts_712 (by decide) (fun c_712 => ?_) (fun c_712 => ?_)
              · refine lv_iload hx hb dL_acts_828 (lv_at hl 3 rfl) ?_
                refine lv_bipush (v := (15)) hx hb dL_acts_830 (by decide) ?_
                refine lv_icmp_eq (tgt := 849) hx hb dL_acts_832 (by decide) (fun c_832 => ?_) (fun c_832 => ?_)
                · exact ac_sch A J hN ht hk hP hS (lv_sub hl [2, 4, 5, 6, 7, 8, 9, 10, 11] rfl) K
                · refine lv_iload hx hb dL_acts_835 (lv_at hl 3 rfl) ?_
                  refine lv_bipush (v := (20)) hx hb dL_acts_837 (by decide) ?_
                  refine lv_icmp_ge (tgt := 1099) hx hb dL_acts_839 (by decide) (fun c_839 => ?_) (fun c_839 => ?_)
                  · refine lv_iload hx hb dL_acts_1099 (lv_at hl 3 rfl) ?_
                    refine lv_bipush (v := (20)) hx hb dL_acts_1101 (by decide) ?_
                    refine lv_icmp_ge (tgt := 1548) hx hb dL_acts_1103 (by decide) (fun c_1103 => ?_) (fun c_1103 => ?_)
                    · exact ac_pass A J hN ht hP hS (lv_sub hl [4, 5, 6, 7, 8, 9, 10, 11] rfl) K
                    · exact absurd c_839 c_1103
                  · refine lv_aload hx hb dL_acts_842 (lv_at hl 9 rfl) ?_
                    refine lv_iconst (v := 2) hx hb dL_acts_844 (by decide) ?_
                    refine w_top (v := nI 2) rfl ?_
                    refine w_ildN hx hb hC hP (eW_L (show 3 < 4 by decide)) (show 2 < 3 from by omega) (by decide) (v := nI nc) l3 dL_acts_845 ?_
                    refine lv_if_ne (tgt := 1099) hx hb dL_acts_846 (by decide) (fun c_846 => ?_) (fun c_846 => ?_)
                    · have h0c : 0 < (np, ns, nc).2.2 := Nat.pos_of_ne_zero (fun z => c_846 (by rw [show nc = 0 from z]; rfl))
                      refine lv_iload hx hb dL_acts_1099 (lv_at hl 3 rfl) ?_
                      refine lv_bipush (v := (20)) hx hb dL_acts_1101 (by decide) ?_
                      refine lv_icmp_ge (tgt := 1548) hx hb dL_acts_1103 (by decide) (fun c_1103 => ?_) (fun c_1103 => ?_)
                      · exact ac_pass A J hN ht hP hS (lv_sub hl [4, 5, 6, 7, 8, 9, 10, 11] rfl) K
                      · exact ac_ent A J hN ht h0c hP hS (lv_sub hl [4, 5, 6, 7, 8, 9, 10, 11] rfl) K
                    · exact ac_sch A J hN ht hk hP hS (lv_sub hl [2, 4, 5, 6, 7, 8, 9, 10, 11] rfl) K
              · exact ac_end A J hN ht hP hS (lv_sub hl [4, 5, 6, 7, 8, 9, 10, 11] rfl) K
            · have h20 : ns ≤ 20 := hkd i8 ei8 ((nI_leI (a := 12) (b := i8) (by decide) (by omega)).mp c_367) (by have : ¬ 14 ≤ i8 := fun z => c_465 ((nI_leI (a := 14) (b := i8) (by decide) (by omega)).mpr z); omega)
              exact ac_sub A J hN ht hk h20 hP hS (lv_sub hl [2, 4, 5, 6, 7, 8, 9, 10, 11] rfl) K
          · exact ac_wr A J hN ht hk hv (Or.inl (by decide)) hP hS (lv_sub hl [0, 1, 2, 3, 4, 5, 6, 7, 8, 9, 10, 11] rfl) K
        · refine lv_iload hx hb dL_acts_283 (lv_at hl 10 rfl) ?_
          refine lv_iconst (v := 3) hx hb dL_acts_285 (by decide) ?_
          refine w_calli (va_runS (As := [.int y, .int 3]) (rest := []) ⟨hx, hb, hml, hown, hts⟩ (c_L_low l D B ad (eW D ad ((np, ns, nc), σ) ((np, ns, nc), σ) (lW D 4 μ)) y 3 (by decide)) (va_cwS 2 hts gL_acts_L_low rfl rfl rfl (by decide +kernel) ⟨Nat.le_of_ble_eq_true rfl, Nat.le_of_ble_eq_true rfl⟩) (w_preS hC hP hS) rfl rfl hl.1 rfl (lv_room (Nat.le_of_ble_eq_true rfl)) dL_acts_286 ⟨Nat.le_of_ble_eq_true rfl, Nat.le_of_ble_eq_true rfl⟩) hS (fun r_5 ad1 w1 H locs hq hP hS => ?_)
          obtain ⟨h81, h82⟩ := hq
          cases h81
          subst h82
          refine lv_if_ne (tgt := 297) hx hb dL_acts_289 (by decide) (fun c_289 => ?_) (fun c_289 => ?_)
          · refine lv_iload hx hb dL_acts_297 (lv_at hl 0 rfl) ?_
            refine lv_if_eq (tgt := 353) hx hb dL_acts_299 (by decide) (fun c_299 => ?_) (fun c_299 => ?_)
            · exact absurd c_299 (by decide)
            · refine lv_iload hx hb dL_acts_302 (lv_at hl 10 rfl) ?_
              refine lv_iconst (v := 2) hx hb dL_acts_304 (by decide) ?_
              refine lv_ishr hx hb dL_acts_305 ?_
              refine lv_iload hx hb dL_acts_306 (lv_at hl 9 rfl) ?_
              refine lv_bipush (v := (9)) hx hb dL_acts_308 (by decide) ?_
              refine lv_ishr hx hb dL_acts_310 ?_
              refine lv_iconst (v := 3) hx hb dL_acts_311 (by decide) ?_
              refine w_calli (va_runS (As := [.int (x >>> (9 &&& 31)), .int 3]) (rest := [.int (y >>> (2 &&& 31))]) ⟨hx, hb, hml, hown, hts⟩ (c_L_low l D B ad (eW D ad ((np, ns, nc), σ) ((np, ns, nc), σ) (lW D 4 μ)) (x >>> (9 &&& 31)) 3 (by decide)) (va_cwS 2 hts gL_acts_L_low rfl rfl rfl (by decide +kernel) ⟨Nat.le_of_ble_eq_true rfl, Nat.le_of_ble_eq_true rfl⟩) (w_preS hC hP hS) rfl rfl hl.1 rfl (lv_room (Nat.le_of_ble_eq_true rfl)) dL_acts_312 ⟨Nat.le_of_ble_eq_true rfl, Nat.le_of_ble_eq_true rfl⟩) hS (fun r_6 ad1 w1 H locs hq hP hS => ?_)
              obtain ⟨h81, h82⟩ := hq
              cases h81
              subst h82
              refine lv_if_ne (tgt := 324) hx hb dL_acts_315 (by decide) (fun c_315 => ?_) (fun c_315 => ?_)
              · refine lv_bipush (v := (41)) hx hb dL_acts_324 (by decide) ?_
                refine w_calli (va_runS (As := [.int (y >>> (2 &&& 31)), .int 41]) (rest := []) ⟨hx, hb, hml, hown, hts⟩ (c_L_low l D B ad (eW D ad ((np, ns, nc), σ) ((np, ns, nc), σ) (lW D 4 μ)) (y >>> (2 &&& 31)) 41 (by decide)) (va_cwS 2 hts gL_acts_L_low rfl rfl rfl (by decide +kernel) ⟨Nat.le_of_ble_eq_true rfl, Nat.le_of_ble_eq_true rfl⟩) (w_preS hC hP hS) rfl rfl hl.1 rfl (lv_room (Nat.le_of_ble_eq_true rfl)) dL_acts_326 ⟨Nat.le_of_ble_eq_true rfl, Nat.le_of_ble_eq_true rfl⟩) hS (fun r_7 ad1 w1 H locs hq hP hS => ?_)
                obtain ⟨h81, h82⟩ := hq
                cases h81
                subst h82
                obtain ⟨j1, hj1, ej1⟩ := low_lt (y >>> (2 &&& 31)) (k := 41) (by omega) (by omega)
                refine w_top (v := nI j1) ej1 ?_
                refine lv_iload hx hb dL_acts_329 (lv_at hl 9 rfl) ?_
                refine lv_bipush (v := (9)) hx hb dL_acts_331 (by decide) ?_
                refine lv_ishr hx hb dL_acts_333 ?_
                refine lv_iconst (v := 3) hx hb dL_acts_334 (by decide) ?_
                refine w_calli (va_runS (As := [.int (x >>> (9 &&& 31)), .int 3]) (rest := [.int (nI j1)]) ⟨hx, hb, hml, hown, hts⟩ (c_L_low l D B ad (eW D ad ((np, ns, nc), σ) ((np, ns, nc), σ) (lW D 4 μ)) (x >>> (9 &&& 31)) 3 (by decide)) (va_cwS 2 hts gL_acts_L_low rfl rfl rfl (by decide +kernel) ⟨Nat.le_of_ble_eq_true rfl, Nat.le_of_ble_eq_true rfl⟩) (w_preS hC hP hS) rfl rfl hl.1 rfl (lv_room (Nat.le_of_ble_eq_true rfl)) dL_acts_335 ⟨Nat.le_of_ble_eq_true rfl, Nat.le_of_ble_eq_true rfl⟩) hS (fun r_8 ad1 w1 H locs hq hP hS => ?_)
                obtain ⟨h81, h82⟩ := hq
                cases h81
                subst h82
                refine lv_if_ne (tgt := 347) hx hb dL_acts_338 (by decide) (fun c_338 => ?_) (fun c_338 => ?_)
                · refine lv_bipush (v := (20)) hx hb dL_acts_347 (by decide) ?_
                  refine lv_isub hx hb dL_acts_349 ?_
                  refine lv_goto (tgt := 361) hx hb dL_acts_350 (by decide) ?_
                  refine lv_istore (lv' := [(11, .int ((nI j1) - 20)), (10, .int 1), (9, .int (nI k)), (8, .int (nI i8)), (0, .ref (ad 4 0)), (1, .ref (ad 17 0)), (2, .ref (ad 26 0)), (3, .ref (ad 26 1)), (4, .ref (ad 26 2)), (5, .ref (ad 26 3)), (6, .int x), (7, .int y)]) hx hb dL_acts_361 hl (by decide) rfl (fun ls hl => ?_)
                  exact Kx _ _ _ ⟨(nI j1) - 20, ok_me h1m (lo_20 hj1), hP, hS, lv_sub hl [0, 1, 2, 3, 4, 5, 6, 7, 8, 9, 10, 11] rfl⟩
                · exact absurd c_338 c_315
              · refine lv_sipush (v := (2001)) hx hb dL_acts_318 (by decide) ?_
                refine lv_goto (tgt := 326) hx hb dL_acts_321 (by decide) ?_
                refine w_calli (va_runS (As := [.int (y >>> (2 &&& 31)), .int 2001]) (rest := []) ⟨hx, hb, hml, hown, hts⟩ (c_L_low l D B ad (eW D ad ((np, ns, nc), σ) ((np, ns, nc), σ) (lW D 4 μ)) (y >>> (2 &&& 31)) 2001 (by decide)) (va_cwS 2 hts gL_acts_L_low rfl rfl rfl (by decide +kernel) ⟨Nat.le_of_ble_eq_true rfl, Nat.le_of_ble_eq_true rfl⟩) (w_preS hC hP hS) rfl rfl hl.1 rfl (lv_room (Nat.le_of_ble_eq_true rfl)) dL_acts_326 ⟨Nat.le_of_ble_eq_true rfl, Nat.le_of_ble_eq_true rfl⟩) hS (fun r_9 ad1 w1 H locs hq hP hS => ?_)
                obtain ⟨h81, h82⟩ := hq
                cases h81
                subst h82
                obtain ⟨j1, hj1, ej1⟩ := low_lt (y >>> (2 &&& 31)) (k := 2001) (by omega) (by omega)
                refine w_top (v := nI j1) ej1 ?_
                refine lv_iload hx hb dL_acts_329 (lv_at hl 9 rfl) ?_
                refine lv_bipush (v := (9)) hx hb dL_acts_331 (by decide) ?_
                refine lv_ishr hx hb dL_acts_333 ?_
                refine lv_iconst (v := 3) hx hb dL_acts_334 (by decide) ?_
                refine w_calli (va_runS (As := [.int (x >>> (9 &&& 31)), .int 3]) (rest := [.int (nI j1)]) ⟨hx, hb, hml, hown, hts⟩ (c_L_low l D B ad (eW D ad ((np, ns, nc), σ) ((np, ns, nc), σ) (lW D 4 μ)) (x >>> (9 &&& 31)) 3 (by decide)) (va_cwS 2 hts gL_acts_L_low rfl rfl rfl (by decide +kernel) ⟨Nat.le_of_ble_eq_true rfl, Nat.le_of_ble_eq_true rfl⟩) (w_preS hC hP hS) rfl rfl hl.1 rfl (lv_room (Nat.le_of_ble_eq_true rfl)) dL_acts_335 ⟨Nat.le_of_ble_eq_true rfl, Nat.le_of_ble_eq_true rfl⟩) hS (fun r_10 ad1 w1 H locs hq hP hS => ?_)
                obtain ⟨h81, h82⟩ := hq
                cases h81
                subst h82
                refine lv_if_ne (tgt := 347) hx hb dL_acts_338 (by decide) (fun c_338 => ?_) (fun c_338 => ?_)
                · exact absurd c_315 c_338
                · refine lv_sipush (v := (1000)) hx hb dL_acts_341 (by decide) ?_
                  refine lv_goto (tgt := 349) hx hb dL_acts_344 (by decide) ?_
                  refine lv_isub hx hb dL_acts_349 ?_
                  refine lv_goto (tgt := 361) hx hb dL_acts_350 (by decide) ?_
                  refine lv_istore (lv' := [(11, .int ((nI j1) - 1000)), (10, .int 1), (9, .int (nI k)), (8, .int (nI i8)), (0, .ref (ad 4 0)), (1, .ref (ad 17 0)), (2, .ref (ad 26 0)), (3, .ref (ad 26 1)), (4, .ref (ad 26 2)), (5, .ref (ad 26 3)), (6, .int x), (7, .int y)]) hx hb dL_acts_361 hl (by decide) rfl (fun ls hl => ?_)
                  exact Kx _ _ _ ⟨(nI j1) - 1000, ok_me h1m (lo_me hj1), hP, hS, lv_sub hl [0, 1, 2, 3, 4, 5, 6, 7, 8, 9, 10, 11] rfl⟩
          · refine lv_ldc (v := (-100000)) hx hb hown (hts (.constant RL 107 (-100000)) (by decide +kernel)) dL_acts_292 ?_
            refine w_top (v := nth) rfl ?_
            refine lv_goto (tgt := 361) hx hb dL_acts_294 (by decide) ?_
            refine lv_istore (lv' := [(11, .int nth), (10, .int 1), (9, .int (nI k)), (8, .int (nI i8)), (0, .ref (ad 4 0)), (1, .ref (ad 17 0)), (2, .ref (ad 26 0)), (3, .ref (ad 26 1)), (4, .ref (ad 26 2)), (5, .ref (ad 26 3)), (6, .int x), (7, .int y)]) hx hb dL_acts_361 hl (by decide) rfl (fun ls hl => ?_)
            exact Kx _ _ _ ⟨nth, Or.inl rfl, hP, hS, lv_sub hl [0, 1, 2, 3, 4, 5, 6, 7, 8, 9, 10, 11] rfl⟩
    · exact ac_add A J hN ht hP hS (lv_sub hl [1, 2, 3, 4, 5, 6, 7, 8] rfl) K
