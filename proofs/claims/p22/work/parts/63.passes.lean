/-! p22: the law's minutes -/
set_option maxHeartbeats 4000000 in
set_option maxRecDepth 100000 in
theorem c_L_passes (l : Launch) (hns : l.stackTraces = false) (D : va_G) (B : Nat) (ad : Ad) (g : GC) (σ μ : Me) (t N : Nat) (J : Jt t N g σ μ) (pm : Nat) (h1 : 1 ≤ pm) (h2 : pm ≤ 200) (ht : t + pm ≤ 900000) (hN : N + 20 * pm < 900000) : Met l yL_passes wsL_passes ({ frames := 9, cells := 6, slots := 56, locals := 205 }) (Pre D B ad (eW D ad (g, σ) (g, σ) (lW D 4 μ)) [.ref (ad 4 0), .ref (ad 17 0), .ref (ad 26 0), .ref (ad 26 3), .int (nI pm)]) (Qi D B (fun r u => r = 1 ∧ ∃ ad9 : Ad, u = (ad9, eW D ad9 (g, pasF g pm σ) (g, pasF g pm σ) (lW D 4 μ)) ∧ ∀ f k, ¬ (f = 26 ∧ 4 ≤ k) → ad9 f k = ad f k)) 6 56 (ab B) := by
  refine Met.ofW (cc := cL_passes) (maxL := 14) (ret := (some .boolean)) (by decide) rfl ?_
  intro p e s m args below meth c s₁ Bd hml hv
  obtain ⟨rfl, hC, hP⟩ := hv
  have hx := Bd.exec
  have hb := Bd.bytes
  have hr := Bd.returns
  have hts := atoms_spec (ws := wsL_passes) Bd.pre
  have hown : s.vm.findClass RL = some m.cls := findClass_of_methodNamed Bd.named
  have hlocks := Bd.notSynchronized
  have hS : va_S (ab B) s.heap s.heap [] := va_S.rf
  have hl := lv_entry ([.ref (ad 4 0), .ref (ad 17 0), .ref (ad 26 0), .ref (ad 26 3), .int (nI pm)]) (n := 14) (Nat.le_of_ble_eq_true rfl)
  rw [lg_entry_eq]
  generalize (lg_sl ([.ref (ad 4 0), .ref (ad 17 0), .ref (ad 26 0), .ref (ad 26 3), .int (nI pm)]) ++ List.replicate (14 - (lg_sl ([.ref (ad 4 0), .ref (ad 17 0), .ref (ad 26 0), .ref (ad 26 3), .int (nI pm)])).length) Slot.unset).toArray = ls at hl ⊢
  have hl : lv_has ls 14 [(0, .ref (ad 4 0)), (1, .ref (ad 17 0)), (2, .ref (ad 26 0)), (3, .ref (ad 26 3)), (4, .int (nI pm))] := hl
  have hI := Jt_I J
  have g16 := hI.1
  have g30 := hI.2.1
  have g4 := hI.2.2.1
  obtain ⟨l1, l2, l3, -⟩ := J.2.2.2.2.2.1
  refine lv_bipush (v := (16)) hx hb dL_passes_0 (by decide) ?_
  have hP := hw_eq hP (eW_mu (m' := rowF (rowF μ 4 0 (fun _ => 0)) 5 0 (fun _ => 0)) (mz_a μ))
  refine w_newa (atype := .int) hx hb (hts (.arrayClass .int) (by decide +kernel)) 0 rfl (fun C z => by cases z) hC hP hS (N' := 16) (a0 := (16, .inl (fun _ => 0))) (fun _ => vp_cell_i _ _ _) (by decide) (by decide) (show 16 * 4 ≤ 536870912 by decide) (Nat.le_of_ble_eq_true rfl) (Nat.le_of_ble_eq_true rfl) 26 4 (eW_N (by decide)) dL_passes_2 (fun q4 H hq4 hP hS => ?_)
  have hP := hw_eq hP (eW_new (q := q4) (by rw [rowF_n (by decide), rowF_s]))
  refine lv_astore (lv' := [(5, .ref q4), (0, .ref (ad 4 0)), (1, .ref (ad 17 0)), (2, .ref (ad 26 0)), (3, .ref (ad 26 3)), (4, .int (nI pm))]) hx hb dL_passes_4 hl (by decide) rfl (fun ls hl => ?_)
  refine lv_bipush (v := (16)) hx hb dL_passes_6 (by decide) ?_
  refine w_newa (atype := .int) hx hb (hts (.arrayClass .int) (by decide +kernel)) 0 rfl (fun C z => by cases z) hC hP hS (N' := 16) (a0 := (16, .inl (fun _ => 0))) (fun _ => vp_cell_i _ _ _) (by decide) (by decide) (show 16 * 4 ≤ 536870912 by decide) (Nat.le_of_ble_eq_true rfl) (Nat.le_of_ble_eq_true rfl) 26 5 (eW_N (by decide)) dL_passes_8 (fun q5 H hq5 hP hS => ?_)
  have hP := hw_eq hP (eW_new (q := q5) (by rw [rowF_s]))
  refine lv_astore (lv' := [(6, .ref q5), (5, .ref q4), (0, .ref (ad 4 0)), (1, .ref (ad 17 0)), (2, .ref (ad 26 0)), (3, .ref (ad 26 3)), (4, .int (nI pm))]) hx hb dL_passes_10 hl (by decide) rfl (fun ls hl => ?_)
  have k1 : ∀ f k, ¬ (f = 26 ∧ 4 ≤ k) → a2 (a2 ad 26 4 q4) 26 5 q5 f k = ad f k := fun f k z => (a2_o (by omega)).trans (a2_o (by omega))
  have e4 : a2 (a2 ad 26 4 q4) 26 5 q5 26 4 = q4 := (a2_o (by omega)).trans a2_s
  have e5 : a2 (a2 ad 26 4 q4) 26 5 q5 26 5 = q5 := a2_s
  generalize a2 (a2 ad 26 4 q4) 26 5 q5 = ad9 at hP k1 e4 e5
  have hl : lv_has ls 14 [(6, .ref (ad9 26 5)), (5, .ref (ad9 26 4)), (0, .ref (ad9 4 0)), (1, .ref (ad9 17 0)), (2, .ref (ad9 26 0)), (3, .ref (ad9 26 3)), (4, .int (nI pm))] := by rw [k1 4 0 (by omega), k1 17 0 (by omega), k1 26 0 (by omega), k1 26 3 (by omega), e4, e5]; exact hl
  have hm0 := mz_a μ
  refine lv_iconst (v := 0) hx hb dL_passes_12 (by decide) ?_
  refine w_top (v := (pasF g 0 σ) 26 0 0 - σ 26 0 0) (Int32.sub_self _).symm ?_
  refine lv_istore (lv' := [(7, .int ((pasF g 0 σ) 26 0 0 - σ 26 0 0)), (6, .ref (ad9 26 5)), (5, .ref (ad9 26 4)), (0, .ref (ad9 4 0)), (1, .ref (ad9 17 0)), (2, .ref (ad9 26 0)), (3, .ref (ad9 26 3)), (4, .int (nI pm))]) hx hb dL_passes_13 hl (by decide) rfl (fun ls hl => ?_)
  refine lv_iconst (v := 1) hx hb dL_passes_15 (by decide) ?_
  refine lv_istore (lv' := [(8, .int 1), (7, .int ((pasF g 0 σ) 26 0 0 - σ 26 0 0)), (6, .ref (ad9 26 5)), (5, .ref (ad9 26 4)), (0, .ref (ad9 4 0)), (1, .ref (ad9 17 0)), (2, .ref (ad9 26 0)), (3, .ref (ad9 26 3)), (4, .int (nI pm))]) hx hb dL_passes_16 hl (by decide) rfl (fun ls hl => ?_)
  refine lv_iconst (v := 0) hx hb dL_passes_18 (by decide) ?_
  refine lv_istore (lv' := [(9, .int 0), (8, .int 1), (7, .int ((pasF g 0 σ) 26 0 0 - σ 26 0 0)), (6, .ref (ad9 26 5)), (5, .ref (ad9 26 4)), (0, .ref (ad9 4 0)), (1, .ref (ad9 17 0)), (2, .ref (ad9 26 0)), (3, .ref (ad9 26 3)), (4, .int (nI pm))]) hx hb dL_passes_19 hl (by decide) rfl (fun ls hl => ?_)
  refine w_ind (fun na H locs ls => ∃ (i : Nat) (μ1 : Me), (i + na = pm) ∧ (∀ k, k < 4 → μ1 k 0 = μ k 0) ∧ hw D B ad9 (eW D ad9 (g, σ) (g, pasF g i σ) (lW D 6 μ1)) H ∧ va_S (ab B) s.heap H locs ∧ lv_has ls 14 [(9, .int (nI i)), (8, .int 1), (7, .int ((pasF g i σ) 26 0 0 - σ 26 0 0)), (0, .ref (ad9 4 0)), (1, .ref (ad9 17 0)), (2, .ref (ad9 26 0)), (3, .ref (ad9 26 3)), (4, .int (nI pm)), (5, .ref (ad9 26 4)), (6, .ref (ad9 26 5))]) ?_ pm _ _ _ ⟨0, rowF (rowF μ 4 0 (fun _ => 0)) 5 0 (fun _ => 0), by omega, hm0, hP, hS, lv_sub hl [0, 1, 2, 5, 6, 7, 8, 9, 4, 3] rfl⟩
  intro na H locs ls hJa iha
  obtain ⟨i, μ1, hia, hm1, hP, hS, hl⟩ := hJa
  have J1 := Jt_pas i t N σ J (by omega) (by omega)
  have hIt := Jt_I J1
  refine lv_iload hx hb dL_passes_21 (lv_at hl 0 rfl) ?_
  refine lv_iload hx hb dL_passes_23 (lv_at hl 7 rfl) ?_
  refine lv_icmp_ge (tgt := 275) hx hb dL_passes_25 (by decide) (fun c_25 => ?_) (fun c_25 => ?_)
  · have hip : pm ≤ i := Nat.not_lt.mp (fun z => absurd c_25 (nI_ge z (by omega)))
    obtain rfl : pm = i := by omega
    refine lv_iload hx hb dL_passes_275 (lv_at hl 1 rfl) ?_
    refine lv_if_eq (tgt := 317) hx hb dL_passes_277 (by decide) (fun c_277 => ?_) (fun c_277 => ?_)
    · exact absurd c_277 (by decide)
    · have J9 := Jt_pas pm t N σ J (by omega) (by omega)
      refine lv_aload_n hx hb dL_passes_280 rfl (lv_at hl 3 rfl) ?_
      refine lv_iload hx hb dL_passes_281 (lv_at hl 7 rfl) ?_
      refine w_calli (vx_runSW (As := [.ref (ad9 4 0), .int (nI pm)]) (rest := []) ⟨hx, hb, hml, hown, hts⟩ (c0_L_pass l hns D B ad9 g σ (tW D ad9 (g, pasF g pm σ) (lW D 6 μ1)) 0 hI t J.1 pm h1 (by omega) (by omega)) (vx_cwSW 2 hts gL_passes_L_pass rfl rfl rfl (by decide +kernel) ⟨Nat.le_of_ble_eq_true rfl, Nat.le_of_ble_eq_true rfl⟩) (w_preS hC hP hS) rfl rfl hl.1 rfl (lv_room (Nat.le_of_ble_eq_true rfl)) dL_passes_283 ⟨Nat.le_of_ble_eq_true rfl, Nat.le_of_ble_eq_true rfl⟩) hS (fun r_1 ad1 w1 H locs hq hP hS => ?_)
      obtain ⟨S2, h81, h82, h83⟩ := hq
      cases h82
      cases h81
      subst h83
      refine lv_iload hx hb dL_passes_286 (lv_at hl 2 rfl) ?_
      refine lv_icmp_ne (tgt := 317) hx hb dL_passes_288 (by decide) (fun c_288 => ?_) (fun c_288 => ?_)
      · exact absurd rfl c_288
      · refine lv_aload_n hx hb dL_passes_291 rfl (lv_at hl 3 rfl) ?_
        refine lv_iconst (v := 0) hx hb dL_passes_292 (by decide) ?_
        refine w_calli (vx_runSW (As := [.ref (ad9 4 0), .int 0]) (rest := []) ⟨hx, hb, hml, hown, hts⟩ (c_L_pass l hns D B ad9 g (pasF g pm σ) (tW D ad9 (g, pasF g pm σ) (lW D 6 μ1)) 0 (Jt_I J9) (t + pm) J9.1 0) (vx_cwSW 2 hts gL_passes_L_pass rfl rfl rfl (by decide +kernel) ⟨Nat.le_of_ble_eq_true rfl, Nat.le_of_ble_eq_true rfl⟩) (w_preS hC hP hS) rfl rfl hl.1 rfl (lv_room (Nat.le_of_ble_eq_true rfl)) dL_passes_293 ⟨Nat.le_of_ble_eq_true rfl, Nat.le_of_ble_eq_true rfl⟩) hS (fun r_2 ad1 w1 H locs hq hP hS => ?_)
        obtain ⟨S2, h81, -, h83⟩ := hq
        obtain ⟨h84, h85⟩ := h83 (pa_bad (σ := pasF g pm σ) (x := 0) (fun z => absurd z.1 (by decide))).1
        cases h84
        cases h81
        subst h85
        refine w_top (v := (-1000002)) (pa_bad (σ := pasF g pm σ) (x := 0) (fun z => absurd z.1 (by decide))).2 ?_
        refine lv_ldc (v := (-1000002)) hx hb hown (hts (.constant RL 18 (-1000002)) (by decide +kernel)) dL_passes_296 ?_
        refine lv_icmp_ne (tgt := 317) hx hb dL_passes_298 (by decide) (fun c_298 => ?_) (fun c_298 => ?_)
        · exact absurd rfl c_298
        · refine lv_aload_n hx hb dL_passes_301 rfl (lv_at hl 3 rfl) ?_
          refine lv_sipush (v := (5001)) hx hb dL_passes_302 (by decide) ?_
          refine w_calli (vx_runSW (As := [.ref (ad9 4 0), .int 5001]) (rest := []) ⟨hx, hb, hml, hown, hts⟩ (c_L_pass l hns D B ad9 g (pasF g pm σ) (tW D ad9 (g, pasF g pm σ) (lW D 6 μ1)) 0 (Jt_I J9) (t + pm) J9.1 5001) (vx_cwSW 2 hts gL_passes_L_pass rfl rfl rfl (by decide +kernel) ⟨Nat.le_of_ble_eq_true rfl, Nat.le_of_ble_eq_true rfl⟩) (w_preS hC hP hS) rfl rfl hl.1 rfl (lv_room (Nat.le_of_ble_eq_true rfl)) dL_passes_305 ⟨Nat.le_of_ble_eq_true rfl, Nat.le_of_ble_eq_true rfl⟩) hS (fun r_3 ad1 w1 H locs hq hP hS => ?_)
          obtain ⟨S2, h81, -, h83⟩ := hq
          obtain ⟨h84, h85⟩ := h83 (pa_bad (σ := pasF g pm σ) (x := 5001) (fun z => absurd z.2 (by decide))).1
          cases h84
          cases h81
          subst h85
          refine w_top (v := (-1000002)) (pa_bad (σ := pasF g pm σ) (x := 5001) (fun z => absurd z.2 (by decide))).2 ?_
          refine lv_ldc (v := (-1000002)) hx hb hown (hts (.constant RL 18 (-1000002)) (by decide +kernel)) dL_passes_308 ?_
          refine lv_icmp_ne (tgt := 317) hx hb dL_passes_310 (by decide) (fun c_310 => ?_) (fun c_310 => ?_)
          · exact absurd rfl c_310
          · have hP := hw_eq (hw_less (n' := 4) hP (by decide)) (eW_mu (m' := μ) (fun k hk => (hm1 k hk).symm))
            refine lv_iconst (v := 1) hx hb dL_passes_313 (by decide) ?_
            refine lv_goto (tgt := 318) hx hb dL_passes_314 (by decide) ?_
            exact W.zret (v := 1) hx hb hr rfl (fun t ht hW => Qi_of ⟨rfl, ad9, rfl, k1⟩ hP hS ht) hS.2.2 dL_passes_318
  · have hip : i < pm := Nat.not_le.mp (fun z => c_25 (nI_le z (by omega)))
    obtain ⟨n8, rfl⟩ : ∃ n8, na = n8 + 1 := ⟨na - 1, by omega⟩
    refine lv_iload hx hb dL_passes_28 (lv_at hl 1 rfl) ?_
    refine lv_if_eq (tgt := 275) hx hb dL_passes_30 (by decide) (fun c_30 => ?_) (fun c_30 => ?_)
    · exact absurd c_30 (by decide)
    · refine lv_iconst (v := 0) hx hb dL_passes_33 (by decide) ?_
      refine w_top (v := 0 - smF (fun s9 => (pasF g i σ) 12 s9 0) 0) (Int32.sub_self 0).symm ?_
      refine lv_istore (lv' := [(10, .int (0 - smF (fun s9 => (pasF g i σ) 12 s9 0) 0)), (9, .int (nI i)), (8, .int 1), (7, .int ((pasF g i σ) 26 0 0 - σ 26 0 0)), (0, .ref (ad9 4 0)), (1, .ref (ad9 17 0)), (2, .ref (ad9 26 0)), (3, .ref (ad9 26 3)), (4, .int (nI pm)), (5, .ref (ad9 26 4)), (6, .ref (ad9 26 5))]) hx hb dL_passes_34 hl (by decide) rfl (fun ls hl => ?_)
      refine lv_iconst (v := 0) hx hb dL_passes_36 (by decide) ?_
      refine lv_istore (lv' := [(11, .int 0), (10, .int (0 - smF (fun s9 => (pasF g i σ) 12 s9 0) 0)), (9, .int (nI i)), (8, .int 1), (7, .int ((pasF g i σ) 26 0 0 - σ 26 0 0)), (0, .ref (ad9 4 0)), (1, .ref (ad9 17 0)), (2, .ref (ad9 26 0)), (3, .ref (ad9 26 3)), (4, .int (nI pm)), (5, .ref (ad9 26 4)), (6, .ref (ad9 26 5))]) hx hb dL_passes_37 hl (by decide) rfl (fun ls hl => ?_)
      refine w_ind (fun nb H locs ls => ∃ (q : Nat), (q + nb = g.2.1) ∧ hw D B ad9 (eW D ad9 (g, σ) (g, pasF g i σ) (lW D 6 μ1)) H ∧ va_S (ab B) s.heap H locs ∧ lv_has ls 14 [(11, .int (nI q)), (10, .int (0 - smF (fun s9 => (pasF g i σ) 12 s9 0) q)), (9, .int (nI i)), (8, .int 1), (7, .int ((pasF g i σ) 26 0 0 - σ 26 0 0)), (0, .ref (ad9 4 0)), (1, .ref (ad9 17 0)), (2, .ref (ad9 26 0)), (3, .ref (ad9 26 3)), (4, .int (nI pm)), (5, .ref (ad9 26 4)), (6, .ref (ad9 26 5))]) ?_ g.2.1 _ _ _ ⟨0, by omega, hP, hS, lv_sub hl [0, 1, 2, 3, 4, 5, 6, 7, 8, 9, 10, 11] rfl⟩
      intro nb H locs ls hJb ihb
      obtain ⟨q, hqb, hP, hS, hl⟩ := hJb
      refine lv_iload hx hb dL_passes_39 (lv_at hl 0 rfl) ?_
      refine lv_aload_n hx hb dL_passes_41 rfl (lv_at hl 8 rfl) ?_
      refine lv_iconst (v := 1) hx hb dL_passes_42 (by decide) ?_
      refine w_top (v := nI 1) rfl ?_
      refine w_ildN hx hb hC hP (eW_L (show 3 < 6 by decide)) (show 1 < 3 from by omega) (by decide) (v := nI g.2.1) ((congrFun (hm1 3 (by decide)) 1).trans l2) dL_passes_43 ?_
      refine lv_icmp_ge (tgt := 64) hx hb dL_passes_44 (by decide) (fun c_44 => ?_) (fun c_44 => ?_)
      · have hq9 : g.2.1 ≤ q := Nat.not_lt.mp (fun z => absurd c_44 (nI_ge z (by omega)))
        have hqz : q = g.2.1 := by omega
        rw [hqz] at hl
        have hl : lv_has ls 14 [(10, .int (0 - smF (fun s9 => (pasF g i σ) 12 s9 0) g.2.1)), (9, .int (nI i)), (8, .int 1), (7, .int ((pasF g i σ) 26 0 0 - σ 26 0 0)), (0, .ref (ad9 4 0)), (1, .ref (ad9 17 0)), (2, .ref (ad9 26 0)), (3, .ref (ad9 26 3)), (4, .int (nI pm)), (5, .ref (ad9 26 4)), (6, .ref (ad9 26 5))] := lv_sub hl [1, 2, 3, 4, 5, 6, 7, 8, 9, 10, 11] rfl
        refine lv_iconst (v := 0) hx hb dL_passes_64 (by decide) ?_
        refine lv_istore (lv' := [(11, .int 0), (10, .int (0 - smF (fun s9 => (pasF g i σ) 12 s9 0) g.2.1)), (9, .int (nI i)), (8, .int 1), (7, .int ((pasF g i σ) 26 0 0 - σ 26 0 0)), (0, .ref (ad9 4 0)), (1, .ref (ad9 17 0)), (2, .ref (ad9 26 0)), (3, .ref (ad9 26 3)), (4, .int (nI pm)), (5, .ref (ad9 26 4)), (6, .ref (ad9 26 5))]) hx hb dL_passes_65 hl (by decide) rfl (fun ls hl => ?_)
        refine w_ind (fun nc H locs ls => ∃ (q : Nat) (μ2 : Me), (q + nc = g.1) ∧ (∀ k, k < 4 → μ2 k 0 = μ k 0) ∧ (∀ j, j < q → μ2 4 0 j = heO (pasF g i σ) j ∧ μ2 5 0 j = (pasF g i σ) 5 j 0) ∧ hw D B ad9 (eW D ad9 (g, σ) (g, pasF g i σ) (lW D 6 μ2)) H ∧ va_S (ab B) s.heap H locs ∧ lv_has ls 14 [(11, .int (nI q)), (10, .int (0 - smF (fun s9 => (pasF g i σ) 12 s9 0) g.2.1)), (9, .int (nI i)), (8, .int 1), (7, .int ((pasF g i σ) 26 0 0 - σ 26 0 0)), (0, .ref (ad9 4 0)), (1, .ref (ad9 17 0)), (2, .ref (ad9 26 0)), (3, .ref (ad9 26 3)), (4, .int (nI pm)), (5, .ref (ad9 26 4)), (6, .ref (ad9 26 5))]) ?_ g.1 _ _ _ ⟨0, μ1, by omega, hm1, fun j hj => absurd hj (Nat.not_lt_zero j), hP, hS, lv_sub hl [0, 1, 2, 3, 4, 5, 6, 7, 8, 9, 10, 11] rfl⟩
        intro nc H locs ls hJc ihc
        obtain ⟨q, μ2, hqc, hm2, hd2, hP, hS, hl⟩ := hJc
        refine lv_iload hx hb dL_passes_67 (lv_at hl 0 rfl) ?_
        refine lv_aload_n hx hb dL_passes_69 rfl (lv_at hl 8 rfl) ?_
        refine lv_iconst (v := 0) hx hb dL_passes_70 (by decide) ?_
        refine w_top (v := nI 0) rfl ?_
        refine w_ildN hx hb hC hP (eW_L (show 3 < 6 by decide)) (show 0 < 3 from by omega) (by decide) (v := nI g.1) ((congrFun (hm2 3 (by decide)) 0).trans l1) dL_passes_71 ?_
        refine lv_icmp_ge (tgt := 103) hx hb dL_passes_72 (by decide) (fun c_72 => ?_) (fun c_72 => ?_)
        · have hq9 : g.1 ≤ q := Nat.not_lt.mp (fun z => absurd c_72 (nI_ge z (by omega)))
          have hqz : q = g.1 := by omega
          rw [hqz] at hd2
          refine lv_aload_n hx hb dL_passes_103 rfl (lv_at hl 6 rfl) ?_
          refine lv_iconst (v := 1) hx hb dL_passes_104 (by decide) ?_
          refine w_calli (vx_runSW (As := [.ref (ad9 17 0), .int 1]) (rest := []) ⟨hx, hb, hml, hown, hts⟩ (t0_L_pass l hns D B ad9 g (pasF g i σ) (g, σ) (lW D 6 μ2) hIt (t + i) J1.1 1 (Nat.le_refl 1) (by decide) (by omega)) (vx_cwSW 2 hts gL_passes_L_pass rfl rfl rfl (by decide +kernel) ⟨Nat.le_of_ble_eq_true rfl, Nat.le_of_ble_eq_true rfl⟩) (w_preS hC hP hS) rfl rfl hl.1 rfl (lv_room (Nat.le_of_ble_eq_true rfl)) dL_passes_105 ⟨Nat.le_of_ble_eq_true rfl, Nat.le_of_ble_eq_true rfl⟩) hS (fun r_4 ad1 w1 H locs hq hP hS => ?_)
          obtain ⟨S2, h81, h82, h83⟩ := hq
          cases h82
          cases h81
          subst h83
          have hP : hw D B ad9 (eW D ad9 (g, σ) (g, minF g (pasF g i σ)) (lW D 6 μ2)) H := hP
          refine w_top (v := (minF g (pasF g i σ)) 26 0 0 - (pasF g i σ) 26 0 0) rfl ?_
          have J2 : Jt (t + i + 1) (N + 20 * i + 20) g (minF g (pasF g i σ)) μ := Jt_pas 1 (t + i) (N + 20 * i) _ J1 (by omega) (by omega)
          have hIt2 := Jt_I J2
          refine lv_istore (lv' := [(11, .int ((minF g (pasF g i σ)) 26 0 0 - (pasF g i σ) 26 0 0)), (10, .int (0 - smF (fun s9 => (pasF g i σ) 12 s9 0) g.2.1)), (9, .int (nI i)), (8, .int 1), (7, .int ((pasF g i σ) 26 0 0 - σ 26 0 0)), (0, .ref (ad9 4 0)), (1, .ref (ad9 17 0)), (2, .ref (ad9 26 0)), (3, .ref (ad9 26 3)), (4, .int (nI pm)), (5, .ref (ad9 26 4)), (6, .ref (ad9 26 5))]) hx hb dL_passes_108 hl (by decide) rfl (fun ls hl => ?_)
          refine lv_iload hx hb dL_passes_110 (lv_at hl 4 rfl) ?_
          refine lv_iload hx hb dL_passes_112 (lv_at hl 0 rfl) ?_
          refine lv_iadd hx hb dL_passes_114 ?_
          refine w_top (v := (minF g (pasF g i σ)) 26 0 0 - σ 26 0 0) (i_tel _ _ _) ?_
          refine lv_istore (lv' := [(7, .int ((minF g (pasF g i σ)) 26 0 0 - σ 26 0 0)), (11, .int ((minF g (pasF g i σ)) 26 0 0 - (pasF g i σ) 26 0 0)), (10, .int (0 - smF (fun s9 => (pasF g i σ) 12 s9 0) g.2.1)), (9, .int (nI i)), (8, .int 1), (0, .ref (ad9 4 0)), (1, .ref (ad9 17 0)), (2, .ref (ad9 26 0)), (3, .ref (ad9 26 3)), (4, .int (nI pm)), (5, .ref (ad9 26 4)), (6, .ref (ad9 26 5))]) hx hb dL_passes_115 hl (by decide) rfl (fun ls hl => ?_)
          have hl : lv_has ls 14 [(7, .int ((minF g (pasF g i σ)) 26 0 0 - σ 26 0 0)), (11, .int ((minF g (pasF g i σ)) 26 0 0 - (pasF g i σ) 26 0 0)), (10, .int ((0 - smF (fun s9 => (pasF g i σ) 12 s9 0) g.2.1) + smF (fun s9 => (minF g (pasF g i σ)) 12 s9 0) 0)), (9, .int (nI i)), (8, .int 1), (0, .ref (ad9 4 0)), (1, .ref (ad9 17 0)), (2, .ref (ad9 26 0)), (3, .ref (ad9 26 3)), (4, .int (nI pm)), (5, .ref (ad9 26 4)), (6, .ref (ad9 26 5))] := by rw [show (0 - smF (fun s9 => (pasF g i σ) 12 s9 0) g.2.1) + smF (fun s9 => (minF g (pasF g i σ)) 12 s9 0) 0 = 0 - smF (fun s9 => (pasF g i σ) 12 s9 0) g.2.1 from Int32.add_zero _]; exact hl
          refine lv_iconst (v := 0) hx hb dL_passes_117 (by decide) ?_
          refine lv_istore (lv' := [(12, .int 0), (7, .int ((minF g (pasF g i σ)) 26 0 0 - σ 26 0 0)), (11, .int ((minF g (pasF g i σ)) 26 0 0 - (pasF g i σ) 26 0 0)), (10, .int ((0 - smF (fun s9 => (pasF g i σ) 12 s9 0) g.2.1) + smF (fun s9 => (minF g (pasF g i σ)) 12 s9 0) 0)), (9, .int (nI i)), (8, .int 1), (0, .ref (ad9 4 0)), (1, .ref (ad9 17 0)), (2, .ref (ad9 26 0)), (3, .ref (ad9 26 3)), (4, .int (nI pm)), (5, .ref (ad9 26 4)), (6, .ref (ad9 26 5))]) hx hb dL_passes_118 hl (by decide) rfl (fun ls hl => ?_)
          refine w_ind (fun nd H locs ls => ∃ (q : Nat), (q + nd = g.2.1) ∧ hw D B ad9 (eW D ad9 (g, σ) (g, minF g (pasF g i σ)) (lW D 6 μ2)) H ∧ va_S (ab B) s.heap H locs ∧ lv_has ls 14 [(12, .int (nI q)), (10, .int ((0 - smF (fun s9 => (pasF g i σ) 12 s9 0) g.2.1) + smF (fun s9 => (minF g (pasF g i σ)) 12 s9 0) q)), (11, .int ((minF g (pasF g i σ)) 26 0 0 - (pasF g i σ) 26 0 0)), (9, .int (nI i)), (8, .int 1), (7, .int ((minF g (pasF g i σ)) 26 0 0 - σ 26 0 0)), (0, .ref (ad9 4 0)), (1, .ref (ad9 17 0)), (2, .ref (ad9 26 0)), (3, .ref (ad9 26 3)), (4, .int (nI pm)), (5, .ref (ad9 26 4)), (6, .ref (ad9 26 5))]) ?_ g.2.1 _ _ _ ⟨0, by omega, hP, hS, lv_sub hl [0, 3, 2, 4, 5, 1, 6, 7, 8, 9, 10, 11, 12] rfl⟩
          intro nd H locs ls hJd ihd
          obtain ⟨q, hqd, hP, hS, hl⟩ := hJd
          refine lv_iload hx hb dL_passes_120 (lv_at hl 0 rfl) ?_
          refine lv_aload_n hx hb dL_passes_122 rfl (lv_at hl 9 rfl) ?_
          refine lv_iconst (v := 1) hx hb dL_passes_123 (by decide) ?_
          refine w_top (v := nI 1) rfl ?_
          refine w_ildN hx hb hC hP (eW_L (show 3 < 6 by decide)) (show 1 < 3 from by omega) (by decide) (v := nI g.2.1) ((congrFun (hm2 3 (by decide)) 1).trans l2) dL_passes_124 ?_
          refine lv_icmp_ge (tgt := 145) hx hb dL_passes_125 (by decide) (fun c_125 => ?_) (fun c_125 => ?_)
          · have hq9 : g.2.1 ≤ q := Nat.not_lt.mp (fun z => absurd c_125 (nI_ge z (by omega)))
            have hqz : q = g.2.1 := by omega
            rw [hqz] at hl
            have hl : lv_has ls 14 [(10, .int ((0 - smF (fun s9 => (pasF g i σ) 12 s9 0) g.2.1) + smF (fun s9 => (minF g (pasF g i σ)) 12 s9 0) g.2.1)), (11, .int ((minF g (pasF g i σ)) 26 0 0 - (pasF g i σ) 26 0 0)), (9, .int (nI i)), (8, .int 1), (7, .int ((minF g (pasF g i σ)) 26 0 0 - σ 26 0 0)), (0, .ref (ad9 4 0)), (1, .ref (ad9 17 0)), (2, .ref (ad9 26 0)), (3, .ref (ad9 26 3)), (4, .int (nI pm)), (5, .ref (ad9 26 4)), (6, .ref (ad9 26 5))] := lv_sub hl [1, 2, 3, 4, 5, 6, 7, 8, 9, 10, 11, 12] rfl
            refine lv_iconst (v := 0) hx hb dL_passes_145 (by decide) ?_
            refine lv_istore (lv' := [(12, .int 0), (10, .int ((0 - smF (fun s9 => (pasF g i σ) 12 s9 0) g.2.1) + smF (fun s9 => (minF g (pasF g i σ)) 12 s9 0) g.2.1)), (11, .int ((minF g (pasF g i σ)) 26 0 0 - (pasF g i σ) 26 0 0)), (9, .int (nI i)), (8, .int 1), (7, .int ((minF g (pasF g i σ)) 26 0 0 - σ 26 0 0)), (0, .ref (ad9 4 0)), (1, .ref (ad9 17 0)), (2, .ref (ad9 26 0)), (3, .ref (ad9 26 3)), (4, .int (nI pm)), (5, .ref (ad9 26 4)), (6, .ref (ad9 26 5))]) hx hb dL_passes_146 hl (by decide) rfl (fun ls hl => ?_)
            refine w_ind (fun ne H locs ls => ∃ (q : Nat), (q + ne = g.1) ∧ hw D B ad9 (eW D ad9 (g, σ) (g, minF g (pasF g i σ)) (lW D 6 μ2)) H ∧ va_S (ab B) s.heap H locs ∧ lv_has ls 14 [(12, .int (nI q)), (10, .int ((0 - smF (fun s9 => (pasF g i σ) 12 s9 0) g.2.1) + smF (fun s9 => (minF g (pasF g i σ)) 12 s9 0) g.2.1)), (11, .int ((minF g (pasF g i σ)) 26 0 0 - (pasF g i σ) 26 0 0)), (9, .int (nI i)), (8, .int 1), (7, .int ((minF g (pasF g i σ)) 26 0 0 - σ 26 0 0)), (0, .ref (ad9 4 0)), (1, .ref (ad9 17 0)), (2, .ref (ad9 26 0)), (3, .ref (ad9 26 3)), (4, .int (nI pm)), (5, .ref (ad9 26 4)), (6, .ref (ad9 26 5))]) ?_ g.1 _ _ _ ⟨0, by omega, hP, hS, lv_sub hl [0, 1, 2, 3, 4, 5, 6, 7, 8, 9, 10, 11, 12] rfl⟩
            intro ne H locs ls hJe ihe
            obtain ⟨q, hqe, hP, hS, hl⟩ := hJe
            refine lv_iload hx hb dL_passes_148 (lv_at hl 0 rfl) ?_
            refine lv_aload_n hx hb dL_passes_150 rfl (lv_at hl 9 rfl) ?_
            refine lv_iconst (v := 0) hx hb dL_passes_151 (by decide) ?_
            refine w_top (v := nI 0) rfl ?_
            refine w_ildN hx hb hC hP (eW_L (show 3 < 6 by decide)) (show 0 < 3 from by omega) (by decide) (v := nI g.1) ((congrFun (hm2 3 (by decide)) 0).trans l1) dL_passes_152 ?_
            refine lv_icmp_ge (tgt := 250) hx hb dL_passes_153 (by decide) (fun c_153 => ?_) (fun c_153 => ?_)
            · have hq9 : g.1 ≤ q := Nat.not_lt.mp (fun z => absurd c_153 (nI_ge z (by omega)))
              refine lv_iload hx hb dL_passes_250 (lv_at hl 4 rfl) ?_
              refine lv_if_eq (tgt := 266) hx hb dL_passes_252 (by decide) (fun c_252 => ?_) (fun c_252 => ?_)
              · exact absurd c_252 (by decide)
              · refine lv_iload hx hb dL_passes_255 (lv_at hl 1 rfl) ?_
                refine lv_iload hx hb dL_passes_257 (lv_at hl 2 rfl) ?_
                refine lv_icmp_ne (tgt := 266) hx hb dL_passes_259 (by decide) (fun c_259 => ?_) (fun c_259 => ?_)
                · exact absurd (ps_snt J1 J2) c_259
                · refine lv_iconst (v := 1) hx hb dL_passes_262 (by decide) ?_
                  refine lv_goto (tgt := 267) hx hb dL_passes_263 (by decide) ?_
                  refine lv_istore (lv' := [(8, .int 1), (12, .int (nI q)), (10, .int ((0 - smF (fun s9 => (pasF g i σ) 12 s9 0) g.2.1) + smF (fun s9 => (minF g (pasF g i σ)) 12 s9 0) g.2.1)), (11, .int ((minF g (pasF g i σ)) 26 0 0 - (pasF g i σ) 26 0 0)), (9, .int (nI i)), (7, .int ((minF g (pasF g i σ)) 26 0 0 - σ 26 0 0)), (0, .ref (ad9 4 0)), (1, .ref (ad9 17 0)), (2, .ref (ad9 26 0)), (3, .ref (ad9 26 3)), (4, .int (nI pm)), (5, .ref (ad9 26 4)), (6, .ref (ad9 26 5))]) hx hb dL_passes_267 hl (by decide) rfl (fun ls hl => ?_)
                  refine lv_iinc (v := nI (i + 1)) (lv' := [(9, .int (nI (i + 1))), (8, .int 1), (12, .int (nI q)), (10, .int ((0 - smF (fun s9 => (pasF g i σ) 12 s9 0) g.2.1) + smF (fun s9 => (minF g (pasF g i σ)) 12 s9 0) g.2.1)), (11, .int ((minF g (pasF g i σ)) 26 0 0 - (pasF g i σ) 26 0 0)), (7, .int ((minF g (pasF g i σ)) 26 0 0 - σ 26 0 0)), (0, .ref (ad9 4 0)), (1, .ref (ad9 17 0)), (2, .ref (ad9 26 0)), (3, .ref (ad9 26 3)), (4, .int (nI pm)), (5, .ref (ad9 26 4)), (6, .ref (ad9 26 5))]) hx hb dL_passes_269 hl (k := 4) rfl (nI_add i 1) (by decide) rfl (fun ls hl => ?_)
                  refine lv_goto (tgt := 21) hx hb dL_passes_272 (by decide) ?_
                  have hP : hw D B ad9 (eW D ad9 (g, σ) (g, pasF g (i + 1) σ) (lW D 6 μ2)) H := by rw [pasF_succ]; exact hP
                  exact iha n8 _ _ _ (by omega) ⟨i + 1, μ2, by omega, hm2, hP, hS, (by rw [pasF_succ]; exact lv_sub hl [0, 1, 5, 6, 7, 8, 9, 10, 11, 12] rfl)⟩
            · have hq9 : q < g.1 := Nat.not_le.mp (fun z => c_153 (nI_le z (by omega)))
              obtain ⟨n4, rfl⟩ : ∃ n4, ne = n4 + 1 := ⟨ne - 1, by omega⟩
              refine lv_aload_n hx hb dL_passes_156 rfl (lv_at hl 7 rfl) ?_
              refine lv_iload hx hb dL_passes_157 (lv_at hl 0 rfl) ?_
              refine w_calli (vx_runSW (As := [.ref (ad9 17 0), .int (nI q)]) (rest := []) ⟨hx, hb, hml, hown, hts⟩ (t0_L_changes l hns D B ad9 g (minF g (pasF g i σ)) (g, σ) (lW D 6 μ2) hIt2 q hq9) (vx_cwSW 2 hts gL_passes_L_changes rfl rfl rfl (by decide +kernel) ⟨Nat.le_of_ble_eq_true rfl, Nat.le_of_ble_eq_true rfl⟩) (w_preS hC hP hS) rfl rfl hl.1 rfl (lv_room (Nat.le_of_ble_eq_true rfl)) dL_passes_159 ⟨Nat.le_of_ble_eq_true rfl, Nat.le_of_ble_eq_true rfl⟩) hS (fun r_5 ad1 w1 H locs hq hP hS => ?_)
              obtain ⟨S2, h81, h82, h83⟩ := hq
              cases h82
              cases h81
              subst h83
              refine lv_aload hx hb dL_passes_162 (lv_at hl 12 rfl) ?_
              refine lv_iload hx hb dL_passes_164 (lv_at hl 0 rfl) ?_
              refine w_ildN hx hb hC hP (eW_L (show 5 < 6 by decide)) (show q < 16 from by omega) (by decide) (v := (pasF g i σ) 5 q 0) (hd2 q hq9).2 dL_passes_166 ?_
              refine lv_isub hx hb dL_passes_167 ?_
              refine lv_istore (lv' := [(13, .int (((minF g (pasF g i σ)) 5 q 0) - ((pasF g i σ) 5 q 0))), (12, .int (nI q)), (10, .int ((0 - smF (fun s9 => (pasF g i σ) 12 s9 0) g.2.1) + smF (fun s9 => (minF g (pasF g i σ)) 12 s9 0) g.2.1)), (11, .int ((minF g (pasF g i σ)) 26 0 0 - (pasF g i σ) 26 0 0)), (9, .int (nI i)), (8, .int 1), (7, .int ((minF g (pasF g i σ)) 26 0 0 - σ 26 0 0)), (0, .ref (ad9 4 0)), (1, .ref (ad9 17 0)), (2, .ref (ad9 26 0)), (3, .ref (ad9 26 3)), (4, .int (nI pm)), (5, .ref (ad9 26 4)), (6, .ref (ad9 26 5))]) hx hb dL_passes_168 hl (by decide) rfl (fun ls hl => ?_)
              refine w_cut 237 2 32 (fun H locs ls => hw D B ad9 (eW D ad9 (g, σ) (g, minF g (pasF g i σ)) (lW D 6 μ2)) H ∧ va_S (ab B) s.heap H locs ∧ lv_has ls 14 [(12, .int (nI q)), (10, .int ((0 - smF (fun s9 => (pasF g i σ) 12 s9 0) g.2.1) + smF (fun s9 => (minF g (pasF g i σ)) 12 s9 0) g.2.1)), (11, .int ((minF g (pasF g i σ)) 26 0 0 - (pasF g i σ) 26 0 0)), (9, .int (nI i)), (8, .int 1), (7, .int ((minF g (pasF g i σ)) 26 0 0 - σ 26 0 0)), (0, .ref (ad9 4 0)), (1, .ref (ad9 17 0)), (2, .ref (ad9 26 0)), (3, .ref (ad9 26 3)), (4, .int (nI pm)), (5, .ref (ad9 26 4)), (6, .ref (ad9 26 5))]) (fun H locs ls hJ => ?_) (fun Kx => ?_)
              · obtain ⟨hP, hS, hl⟩ := hJ
                refine lv_iconst (v := 1) hx hb dL_passes_237 (by decide) ?_
                refine lv_goto (tgt := 242) hx hb dL_passes_238 (by decide) ?_
                refine lv_istore (lv' := [(8, .int 1), (12, .int (nI q)), (10, .int ((0 - smF (fun s9 => (pasF g i σ) 12 s9 0) g.2.1) + smF (fun s9 => (minF g (pasF g i σ)) 12 s9 0) g.2.1)), (11, .int ((minF g (pasF g i σ)) 26 0 0 - (pasF g i σ) 26 0 0)), (9, .int (nI i)), (7, .int ((minF g (pasF g i σ)) 26 0 0 - σ 26 0 0)), (0, .ref (ad9 4 0)), (1, .ref (ad9 17 0)), (2, .ref (ad9 26 0)), (3, .ref (ad9 26 3)), (4, .int (nI pm)), (5, .ref (ad9 26 4)), (6, .ref (ad9 26 5))]) hx hb dL_passes_242 hl (by decide) rfl (fun ls hl => ?_)
                refine lv_iinc (v := nI (q + 1)) (lv' := [(12, .int (nI (q + 1))), (8, .int 1), (10, .int ((0 - smF (fun s9 => (pasF g i σ) 12 s9 0) g.2.1) + smF (fun s9 => (minF g (pasF g i σ)) 12 s9 0) g.2.1)), (11, .int ((minF g (pasF g i σ)) 26 0 0 - (pasF g i σ) 26 0 0)), (9, .int (nI i)), (7, .int ((minF g (pasF g i σ)) 26 0 0 - σ 26 0 0)), (0, .ref (ad9 4 0)), (1, .ref (ad9 17 0)), (2, .ref (ad9 26 0)), (3, .ref (ad9 26 3)), (4, .int (nI pm)), (5, .ref (ad9 26 4)), (6, .ref (ad9 26 5))]) hx hb dL_passes_244 hl (k := 1) rfl (nI_add q 1) (by decide) rfl (fun ls hl => ?_)
                refine lv_goto (tgt := 148) hx hb dL_passes_247 (by decide) ?_
                exact ihe n4 _ _ _ (by omega) ⟨q + 1, by omega, hP, hS, lv_sub hl [0, 2, 3, 4, 1, 5, 6, 7, 8, 9, 10, 11, 12] rfl⟩
              · refine lv_iload hx hb dL_passes_170 (lv_at hl 5 rfl) ?_
                refine lv_if_eq (tgt := 241) hx hb dL_passes_172 (by decide) (fun c_172 => ?_) (fun c_172 => ?_)
                · exact absurd c_172 (by decide)
                · refine lv_aload hx hb dL_passes_175 (lv_at hl 12 rfl) ?_
                  refine lv_iload hx hb dL_passes_177 (lv_at hl 1 rfl) ?_
                  refine w_ildN hx hb hC hP (eW_L (show 4 < 6 by decide)) (show q < 16 from by omega) (by decide) (v := heO (pasF g i σ) q) (hd2 q hq9).1 dL_passes_179 ?_
                  refine lv_iconst (v := 2) hx hb dL_passes_180 (by decide) ?_
                  refine lv_icmp_lt (tgt := 205) hx hb dL_passes_181 (by decide) (fun c_181 => ?_) (fun c_181 => ?_)
                  · refine lv_iload hx hb dL_passes_205 (lv_at hl 0 rfl) ?_
                    refine lv_if_eq (tgt := 237) hx hb dL_passes_207 (by decide) (fun c_207 => ?_) (fun c_207 => ?_)
                    · exact Kx _ _ _ ⟨hP, hS, lv_sub hl [1, 2, 3, 4, 5, 6, 7, 8, 9, 10, 11, 12, 13] rfl⟩
                    · refine lv_aload_n hx hb dL_passes_210 rfl (lv_at hl 9 rfl) ?_
                      refine lv_bipush (v := (16)) hx hb dL_passes_211 (by decide) ?_
                      refine lv_iload hx hb dL_passes_213 (lv_at hl 1 rfl) ?_
                      refine lv_iadd hx hb dL_passes_215 ?_
                      refine w_top (v := nI (16 + q)) (nI_add 16 q) ?_
                      refine w_ildN hx hb hC hP (eW_L (show 0 < 6 by decide)) (show 16 + q < 32 from by omega) (by decide) (v := μ 0 0 (16 + q)) (congrFun (hm2 0 (by decide)) (16 + q)) dL_passes_216 ?_
                      refine lv_iconst (v := 1) hx hb dL_passes_217 (by decide) ?_
                      refine lv_icmp_lt (tgt := 237) hx hb dL_passes_218 (by decide) (fun c_218 => ?_) (fun c_218 => ?_)
                      · exact Kx _ _ _ ⟨hP, hS, lv_sub hl [1, 2, 3, 4, 5, 6, 7, 8, 9, 10, 11, 12, 13] rfl⟩
                      · refine lv_aload_n hx hb dL_passes_221 rfl (lv_at hl 8 rfl) ?_
                        refine lv_iload hx hb dL_passes_222 (lv_at hl 1 rfl) ?_
                        refine w_calli (vx_runSW (As := [.ref (ad9 17 0), .int (nI q)]) (rest := []) ⟨hx, hb, hml, hown, hts⟩ (t0_L_held l hns D B ad9 g (minF g (pasF g i σ)) (g, σ) (lW D 6 μ2) hIt2 q hq9) (vx_cwSW 2 hts gL_passes_L_held rfl rfl rfl (by decide +kernel) ⟨Nat.le_of_ble_eq_true rfl, Nat.le_of_ble_eq_true rfl⟩) (w_preS hC hP hS) rfl rfl hl.1 rfl (lv_room (Nat.le_of_ble_eq_true rfl)) dL_passes_224 ⟨Nat.le_of_ble_eq_true rfl, Nat.le_of_ble_eq_true rfl⟩) hS (fun r_6 ad1 w1 H locs hq hP hS => ?_)
                        obtain ⟨S2, h81, h82, h83⟩ := hq
                        cases h82
                        cases h81
                        subst h83
                        refine w_top (v := heO (minF g (pasF g i σ)) q) rfl ?_
                        refine lv_aload_n hx hb dL_passes_227 rfl (lv_at hl 9 rfl) ?_
                        refine lv_bipush (v := (16)) hx hb dL_passes_228 (by decide) ?_
                        refine lv_iload hx hb dL_passes_230 (lv_at hl 1 rfl) ?_
                        refine lv_iadd hx hb dL_passes_232 ?_
                        refine w_top (v := nI (16 + q)) (nI_add 16 q) ?_
                        refine w_ildN hx hb hC hP (eW_L (show 0 < 6 by decide)) (show 16 + q < 32 from by omega) (by decide) (v := μ 0 0 (16 + q)) (congrFun (hm2 0 (by decide)) (16 + q)) dL_passes_233 ?_
                        refine lv_icmp_ne (tgt := 241) hx hb dL_passes_234 (by decide) (fun c_234 => ?_) (fun c_234 => ?_)
                        · exact absurd (ps_b J1 hq9 (by omega) c_207 c_218) c_234
                        · exact Kx _ _ _ ⟨hP, hS, lv_sub hl [1, 2, 3, 4, 5, 6, 7, 8, 9, 10, 11, 12, 13] rfl⟩
                  · refine lv_iload hx hb dL_passes_184 (lv_at hl 0 rfl) ?_
                    refine lv_if_ne (tgt := 241) hx hb dL_passes_186 (by decide) (fun c_186 => ?_) (fun c_186 => ?_)
                    · exact absurd (ps_a J1 hq9 (by omega) c_181).1 c_186
                    · refine lv_aload_n hx hb dL_passes_189 rfl (lv_at hl 8 rfl) ?_
                      refine lv_iload hx hb dL_passes_190 (lv_at hl 1 rfl) ?_
                      refine w_calli (vx_runSW (As := [.ref (ad9 17 0), .int (nI q)]) (rest := []) ⟨hx, hb, hml, hown, hts⟩ (t0_L_held l hns D B ad9 g (minF g (pasF g i σ)) (g, σ) (lW D 6 μ2) hIt2 q hq9) (vx_cwSW 2 hts gL_passes_L_held rfl rfl rfl (by decide +kernel) ⟨Nat.le_of_ble_eq_true rfl, Nat.le_of_ble_eq_true rfl⟩) (w_preS hC hP hS) rfl rfl hl.1 rfl (lv_room (Nat.le_of_ble_eq_true rfl)) dL_passes_192 ⟨Nat.le_of_ble_eq_true rfl, Nat.le_of_ble_eq_true rfl⟩) hS (fun r_7 ad1 w1 H locs hq hP hS => ?_)
                      obtain ⟨S2, h81, h82, h83⟩ := hq
                      cases h82
                      cases h81
                      subst h83
                      refine w_top (v := heO (minF g (pasF g i σ)) q) rfl ?_
                      refine lv_aload hx hb dL_passes_195 (lv_at hl 12 rfl) ?_
                      refine lv_iload hx hb dL_passes_197 (lv_at hl 1 rfl) ?_
                      refine w_ildN hx hb hC hP (eW_L (show 4 < 6 by decide)) (show q < 16 from by omega) (by decide) (v := heO (pasF g i σ) q) (hd2 q hq9).1 dL_passes_199 ?_
                      refine lv_iconst (v := 1) hx hb dL_passes_200 (by decide) ?_
                      refine lv_isub hx hb dL_passes_201 ?_
                      refine lv_icmp_ne (tgt := 241) hx hb dL_passes_202 (by decide) (fun c_202 => ?_) (fun c_202 => ?_)
                      · exact absurd (ps_a J1 hq9 (by omega) c_181).2 c_202
                      · refine lv_iload hx hb dL_passes_205 (lv_at hl 0 rfl) ?_
                        refine lv_if_eq (tgt := 237) hx hb dL_passes_207 (by decide) (fun c_207 => ?_) (fun c_207 => ?_)
                        · exact Kx _ _ _ ⟨hP, hS, lv_sub hl [1, 2, 3, 4, 5, 6, 7, 8, 9, 10, 11, 12, 13] rfl⟩
                        · refine lv_aload_n hx hb dL_passes_210 rfl (lv_at hl 9 rfl) ?_
                          refine lv_bipush (v := (16)) hx hb dL_passes_211 (by decide) ?_
                          refine lv_iload hx hb dL_passes_213 (lv_at hl 1 rfl) ?_
                          refine lv_iadd hx hb dL_passes_215 ?_
                          refine w_top (v := nI (16 + q)) (nI_add 16 q) ?_
                          refine w_ildN hx hb hC hP (eW_L (show 0 < 6 by decide)) (show 16 + q < 32 from by omega) (by decide) (v := μ 0 0 (16 + q)) (congrFun (hm2 0 (by decide)) (16 + q)) dL_passes_216 ?_
                          refine lv_iconst (v := 1) hx hb dL_passes_217 (by decide) ?_
                          refine lv_icmp_lt (tgt := 237) hx hb dL_passes_218 (by decide) (fun c_218 => ?_) (fun c_218 => ?_)
                          · exact Kx _ _ _ ⟨hP, hS, lv_sub hl [1, 2, 3, 4, 5, 6, 7, 8, 9, 10, 11, 12, 13] rfl⟩
                          · refine lv_aload_n hx hb dL_passes_221 rfl (lv_at hl 8 rfl) ?_
                            refine lv_iload hx hb dL_passes_222 (lv_at hl 1 rfl) ?_
                            refine w_calli (vx_runSW (As := [.ref (ad9 17 0), .int (nI q)]) (rest := []) ⟨hx, hb, hml, hown, hts⟩ (t0_L_held l hns D B ad9 g (minF g (pasF g i σ)) (g, σ) (lW D 6 μ2) hIt2 q hq9) (vx_cwSW 2 hts gL_passes_L_held rfl rfl rfl (by decide +kernel) ⟨Nat.le_of_ble_eq_true rfl, Nat.le_of_ble_eq_true rfl⟩) (w_preS hC hP hS) rfl rfl hl.1 rfl (lv_room (Nat.le_of_ble_eq_true rfl)) dL_passes_224 ⟨Nat.le_of_ble_eq_true rfl, Nat.le_of_ble_eq_true rfl⟩) hS (fun r_8 ad1 w1 H locs hq hP hS => ?_)
                            obtain ⟨S2, h81, h82, h83⟩ := hq
                            cases h82
                            cases h81
                            subst h83
                            refine w_top (v := heO (minF g (pasF g i σ)) q) rfl ?_
                            refine lv_aload_n hx hb dL_passes_227 rfl (lv_at hl 9 rfl) ?_
                            refine lv_bipush (v := (16)) hx hb dL_passes_228 (by decide) ?_
                            refine lv_iload hx hb dL_passes_230 (lv_at hl 1 rfl) ?_
                            refine lv_iadd hx hb dL_passes_232 ?_
                            refine w_top (v := nI (16 + q)) (nI_add 16 q) ?_
                            refine w_ildN hx hb hC hP (eW_L (show 0 < 6 by decide)) (show 16 + q < 32 from by omega) (by decide) (v := μ 0 0 (16 + q)) (congrFun (hm2 0 (by decide)) (16 + q)) dL_passes_233 ?_
                            refine lv_icmp_ne (tgt := 241) hx hb dL_passes_234 (by decide) (fun c_234 => ?_) (fun c_234 => ?_)
                            · exact absurd (ps_b J1 hq9 (by omega) c_207 c_218) c_234
                            · exact Kx _ _ _ ⟨hP, hS, lv_sub hl [1, 2, 3, 4, 5, 6, 7, 8, 9, 10, 11, 12, 13] rfl⟩
          · have hq9 : q < g.2.1 := Nat.not_le.mp (fun z => c_125 (nI_le z (by omega)))
            obtain ⟨n5, rfl⟩ : ∃ n5, nd = n5 + 1 := ⟨nd - 1, by omega⟩
            refine lv_iload hx hb dL_passes_128 (lv_at hl 1 rfl) ?_
            refine lv_aload_n hx hb dL_passes_130 rfl (lv_at hl 7 rfl) ?_
            refine lv_iload hx hb dL_passes_131 (lv_at hl 0 rfl) ?_
            refine w_calli (vx_runSW (As := [.ref (ad9 17 0), .int (nI q)]) (rest := [.int ((0 - smF (fun s9 => (pasF g i σ) 12 s9 0) g.2.1) + smF (fun s9 => (minF g (pasF g i σ)) 12 s9 0) q)]) ⟨hx, hb, hml, hown, hts⟩ (t0_L_reports l hns D B ad9 g (minF g (pasF g i σ)) (g, σ) (lW D 6 μ2) hIt2 q hq9) (vx_cwSW 2 hts gL_passes_L_reports rfl rfl rfl (by decide +kernel) ⟨Nat.le_of_ble_eq_true rfl, Nat.le_of_ble_eq_true rfl⟩) (w_preS hC hP hS) rfl rfl hl.1 rfl (lv_room (Nat.le_of_ble_eq_true rfl)) dL_passes_133 ⟨Nat.le_of_ble_eq_true rfl, Nat.le_of_ble_eq_true rfl⟩) hS (fun r_9 ad1 w1 H locs hq hP hS => ?_)
            obtain ⟨S2, h81, h82, h83⟩ := hq
            cases h82
            cases h81
            subst h83
            refine lv_iadd hx hb dL_passes_136 ?_
            refine w_top (v := (0 - smF (fun s9 => (pasF g i σ) 12 s9 0) g.2.1) + smF (fun s9 => (minF g (pasF g i σ)) 12 s9 0) (q + 1)) (i_asc _ _ _) ?_
            refine lv_istore (lv' := [(10, .int ((0 - smF (fun s9 => (pasF g i σ) 12 s9 0) g.2.1) + smF (fun s9 => (minF g (pasF g i σ)) 12 s9 0) (q + 1))), (12, .int (nI q)), (11, .int ((minF g (pasF g i σ)) 26 0 0 - (pasF g i σ) 26 0 0)), (9, .int (nI i)), (8, .int 1), (7, .int ((minF g (pasF g i σ)) 26 0 0 - σ 26 0 0)), (0, .ref (ad9 4 0)), (1, .ref (ad9 17 0)), (2, .ref (ad9 26 0)), (3, .ref (ad9 26 3)), (4, .int (nI pm)), (5, .ref (ad9 26 4)), (6, .ref (ad9 26 5))]) hx hb dL_passes_137 hl (by decide) rfl (fun ls hl => ?_)
            refine lv_iinc (v := nI (q + 1)) (lv' := [(12, .int (nI (q + 1))), (10, .int ((0 - smF (fun s9 => (pasF g i σ) 12 s9 0) g.2.1) + smF (fun s9 => (minF g (pasF g i σ)) 12 s9 0) (q + 1))), (11, .int ((minF g (pasF g i σ)) 26 0 0 - (pasF g i σ) 26 0 0)), (9, .int (nI i)), (8, .int 1), (7, .int ((minF g (pasF g i σ)) 26 0 0 - σ 26 0 0)), (0, .ref (ad9 4 0)), (1, .ref (ad9 17 0)), (2, .ref (ad9 26 0)), (3, .ref (ad9 26 3)), (4, .int (nI pm)), (5, .ref (ad9 26 4)), (6, .ref (ad9 26 5))]) hx hb dL_passes_139 hl (k := 1) rfl (nI_add q 1) (by decide) rfl (fun ls hl => ?_)
            refine lv_goto (tgt := 120) hx hb dL_passes_142 (by decide) ?_
            exact ihd n5 _ _ _ (by omega) ⟨q + 1, by omega, hP, hS, lv_sub hl [0, 1, 2, 3, 4, 5, 6, 7, 8, 9, 10, 11, 12] rfl⟩
        · have hq9 : q < g.1 := Nat.not_le.mp (fun z => c_72 (nI_le z (by omega)))
          obtain ⟨n6, rfl⟩ : ∃ n6, nc = n6 + 1 := ⟨nc - 1, by omega⟩
          refine lv_aload hx hb dL_passes_75 (lv_at hl 10 rfl) ?_
          refine lv_iload hx hb dL_passes_77 (lv_at hl 0 rfl) ?_
          refine lv_aload_n hx hb dL_passes_79 rfl (lv_at hl 6 rfl) ?_
          refine lv_iload hx hb dL_passes_80 (lv_at hl 0 rfl) ?_
          refine w_calli (vx_runSW (As := [.ref (ad9 17 0), .int (nI q)]) (rest := [.int (nI q), .ref (ad9 26 4)]) ⟨hx, hb, hml, hown, hts⟩ (t0_L_held l hns D B ad9 g (pasF g i σ) (g, σ) (lW D 6 μ2) hIt q hq9) (vx_cwSW 2 hts gL_passes_L_held rfl rfl rfl (by decide +kernel) ⟨Nat.le_of_ble_eq_true rfl, Nat.le_of_ble_eq_true rfl⟩) (w_preS hC hP hS) rfl rfl hl.1 rfl (lv_room (Nat.le_of_ble_eq_true rfl)) dL_passes_82 ⟨Nat.le_of_ble_eq_true rfl, Nat.le_of_ble_eq_true rfl⟩) hS (fun r_10 ad1 w1 H locs hq hP hS => ?_)
          obtain ⟨S2, h81, h82, h83⟩ := hq
          cases h82
          cases h81
          subst h83
          refine w_top (v := heO (pasF g i σ) q) rfl ?_
          refine w_istN hx hb hC hP hS (eW_L (show 4 < 6 by decide)) (show q < 16 from by omega) (by decide) dL_passes_85 (fun H locs hP hS => ?_)
          have hP := hw_eq hP (eW_put _ (show 4 < 6 by decide))
          refine lv_aload hx hb dL_passes_86 (lv_at hl 11 rfl) ?_
          refine lv_iload hx hb dL_passes_88 (lv_at hl 0 rfl) ?_
          refine lv_aload_n hx hb dL_passes_90 rfl (lv_at hl 6 rfl) ?_
          refine lv_iload hx hb dL_passes_91 (lv_at hl 0 rfl) ?_
          refine w_calli (vx_runSW (As := [.ref (ad9 17 0), .int (nI q)]) (rest := [.int (nI q), .ref (ad9 26 5)]) ⟨hx, hb, hml, hown, hts⟩ (t0_L_changes l hns D B ad9 g (pasF g i σ) (g, σ) (lW D 6 (st3 μ2 4 0 q (heO (pasF g i σ) q))) hIt q hq9) (vx_cwSW 2 hts gL_passes_L_changes rfl rfl rfl (by decide +kernel) ⟨Nat.le_of_ble_eq_true rfl, Nat.le_of_ble_eq_true rfl⟩) (w_preS hC hP hS) rfl rfl hl.1 rfl (lv_room (Nat.le_of_ble_eq_true rfl)) dL_passes_93 ⟨Nat.le_of_ble_eq_true rfl, Nat.le_of_ble_eq_true rfl⟩) hS (fun r_11 ad1 w1 H locs hq hP hS => ?_)
          obtain ⟨S2, h81, h82, h83⟩ := hq
          cases h82
          cases h81
          subst h83
          refine w_istN hx hb hC hP hS (eW_L (show 5 < 6 by decide)) (show q < 16 from by omega) (by decide) dL_passes_96 (fun H locs hP hS => ?_)
          have hP := hw_eq hP (eW_put _ (show 5 < 6 by decide))
          refine lv_iinc (v := nI (q + 1)) (lv' := [(11, .int (nI (q + 1))), (10, .int (0 - smF (fun s9 => (pasF g i σ) 12 s9 0) g.2.1)), (9, .int (nI i)), (8, .int 1), (7, .int ((pasF g i σ) 26 0 0 - σ 26 0 0)), (0, .ref (ad9 4 0)), (1, .ref (ad9 17 0)), (2, .ref (ad9 26 0)), (3, .ref (ad9 26 3)), (4, .int (nI pm)), (5, .ref (ad9 26 4)), (6, .ref (ad9 26 5))]) hx hb dL_passes_97 hl (k := 0) rfl (nI_add q 1) (by decide) rfl (fun ls hl => ?_)
          refine lv_goto (tgt := 67) hx hb dL_passes_100 (by decide) ?_
          have hd3 : ∀ j, j < q + 1 → (st3 (st3 μ2 4 0 q (heO (pasF g i σ) q)) 5 0 q ((pasF g i σ) 5 q 0)) 4 0 j = heO (pasF g i σ) j ∧ (st3 (st3 μ2 4 0 q (heO (pasF g i σ) q)) 5 0 q ((pasF g i σ) 5 q 0)) 5 0 j = (pasF g i σ) 5 j 0 := by
            intro j hj
            by_cases hjq : j = q
            · subst hjq; exact ⟨by rw [st3_n (by decide), st3_v], st3_v⟩
            · exact ⟨by rw [st3_n (by decide), st3_j hjq]; exact (hd2 j (by omega)).1, by rw [st3_j hjq, st3_n (by decide)]; exact (hd2 j (by omega)).2⟩
          exact ihc n6 _ _ _ (by omega) ⟨q + 1, st3 (st3 μ2 4 0 q (heO (pasF g i σ) q)) 5 0 q ((pasF g i σ) 5 q 0), by omega, (fun k hk => by rw [st3_n (by omega), st3_n (by omega)]; exact hm2 k hk), hd3, hP, hS, lv_sub hl [0, 1, 2, 3, 4, 5, 6, 7, 8, 9, 10, 11] rfl⟩
      · have hq9 : q < g.2.1 := Nat.not_le.mp (fun z => c_44 (nI_le z (by omega)))
        obtain ⟨n7, rfl⟩ : ∃ n7, nb = n7 + 1 := ⟨nb - 1, by omega⟩
        refine lv_iload hx hb dL_passes_47 (lv_at hl 1 rfl) ?_
        refine lv_aload_n hx hb dL_passes_49 rfl (lv_at hl 6 rfl) ?_
        refine lv_iload hx hb dL_passes_50 (lv_at hl 0 rfl) ?_
        refine w_calli (vx_runSW (As := [.ref (ad9 17 0), .int (nI q)]) (rest := [.int (0 - smF (fun s9 => (pasF g i σ) 12 s9 0) q)]) ⟨hx, hb, hml, hown, hts⟩ (t0_L_reports l hns D B ad9 g (pasF g i σ) (g, σ) (lW D 6 μ1) hIt q hq9) (vx_cwSW 2 hts gL_passes_L_reports rfl rfl rfl (by decide +kernel) ⟨Nat.le_of_ble_eq_true rfl, Nat.le_of_ble_eq_true rfl⟩) (w_preS hC hP hS) rfl rfl hl.1 rfl (lv_room (Nat.le_of_ble_eq_true rfl)) dL_passes_52 ⟨Nat.le_of_ble_eq_true rfl, Nat.le_of_ble_eq_true rfl⟩) hS (fun r_12 ad1 w1 H locs hq hP hS => ?_)
        obtain ⟨S2, h81, h82, h83⟩ := hq
        cases h82
        cases h81
        subst h83
        refine lv_isub hx hb dL_passes_55 ?_
        refine w_top (v := 0 - smF (fun s9 => (pasF g i σ) 12 s9 0) (q + 1)) (i_sub _ _) ?_
        refine lv_istore (lv' := [(10, .int (0 - smF (fun s9 => (pasF g i σ) 12 s9 0) (q + 1))), (11, .int (nI q)), (9, .int (nI i)), (8, .int 1), (7, .int ((pasF g i σ) 26 0 0 - σ 26 0 0)), (0, .ref (ad9 4 0)), (1, .ref (ad9 17 0)), (2, .ref (ad9 26 0)), (3, .ref (ad9 26 3)), (4, .int (nI pm)), (5, .ref (ad9 26 4)), (6, .ref (ad9 26 5))]) hx hb dL_passes_56 hl (by decide) rfl (fun ls hl => ?_)
        refine lv_iinc (v := nI (q + 1)) (lv' := [(11, .int (nI (q + 1))), (10, .int (0 - smF (fun s9 => (pasF g i σ) 12 s9 0) (q + 1))), (9, .int (nI i)), (8, .int 1), (7, .int ((pasF g i σ) 26 0 0 - σ 26 0 0)), (0, .ref (ad9 4 0)), (1, .ref (ad9 17 0)), (2, .ref (ad9 26 0)), (3, .ref (ad9 26 3)), (4, .int (nI pm)), (5, .ref (ad9 26 4)), (6, .ref (ad9 26 5))]) hx hb dL_passes_58 hl (k := 1) rfl (nI_add q 1) (by decide) rfl (fun ls hl => ?_)
        refine lv_goto (tgt := 39) hx hb dL_passes_61 (by decide) ?_
        exact ihb n7 _ _ _ (by omega) ⟨q + 1, by omega, hP, hS, lv_sub hl [0, 1, 2, 3, 4, 5, 6, 7, 8, 9, 10, 11] rfl⟩
