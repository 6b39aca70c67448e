/-! p22: the law's checks of a point, of a subscription -/
set_option maxHeartbeats 4000000 in
set_option maxRecDepth 100000 in
theorem c_L_point (l : Launch) (hns : l.stackTraces = false) (D : va_G) (B : Nat) (ad : Ad) (g : GC) (σ μ : Me) (g2 : GC) (σ2 : Me) (t N : Nat) (J : Jt t N g σ μ) (k : Nat) (hk : k < g.1) : Met l yL_point wsL_point ({ frames := 9, cells := 4, slots := 24, locals := 158 }) (Pre D B ad (eW D ad (g, σ) (g2, σ2) (lW D 4 μ)) [.ref (ad 4 0), .ref (ad 26 0), .int (nI k)]) (Qi D B (fun r u => u = (ad, eW D ad (g, σ) (g2, σ2) (lW D 4 μ)) ∧ r = 1)) 4 24 (ab B) := by
  refine Met.ofW (cc := cL_point) (maxL := 7) (ret := (some .boolean)) (by decide) rfl ?_
  intro p e s m args below meth c s₁ Bd hml hv
  obtain ⟨rfl, hC, hP⟩ := hv
  have hx := Bd.exec
  have hb := Bd.bytes
  have hr := Bd.returns
  have hts := atoms_spec (ws := wsL_point) Bd.pre
  have hown : s.vm.findClass RL = some m.cls := findClass_of_methodNamed Bd.named
  have hlocks := Bd.notSynchronized
  have hS : va_S (ab B) s.heap s.heap [] := va_S.rf
  have hl := lv_entry ([.ref (ad 4 0), .ref (ad 26 0), .int (nI k)]) (n := 7) (Nat.le_of_ble_eq_true rfl)
  rw [lg_entry_eq]
  generalize (lg_sl ([.ref (ad 4 0), .ref (ad 26 0), .int (nI k)]) ++ List.replicate (7 - (lg_sl ([.ref (ad 4 0), .ref (ad 26 0), .int (nI k)])).length) Slot.unset).toArray = ls at hl ⊢
  have hl : lv_has ls 7 [(0, .ref (ad 4 0)), (1, .ref (ad 26 0)), (2, .int (nI k))] := hl
  have hI := Jt_I J
  have g16 := hI.1
  have g30 := hI.2.1
  have g4 := hI.2.2.1
  refine lv_bipush (v := (17)) hx hb dL_point_0 (by decide) ?_
  refine lv_istore_n (lv' := [(3, .int 17), (0, .ref (ad 4 0)), (1, .ref (ad 26 0)), (2, .int (nI k))]) hx hb dL_point_2 rfl hl (by decide) rfl (fun ls hl => ?_)
  refine lv_bipush (v := (16)) hx hb dL_point_3 (by decide) ?_
  refine lv_istore (lv' := [(4, .int 16), (3, .int 17), (0, .ref (ad 4 0)), (1, .ref (ad 26 0)), (2, .int (nI k))]) hx hb dL_point_5 hl (by decide) rfl (fun ls hl => ?_)
  refine w_ind (fun na H locs ls => ∃ (e : Nat), e + na = 16 ∧ hw D B ad (eW D ad (g, σ) (g2, σ2) (lW D 4 μ)) H ∧ va_S (ab B) s.heap H locs ∧ lv_has ls 7 [(4, .int (nI na)), (3, .int (nI (stF (σ 6 k) e (na + 1)))), (0, .ref (ad 4 0)), (1, .ref (ad 26 0)), (2, .int (nI k))]) ?_ 16 _ _ _ ⟨0, rfl, hP, hS, lv_sub hl [0, 1, 2, 3, 4] rfl⟩
  intro na H locs ls hJa iha
  obtain ⟨e, hea, hP, hS, hl⟩ := hJa
  refine lv_iload hx hb dL_point_7 (lv_at hl 0 rfl) ?_
  refine lv_if_le (tgt := 89) hx hb dL_point_9 (by decide) (fun c_9 => ?_) (fun c_9 => ?_)
  · have hz : na = 0 := Nat.eq_zero_of_not_pos (fun z => nI_nle z (by omega) c_9)
    subst hz
    obtain rfl : e = 16 := by omega
    have hl : lv_has ls 7 [(3, .int (nI (stO σ k))), (0, .ref (ad 4 0)), (1, .ref (ad 26 0)), (2, .int (nI k))] := lv_sub hl [1, 2, 3, 4] rfl
    refine lv_aload_n hx hb dL_point_89 rfl (lv_at hl 1 rfl) ?_
    refine lv_iload_n hx hb dL_point_90 rfl (lv_at hl 3 rfl) ?_
    refine w_calli (vx_runSW (As := [.ref (ad 4 0), .int (nI k)]) (rest := []) ⟨hx, hb, hml, hown, hts⟩ (c0_L_value l hns D B ad g σ (tW D ad (g2, σ2) (lW D 4 μ)) 0 hI k hk) (vx_cwSW 2 hts gL_point_L_value rfl rfl rfl (by decide +kernel) ⟨Nat.le_of_ble_eq_true rfl, Nat.le_of_ble_eq_true rfl⟩) (w_preS hC hP hS) rfl rfl hl.1 rfl (lv_room (Nat.le_of_ble_eq_true rfl)) dL_point_91 ⟨Nat.le_of_ble_eq_true rfl, Nat.le_of_ble_eq_true rfl⟩) hS (fun r_1 ad1 w1 H locs hq hP hS => ?_)
    obtain ⟨S2, h81, h82, h83⟩ := hq
    cases h82
    cases h81
    subst h83
    refine lv_istore (lv' := [(4, .int (vaO σ k)), (3, .int (nI (stO σ k))), (0, .ref (ad 4 0)), (1, .ref (ad 26 0)), (2, .int (nI k))]) hx hb dL_point_94 hl (by decide) rfl (fun ls hl => ?_)
    refine lv_aload_n hx hb dL_point_96 rfl (lv_at hl 2 rfl) ?_
    refine lv_iload_n hx hb dL_point_97 rfl (lv_at hl 4 rfl) ?_
    refine w_calli (vx_runSW (As := [.ref (ad 4 0), .int (nI k)]) (rest := []) ⟨hx, hb, hml, hown, hts⟩ (c0_L_held l hns D B ad g σ (tW D ad (g2, σ2) (lW D 4 μ)) 0 hI k hk) (vx_cwSW 2 hts gL_point_L_held rfl rfl rfl (by decide +kernel) ⟨Nat.le_of_ble_eq_true rfl, Nat.le_of_ble_eq_true rfl⟩) (w_preS hC hP hS) rfl rfl hl.1 rfl (lv_room (Nat.le_of_ble_eq_true rfl)) dL_point_98 ⟨Nat.le_of_ble_eq_true rfl, Nat.le_of_ble_eq_true rfl⟩) hS (fun r_2 ad1 w1 H locs hq hP hS => ?_)
    obtain ⟨S2, h81, h82, h83⟩ := hq
    cases h82
    cases h81
    subst h83
    refine w_top (v := heO σ k) rfl ?_
    refine lv_istore (lv' := [(5, .int (heO σ k)), (4, .int (vaO σ k)), (3, .int (nI (stO σ k))), (0, .ref (ad 4 0)), (1, .ref (ad 26 0)), (2, .int (nI k))]) hx hb dL_point_101 hl (by decide) rfl (fun ls hl => ?_)
    refine lv_aload_n hx hb dL_point_103 rfl (lv_at hl 3 rfl) ?_
    refine lv_iload_n hx hb dL_point_104 rfl (lv_at hl 5 rfl) ?_
    refine w_calli (vx_runSW (As := [.ref (ad 4 0), .int (nI k)]) (rest := []) ⟨hx, hb, hml, hown, hts⟩ (c0_L_standing l hns D B ad g σ (tW D ad (g2, σ2) (lW D 4 μ)) 0 hI k hk) (vx_cwSW 2 hts gL_point_L_standing rfl rfl rfl (by decide +kernel) ⟨Nat.le_of_ble_eq_true rfl, Nat.le_of_ble_eq_true rfl⟩) (w_preS hC hP hS) rfl rfl hl.1 rfl (lv_room (Nat.le_of_ble_eq_true rfl)) dL_point_105 ⟨Nat.le_of_ble_eq_true rfl, Nat.le_of_ble_eq_true rfl⟩) hS (fun r_3 ad1 w1 H locs hq hP hS => ?_)
    obtain ⟨S2, h81, h82, h83⟩ := hq
    cases h82
    cases h81
    subst h83
    refine lv_iload_n hx hb dL_point_108 rfl (lv_at hl 2 rfl) ?_
    refine lv_icmp_ne (tgt := 152) hx hb dL_point_109 (by decide) (fun c_109 => ?_) (fun c_109 => ?_)
    · exact absurd rfl c_109
    · refine w_cut 155 0 0 (fun H locs ls => hw D B ad (eW D ad (g, σ) (g2, σ2) (lW D 4 μ)) H ∧ va_S (ab B) s.heap H locs ∧ lv_has ls 7 [(6, .int 1), (5, .int (heO σ k)), (4, .int (vaO σ k)), (3, .int (nI (stO σ k))), (0, .ref (ad 4 0)), (1, .ref (ad 26 0)), (2, .int (nI k))]) (fun H locs ls hJ => ?_) (fun Kx => ?_)
      · obtain ⟨hP, hS, hl⟩ := hJ
        refine lv_iload hx hb dL_point_155 (lv_at hl 0 rfl) ?_
        refine lv_if_eq (tgt := 189) hx hb dL_point_157 (by decide) (fun c_157 => ?_) (fun c_157 => ?_)
        · exact absurd c_157 (by decide)
        · refine w_cut 192 0 0 (fun H locs ls => hw D B ad (eW D ad (g, σ) (g2, σ2) (lW D 4 μ)) H ∧ va_S (ab B) s.heap H locs ∧ lv_has ls 7 [(6, .int 1), (5, .int (heO σ k)), (4, .int (vaO σ k)), (3, .int (nI (stO σ k))), (0, .ref (ad 4 0)), (1, .ref (ad 26 0)), (2, .int (nI k))]) (fun H locs ls hJ => ?_) (fun Ky => ?_)
          · obtain ⟨hP, hS, hl⟩ := hJ
            refine lv_iload hx hb dL_point_192 (lv_at hl 0 rfl) ?_
            refine lv_if_eq (tgt := 260) hx hb dL_point_194 (by decide) (fun c_194 => ?_) (fun c_194 => ?_)
            · exact absurd c_194 (by decide)
            · refine w_cut 225 0 0 (fun H locs ls => hw D B ad (eW D ad (g, σ) (g2, σ2) (lW D 4 μ)) H ∧ va_S (ab B) s.heap H locs ∧ lv_has ls 7 [(6, .int 1), (5, .int (heO σ k)), (4, .int (vaO σ k)), (3, .int (nI (stO σ k))), (0, .ref (ad 4 0)), (1, .ref (ad 26 0)), (2, .int (nI k))]) (fun H locs ls hJ => ?_) (fun Kz => ?_)
              · obtain ⟨hP, hS, hl⟩ := hJ
                refine w_cut 263 0 0 (fun H locs ls => hw D B ad (eW D ad (g, σ) (g2, σ2) (lW D 4 μ)) H ∧ va_S (ab B) s.heap H locs ∧ lv_has ls 7 [(6, .int 1), (5, .int (heO σ k)), (4, .int (vaO σ k)), (3, .int (nI (stO σ k))), (0, .ref (ad 4 0)), (1, .ref (ad 26 0)), (2, .int (nI k))]) (fun H locs ls hJ => ?_) (fun Kw => ?_)
                · obtain ⟨hP, hS, hl⟩ := hJ
                  refine lv_iload hx hb dL_point_263 (lv_at hl 0 rfl) ?_
                  refine lv_if_eq (tgt := 295) hx hb dL_point_265 (by decide) (fun c_265 => ?_) (fun c_265 => ?_)
                  · exact absurd c_265 (by decide)
                  · refine lv_aload_n hx hb dL_point_268 rfl (lv_at hl 4 rfl) ?_
                    refine lv_iload_n hx hb dL_point_269 rfl (lv_at hl 6 rfl) ?_
                    refine lv_iconst (v := 0) hx hb dL_point_270 (by decide) ?_
                    refine w_calli (vx_runSW (As := [.ref (ad 4 0), .int (nI k), .int 0]) (rest := []) ⟨hx, hb, hml, hown, hts⟩ (c_L_command l hns D B ad g σ (tW D ad (g2, σ2) (lW D 4 μ)) 0 hI (nI k) 0) (vx_cwSW 3 hts gL_point_L_command rfl rfl rfl (by decide +kernel) ⟨Nat.le_of_ble_eq_true rfl, Nat.le_of_ble_eq_true rfl⟩) (w_preS hC hP hS) rfl rfl hl.1 rfl (lv_room (Nat.le_of_ble_eq_true rfl)) dL_point_271 ⟨Nat.le_of_ble_eq_true rfl, Nat.le_of_ble_eq_true rfl⟩) hS (fun r_4 ad1 w1 H locs hq hP hS => ?_)
                    obtain ⟨S2, h81, h82, h83⟩ := hq
                    cases h82
                    cases h81
                    subst h83
                    refine w_top (v := (-1000002)) (com_bad J hk (fun z => absurd z.1 (by decide))) ?_
                    refine lv_ldc (v := (-1000002)) hx hb hown (hts (.constant RL 18 (-1000002)) (by decide +kernel)) dL_point_274 ?_
                    refine lv_icmp_ne (tgt := 295) hx hb dL_point_276 (by decide) (fun c_276 => ?_) (fun c_276 => ?_)
                    · exact absurd rfl c_276
                    · refine lv_aload_n hx hb dL_point_279 rfl (lv_at hl 4 rfl) ?_
                      refine lv_iload_n hx hb dL_point_280 rfl (lv_at hl 6 rfl) ?_
                      refine lv_bipush (v := (17)) hx hb dL_point_281 (by decide) ?_
                      refine w_calli (vx_runSW (As := [.ref (ad 4 0), .int (nI k), .int 17]) (rest := []) ⟨hx, hb, hml, hown, hts⟩ (c_L_command l hns D B ad g σ (tW D ad (g2, σ2) (lW D 4 μ)) 0 hI (nI k) 17) (vx_cwSW 3 hts gL_point_L_command rfl rfl rfl (by decide +kernel) ⟨Nat.le_of_ble_eq_true rfl, Nat.le_of_ble_eq_true rfl⟩) (w_preS hC hP hS) rfl rfl hl.1 rfl (lv_room (Nat.le_of_ble_eq_true rfl)) dL_point_283 ⟨Nat.le_of_ble_eq_true rfl, Nat.le_of_ble_eq_true rfl⟩) hS (fun r_5 ad1 w1 H locs hq hP hS => ?_)
                      obtain ⟨S2, h81, h82, h83⟩ := hq
                      cases h82
                      cases h81
                      subst h83
                      refine w_top (v := (-1000002)) (com_bad J hk (fun z => absurd z.2 (by decide))) ?_
                      refine lv_ldc (v := (-1000002)) hx hb hown (hts (.constant RL 18 (-1000002)) (by decide +kernel)) dL_point_286 ?_
                      refine lv_icmp_ne (tgt := 295) hx hb dL_point_288 (by decide) (fun c_288 => ?_) (fun c_288 => ?_)
                      · exact absurd rfl c_288
                      · refine lv_iconst (v := 1) hx hb dL_point_291 (by decide) ?_
                        refine lv_goto (tgt := 296) hx hb dL_point_292 (by decide) ?_
                        exact W.zret (v := 1) hx hb hr rfl (fun t ht hW => Qi_of ⟨rfl, rfl⟩ hP hS ht) hS.2.2 dL_point_296
                · refine lv_iload hx hb dL_point_225 (lv_at hl 1 rfl) ?_
                  refine lv_if_eq (tgt := 256) hx hb dL_point_227 (by decide) (fun c_227 => ?_) (fun c_227 => ?_)
                  · refine lv_iconst (v := 1) hx hb dL_point_256 (by decide) ?_
                    refine lv_goto (tgt := 261) hx hb dL_point_257 (by decide) ?_
                    refine lv_istore (lv' := [(6, .int 1), (5, .int (heO σ k)), (4, .int (vaO σ k)), (3, .int (nI (stO σ k))), (0, .ref (ad 4 0)), (1, .ref (ad 26 0)), (2, .int (nI k))]) hx hb dL_point_261 hl (by decide) rfl (fun ls hl => ?_)
                    exact Kw _ _ _ ⟨hP, hS, lv_sub hl [0, 1, 2, 3, 4, 5, 6] rfl⟩
                  · refine lv_aload_n hx hb dL_point_230 rfl (lv_at hl 4 rfl) ?_
                    refine lv_iload_n hx hb dL_point_231 rfl (lv_at hl 6 rfl) ?_
                    refine lv_bipush (v := (6)) hx hb dL_point_232 (by decide) ?_
                    refine w_calli (vx_runSW (As := [.ref (ad 4 0), .int (nI k), .int 6]) (rest := []) ⟨hx, hb, hml, hown, hts⟩ (c0_L_command l hns D B ad g σ (tW D ad (g2, σ2) (lW D 4 μ)) 0 hI k hk 6 (by decide) (by decide)) (vx_cwSW 3 hts gL_point_L_command rfl rfl rfl (by decide +kernel) ⟨Nat.le_of_ble_eq_true rfl, Nat.le_of_ble_eq_true rfl⟩) (w_preS hC hP hS) rfl rfl hl.1 rfl (lv_room (Nat.le_of_ble_eq_true rfl)) dL_point_234 ⟨Nat.le_of_ble_eq_true rfl, Nat.le_of_ble_eq_true rfl⟩) hS (fun r_6 ad1 w1 H locs hq hP hS => ?_)
                    obtain ⟨S2, h81, h82, h83⟩ := hq
                    cases h82
                    cases h81
                    subst h83
                    refine lv_ldc (v := (-100000)) hx hb hown (hts (.constant RL 107 (-100000)) (by decide +kernel)) dL_point_237 ?_
                    refine w_top (v := nth) rfl ?_
                    refine lv_icmp_eq (tgt := 260) hx hb dL_point_239 (by decide) (fun c_239 => ?_) (fun c_239 => ?_)
                    · exact absurd c_239 (he_6 J hk c_227).1
                    · refine lv_iload_n hx hb dL_point_242 rfl (lv_at hl 3 rfl) ?_
                      refine lv_bipush (v := (7)) hx hb dL_point_243 (by decide) ?_
                      refine lv_icmp_ge (tgt := 260) hx hb dL_point_245 (by decide) (fun c_245 => ?_) (fun c_245 => ?_)
                      · exact absurd c_245 (st_nle (he_6 J hk c_227).1)
                      · refine lv_aload_n hx hb dL_point_248 rfl (lv_at hl 4 rfl) ?_
                        refine lv_iload_n hx hb dL_point_249 rfl (lv_at hl 6 rfl) ?_
                        refine w_calli (vx_runSW (As := [.ref (ad 4 0), .int (nI k)]) (rest := []) ⟨hx, hb, hml, hown, hts⟩ (c0_L_changes l hns D B ad g σ (tW D ad (g2, σ2) (lW D 4 μ)) 0 hI k hk) (vx_cwSW 2 hts gL_point_L_changes rfl rfl rfl (by decide +kernel) ⟨Nat.le_of_ble_eq_true rfl, Nat.le_of_ble_eq_true rfl⟩) (w_preS hC hP hS) rfl rfl hl.1 rfl (lv_room (Nat.le_of_ble_eq_true rfl)) dL_point_250 ⟨Nat.le_of_ble_eq_true rfl, Nat.le_of_ble_eq_true rfl⟩) hS (fun r_7 ad1 w1 H locs hq hP hS => ?_)
                        obtain ⟨S2, h81, h82, h83⟩ := hq
                        cases h82
                        cases h81
                        subst h83
                        refine lv_if_le (tgt := 260) hx hb dL_point_253 (by decide) (fun c_253 => ?_) (fun c_253 => ?_)
                        · exact absurd c_253 (he_6 J hk c_227).2
                        · refine lv_iconst (v := 1) hx hb dL_point_256 (by decide) ?_
                          refine lv_goto (tgt := 261) hx hb dL_point_257 (by decide) ?_
                          refine lv_istore (lv' := [(6, .int 1), (5, .int (heO σ k)), (4, .int (vaO σ k)), (3, .int (nI (stO σ k))), (0, .ref (ad 4 0)), (1, .ref (ad 26 0)), (2, .int (nI k))]) hx hb dL_point_261 hl (by decide) rfl (fun ls hl => ?_)
                          exact Kw _ _ _ ⟨hP, hS, lv_sub hl [0, 1, 2, 3, 4, 5, 6] rfl⟩
              · refine lv_aload_n hx hb dL_point_197 rfl (lv_at hl 5 rfl) ?_
                refine lv_bipush (v := (16)) hx hb dL_point_198 (by decide) ?_
                refine lv_iload_n hx hb dL_point_200 rfl (lv_at hl 6 rfl) ?_
                refine lv_iadd hx hb dL_point_201 ?_
                refine w_top (v := nI (16 + k)) (nI_add 16 k) ?_
                refine w_ildN hx hb hC hP (eW_L (show 0 < 4 by decide)) (show 16 + k < 32 from by omega) (by decide) (v := μ 0 0 (16 + k)) rfl dL_point_202 ?_
                refine lv_if_le (tgt := 220) hx hb dL_point_203 (by decide) (fun c_203 => ?_) (fun c_203 => ?_)
                · refine lv_iload hx hb dL_point_220 (lv_at hl 1 rfl) ?_
                  refine lv_if_ne (tgt := 260) hx hb dL_point_222 (by decide) (fun c_222 => ?_) (fun c_222 => ?_)
                  · exact absurd (he_z J hk c_203) c_222
                  · exact Kz _ _ _ ⟨hP, hS, lv_sub hl [0, 1, 2, 3, 4, 5, 6] rfl⟩
                · refine lv_iload hx hb dL_point_206 (lv_at hl 1 rfl) ?_
                  refine lv_aload_n hx hb dL_point_208 rfl (lv_at hl 5 rfl) ?_
                  refine lv_bipush (v := (16)) hx hb dL_point_209 (by decide) ?_
                  refine lv_iload_n hx hb dL_point_211 rfl (lv_at hl 6 rfl) ?_
                  refine lv_iadd hx hb dL_point_212 ?_
                  refine w_top (v := nI (16 + k)) (nI_add 16 k) ?_
                  refine w_ildN hx hb hC hP (eW_L (show 0 < 4 by decide)) (show 16 + k < 32 from by omega) (by decide) (v := μ 0 0 (16 + k)) rfl dL_point_213 ?_
                  refine lv_icmp_gt (tgt := 260) hx hb dL_point_214 (by decide) (fun c_214 => ?_) (fun c_214 => ?_)
                  · exact absurd c_214 (he_le J hk c_203)
                  · refine lv_goto (tgt := 225) hx hb dL_point_217 (by decide) ?_
                    exact Kz _ _ _ ⟨hP, hS, lv_sub hl [0, 1, 2, 3, 4, 5, 6] rfl⟩
          · refine lv_aload_n hx hb dL_point_160 rfl (lv_at hl 5 rfl) ?_
            refine lv_bipush (v := (16)) hx hb dL_point_161 (by decide) ?_
            refine lv_iload_n hx hb dL_point_163 rfl (lv_at hl 6 rfl) ?_
            refine lv_iadd hx hb dL_point_164 ?_
            refine w_top (v := nI (16 + k)) (nI_add 16 k) ?_
            refine w_ildN hx hb hC hP (eW_L (show 0 < 4 by decide)) (show 16 + k < 32 from by omega) (by decide) (v := μ 0 0 (16 + k)) rfl dL_point_165 ?_
            refine lv_if_lt (tgt := 185) hx hb dL_point_166 (by decide) (fun c_166 => ?_) (fun c_166 => ?_)
            · refine lv_iconst (v := 1) hx hb dL_point_185 (by decide) ?_
              refine lv_goto (tgt := 190) hx hb dL_point_186 (by decide) ?_
              refine lv_istore (lv' := [(6, .int 1), (5, .int (heO σ k)), (4, .int (vaO σ k)), (3, .int (nI (stO σ k))), (0, .ref (ad 4 0)), (1, .ref (ad 26 0)), (2, .int (nI k))]) hx hb dL_point_190 hl (by decide) rfl (fun ls hl => ?_)
              exact Ky _ _ _ ⟨hP, hS, lv_sub hl [0, 1, 2, 3, 4, 5, 6] rfl⟩
            · refine lv_iload hx hb dL_point_169 (lv_at hl 2 rfl) ?_
              refine lv_aload_n hx hb dL_point_171 rfl (lv_at hl 5 rfl) ?_
              refine lv_iload_n hx hb dL_point_172 rfl (lv_at hl 6 rfl) ?_
              refine w_ildN hx hb hC hP (eW_L (show 0 < 4 by decide)) (show k < 32 from by omega) (by decide) (v := μ 0 0 k) rfl dL_point_173 ?_
              refine lv_aload_n hx hb dL_point_174 rfl (lv_at hl 4 rfl) ?_
              refine lv_iload_n hx hb dL_point_175 rfl (lv_at hl 6 rfl) ?_
              refine w_calli (vx_runSW (As := [.ref (ad 4 0), .int (nI k)]) (rest := [.int (μ 0 0 k), .int (vaO σ k)]) ⟨hx, hb, hml, hown, hts⟩ (c0_L_changes l hns D B ad g σ (tW D ad (g2, σ2) (lW D 4 μ)) 0 hI k hk) (vx_cwSW 2 hts gL_point_L_changes rfl rfl rfl (by decide +kernel) ⟨Nat.le_of_ble_eq_true rfl, Nat.le_of_ble_eq_true rfl⟩) (w_preS hC hP hS) rfl rfl hl.1 rfl (lv_room (Nat.le_of_ble_eq_true rfl)) dL_point_176 ⟨Nat.le_of_ble_eq_true rfl, Nat.le_of_ble_eq_true rfl⟩) hS (fun r_8 ad1 w1 H locs hq hP hS => ?_)
              obtain ⟨S2, h81, h82, h83⟩ := hq
              cases h82
              cases h81
              subst h83
              refine lv_iadd hx hb dL_point_179 ?_
              refine lv_iconst (v := 2) hx hb dL_point_180 (by decide) ?_
              refine lv_irem hx hb dL_point_181 (by decide) ?_
              refine w_top (v := remF ((μ 0 0 k) + (σ 5 k 0)) 2) rfl ?_
              refine lv_icmp_ne (tgt := 189) hx hb dL_point_182 (by decide) (fun c_182 => ?_) (fun c_182 => ?_)
              · exact absurd (pt_par J hk c_166) c_182
              · refine lv_iconst (v := 1) hx hb dL_point_185 (by decide) ?_
                refine lv_goto (tgt := 190) hx hb dL_point_186 (by decide) ?_
                refine lv_istore (lv' := [(6, .int 1), (5, .int (heO σ k)), (4, .int (vaO σ k)), (3, .int (nI (stO σ k))), (0, .ref (ad 4 0)), (1, .ref (ad 26 0)), (2, .int (nI k))]) hx hb dL_point_190 hl (by decide) rfl (fun ls hl => ?_)
                exact Ky _ _ _ ⟨hP, hS, lv_sub hl [0, 1, 2, 3, 4, 5, 6] rfl⟩
      · refine lv_iload hx hb dL_point_112 (lv_at hl 1 rfl) ?_
        refine lv_iload_n hx hb dL_point_114 rfl (lv_at hl 2 rfl) ?_
        refine lv_bipush (v := (17)) hx hb dL_point_115 (by decide) ?_
        refine lv_icmp_ne (tgt := 126) hx hb dL_point_117 (by decide) (fun c_117 => ?_) (fun c_117 => ?_)
        · have hs := st_ne c_117
          refine lv_aload_n hx hb dL_point_126 rfl (lv_at hl 3 rfl) ?_
          refine lv_iload_n hx hb dL_point_127 rfl (lv_at hl 5 rfl) ?_
          refine lv_iload_n hx hb dL_point_128 rfl (lv_at hl 2 rfl) ?_
          refine w_calli (vx_runSW (As := [.ref (ad 4 0), .int (nI k), .int (nI (stO σ k))]) (rest := [.int (vaO σ k)]) ⟨hx, hb, hml, hown, hts⟩ (c0_L_command l hns D B ad g σ (tW D ad (g2, σ2) (lW D 4 μ)) 0 hI k hk (stO σ k) (stO_le σ k).2 (by omega)) (vx_cwSW 3 hts gL_point_L_command rfl rfl rfl (by decide +kernel) ⟨Nat.le_of_ble_eq_true rfl, Nat.le_of_ble_eq_true rfl⟩) (w_preS hC hP hS) rfl rfl hl.1 rfl (lv_room (Nat.le_of_ble_eq_true rfl)) dL_point_129 ⟨Nat.le_of_ble_eq_true rfl, Nat.le_of_ble_eq_true rfl⟩) hS (fun r_9 ad1 w1 H locs hq hP hS => ?_)
          obtain ⟨S2, h81, h82, h83⟩ := hq
          cases h82
          cases h81
          subst h83
          refine lv_icmp_ne (tgt := 152) hx hb dL_point_132 (by decide) (fun c_132 => ?_) (fun c_132 => ?_)
          · exact absurd (va_st hs) c_132
          · refine lv_aload_n hx hb dL_point_135 rfl (lv_at hl 3 rfl) ?_
            refine lv_iload_n hx hb dL_point_136 rfl (lv_at hl 5 rfl) ?_
            refine w_calli (vx_runSW (As := [.ref (ad 4 0), .int (nI k)]) (rest := []) ⟨hx, hb, hml, hown, hts⟩ (c0_L_changes l hns D B ad g σ (tW D ad (g2, σ2) (lW D 4 μ)) 0 hI k hk) (vx_cwSW 2 hts gL_point_L_changes rfl rfl rfl (by decide +kernel) ⟨Nat.le_of_ble_eq_true rfl, Nat.le_of_ble_eq_true rfl⟩) (w_preS hC hP hS) rfl rfl hl.1 rfl (lv_room (Nat.le_of_ble_eq_true rfl)) dL_point_137 ⟨Nat.le_of_ble_eq_true rfl, Nat.le_of_ble_eq_true rfl⟩) hS (fun r_10 ad1 w1 H locs hq hP hS => ?_)
            obtain ⟨S2, h81, h82, h83⟩ := hq
            cases h82
            cases h81
            subst h83
            refine lv_if_lt (tgt := 152) hx hb dL_point_140 (by decide) (fun c_140 => ?_) (fun c_140 => ?_)
            · exact absurd c_140 (ch_0 J hk)
            · refine lv_iload hx hb dL_point_143 (lv_at hl 0 rfl) ?_
              refine lv_if_lt (tgt := 152) hx hb dL_point_145 (by decide) (fun c_145 => ?_) (fun c_145 => ?_)
              · exact absurd c_145 (he_0 J hk)
              · refine lv_iconst (v := 1) hx hb dL_point_148 (by decide) ?_
                refine lv_goto (tgt := 153) hx hb dL_point_149 (by decide) ?_
                refine lv_istore (lv' := [(6, .int 1), (5, .int (heO σ k)), (4, .int (vaO σ k)), (3, .int (nI (stO σ k))), (0, .ref (ad 4 0)), (1, .ref (ad 26 0)), (2, .int (nI k))]) hx hb dL_point_153 hl (by decide) rfl (fun ls hl => ?_)
                exact Kx _ _ _ ⟨hP, hS, lv_sub hl [0, 1, 2, 3, 4, 5, 6] rfl⟩
        · have hs := st_eq c_117
          refine lv_aload_n hx hb dL_point_120 rfl (lv_at hl 4 rfl) ?_
          refine lv_iload_n hx hb dL_point_121 rfl (lv_at hl 5 rfl) ?_
          refine w_ildN hx hb hC hP (eW_L (show 0 < 4 by decide)) (show k < 32 from by omega) (by decide) (v := μ 0 0 k) rfl dL_point_122 ?_
          refine lv_goto (tgt := 132) hx hb dL_point_123 (by decide) ?_
          refine lv_icmp_ne (tgt := 152) hx hb dL_point_132 (by decide) (fun c_132 => ?_) (fun c_132 => ?_)
          · exact absurd ((va_17 hs).trans (pt_d J hk).symm) c_132
          · refine lv_aload_n hx hb dL_point_135 rfl (lv_at hl 3 rfl) ?_
            refine lv_iload_n hx hb dL_point_136 rfl (lv_at hl 5 rfl) ?_
            refine w_calli (vx_runSW (As := [.ref (ad 4 0), .int (nI k)]) (rest := []) ⟨hx, hb, hml, hown, hts⟩ (c0_L_changes l hns D B ad g σ (tW D ad (g2, σ2) (lW D 4 μ)) 0 hI k hk) (vx_cwSW 2 hts gL_point_L_changes rfl rfl rfl (by decide +kernel) ⟨Nat.le_of_ble_eq_true rfl, Nat.le_of_ble_eq_true rfl⟩) (w_preS hC hP hS) rfl rfl hl.1 rfl (lv_room (Nat.le_of_ble_eq_true rfl)) dL_point_137 ⟨Nat.le_of_ble_eq_true rfl, Nat.le_of_ble_eq_true rfl⟩) hS (fun r_11 ad1 w1 H locs hq hP hS => ?_)
            obtain ⟨S2, h81, h82, h83⟩ := hq
            cases h82
            cases h81
            subst h83
            refine lv_if_lt (tgt := 152) hx hb dL_point_140 (by decide) (fun c_140 => ?_) (fun c_140 => ?_)
            · exact absurd c_140 (ch_0 J hk)
            · refine lv_iload hx hb dL_point_143 (lv_at hl 0 rfl) ?_
              refine lv_if_lt (tgt := 152) hx hb dL_point_145 (by decide) (fun c_145 => ?_) (fun c_145 => ?_)
              · exact absurd c_145 (he_0 J hk)
              · refine lv_iconst (v := 1) hx hb dL_point_148 (by decide) ?_
                refine lv_goto (tgt := 153) hx hb dL_point_149 (by decide) ?_
                refine lv_istore (lv' := [(6, .int 1), (5, .int (heO σ k)), (4, .int (vaO σ k)), (3, .int (nI (stO σ k))), (0, .ref (ad 4 0)), (1, .ref (ad 26 0)), (2, .int (nI k))]) hx hb dL_point_153 hl (by decide) rfl (fun ls hl => ?_)
                exact Kx _ _ _ ⟨hP, hS, lv_sub hl [0, 1, 2, 3, 4, 5, 6] rfl⟩
  · obtain ⟨n8, rfl⟩ : ∃ n8, na = n8 + 1 := ⟨na - 1, by have : ¬ na = 0 := fun z => c_9 (by rw [z]; decide); omega⟩
    refine lv_aload_n hx hb dL_point_12 rfl (lv_at hl 2 rfl) ?_
    refine lv_iload_n hx hb dL_point_13 rfl (lv_at hl 4 rfl) ?_
    refine lv_iload hx hb dL_point_14 (lv_at hl 0 rfl) ?_
    refine w_calli (vx_runSW (As := [.ref (ad 4 0), .int (nI k), .int (nI (n8 + 1))]) (rest := []) ⟨hx, hb, hml, hown, hts⟩ (c0_L_command l hns D B ad g σ (tW D ad (g2, σ2) (lW D 4 μ)) 0 hI k hk (n8 + 1) (by omega) (by omega)) (vx_cwSW 3 hts gL_point_L_command rfl rfl rfl (by decide +kernel) ⟨Nat.le_of_ble_eq_true rfl, Nat.le_of_ble_eq_true rfl⟩) (w_preS hC hP hS) rfl rfl hl.1 rfl (lv_room (Nat.le_of_ble_eq_true rfl)) dL_point_16 ⟨Nat.le_of_ble_eq_true rfl, Nat.le_of_ble_eq_true rfl⟩) hS (fun r_12 ad1 w1 H locs hq hP hS => ?_)
    obtain ⟨S2, h81, h82, h83⟩ := hq
    cases h82
    cases h81
    subst h83
    refine lv_istore (lv' := [(5, .int (σ 6 k (n8 + 1))), (4, .int (nI (n8 + 1))), (3, .int (nI (stF (σ 6 k) e (n8 + 1 + 1)))), (0, .ref (ad 4 0)), (1, .ref (ad 26 0)), (2, .int (nI k))]) hx hb dL_point_19 hl (by decide) rfl (fun ls hl => ?_)
    refine lv_iload hx hb dL_point_21 (lv_at hl 0 rfl) ?_
    refine lv_ldc (v := (-100000)) hx hb hown (hts (.constant RL 107 (-100000)) (by decide +kernel)) dL_point_23 ?_
    refine w_top (v := nth) rfl ?_
    refine lv_icmp_eq (tgt := 33) hx hb dL_point_25 (by decide) (fun c_25 => ?_) (fun c_25 => ?_)
    · refine lv_iload_n hx hb dL_point_33 rfl (lv_at hl 2 rfl) ?_
      refine lv_istore_n (lv' := [(3, .int (nI (stF (σ 6 k) e (n8 + 1 + 1)))), (5, .int (σ 6 k (n8 + 1))), (4, .int (nI (n8 + 1))), (0, .ref (ad 4 0)), (1, .ref (ad 26 0)), (2, .int (nI k))]) hx hb dL_point_34 rfl hl (by decide) rfl (fun ls hl => ?_)
      refine lv_iload hx hb dL_point_35 (lv_at hl 1 rfl) ?_
      refine lv_ldc (v := (-100000)) hx hb hown (hts (.constant RL 107 (-100000)) (by decide +kernel)) dL_point_37 ?_
      refine w_top (v := nth) rfl ?_
      refine lv_icmp_eq (tgt := 83) hx hb dL_point_39 (by decide) (fun c_39 => ?_) (fun c_39 => ?_)
      · refine lv_iinc (v := nI n8) (lv' := [(4, .int (nI n8)), (3, .int (nI (stF (σ 6 k) e (n8 + 1 + 1)))), (5, .int (σ 6 k (n8 + 1))), (0, .ref (ad 4 0)), (1, .ref (ad 26 0)), (2, .int (nI k))]) hx hb dL_point_83 hl (k := 2) rfl (pk_m1 n8) (by decide) rfl (fun ls hl => ?_)
        refine lv_goto (tgt := 7) hx hb dL_point_86 (by decide) ?_
        exact iha n8 _ _ _ (by omega) ⟨e + 1, by omega, hP, hS, (by rw [show stF (σ 6 k) (e + 1) (n8 + 1) = stF (σ 6 k) e (n8 + 1 + 1) from if_pos c_25]; exact lv_sub hl [0, 1, 3, 4, 5] rfl)⟩
      · exact absurd c_25 c_39
    · refine lv_iload hx hb dL_point_28 (lv_at hl 1 rfl) ?_
      refine lv_goto (tgt := 34) hx hb dL_point_30 (by decide) ?_
      refine lv_istore_n (lv' := [(3, .int (nI (n8 + 1))), (5, .int (σ 6 k (n8 + 1))), (4, .int (nI (n8 + 1))), (0, .ref (ad 4 0)), (1, .ref (ad 26 0)), (2, .int (nI k))]) hx hb dL_point_34 rfl hl (by decide) rfl (fun ls hl => ?_)
      refine lv_iload hx hb dL_point_35 (lv_at hl 1 rfl) ?_
      refine lv_ldc (v := (-100000)) hx hb hown (hts (.constant RL 107 (-100000)) (by decide +kernel)) dL_point_37 ?_
      refine w_top (v := nth) rfl ?_
      refine lv_icmp_eq (tgt := 83) hx hb dL_point_39 (by decide) (fun c_39 => ?_) (fun c_39 => ?_)
      · exact absurd c_39 c_25
      · refine lv_aload_n hx hb dL_point_42 rfl (lv_at hl 4 rfl) ?_
        refine lv_bipush (v := (16)) hx hb dL_point_43 (by decide) ?_
        refine lv_iload_n hx hb dL_point_45 rfl (lv_at hl 5 rfl) ?_
        refine lv_iadd hx hb dL_point_46 ?_
        refine w_top (v := nI (16 + k)) (nI_add 16 k) ?_
        refine w_ildN hx hb hC hP (eW_L (show 0 < 4 by decide)) (show 16 + k < 32 from by omega) (by decide) (v := μ 0 0 (16 + k)) rfl dL_point_47 ?_
        refine lv_if_ge (tgt := 70) hx hb dL_point_48 (by decide) (fun c_48 => ?_) (fun c_48 => ?_)
        · have h1 := (pt_ge J hk c_48).1
          have hsw := sw_in (its_in J hk (by omega) c_25) h1
          refine lv_iload hx hb dL_point_70 (lv_at hl 1 rfl) ?_
          refine lv_if_lt (tgt := 81) hx hb dL_point_72 (by decide) (fun c_72 => ?_) (fun c_72 => ?_)
          · exact absurd c_72 hsw.1
          · refine lv_iload hx hb dL_point_75 (lv_at hl 1 rfl) ?_
            refine lv_iconst (v := 1) hx hb dL_point_77 (by decide) ?_
            refine lv_icmp_le (tgt := 83) hx hb dL_point_78 (by decide) (fun c_78 => ?_) (fun c_78 => ?_)
            · refine lv_iinc (v := nI n8) (lv' := [(4, .int (nI n8)), (3, .int (nI (n8 + 1))), (5, .int (σ 6 k (n8 + 1))), (0, .ref (ad 4 0)), (1, .ref (ad 26 0)), (2, .int (nI k))]) hx hb dL_point_83 hl (k := 2) rfl (pk_m1 n8) (by decide) rfl (fun ls hl => ?_)
              refine lv_goto (tgt := 7) hx hb dL_point_86 (by decide) ?_
              exact iha n8 _ _ _ (by omega) ⟨e + 1, by omega, hP, hS, (by rw [show stF (σ 6 k) (e + 1) (n8 + 1) = n8 + 1 from if_neg c_25]; exact lv_sub hl [0, 1, 3, 4, 5] rfl)⟩
            · exact absurd hsw.2 c_78
        · have h1 := pt_lt J hk c_48
          have hme := me_in (its_in J hk (by omega) c_25) h1
          refine lv_iload hx hb dL_point_51 (lv_at hl 1 rfl) ?_
          refine lv_sipush (v := (-1000)) hx hb dL_point_53 (by decide) ?_
          refine lv_icmp_lt (tgt := 81) hx hb dL_point_56 (by decide) (fun c_56 => ?_) (fun c_56 => ?_)
          · exact absurd c_56 hme.1
          · refine lv_iload hx hb dL_point_59 (lv_at hl 1 rfl) ?_
            refine lv_sipush (v := (1000)) hx hb dL_point_61 (by decide) ?_
            refine lv_icmp_le (tgt := 83) hx hb dL_point_64 (by decide) (fun c_64 => ?_) (fun c_64 => ?_)
            · refine lv_iinc (v := nI n8) (lv' := [(4, .int (nI n8)), (3, .int (nI (n8 + 1))), (5, .int (σ 6 k (n8 + 1))), (0, .ref (ad 4 0)), (1, .ref (ad 26 0)), (2, .int (nI k))]) hx hb dL_point_83 hl (k := 2) rfl (pk_m1 n8) (by decide) rfl (fun ls hl => ?_)
              refine lv_goto (tgt := 7) hx hb dL_point_86 (by decide) ?_
              exact iha n8 _ _ _ (by omega) ⟨e + 1, by omega, hP, hS, (by rw [show stF (σ 6 k) (e + 1) (n8 + 1) = n8 + 1 from if_neg c_25]; exact lv_sub hl [0, 1, 3, 4, 5] rfl)⟩
            · exact absurd hme.2 c_64
set_option maxHeartbeats 4000000 in
set_option maxRecDepth 100000 in
theorem c_L_subscription (l : Launch) (hns : l.stackTraces = false) (D : va_G) (B : Nat) (ad : Ad) (g : GC) (σ μ : Me) (g2 : GC) (σ2 : Me) (t N : Nat) (J : Jt t N g σ μ) (q : Nat) (hs : q < g.2.1) : Met l yL_subscription wsL_subscription ({ frames := 3, cells := 0, slots := 0, locals := 64 }) (Pre D B ad (eW D ad (g, σ) (g2, σ2) (lW D 4 μ)) [.ref (ad 4 0), .ref (ad 26 1), .int (nI q)]) (Qi D B (fun r u => u = (ad, eW D ad (g, σ) (g2, σ2) (lW D 4 μ)) ∧ r = 1)) 0 0 (ab B) := by
  refine Met.ofW (cc := cL_subscription) (maxL := 5) (ret := (some .boolean)) (by decide) rfl ?_
  intro p e s m args below meth c s₁ Bd hml hv
  obtain ⟨rfl, hC, hP⟩ := hv
  have hx := Bd.exec
  have hb := Bd.bytes
  have hr := Bd.returns
  have hts := atoms_spec (ws := wsL_subscription) Bd.pre
  have hown : s.vm.findClass RL = some m.cls := findClass_of_methodNamed Bd.named
  have hlocks := Bd.notSynchronized
  have hS : va_S (ab B) s.heap s.heap [] := va_S.rf
  have hl := lv_entry ([.ref (ad 4 0), .ref (ad 26 1), .int (nI q)]) (n := 5) (Nat.le_of_ble_eq_true rfl)
  rw [lg_entry_eq]
  generalize (lg_sl ([.ref (ad 4 0), .ref (ad 26 1), .int (nI q)]) ++ List.replicate (5 - (lg_sl ([.ref (ad 4 0), .ref (ad 26 1), .int (nI q)])).length) Slot.unset).toArray = ls at hl ⊢
  have hl : lv_has ls 5 [(0, .ref (ad 4 0)), (1, .ref (ad 26 1)), (2, .int (nI q))] := hl
  have hI := Jt_I J
  have g16 := hI.1
  have g30 := hI.2.1
  have g4 := hI.2.2.1
  obtain ⟨i, hi, e1, e8⟩ := su_8 J hs
  have hr9 := su_rep J hs hi e8
  have l21 := J.2.2.2.2.2.2.1
  refine lv_aload_n hx hb dL_subscription_0 rfl (lv_at hl 0 rfl) ?_
  refine lv_aload_n hx hb dL_subscription_1 rfl (lv_at hl 1 rfl) ?_
  refine lv_iconst (v := 3) hx hb dL_subscription_2 (by decide) ?_
  refine lv_iload_n hx hb dL_subscription_3 rfl (lv_at hl 2 rfl) ?_
  refine lv_imul hx hb dL_subscription_4 ?_
  refine w_top (v := nI (3 * q)) (pk_mul 3 q) ?_
  refine w_ildN hx hb hC hP (eW_L (show 1 < 4 by decide)) (show 3 * q < 64 from by omega) (by decide) (v := nI i) e1 dL_subscription_5 ?_
  refine w_calli (vx_runSW (As := [.ref (ad 4 0), .int (nI i)]) (rest := []) ⟨hx, hb, hml, hown, hts⟩ (c0_L_value l hns D B ad g σ (tW D ad (g2, σ2) (lW D 4 μ)) 0 hI i hi) (vx_cwSW 2 hts gL_subscription_L_value rfl rfl rfl (by decide +kernel) ⟨Nat.le_of_ble_eq_true rfl, Nat.le_of_ble_eq_true rfl⟩) (w_preS hC hP hS) rfl rfl hl.1 rfl (lv_room (Nat.le_of_ble_eq_true rfl)) dL_subscription_6 ⟨Nat.le_of_ble_eq_true rfl, Nat.le_of_ble_eq_true rfl⟩) hS (fun r_1 ad1 w1 H locs hq hP hS => ?_)
  obtain ⟨S2, h81, h82, h83⟩ := hq
  cases h82
  cases h81
  subst h83
  refine lv_aload_n hx hb dL_subscription_9 rfl (lv_at hl 0 rfl) ?_
  refine lv_iload_n hx hb dL_subscription_10 rfl (lv_at hl 2 rfl) ?_
  refine w_calli (vx_runSW (As := [.ref (ad 4 0), .int (nI q)]) (rest := [.int (vaO σ i)]) ⟨hx, hb, hml, hown, hts⟩ (c0_L_reported l hns D B ad g σ (tW D ad (g2, σ2) (lW D 4 μ)) 0 hI q hs) (vx_cwSW 2 hts gL_subscription_L_reported rfl rfl rfl (by decide +kernel) ⟨Nat.le_of_ble_eq_true rfl, Nat.le_of_ble_eq_true rfl⟩) (w_preS hC hP hS) rfl rfl hl.1 rfl (lv_room (Nat.le_of_ble_eq_true rfl)) dL_subscription_11 ⟨Nat.le_of_ble_eq_true rfl, Nat.le_of_ble_eq_true rfl⟩) hS (fun r_2 ad1 w1 H locs hq hP hS => ?_)
  obtain ⟨S2, h81, h82, h83⟩ := hq
  cases h82
  cases h81
  subst h83
  refine lv_isub hx hb dL_subscription_14 ?_
  refine lv_istore_n (lv' := [(3, .int ((vaO σ i) - (σ 13 q 0))), (0, .ref (ad 4 0)), (1, .ref (ad 26 1)), (2, .int (nI q))]) hx hb dL_subscription_15 rfl hl (by decide) rfl (fun ls hl => ?_)
  refine w_cut 68 0 0 (fun H locs ls => hw D B ad (eW D ad (g, σ) (g2, σ2) (lW D 4 μ)) H ∧ va_S (ab B) s.heap H locs ∧ lv_has ls 5 [(4, .int 1), (0, .ref (ad 4 0)), (1, .ref (ad 26 1)), (2, .int (nI q))]) (fun H locs ls hJ => ?_) (fun Kx => ?_)
  · obtain ⟨hP, hS, hl⟩ := hJ
    refine lv_iload hx hb dL_subscription_68 (lv_at hl 0 rfl) ?_
    refine lv_if_eq (tgt := 102) hx hb dL_subscription_70 (by decide) (fun c_70 => ?_) (fun c_70 => ?_)
    · exact absurd c_70 (by decide)
    · refine lv_aload_n hx hb dL_subscription_73 rfl (lv_at hl 1 rfl) ?_
      refine lv_iload_n hx hb dL_subscription_74 rfl (lv_at hl 3 rfl) ?_
      refine w_calli (vx_runSW (As := [.ref (ad 4 0), .int (nI q)]) (rest := []) ⟨hx, hb, hml, hown, hts⟩ (c0_L_reports l hns D B ad g σ (tW D ad (g2, σ2) (lW D 4 μ)) 0 hI q hs) (vx_cwSW 2 hts gL_subscription_L_reports rfl rfl rfl (by decide +kernel) ⟨Nat.le_of_ble_eq_true rfl, Nat.le_of_ble_eq_true rfl⟩) (w_preS hC hP hS) rfl rfl hl.1 rfl (lv_room (Nat.le_of_ble_eq_true rfl)) dL_subscription_75 ⟨Nat.le_of_ble_eq_true rfl, Nat.le_of_ble_eq_true rfl⟩) hS (fun r_3 ad1 w1 H locs hq hP hS => ?_)
      obtain ⟨S2, h81, h82, h83⟩ := hq
      cases h82
      cases h81
      subst h83
      refine lv_if_lt (tgt := 102) hx hb dL_subscription_78 (by decide) (fun c_78 => ?_) (fun c_78 => ?_)
      · exact absurd c_78 hr9.1
      · refine lv_aload_n hx hb dL_subscription_81 rfl (lv_at hl 1 rfl) ?_
        refine lv_iload_n hx hb dL_subscription_82 rfl (lv_at hl 3 rfl) ?_
        refine w_calli (vx_runSW (As := [.ref (ad 4 0), .int (nI q)]) (rest := []) ⟨hx, hb, hml, hown, hts⟩ (c0_L_reports l hns D B ad g σ (tW D ad (g2, σ2) (lW D 4 μ)) 0 hI q hs) (vx_cwSW 2 hts gL_subscription_L_reports rfl rfl rfl (by decide +kernel) ⟨Nat.le_of_ble_eq_true rfl, Nat.le_of_ble_eq_true rfl⟩) (w_preS hC hP hS) rfl rfl hl.1 rfl (lv_room (Nat.le_of_ble_eq_true rfl)) dL_subscription_83 ⟨Nat.le_of_ble_eq_true rfl, Nat.le_of_ble_eq_true rfl⟩) hS (fun r_4 ad1 w1 H locs hq hP hS => ?_)
        obtain ⟨S2, h81, h82, h83⟩ := hq
        cases h82
        cases h81
        subst h83
        refine lv_aload_n hx hb dL_subscription_86 rfl (lv_at hl 1 rfl) ?_
        refine lv_aload_n hx hb dL_subscription_87 rfl (lv_at hl 2 rfl) ?_
        refine lv_iconst (v := 3) hx hb dL_subscription_88 (by decide) ?_
        refine lv_iload_n hx hb dL_subscription_89 rfl (lv_at hl 3 rfl) ?_
        refine lv_imul hx hb dL_subscription_90 ?_
        refine w_top (v := nI (3 * q)) (pk_mul 3 q) ?_
        refine w_ildN hx hb hC hP (eW_L (show 1 < 4 by decide)) (show 3 * q < 64 from by omega) (by decide) (v := nI i) e1 dL_subscription_91 ?_
        refine w_calli (vx_runSW (As := [.ref (ad 4 0), .int (nI i)]) (rest := [.int (σ 12 q 0)]) ⟨hx, hb, hml, hown, hts⟩ (c0_L_changes l hns D B ad g σ (tW D ad (g2, σ2) (lW D 4 μ)) 0 hI i hi) (vx_cwSW 2 hts gL_subscription_L_changes rfl rfl rfl (by decide +kernel) ⟨Nat.le_of_ble_eq_true rfl, Nat.le_of_ble_eq_true rfl⟩) (w_preS hC hP hS) rfl rfl hl.1 rfl (lv_room (Nat.le_of_ble_eq_true rfl)) dL_subscription_92 ⟨Nat.le_of_ble_eq_true rfl, Nat.le_of_ble_eq_true rfl⟩) hS (fun r_5 ad1 w1 H locs hq hP hS => ?_)
        obtain ⟨S2, h81, h82, h83⟩ := hq
        cases h82
        cases h81
        subst h83
        refine lv_icmp_gt (tgt := 102) hx hb dL_subscription_95 (by decide) (fun c_95 => ?_) (fun c_95 => ?_)
        · exact absurd c_95 hr9.2
        · refine lv_iconst (v := 1) hx hb dL_subscription_98 (by decide) ?_
          refine lv_goto (tgt := 103) hx hb dL_subscription_99 (by decide) ?_
          exact W.zret (v := 1) hx hb hr rfl (fun t ht hW => Qi_of ⟨rfl, rfl⟩ hP hS ht) hS.2.2 dL_subscription_103
  · refine lv_aload_n hx hb dL_subscription_16 rfl (lv_at hl 1 rfl) ?_
    refine lv_iload_n hx hb dL_subscription_17 rfl (lv_at hl 3 rfl) ?_
    refine w_calli (vx_runSW (As := [.ref (ad 4 0), .int (nI q)]) (rest := []) ⟨hx, hb, hml, hown, hts⟩ (c0_L_goesOn l hns D B ad g σ (tW D ad (g2, σ2) (lW D 4 μ)) 0 hI q hs) (vx_cwSW 2 hts gL_subscription_L_goesOn rfl rfl rfl (by decide +kernel) ⟨Nat.le_of_ble_eq_true rfl, Nat.le_of_ble_eq_true rfl⟩) (w_preS hC hP hS) rfl rfl hl.1 rfl (lv_room (Nat.le_of_ble_eq_true rfl)) dL_subscription_18 ⟨Nat.le_of_ble_eq_true rfl, Nat.le_of_ble_eq_true rfl⟩) hS (fun r_6 ad1 w1 H locs hq hP hS => ?_)
    obtain ⟨S2, h81, h82, h83⟩ := hq
    cases h82
    cases h81
    subst h83
    refine lv_if_eq (tgt := 61) hx hb dL_subscription_21 (by decide) (fun c_21 => ?_) (fun c_21 => ?_)
    · refine lv_iconst (v := 1) hx hb dL_subscription_61 (by decide) ?_
      refine lv_goto (tgt := 66) hx hb dL_subscription_62 (by decide) ?_
      refine lv_istore (lv' := [(4, .int 1), (3, .int ((vaO σ i) - (σ 13 q 0))), (0, .ref (ad 4 0)), (1, .ref (ad 26 1)), (2, .int (nI q))]) hx hb dL_subscription_66 hl (by decide) rfl (fun ls hl => ?_)
      exact Kx _ _ _ ⟨hP, hS, lv_sub hl [0, 2, 3, 4] rfl⟩
    · have hf := su_far J hs hi e8 c_21
      refine lv_iload_n hx hb dL_subscription_24 rfl (lv_at hl 0 rfl) ?_
      refine lv_aload_n hx hb dL_subscription_25 rfl (lv_at hl 2 rfl) ?_
      refine lv_iconst (v := 3) hx hb dL_subscription_26 (by decide) ?_
      refine lv_iload_n hx hb dL_subscription_27 rfl (lv_at hl 3 rfl) ?_
      refine lv_imul hx hb dL_subscription_28 ?_
      refine w_top (v := nI (3 * q)) (pk_mul 3 q) ?_
      refine lv_iconst (v := 1) hx hb dL_subscription_29 (by decide) ?_
      refine lv_iadd hx hb dL_subscription_30 ?_
      refine w_top (v := nI ((3 * q) + 1)) (nI_add (3 * q) 1) ?_
      refine w_ildN hx hb hC hP (eW_L (show 1 < 4 by decide)) (show (3 * q) + 1 < 64 from by omega) (by decide) (v := μ 1 0 ((3 * q) + 1)) rfl dL_subscription_31 ?_
      refine lv_icmp_ge (tgt := 65) hx hb dL_subscription_32 (by decide) (fun c_32 => ?_) (fun c_32 => ?_)
      · exact absurd c_32 hf.1
      · refine lv_iload_n hx hb dL_subscription_35 rfl (lv_at hl 0 rfl) ?_
        refine lv_ineg hx hb dL_subscription_36 ?_
        refine lv_aload_n hx hb dL_subscription_37 rfl (lv_at hl 2 rfl) ?_
        refine lv_iconst (v := 3) hx hb dL_subscription_38 (by decide) ?_
        refine lv_iload_n hx hb dL_subscription_39 rfl (lv_at hl 3 rfl) ?_
        refine lv_imul hx hb dL_subscription_40 ?_
        refine w_top (v := nI (3 * q)) (pk_mul 3 q) ?_
        refine lv_iconst (v := 1) hx hb dL_subscription_41 (by decide) ?_
        refine lv_iadd hx hb dL_subscription_42 ?_
        refine w_top (v := nI ((3 * q) + 1)) (nI_add (3 * q) 1) ?_
        refine w_ildN hx hb hC hP (eW_L (show 1 < 4 by decide)) (show (3 * q) + 1 < 64 from by omega) (by decide) (v := μ 1 0 ((3 * q) + 1)) rfl dL_subscription_43 ?_
        refine lv_icmp_ge (tgt := 65) hx hb dL_subscription_44 (by decide) (fun c_44 => ?_) (fun c_44 => ?_)
        · exact absurd c_44 hf.2.1
        · refine lv_aload_n hx hb dL_subscription_47 rfl (lv_at hl 1 rfl) ?_
          refine w_calli (va_runV (As := []) (rest := []) ⟨hx, hb, hml, hown, hts⟩ (c_X4_clock l D B ad g σ (tW D ad (g2, σ2) (lW D 4 μ)) 0) (cwV 0 hts gL_subscription_X4_clock rfl rfl rfl (by decide +kernel) ⟨Nat.le_of_ble_eq_true rfl, Nat.le_of_ble_eq_true rfl⟩) (w_preV hC hP hS cW_4 rfl) rfl rfl hl.1 rfl (lv_room (Nat.le_of_ble_eq_true rfl)) dL_subscription_48 ⟨Nat.le_of_ble_eq_true rfl, Nat.le_of_ble_eq_true rfl⟩) hS (fun r_7 ad1 w1 H locs hq hP hS => ?_)
          obtain ⟨h81, h82⟩ := hq
          cases h81
          subst h82
          refine lv_aload_n hx hb dL_subscription_51 rfl (lv_at hl 2 rfl) ?_
          refine lv_iconst (v := 3) hx hb dL_subscription_52 (by decide) ?_
          refine lv_iload_n hx hb dL_subscription_53 rfl (lv_at hl 3 rfl) ?_
          refine lv_imul hx hb dL_subscription_54 ?_
          refine w_top (v := nI (3 * q)) (pk_mul 3 q) ?_
          refine lv_iconst (v := 2) hx hb dL_subscription_55 (by decide) ?_
          refine lv_iadd hx hb dL_subscription_56 ?_
          refine w_top (v := nI ((3 * q) + 2)) (nI_add (3 * q) 2) ?_
          refine w_ildN hx hb hC hP (eW_L (show 1 < 4 by decide)) (show (3 * q) + 2 < 64 from by omega) (by decide) (v := μ 1 0 ((3 * q) + 2)) rfl dL_subscription_57 ?_
          refine lv_icmp_ge (tgt := 65) hx hb dL_subscription_58 (by decide) (fun c_58 => ?_) (fun c_58 => ?_)
          · exact absurd c_58 hf.2.2
          · refine lv_iconst (v := 1) hx hb dL_subscription_61 (by decide) ?_
            refine lv_goto (tgt := 66) hx hb dL_subscription_62 (by decide) ?_
            refine lv_istore (lv' := [(4, .int 1), (3, .int ((vaO σ i) - (σ 13 q 0))), (0, .ref (ad 4 0)), (1, .ref (ad 26 1)), (2, .int (nI q))]) hx hb dL_subscription_66 hl (by decide) rfl (fun ls hl => ?_)
            exact Kx _ _ _ ⟨hP, hS, lv_sub hl [0, 2, 3, 4] rfl⟩
