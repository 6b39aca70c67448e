/-! p22: the law's check of all -/
set_option maxHeartbeats 4000000 in
set_option maxRecDepth 100000 in
theorem c_L_isSo (l : Launch) (hns : l.stackTraces = false) (D : va_G) (B : Nat) (ad : Ad) (g : GC) (σ μ : Me) (g2 : GC) (σ2 : Me) (t N : Nat) (J : Jt t N g σ μ) : Met l yL_isSo wsL_isSo ({ frames := 10, cells := 73, slots := 438, locals := 184 }) (Pre D B ad (eW D ad (g, σ) (g2, σ2) (lW D 4 μ)) [.ref (ad 4 0), .ref (ad 26 0), .ref (ad 26 1), .ref (ad 26 2), .ref (ad 26 3)]) (Qi D B (fun r u => u = (ad, eW D ad (g, σ) (g2, σ2) (lW D 4 μ)) ∧ r = 1)) 73 438 (ab B) := by
  refine Met.ofW (cc := cL_isSo) (maxL := 7) (ret := (some .boolean)) (by decide) rfl ?_
  intro p e s m args below meth c s₁ Bd hml hv
  obtain ⟨rfl, hC, hP⟩ := hv
  have hx := Bd.exec
  have hb := Bd.bytes
  have hr := Bd.returns
  have hts := atoms_spec (ws := wsL_isSo) Bd.pre
  have hown : s.vm.findClass RL = some m.cls := findClass_of_methodNamed Bd.named
  have hlocks := Bd.notSynchronized
  have hS : va_S (ab B) s.heap s.heap [] := va_S.rf
  have hl := lv_entry ([.ref (ad 4 0), .ref (ad 26 0), .ref (ad 26 1), .ref (ad 26 2), .ref (ad 26 3)]) (n := 7) (Nat.le_of_ble_eq_true rfl)
  rw [lg_entry_eq]
  generalize (lg_sl ([.ref (ad 4 0), .ref (ad 26 0), .ref (ad 26 1), .ref (ad 26 2), .ref (ad 26 3)]) ++ List.replicate (7 - (lg_sl ([.ref (ad 4 0), .ref (ad 26 0), .ref (ad 26 1), .ref (ad 26 2), .ref (ad 26 3)])).length) Slot.unset).toArray = ls at hl ⊢
  have hl : lv_has ls 7 [(0, .ref (ad 4 0)), (1, .ref (ad 26 0)), (2, .ref (ad 26 1)), (3, .ref (ad 26 2)), (4, .ref (ad 26 3))] := hl
  have hI := Jt_I J
  have g16 := hI.1
  have g30 := hI.2.1
  have g4 := hI.2.2.1
  obtain ⟨l1, l2, l3, -⟩ := J.2.2.2.2.2.1
  refine lv_iconst (v := 0) hx hb dL_isSo_0 (by decide) ?_
  refine lv_istore (lv' := [(5, .int 0), (0, .ref (ad 4 0)), (1, .ref (ad 26 0)), (2, .ref (ad 26 1)), (3, .ref (ad 26 2)), (4, .ref (ad 26 3))]) hx hb dL_isSo_1 hl (by decide) rfl (fun ls hl => ?_)
  refine W.widen (k := 4 * (16 - g.1)) (n := 24 * (16 - g.1)) (Nat.zero_le _) (Nat.zero_le _) ?_
  refine w_indc (fun n => 4 * (16 - n)) (fun n => 24 * (16 - n)) (fun na H locs ls => ∃ (k : Nat), k + na = g.1 ∧ hw D B ad (eW D ad (g, σ) (g2, σ2) (lW D 4 μ)) H ∧ va_S (ab B) s.heap H locs ∧ lv_has ls 7 [(5, .int (nI k)), (0, .ref (ad 4 0)), (1, .ref (ad 26 0)), (2, .ref (ad 26 1)), (3, .ref (ad 26 2)), (4, .ref (ad 26 3))]) ?_ g.1 _ _ _ ⟨0, by omega, hP, hS, lv_sub hl [0, 1, 2, 3, 4, 5] rfl⟩
  intro na H locs ls hJa iha
  obtain ⟨k, hka, hP, hS, hl⟩ := hJa
  refine lv_iload hx hb dL_isSo_3 (lv_at hl 0 rfl) ?_
  refine lv_aload hx hb dL_isSo_5 (lv_at hl 5 rfl) ?_
  refine lv_iconst (v := 0) hx hb dL_isSo_7 (by decide) ?_
  refine w_top (v := nI 0) rfl ?_
  refine w_ildN hx hb hC hP (eW_L (show 3 < 4 by decide)) (show 0 < 3 from by omega) (by decide) (v := nI g.1) l1 dL_isSo_8 ?_
  refine lv_icmp_ge (tgt := 30) hx hb dL_isSo_9 (by decide) (fun c_9 => ?_) (fun c_9 => ?_)
  · have hk : g.1 ≤ k := Nat.not_lt.mp (fun z => absurd c_9 (nI_ge z (by omega)))
    refine W.widen (k := 64) (n := 384) (by show 4 * (16 - na) ≤ 64; omega) (by show 24 * (16 - na) ≤ 384; omega) ?_
    refine lv_iconst (v := 0) hx hb dL_isSo_30 (by decide) ?_
    refine lv_istore (lv' := [(5, .int 0), (0, .ref (ad 4 0)), (1, .ref (ad 26 0)), (2, .ref (ad 26 1)), (3, .ref (ad 26 2)), (4, .ref (ad 26 3))]) hx hb dL_isSo_31 hl (by decide) rfl (fun ls hl => ?_)
    refine w_ind (fun nb H locs ls => ∃ (k : Nat), k + nb = g.2.1 ∧ hw D B ad (eW D ad (g, σ) (g2, σ2) (lW D 4 μ)) H ∧ va_S (ab B) s.heap H locs ∧ lv_has ls 7 [(5, .int (nI k)), (0, .ref (ad 4 0)), (1, .ref (ad 26 0)), (2, .ref (ad 26 1)), (3, .ref (ad 26 2)), (4, .ref (ad 26 3))]) ?_ g.2.1 _ _ _ ⟨0, by omega, hP, hS, lv_sub hl [0, 1, 2, 3, 4, 5] rfl⟩
    intro nb H locs ls hJb ihb
    obtain ⟨k, hkb, hP, hS, hl⟩ := hJb
    refine lv_iload hx hb dL_isSo_33 (lv_at hl 0 rfl) ?_
    refine lv_aload hx hb dL_isSo_35 (lv_at hl 5 rfl) ?_
    refine lv_iconst (v := 1) hx hb dL_isSo_37 (by decide) ?_
    refine w_top (v := nI 1) rfl ?_
    refine w_ildN hx hb hC hP (eW_L (show 3 < 4 by decide)) (show 1 < 3 from by omega) (by decide) (v := nI g.2.1) l2 dL_isSo_38 ?_
    refine lv_icmp_ge (tgt := 60) hx hb dL_isSo_39 (by decide) (fun c_39 => ?_) (fun c_39 => ?_)
    · have hk : g.2.1 ≤ k := Nat.not_lt.mp (fun z => absurd c_39 (nI_ge z (by omega)))
      refine lv_iconst (v := 0) hx hb dL_isSo_60 (by decide) ?_
      refine lv_istore (lv' := [(5, .int 0), (0, .ref (ad 4 0)), (1, .ref (ad 26 0)), (2, .ref (ad 26 1)), (3, .ref (ad 26 2)), (4, .ref (ad 26 3))]) hx hb dL_isSo_61 hl (by decide) rfl (fun ls hl => ?_)
      refine w_ind (fun nc H locs ls => ∃ (k : Nat), k + nc = g.2.2 ∧ hw D B ad (eW D ad (g, σ) (g2, σ2) (lW D 4 μ)) H ∧ va_S (ab B) s.heap H locs ∧ lv_has ls 7 [(5, .int (nI k)), (0, .ref (ad 4 0)), (1, .ref (ad 26 0)), (2, .ref (ad 26 1)), (3, .ref (ad 26 2)), (4, .ref (ad 26 3))]) ?_ g.2.2 _ _ _ ⟨0, by omega, hP, hS, lv_sub hl [0, 1, 2, 3, 4, 5] rfl⟩
      intro nc H locs ls hJc ihc
      obtain ⟨k, hkc, hP, hS, hl⟩ := hJc
      refine lv_iload hx hb dL_isSo_63 (lv_at hl 0 rfl) ?_
      refine lv_aload hx hb dL_isSo_65 (lv_at hl 5 rfl) ?_
      refine lv_iconst (v := 2) hx hb dL_isSo_67 (by decide) ?_
      refine w_top (v := nI 2) rfl ?_
      refine w_ildN hx hb hC hP (eW_L (show 3 < 4 by decide)) (show 2 < 3 from by omega) (by decide) (v := nI g.2.2) l3 dL_isSo_68 ?_
      refine lv_icmp_ge (tgt := 144) hx hb dL_isSo_69 (by decide) (fun c_69 => ?_) (fun c_69 => ?_)
      · have hk : g.2.2 ≤ k := Nat.not_lt.mp (fun z => absurd c_69 (nI_ge z (by omega)))
        refine lv_aload_n hx hb dL_isSo_144 rfl (lv_at hl 1 rfl) ?_
        refine lv_aload hx hb dL_isSo_145 (lv_at hl 5 rfl) ?_
        refine lv_iconst (v := 0) hx hb dL_isSo_147 (by decide) ?_
        refine w_top (v := nI 0) rfl ?_
        refine w_ildN hx hb hC hP (eW_L (show 3 < 4 by decide)) (show 0 < 3 from by omega) (by decide) (v := nI g.1) l1 dL_isSo_148 ?_
        refine w_calli (vx_runSW (As := [.ref (ad 4 0), .int (nI g.1)]) (rest := []) ⟨hx, hb, hml, hown, hts⟩ (c_L_value l hns D B ad g σ (tW D ad (g2, σ2) (lW D 4 μ)) 0 hI (nI g.1)) (vx_cwSW 2 hts gL_isSo_L_value rfl rfl rfl (by decide +kernel) ⟨Nat.le_of_ble_eq_true rfl, Nat.le_of_ble_eq_true rfl⟩) (w_preS hC hP hS) rfl rfl hl.1 rfl (lv_room (Nat.le_of_ble_eq_true rfl)) dL_isSo_149 ⟨Nat.le_of_ble_eq_true rfl, Nat.le_of_ble_eq_true rfl⟩) hS (fun r_1 ad1 w1 H locs hq hP hS => ?_)
        obtain ⟨S2, h81, h82, h83⟩ := hq
        cases h82
        cases h81
        subst h83
        refine w_top (v := (-1000001)) (pt_no (no_self (by omega))) ?_
        refine lv_ldc (v := (-1000001)) hx hb hown (hts (.constant RL 32 (-1000001)) (by decide +kernel)) dL_isSo_152 ?_
        refine lv_icmp_ne (tgt := 240) hx hb dL_isSo_154 (by decide) (fun c_154 => ?_) (fun c_154 => ?_)
        · exact absurd rfl c_154
        · refine lv_aload_n hx hb dL_isSo_157 rfl (lv_at hl 1 rfl) ?_
          refine lv_iconst (v := (-1)) hx hb dL_isSo_158 (by decide) ?_
          refine w_calli (vx_runSW (As := [.ref (ad 4 0), .int (-1)]) (rest := []) ⟨hx, hb, hml, hown, hts⟩ (c_L_held l hns D B ad g σ (tW D ad (g2, σ2) (lW D 4 μ)) 0 hI (-1)) (vx_cwSW 2 hts gL_isSo_L_held rfl rfl rfl (by decide +kernel) ⟨Nat.le_of_ble_eq_true rfl, Nat.le_of_ble_eq_true rfl⟩) (w_preS hC hP hS) rfl rfl hl.1 rfl (lv_room (Nat.le_of_ble_eq_true rfl)) dL_isSo_159 ⟨Nat.le_of_ble_eq_true rfl, Nat.le_of_ble_eq_true rfl⟩) hS (fun r_2 ad1 w1 H locs hq hP hS => ?_)
          obtain ⟨S2, h81, h82, h83⟩ := hq
          cases h82
          cases h81
          subst h83
          refine w_top (v := (-1000001)) (pt_no (no_m1 (by omega))) ?_
          refine lv_ldc (v := (-1000001)) hx hb hown (hts (.constant RL 32 (-1000001)) (by decide +kernel)) dL_isSo_162 ?_
          refine lv_icmp_ne (tgt := 240) hx hb dL_isSo_164 (by decide) (fun c_164 => ?_) (fun c_164 => ?_)
          · exact absurd rfl c_164
          · refine lv_aload_n hx hb dL_isSo_167 rfl (lv_at hl 1 rfl) ?_
            refine lv_aload hx hb dL_isSo_168 (lv_at hl 5 rfl) ?_
            refine lv_iconst (v := 0) hx hb dL_isSo_170 (by decide) ?_
            refine w_top (v := nI 0) rfl ?_
            refine w_ildN hx hb hC hP (eW_L (show 3 < 4 by decide)) (show 0 < 3 from by omega) (by decide) (v := nI g.1) l1 dL_isSo_171 ?_
            refine w_calli (vx_runSW (As := [.ref (ad 4 0), .int (nI g.1)]) (rest := []) ⟨hx, hb, hml, hown, hts⟩ (c_L_standing l hns D B ad g σ (tW D ad (g2, σ2) (lW D 4 μ)) 0 hI (nI g.1)) (vx_cwSW 2 hts gL_isSo_L_standing rfl rfl rfl (by decide +kernel) ⟨Nat.le_of_ble_eq_true rfl, Nat.le_of_ble_eq_true rfl⟩) (w_preS hC hP hS) rfl rfl hl.1 rfl (lv_room (Nat.le_of_ble_eq_true rfl)) dL_isSo_172 ⟨Nat.le_of_ble_eq_true rfl, Nat.le_of_ble_eq_true rfl⟩) hS (fun r_3 ad1 w1 H locs hq hP hS => ?_)
            obtain ⟨S2, h81, h82, h83⟩ := hq
            cases h82
            cases h81
            subst h83
            refine w_top (v := (-1000001)) (pt_no (no_self (by omega))) ?_
            refine lv_ldc (v := (-1000001)) hx hb hown (hts (.constant RL 32 (-1000001)) (by decide +kernel)) dL_isSo_175 ?_
            refine lv_icmp_ne (tgt := 240) hx hb dL_isSo_177 (by decide) (fun c_177 => ?_) (fun c_177 => ?_)
            · exact absurd rfl c_177
            · refine lv_aload_n hx hb dL_isSo_180 rfl (lv_at hl 1 rfl) ?_
              refine lv_aload hx hb dL_isSo_181 (lv_at hl 5 rfl) ?_
              refine lv_iconst (v := 1) hx hb dL_isSo_183 (by decide) ?_
              refine w_top (v := nI 1) rfl ?_
              refine w_ildN hx hb hC hP (eW_L (show 3 < 4 by decide)) (show 1 < 3 from by omega) (by decide) (v := nI g.2.1) l2 dL_isSo_184 ?_
              refine w_calli (vx_runSW (As := [.ref (ad 4 0), .int (nI g.2.1)]) (rest := []) ⟨hx, hb, hml, hown, hts⟩ (c_L_goesOn l hns D B ad g σ (tW D ad (g2, σ2) (lW D 4 μ)) 0 hI (nI g.2.1)) (vx_cwSW 2 hts gL_isSo_L_goesOn rfl rfl rfl (by decide +kernel) ⟨Nat.le_of_ble_eq_true rfl, Nat.le_of_ble_eq_true rfl⟩) (w_preS hC hP hS) rfl rfl hl.1 rfl (lv_room (Nat.le_of_ble_eq_true rfl)) dL_isSo_185 ⟨Nat.le_of_ble_eq_true rfl, Nat.le_of_ble_eq_true rfl⟩) hS (fun r_4 ad1 w1 H locs hq hP hS => ?_)
              obtain ⟨S2, h81, h82, h83⟩ := hq
              cases h82
              cases h81
              subst h83
              refine w_top (v := (-1000001)) (pt_no (no_self (by omega))) ?_
              refine lv_ldc (v := (-1000001)) hx hb hown (hts (.constant RL 32 (-1000001)) (by decide +kernel)) dL_isSo_188 ?_
              refine lv_icmp_ne (tgt := 240) hx hb dL_isSo_190 (by decide) (fun c_190 => ?_) (fun c_190 => ?_)
              · exact absurd rfl c_190
              · refine lv_aload_n hx hb dL_isSo_193 rfl (lv_at hl 1 rfl) ?_
                refine lv_iconst (v := (-1)) hx hb dL_isSo_194 (by decide) ?_
                refine w_calli (vx_runSW (As := [.ref (ad 4 0), .int (-1)]) (rest := []) ⟨hx, hb, hml, hown, hts⟩ (c_L_reports l hns D B ad g σ (tW D ad (g2, σ2) (lW D 4 μ)) 0 hI (-1)) (vx_cwSW 2 hts gL_isSo_L_reports rfl rfl rfl (by decide +kernel) ⟨Nat.le_of_ble_eq_true rfl, Nat.le_of_ble_eq_true rfl⟩) (w_preS hC hP hS) rfl rfl hl.1 rfl (lv_room (Nat.le_of_ble_eq_true rfl)) dL_isSo_195 ⟨Nat.le_of_ble_eq_true rfl, Nat.le_of_ble_eq_true rfl⟩) hS (fun r_5 ad1 w1 H locs hq hP hS => ?_)
                obtain ⟨S2, h81, h82, h83⟩ := hq
                cases h82
                cases h81
                subst h83
                refine w_top (v := (-1000001)) (pt_no (no_m1 (by omega))) ?_
                refine lv_ldc (v := (-1000001)) hx hb hown (hts (.constant RL 32 (-1000001)) (by decide +kernel)) dL_isSo_198 ?_
                refine lv_icmp_ne (tgt := 240) hx hb dL_isSo_200 (by decide) (fun c_200 => ?_) (fun c_200 => ?_)
                · exact absurd rfl c_200
                · refine lv_aload_n hx hb dL_isSo_203 rfl (lv_at hl 1 rfl) ?_
                  refine lv_aload hx hb dL_isSo_204 (lv_at hl 5 rfl) ?_
                  refine lv_iconst (v := 2) hx hb dL_isSo_206 (by decide) ?_
                  refine w_top (v := nI 2) rfl ?_
                  refine w_ildN hx hb hC hP (eW_L (show 3 < 4 by decide)) (show 2 < 3 from by omega) (by decide) (v := nI g.2.2) l3 dL_isSo_207 ?_
                  refine lv_iconst (v := (-1)) hx hb dL_isSo_208 (by decide) ?_
                  refine w_calli (vx_runSW (As := [.ref (ad 4 0), .int (nI g.2.2), .int (-1)]) (rest := []) ⟨hx, hb, hml, hown, hts⟩ (c_L_tells l hns D B ad g σ (tW D ad (g2, σ2) (lW D 4 μ)) 0 hI (nI g.2.2) (-1)) (vx_cwSW 3 hts gL_isSo_L_tells rfl rfl rfl (by decide +kernel) ⟨Nat.le_of_ble_eq_true rfl, Nat.le_of_ble_eq_true rfl⟩) (w_preS hC hP hS) rfl rfl hl.1 rfl (lv_room (Nat.le_of_ble_eq_true rfl)) dL_isSo_209 ⟨Nat.le_of_ble_eq_true rfl, Nat.le_of_ble_eq_true rfl⟩) hS (fun r_6 ad1 w1 H locs hq hP hS => ?_)
                  obtain ⟨S2, h81, h82, h83⟩ := hq
                  cases h82
                  cases h81
                  subst h83
                  refine w_top (v := (-1000001)) (te_no (no_self (by omega))) ?_
                  refine lv_ldc (v := (-1000001)) hx hb hown (hts (.constant RL 32 (-1000001)) (by decide +kernel)) dL_isSo_212 ?_
                  refine lv_icmp_ne (tgt := 240) hx hb dL_isSo_214 (by decide) (fun c_214 => ?_) (fun c_214 => ?_)
                  · exact absurd rfl c_214
                  · refine lv_aload hx hb dL_isSo_217 (lv_at hl 5 rfl) ?_
                    refine lv_iconst (v := 2) hx hb dL_isSo_219 (by decide) ?_
                    refine w_top (v := nI 2) rfl ?_
                    refine w_ildN hx hb hC hP (eW_L (show 3 < 4 by decide)) (show 2 < 3 from by omega) (by decide) (v := nI g.2.2) l3 dL_isSo_220 ?_
                    refine lv_if_eq (tgt := 236) hx hb dL_isSo_221 (by decide) (fun c_221 => ?_) (fun c_221 => ?_)
                    · refine lv_iconst (v := 1) hx hb dL_isSo_236 (by decide) ?_
                      refine lv_goto (tgt := 241) hx hb dL_isSo_237 (by decide) ?_
                      refine W.widen (k := 73) (n := 438) (Nat.le_of_ble_eq_true rfl) (Nat.le_of_ble_eq_true rfl) ?_
                      exact W.zret (v := 1) hx hb hr rfl (fun t ht hW => Qi_of ⟨rfl, rfl⟩ hP hS ht) hS.2.2 dL_isSo_241
                    · have hz := is0 c_221 (by omega)
                      refine lv_aload_n hx hb dL_isSo_224 rfl (lv_at hl 1 rfl) ?_
                      refine lv_iconst (v := 0) hx hb dL_isSo_225 (by decide) ?_
                      refine lv_ldc (v := (1000001)) hx hb hown (hts (.constant RL 117 (1000001)) (by decide +kernel)) dL_isSo_226 ?_
                      refine w_calli (vx_runSW (As := [.ref (ad 4 0), .int 0, .int 1000001]) (rest := []) ⟨hx, hb, hml, hown, hts⟩ (c_L_tells l hns D B ad g σ (tW D ad (g2, σ2) (lW D 4 μ)) 0 hI 0 1000001) (vx_cwSW 3 hts gL_isSo_L_tells rfl rfl rfl (by decide +kernel) ⟨Nat.le_of_ble_eq_true rfl, Nat.le_of_ble_eq_true rfl⟩) (w_preS hC hP hS) rfl rfl hl.1 rfl (lv_room (Nat.le_of_ble_eq_true rfl)) dL_isSo_228 ⟨Nat.le_of_ble_eq_true rfl, Nat.le_of_ble_eq_true rfl⟩) hS (fun r_7 ad1 w1 H locs hq hP hS => ?_)
                      obtain ⟨S2, h81, h82, h83⟩ := hq
                      cases h82
                      cases h81
                      subst h83
                      refine w_top (v := (-1000002)) (te_bad hz (fun z => absurd z.2 (by decide))) ?_
                      refine lv_ldc (v := (-1000002)) hx hb hown (hts (.constant RL 18 (-1000002)) (by decide +kernel)) dL_isSo_231 ?_
                      refine lv_icmp_ne (tgt := 240) hx hb dL_isSo_233 (by decide) (fun c_233 => ?_) (fun c_233 => ?_)
                      · exact absurd rfl c_233
                      · refine lv_iconst (v := 1) hx hb dL_isSo_236 (by decide) ?_
                        refine lv_goto (tgt := 241) hx hb dL_isSo_237 (by decide) ?_
                        exact W.zret (v := 1) hx hb hr rfl (fun t ht hW => Qi_of ⟨rfl, rfl⟩ hP hS ht) hS.2.2 dL_isSo_241
      · have hk : k < g.2.2 := Nat.not_le.mp (fun z => c_69 (nI_le z (by omega)))
        obtain ⟨n6, rfl⟩ : ∃ n6, nc = n6 + 1 := ⟨nc - 1, by omega⟩
        obtain ⟨i, j, hi, hj1, hj2, e1, e2, e14, e15⟩ := sc_at J hk
        refine lv_aload_n hx hb dL_isSo_72 rfl (lv_at hl 1 rfl) ?_
        refine lv_iload hx hb dL_isSo_73 (lv_at hl 0 rfl) ?_
        refine lv_aload_n hx hb dL_isSo_75 rfl (lv_at hl 1 rfl) ?_
        refine w_calli (va_runV (As := []) (rest := [.int (nI k), .ref (ad 4 0)]) ⟨hx, hb, hml, hown, hts⟩ (c_X4_clock l D B ad g σ (tW D ad (g2, σ2) (lW D 4 μ)) 0) (cwV 0 hts gL_isSo_X4_clock rfl rfl rfl (by decide +kernel) ⟨Nat.le_of_ble_eq_true rfl, Nat.le_of_ble_eq_true rfl⟩) (w_preV hC hP hS cW_4 rfl) rfl rfl hl.1 rfl (lv_room (Nat.le_of_ble_eq_true rfl)) dL_isSo_76 ⟨Nat.le_of_ble_eq_true rfl, Nat.le_of_ble_eq_true rfl⟩) hS (fun r_8 ad1 w1 H locs hq hP hS => ?_)
        obtain ⟨h81, h82⟩ := hq
        cases h81
        subst h82
        refine w_top (v := nI t) J.1.2.1 ?_
        refine w_calli (vx_runSW (As := [.ref (ad 4 0), .int (nI k), .int (nI t)]) (rest := []) ⟨hx, hb, hml, hown, hts⟩ (c0_L_tells l hns D B ad g σ (tW D ad (g2, σ2) (lW D 4 μ)) 0 hI k hk t J.1.2.2.1) (vx_cwSW 3 hts gL_isSo_L_tells rfl rfl rfl (by decide +kernel) ⟨Nat.le_of_ble_eq_true rfl, Nat.le_of_ble_eq_true rfl⟩) (w_preS hC hP hS) rfl rfl hl.1 rfl (lv_room (Nat.le_of_ble_eq_true rfl)) dL_isSo_79 ⟨Nat.le_of_ble_eq_true rfl, Nat.le_of_ble_eq_true rfl⟩) hS (fun r_9 ad1 w1 H locs hq hP hS => ?_)
        obtain ⟨S2, h81, h82, h83⟩ := hq
        cases h82
        cases h81
        subst h83
        refine lv_istore (lv' := [(6, .int (tolO σ k (nI t))), (5, .int (nI k)), (0, .ref (ad 4 0)), (1, .ref (ad 26 0)), (2, .ref (ad 26 1)), (3, .ref (ad 26 2)), (4, .ref (ad 26 3))]) hx hb dL_isSo_82 hl (by decide) rfl (fun ls hl => ?_)
        refine w_cut 118 64 384 (fun H locs ls => hw D B ad (eW D ad (g, σ) (g2, σ2) (lW D 4 μ)) H ∧ va_S (ab B) s.heap H locs ∧ lv_has ls 7 [(6, .int (tolO σ k (nI t))), (5, .int (nI k)), (0, .ref (ad 4 0)), (1, .ref (ad 26 0)), (2, .ref (ad 26 1)), (3, .ref (ad 26 2)), (4, .ref (ad 26 3))]) (fun H locs ls hJ => ?_) (fun Kx => ?_)
        · obtain ⟨hP, hS, hl⟩ := hJ
          refine lv_aload_n hx hb dL_isSo_118 rfl (lv_at hl 5 rfl) ?_
          refine lv_iconst (v := 4) hx hb dL_isSo_119 (by decide) ?_
          refine lv_iload hx hb dL_isSo_120 (lv_at hl 1 rfl) ?_
          refine lv_imul hx hb dL_isSo_122 ?_
          refine w_top (v := nI (4 * k)) (pk_mul 4 k) ?_
          refine lv_iconst (v := 3) hx hb dL_isSo_123 (by decide) ?_
          refine lv_iadd hx hb dL_isSo_124 ?_
          refine w_top (v := nI ((4 * k) + 3)) (nI_add (4 * k) 3) ?_
          refine w_ildN hx hb hC hP (eW_L (show 2 < 4 by decide)) (show (4 * k) + 3 < 16 from by omega) (by decide) (v := μ 2 0 ((4 * k) + 3)) rfl dL_isSo_125 ?_
          refine lv_if_ne (tgt := 138) hx hb dL_isSo_126 (by decide) (fun c_126 => ?_) (fun c_126 => ?_)
          · refine lv_iinc (v := nI (k + 1)) (lv' := [(5, .int (nI (k + 1))), (6, .int (tolO σ k (nI t))), (0, .ref (ad 4 0)), (1, .ref (ad 26 0)), (2, .ref (ad 26 1)), (3, .ref (ad 26 2)), (4, .ref (ad 26 3))]) hx hb dL_isSo_138 hl (k := 1) rfl (nI_add k 1) (by decide) rfl (fun ls hl => ?_)
            refine lv_goto (tgt := 63) hx hb dL_isSo_141 (by decide) ?_
            exact ihc n6 _ _ _ (by omega) ⟨k + 1, by omega, hP, hS, lv_sub hl [0, 2, 3, 4, 5, 6] rfl⟩
          · refine lv_iload hx hb dL_isSo_129 (lv_at hl 0 rfl) ?_
            refine lv_ldc (v := (-100000)) hx hb hown (hts (.constant RL 107 (-100000)) (by decide +kernel)) dL_isSo_131 ?_
            refine w_top (v := nth) rfl ?_
            refine lv_icmp_eq (tgt := 138) hx hb dL_isSo_133 (by decide) (fun c_133 => ?_) (fun c_133 => ?_)
            · refine lv_iinc (v := nI (k + 1)) (lv' := [(5, .int (nI (k + 1))), (6, .int (tolO σ k (nI t))), (0, .ref (ad 4 0)), (1, .ref (ad 26 0)), (2, .ref (ad 26 1)), (3, .ref (ad 26 2)), (4, .ref (ad 26 3))]) hx hb dL_isSo_138 hl (k := 1) rfl (nI_add k 1) (by decide) rfl (fun ls hl => ?_)
              refine lv_goto (tgt := 63) hx hb dL_isSo_141 (by decide) ?_
              exact ihc n6 _ _ _ (by omega) ⟨k + 1, by omega, hP, hS, lv_sub hl [0, 2, 3, 4, 5, 6] rfl⟩
            · exact absurd (sc_none J hk c_126) c_133
        · refine lv_aload_n hx hb dL_isSo_84 rfl (lv_at hl 5 rfl) ?_
          refine lv_iconst (v := 4) hx hb dL_isSo_85 (by decide) ?_
          refine lv_iload hx hb dL_isSo_86 (lv_at hl 1 rfl) ?_
          refine lv_imul hx hb dL_isSo_88 ?_
          refine w_top (v := nI (4 * k)) (pk_mul 4 k) ?_
          refine lv_iconst (v := 2) hx hb dL_isSo_89 (by decide) ?_
          refine lv_iadd hx hb dL_isSo_90 ?_
          refine w_top (v := nI ((4 * k) + 2)) (nI_add (4 * k) 2) ?_
          refine w_ildN hx hb hC hP (eW_L (show 2 < 4 by decide)) (show (4 * k) + 2 < 16 from by omega) (by decide) (v := μ 2 0 ((4 * k) + 2)) rfl dL_isSo_91 ?_
          refine lv_if_ne (tgt := 118) hx hb dL_isSo_92 (by decide) (fun c_92 => ?_) (fun c_92 => ?_)
          · exact Kx _ _ _ ⟨hP, hS, lv_sub hl [0, 1, 2, 3, 4, 5, 6] rfl⟩
          · refine lv_aload_n hx hb dL_isSo_95 rfl (lv_at hl 2 rfl) ?_
            refine lv_aload_n hx hb dL_isSo_96 rfl (lv_at hl 5 rfl) ?_
            refine lv_iconst (v := 4) hx hb dL_isSo_97 (by decide) ?_
            refine lv_iload hx hb dL_isSo_98 (lv_at hl 1 rfl) ?_
            refine lv_imul hx hb dL_isSo_100 ?_
            refine w_top (v := nI (4 * k)) (pk_mul 4 k) ?_
            refine w_ildN hx hb hC hP (eW_L (show 2 < 4 by decide)) (show 4 * k < 16 from by omega) (by decide) (v := nI i) e1 dL_isSo_101 ?_
            refine lv_aload_n hx hb dL_isSo_102 rfl (lv_at hl 5 rfl) ?_
            refine lv_iconst (v := 4) hx hb dL_isSo_103 (by decide) ?_
            refine lv_iload hx hb dL_isSo_104 (lv_at hl 1 rfl) ?_
            refine lv_imul hx hb dL_isSo_106 ?_
            refine w_top (v := nI (4 * k)) (pk_mul 4 k) ?_
            refine lv_iconst (v := 1) hx hb dL_isSo_107 (by decide) ?_
            refine lv_iadd hx hb dL_isSo_108 ?_
            refine w_top (v := nI ((4 * k) + 1)) (nI_add (4 * k) 1) ?_
            refine w_ildN hx hb hC hP (eW_L (show 2 < 4 by decide)) (show (4 * k) + 1 < 16 from by omega) (by decide) (v := nI j) e2 dL_isSo_109 ?_
            refine w_calli (vx_runSW (As := [.ref (ad 4 0), .int (nI i), .int (nI j)]) (rest := []) ⟨hx, hb, hml, hown, hts⟩ (c0_L_command l hns D B ad g σ (tW D ad (g2, σ2) (lW D 4 μ)) 0 hI i hi j (by omega) hj2) (vx_cwSW 3 hts gL_isSo_L_command rfl rfl rfl (by decide +kernel) ⟨Nat.le_of_ble_eq_true rfl, Nat.le_of_ble_eq_true rfl⟩) (w_preS hC hP hS) rfl rfl hl.1 rfl (lv_room (Nat.le_of_ble_eq_true rfl)) dL_isSo_110 ⟨Nat.le_of_ble_eq_true rfl, Nat.le_of_ble_eq_true rfl⟩) hS (fun r_10 ad1 w1 H locs hq hP hS => ?_)
            obtain ⟨S2, h81, h82, h83⟩ := hq
            cases h82
            cases h81
            subst h83
            refine lv_iload hx hb dL_isSo_113 (lv_at hl 0 rfl) ?_
            refine lv_icmp_ne (tgt := 136) hx hb dL_isSo_115 (by decide) (fun c_115 => ?_) (fun c_115 => ?_)
            · exact absurd (sc_com J hk hi hj2 e14 e15 c_92) c_115
            · exact Kx _ _ _ ⟨hP, hS, lv_sub hl [0, 1, 2, 3, 4, 5, 6] rfl⟩
    · have hk : k < g.2.1 := Nat.not_le.mp (fun z => c_39 (nI_le z (by omega)))
      obtain ⟨n7, rfl⟩ : ∃ n7, nb = n7 + 1 := ⟨nb - 1, by omega⟩
      refine lv_aload_n hx hb dL_isSo_42 rfl (lv_at hl 1 rfl) ?_
      refine lv_aload_n hx hb dL_isSo_43 rfl (lv_at hl 3 rfl) ?_
      refine lv_iload hx hb dL_isSo_44 (lv_at hl 0 rfl) ?_
      refine w_calli (va_runS (As := [.ref (ad 4 0), .ref (ad 26 1), .int (nI k)]) (rest := []) ⟨hx, hb, hml, hown, hts⟩ (c_L_subscription l hns D B ad g σ μ g2 σ2 t N J k hk) (va_cwS 3 hts gL_isSo_L_subscription rfl rfl rfl (by decide +kernel) ⟨Nat.le_of_ble_eq_true rfl, Nat.le_of_ble_eq_true rfl⟩) (w_preS hC hP hS) rfl rfl hl.1 rfl (lv_room (Nat.le_of_ble_eq_true rfl)) dL_isSo_46 ⟨Nat.le_of_ble_eq_true rfl, Nat.le_of_ble_eq_true rfl⟩) hS (fun r_11 ad1 w1 H locs hq hP hS => ?_)
      obtain ⟨h81, h82⟩ := hq
      cases h81
      subst h82
      refine lv_if_ne (tgt := 54) hx hb dL_isSo_49 (by decide) (fun c_49 => ?_) (fun c_49 => ?_)
      · refine lv_iinc (v := nI (k + 1)) (lv' := [(5, .int (nI (k + 1))), (0, .ref (ad 4 0)), (1, .ref (ad 26 0)), (2, .ref (ad 26 1)), (3, .ref (ad 26 2)), (4, .ref (ad 26 3))]) hx hb dL_isSo_54 hl (k := 0) rfl (nI_add k 1) (by decide) rfl (fun ls hl => ?_)
        refine lv_goto (tgt := 33) hx hb dL_isSo_57 (by decide) ?_
        exact ihb n7 _ _ _ (by omega) ⟨k + 1, by omega, hP, hS, lv_sub hl [0, 1, 2, 3, 4, 5] rfl⟩
      · exact absurd c_49 (by decide)
  · have hk : k < g.1 := Nat.not_le.mp (fun z => c_9 (nI_le z (by omega)))
    obtain ⟨n8, rfl⟩ : ∃ n8, na = n8 + 1 := ⟨na - 1, by omega⟩
    refine lv_aload_n hx hb dL_isSo_12 rfl (lv_at hl 1 rfl) ?_
    refine lv_aload_n hx hb dL_isSo_13 rfl (lv_at hl 2 rfl) ?_
    refine lv_iload hx hb dL_isSo_14 (lv_at hl 0 rfl) ?_
    refine w_calli (va_runS (As := [.ref (ad 4 0), .ref (ad 26 0), .int (nI k)]) (rest := []) ⟨hx, hb, hml, hown, hts⟩ (c_L_point l hns D B ad g σ μ g2 σ2 t N J k hk) (va_cwS 3 hts gL_isSo_L_point rfl rfl rfl (by decide +kernel) ⟨Nat.le_of_ble_eq_true rfl, Nat.le_of_ble_eq_true rfl⟩) (w_preS hC hP hS) rfl rfl hl.1 rfl (lv_room (Nat.le_of_ble_eq_true rfl)) dL_isSo_16 ⟨by show 4 * (16 - (n8 + 1)) + 4 ≤ 73; omega, by show 24 * (16 - (n8 + 1)) + 24 ≤ 438; omega⟩) hS (fun r_12 ad1 w1 H locs hq hP hS => ?_)
    obtain ⟨h81, h82⟩ := hq
    cases h81
    subst h82
    refine lv_if_ne (tgt := 24) hx hb dL_isSo_19 (by decide) (fun c_19 => ?_) (fun c_19 => ?_)
    · refine lv_iinc (v := nI (k + 1)) (lv' := [(5, .int (nI (k + 1))), (0, .ref (ad 4 0)), (1, .ref (ad 26 0)), (2, .ref (ad 26 1)), (3, .ref (ad 26 2)), (4, .ref (ad 26 3))]) hx hb dL_isSo_24 hl (k := 0) rfl (nI_add k 1) (by decide) rfl (fun ls hl => ?_)
      refine lv_goto (tgt := 3) hx hb dL_isSo_27 (by decide) ?_
      refine W.widen (k := 4 * (16 - n8)) (n := 24 * (16 - n8)) (by omega) (by omega) ?_
      exact iha n8 _ _ _ (by omega) ⟨k + 1, by omega, hP, hS, lv_sub hl [0, 1, 2, 3, 4, 5] rfl⟩
    · exact absurd c_19 (by decide)
