/-! p22: the law's loop -/
set_option maxHeartbeats 4000000 in
set_option maxRecDepth 100000 in
theorem lw_run {p : Program} {l : Launch} {e : Env} {s : State} {m : MethodId} {below : List Frame} {meth : Method} {c : Code} {b L : Nat} {xs : Nat → Int32} {D : va_G} {B : Nat} (A : LoA p l s m c b L xs D B) {Q : State → Prop} (hend : ∀ (H : Heap) (locs : List Loc) (ls : Array Slot), va_S (ab B) s.heap H locs → lv_has ls 10 [(7, .int 1)] → W p l e room_1 s m #[Value.ref b] below meth c H locs 600000 7000000 Q (F0 m 219 ls [])) {ad0 : Ad} {H : Heap} {locs : List Loc} {ls : Array Slot} (hP : hw D B ad0 (eW D ad0 ((0, 0, 0), z0) ((0, 0, 0), z0) (lW D 4 z0)) H) (hS : va_S (ab B) s.heap H locs) (hl : lv_has ls 10 [(6, .ref (ad0 26 3)), (5, .ref (ad0 26 2)), (4, .ref (ad0 26 1)), (3, .ref (ad0 26 0)), (2, .ref (ad0 17 0)), (1, .ref (ad0 4 0)), (0, .ref b)]) : W p l e room_1 s m #[Value.ref b] below meth c H locs 200 2000 Q (F0 m 38 ls []) := by
  obtain ⟨hns, hx, hb, hml, hown, hts, hX, hbB, hL, hC⟩ := A
  have hI0 : Ib (0, 0, 0) z0 := Jt_I Jt_0
  refine lv_aload_n hx hb dL_law_38 rfl (lv_at hl 5 rfl) ?_
  refine w_calli (va_runV (As := []) (rest := []) ⟨hx, hb, hml, hown, hts⟩ (c_X4_clock l D B ad0 (0, 0, 0) z0 (tW D ad0 ((0, 0, 0), z0) (lW D 4 z0)) 0) (cwV 0 hts gL_law_X4_clock rfl rfl rfl (by decide +kernel) ⟨Nat.le_of_ble_eq_true rfl, Nat.le_of_ble_eq_true rfl⟩) (w_preV hC hP hS cW_4 rfl) rfl rfl hl.1 rfl (lv_room (Nat.le_of_ble_eq_true rfl)) dL_law_39 ⟨Nat.le_of_ble_eq_true rfl, Nat.le_of_ble_eq_true rfl⟩) hS (fun r_1 ad1 w1 H locs hq hP hS => ?_)
  obtain ⟨h81, h82⟩ := hq
  cases h81
  subst h82
  refine lv_if_ne (tgt := 59) hx hb dL_law_42 (by decide) (fun c_42 => ?_) (fun c_42 => ?_)
  · exact absurd rfl c_42
  · refine lv_aload_n hx hb dL_law_45 rfl (lv_at hl 5 rfl) ?_
    refine lv_iconst (v := 0) hx hb dL_law_46 (by decide) ?_
    refine w_calli (vx_runSW (As := [.ref (ad0 4 0), .int 0]) (rest := []) ⟨hx, hb, hml, hown, hts⟩ (c_L_value l hns D B ad0 (0, 0, 0) z0 (tW D ad0 ((0, 0, 0), z0) (lW D 4 z0)) 0 hI0 0) (vx_cwSW 2 hts gL_law_L_value rfl rfl rfl (by decide +kernel) ⟨Nat.le_of_ble_eq_true rfl, Nat.le_of_ble_eq_true rfl⟩) (w_preS hC hP hS) rfl rfl hl.1 rfl (lv_room (Nat.le_of_ble_eq_true rfl)) dL_law_47 ⟨Nat.le_of_ble_eq_true rfl, Nat.le_of_ble_eq_true rfl⟩) hS (fun r_2 ad1 w1 H locs hq hP hS => ?_)
    obtain ⟨S2, h81, h82, h83⟩ := hq
    cases h82
    cases h81
    subst h83
    refine w_top (v := (-1000001)) (pt_no (fun ⟨i, h1, _⟩ => absurd h1 (Nat.not_lt_zero i))) ?_
    refine lv_ldc (v := (-1000001)) hx hb hown (hts (.constant RL 32 (-1000001)) (by decide +kernel)) dL_law_50 ?_
    refine lv_icmp_ne (tgt := 59) hx hb dL_law_52 (by decide) (fun c_52 => ?_) (fun c_52 => ?_)
    · exact absurd c_52 (by decide)
    · refine lv_iconst (v := 1) hx hb dL_law_55 (by decide) ?_
      refine lv_goto (tgt := 60) hx hb dL_law_56 (by decide) ?_
      refine lv_istore (lv' := [(7, .int 1), (6, .ref (ad0 26 3)), (5, .ref (ad0 26 2)), (4, .ref (ad0 26 1)), (3, .ref (ad0 26 0)), (2, .ref (ad0 17 0)), (1, .ref (ad0 4 0)), (0, .ref b)]) hx hb dL_law_60 hl (by decide) rfl (fun ls hl => ?_)
      refine lv_iconst (v := 0) hx hb dL_law_62 (by decide) ?_
      refine lv_istore (lv' := [(8, .int 0), (7, .int 1), (6, .ref (ad0 26 3)), (5, .ref (ad0 26 2)), (4, .ref (ad0 26 1)), (3, .ref (ad0 26 0)), (2, .ref (ad0 17 0)), (1, .ref (ad0 4 0)), (0, .ref b)]) hx hb dL_law_63 hl (by decide) rfl (fun ls hl => ?_)
      refine W.widen (k := 400) (n := 4000) (by decide) (by decide) ?_
      refine w_indc (fun n => 400 + 200 * (90 - n)) (fun n => 4000 + 2000 * (90 - n)) (fun na H locs ls => ∃ (k : Nat) (ad : Ad) (np ns nc : Nat) (σ μ : Me) (t N : Nat), (k + na = 90) ∧ (Jt t N (np, ns, nc) σ μ) ∧ (t ≤ 200 * k) ∧ (N ≤ 4001 * k) ∧ hw D B ad (eW D ad ((np, ns, nc), σ) ((np, ns, nc), σ) (lW D 4 μ)) H ∧ va_S (ab B) s.heap H locs ∧ lv_has ls 10 [(8, .int (nI k)), (7, .int 1), (6, .ref (ad 26 3)), (5, .ref (ad 26 2)), (4, .ref (ad 26 1)), (3, .ref (ad 26 0)), (2, .ref (ad 17 0)), (1, .ref (ad 4 0)), (0, .ref b)]) ?_ 90 _ _ _ ⟨0, ad0, 0, 0, 0, z0, z0, 0, 0, rfl, Jt_0, Nat.le_refl _, Nat.le_refl _, hP, hS, lv_sub hl [0, 1, 2, 3, 4, 5, 6, 7, 8] rfl⟩
      intro na H locs ls hJa iha
      obtain ⟨k, ad, np, ns, nc, σ, μ, t, N, hka, J, htk, hNk, hP, hS, hl⟩ := hJa
      refine lv_iload hx hb dL_law_65 (lv_at hl 0 rfl) ?_
      refine lv_bipush (v := (90)) hx hb dL_law_67 (by decide) ?_
      refine lv_icmp_ge (tgt := 219) hx hb dL_law_69 (by decide) (fun c_69 => ?_) (fun c_69 => ?_)
      · have hk : 90 ≤ k := Nat.not_lt.mp (fun z => absurd c_69 (nI_ge (b := 90) z (by decide)))
        have hz : na = 0 := by omega
        subst hz
        refine W.widen (k := 600000) (n := 7000000) (by decide) (by decide) ?_
        exact hend H locs ls hS (lv_sub hl [1] rfl)
      · have hk : k < 90 := Nat.not_le.mp (fun z => c_69 (nI_le (a := 90) z (by omega)))
        obtain ⟨n8, rfl⟩ : ∃ n8, na = n8 + 1 := ⟨na - 1, by omega⟩
        have hI := Jt_I J
        have g30 : ns ≤ 30 := hI.2.1
        obtain ⟨l1, l2, l3, -⟩ := J.2.2.2.2.2.1
        refine lv_iload hx hb dL_law_72 (lv_at hl 1 rfl) ?_
        refine lv_if_eq (tgt := 219) hx hb dL_law_74 (by decide) (fun c_74 => ?_) (fun c_74 => ?_)
        · exact absurd c_74 (by decide)
        · refine lv_aload_n hx hb dL_law_77 rfl (lv_at hl 8 rfl) ?_
          refine lv_iconst (v := 2) hx hb dL_law_78 (by decide) ?_
          refine lv_iload hx hb dL_law_79 (lv_at hl 0 rfl) ?_
          refine lv_imul hx hb dL_law_81 ?_
          refine w_top (v := nI (2 * k)) (pk_mul 2 k) ?_
          refine w_calli (va_runS (As := [.ref b, .int (nI (2 * k))]) (rest := []) ⟨hx, hb, hml, hown, hts⟩ (c_L_at l D B b L xs ad (eW D ad ((np, ns, nc), σ) ((np, ns, nc), σ) (lW D 4 μ)) hL (2 * k) (by omega)) (va_cwS 2 hts gL_law_L_at rfl rfl rfl (by decide +kernel) ⟨Nat.le_of_ble_eq_true rfl, Nat.le_of_ble_eq_true rfl⟩) (w_preX hC hX hbB hP hS) rfl rfl hl.1 rfl (lv_room (Nat.le_of_ble_eq_true rfl)) dL_law_82 ⟨by show 400 + 200 * (90 - (n8 + 1)) + 0 + 0 ≤ 671708; omega, by show 4000 + 2000 * (90 - (n8 + 1)) + 0 + 0 ≤ 7086499; omega⟩) hS (fun r_3 ad1 w1 H locs hq hP hS => ?_)
          cases hq
          generalize r_3 = x0
          refine lv_istore (lv' := [(9, .int x0), (8, .int (nI k)), (7, .int 1), (6, .ref (ad 26 3)), (5, .ref (ad 26 2)), (4, .ref (ad 26 1)), (3, .ref (ad 26 0)), (2, .ref (ad 17 0)), (1, .ref (ad 4 0)), (0, .ref b)]) hx hb dL_law_85 hl (by decide) rfl (fun ls hl => ?_)
          refine w_cut 129 (400 + 200 * (90 - (n8 + 1)) + 0) (4000 + 2000 * (90 - (n8 + 1)) + 0) (fun H locs ls => ∃ (x1 : Int32), (∀ i : Nat, lowO x1 (nI 24) = nI i → 12 ≤ i → i ≤ 13 → ns ≤ 20) ∧ hw D B ad (eW D ad ((np, ns, nc), σ) ((np, ns, nc), σ) (lW D 4 μ)) H ∧ va_S (ab B) s.heap H locs ∧ lv_has ls 10 [(9, .int x1), (8, .int (nI k)), (7, .int 1), (6, .ref (ad 26 3)), (5, .ref (ad 26 2)), (4, .ref (ad 26 1)), (3, .ref (ad 26 0)), (2, .ref (ad 17 0)), (1, .ref (ad 4 0)), (0, .ref b)]) (fun H locs ls hJ => ?_) (fun Kx => ?_)
          · obtain ⟨x1, hkd, hP, hS, hl⟩ := hJ
            refine lv_aload_n hx hb dL_law_129 rfl (lv_at hl 8 rfl) ?_
            refine lv_aload_n hx hb dL_law_130 rfl (lv_at hl 7 rfl) ?_
            refine lv_aload_n hx hb dL_law_131 rfl (lv_at hl 6 rfl) ?_
            refine lv_aload hx hb dL_law_132 (lv_at hl 5 rfl) ?_
            refine lv_aload hx hb dL_law_134 (lv_at hl 4 rfl) ?_
            refine lv_aload hx hb dL_law_136 (lv_at hl 3 rfl) ?_
            refine lv_iload hx hb dL_law_138 (lv_at hl 0 rfl) ?_
            refine lv_aload_n hx hb dL_law_140 rfl (lv_at hl 9 rfl) ?_
            refine lv_iconst (v := 2) hx hb dL_law_141 (by decide) ?_
            refine lv_iload hx hb dL_law_142 (lv_at hl 1 rfl) ?_
            refine lv_imul hx hb dL_law_144 ?_
            refine w_top (v := nI (2 * k)) (pk_mul 2 k) ?_
            refine lv_iconst (v := 1) hx hb dL_law_145 (by decide) ?_
            refine lv_iadd hx hb dL_law_146 ?_
            refine w_top (v := nI ((2 * k) + 1)) (nI_add (2 * k) 1) ?_
            refine w_calli (va_runS (As := [.ref b, .int (nI ((2 * k) + 1))]) (rest := [.int x1, .ref (ad 26 3), .ref (ad 26 2), .ref (ad 26 1), .ref (ad 26 0), .ref (ad 17 0), .ref (ad 4 0)]) ⟨hx, hb, hml, hown, hts⟩ (c_L_at l D B b L xs ad (eW D ad ((np, ns, nc), σ) ((np, ns, nc), σ) (lW D 4 μ)) hL ((2 * k) + 1) (by omega)) (va_cwS 2 hts gL_law_L_at rfl rfl rfl (by decide +kernel) ⟨Nat.le_of_ble_eq_true rfl, Nat.le_of_ble_eq_true rfl⟩) (w_preX hC hX hbB hP hS) rfl rfl hl.1 rfl (lv_room (Nat.le_of_ble_eq_true rfl)) dL_law_147 ⟨by show 400 + 200 * (90 - (n8 + 1)) + 0 + 0 ≤ 671708; omega, by show 4000 + 2000 * (90 - (n8 + 1)) + 0 + 0 ≤ 7086499; omega⟩) hS (fun r_4 ad1 w1 H locs hq hP hS => ?_)
            cases hq
            generalize r_4 = y1
            refine w_calli (va_runS (As := [.ref (ad 4 0), .ref (ad 17 0), .ref (ad 26 0), .ref (ad 26 1), .ref (ad 26 2), .ref (ad 26 3), .int x1, .int y1]) (rest := []) ⟨hx, hb, hml, hown, hts⟩ (c_L_acts l hns D B ad np ns nc σ μ t N J (by omega) (by omega) x1 y1 hkd) (va_cwS 8 hts gL_law_L_acts rfl rfl rfl (by decide +kernel) ⟨Nat.le_of_ble_eq_true rfl, Nat.le_of_ble_eq_true rfl⟩) (w_preS hC hP hS) rfl rfl hl.1 rfl (lv_room (Nat.le_of_ble_eq_true rfl)) dL_law_150 ⟨by show 400 + 200 * (90 - (n8 + 1)) + 0 + 60 ≤ 671708; omega, by show 4000 + 2000 * (90 - (n8 + 1)) + 0 + 700 ≤ 7086499; omega⟩) hS (fun r_5 adp w1 H locs hq hP hS => ?_)
            obtain ⟨h81, ad9, ⟨np9, ns9, nc9⟩, σ9, μ9, t9, N9, h82, hk9, J9, ht9, hN9⟩ := hq
            cases h82
            subst h81
            have hI9 := Jt_I J9
            have hl : lv_has ls 10 [(9, .int x1), (8, .int (nI k)), (7, .int 1), (6, .ref (adp 26 3)), (5, .ref (adp 26 2)), (4, .ref (adp 26 1)), (3, .ref (adp 26 0)), (2, .ref (adp 17 0)), (1, .ref (adp 4 0)), (0, .ref b)] := by rw [hk9 4 0 (by omega), hk9 17 0 (by omega), hk9 26 0 (by omega), hk9 26 1 (by omega), hk9 26 2 (by omega), hk9 26 3 (by omega)]; exact hl
            refine lv_if_eq (tgt := 174) hx hb dL_law_153 (by decide) (fun c_153 => ?_) (fun c_153 => ?_)
            · exact absurd c_153 (by decide)
            · refine lv_aload_n hx hb dL_law_156 rfl (lv_at hl 8 rfl) ?_
              refine lv_aload_n hx hb dL_law_157 rfl (lv_at hl 6 rfl) ?_
              refine lv_aload hx hb dL_law_158 (lv_at hl 5 rfl) ?_
              refine lv_aload hx hb dL_law_160 (lv_at hl 4 rfl) ?_
              refine lv_aload hx hb dL_law_162 (lv_at hl 3 rfl) ?_
              refine w_calli (va_runS (As := [.ref (adp 4 0), .ref (adp 26 0), .ref (adp 26 1), .ref (adp 26 2), .ref (adp 26 3)]) (rest := []) ⟨hx, hb, hml, hown, hts⟩ (c_L_isSo l hns D B adp (np9, ns9, nc9) σ9 μ9 (np9, ns9, nc9) σ9 t9 N9 J9) (va_cwS 5 hts gL_law_L_isSo rfl rfl rfl (by decide +kernel) ⟨Nat.le_of_ble_eq_true rfl, Nat.le_of_ble_eq_true rfl⟩) (w_preS hC hP hS) rfl rfl hl.1 rfl (lv_room (Nat.le_of_ble_eq_true rfl)) dL_law_164 ⟨by show 400 + 200 * (90 - (n8 + 1)) + 60 + 73 ≤ 671708; omega, by show 4000 + 2000 * (90 - (n8 + 1)) + 700 + 438 ≤ 7086499; omega⟩) hS (fun r_6 ad1 w1 H locs hq hP hS => ?_)
              obtain ⟨h81, h82⟩ := hq
              cases h81
              subst h82
              refine lv_if_eq (tgt := 174) hx hb dL_law_167 (by decide) (fun c_167 => ?_) (fun c_167 => ?_)
              · exact absurd c_167 (by decide)
              · refine lv_iconst (v := 1) hx hb dL_law_170 (by decide) ?_
                refine lv_goto (tgt := 175) hx hb dL_law_171 (by decide) ?_
                refine lv_istore (lv' := [(7, .int 1), (9, .int x1), (8, .int (nI k)), (6, .ref (adp 26 3)), (5, .ref (adp 26 2)), (4, .ref (adp 26 1)), (3, .ref (adp 26 0)), (2, .ref (adp 17 0)), (1, .ref (adp 4 0)), (0, .ref b)]) hx hb dL_law_175 hl (by decide) rfl (fun ls hl => ?_)
                refine lv_iload hx hb dL_law_177 (lv_at hl 0 rfl) ?_
                refine lv_if_eq (tgt := 213) hx hb dL_law_179 (by decide) (fun c_179 => ?_) (fun c_179 => ?_)
                · exact absurd c_179 (by decide)
                · refine lv_iload hx hb dL_law_182 (lv_at hl 2 rfl) ?_
                  refine lv_iconst (v := 3) hx hb dL_law_184 (by decide) ?_
                  refine lv_irem hx hb dL_law_185 (by decide) ?_
                  refine w_top (v := remF (nI k) 3) rfl ?_
                  refine lv_iconst (v := 2) hx hb dL_law_186 (by decide) ?_
                  refine lv_icmp_ne (tgt := 213) hx hb dL_law_187 (by decide) (fun c_187 => ?_) (fun c_187 => ?_)
                  · refine lv_iinc (v := nI (k + 1)) (lv' := [(8, .int (nI (k + 1))), (7, .int 1), (9, .int x1), (6, .ref (adp 26 3)), (5, .ref (adp 26 2)), (4, .ref (adp 26 1)), (3, .ref (adp 26 0)), (2, .ref (adp 17 0)), (1, .ref (adp 4 0)), (0, .ref b)]) hx hb dL_law_213 hl (k := 2) rfl (nI_add k 1) (by decide) rfl (fun ls hl => ?_)
                    refine lv_goto (tgt := 65) hx hb dL_law_216 (by decide) ?_
                    refine W.widen (k := 400 + 200 * (90 - n8)) (n := 4000 + 2000 * (90 - n8)) (by show 400 + 200 * (90 - (n8 + 1)) + 133 ≤ _; omega) (by show 4000 + 2000 * (90 - (n8 + 1)) + 1138 ≤ _; omega) ?_
                    exact iha n8 _ _ _ (by omega) ⟨k + 1, adp, np9, ns9, nc9, σ9, μ9, t9, N9, by omega, J9, by omega, by omega, hP, hS, lv_sub hl [0, 1, 3, 4, 5, 6, 7, 8, 9] rfl⟩
                  · refine lv_aload_n hx hb dL_law_190 rfl (lv_at hl 8 rfl) ?_
                    refine lv_aload hx hb dL_law_191 (lv_at hl 3 rfl) ?_
                    refine w_calll (va_runS (As := [.ref (adp 4 0), .ref (adp 26 3)]) (rest := []) ⟨hx, hb, hml, hown, hts⟩ (c_L_print l hns D B adp (np9, ns9, nc9) σ9 μ9 (np9, ns9, nc9) σ9 hI9 J9.2.2.2.2.2.1.1 J9.2.2.2.2.2.1.2.1) (va_cwS 2 hts gL_law_L_print rfl rfl rfl (by decide +kernel) ⟨Nat.le_of_ble_eq_true rfl, Nat.le_of_ble_eq_true rfl⟩) (w_preS hC hP hS) rfl rfl hl.1 rfl (lv_room (Nat.le_of_ble_eq_true rfl)) dL_law_193 ⟨by show 400 + 200 * (90 - (n8 + 1)) + 133 + 0 ≤ 671708; omega, by show 4000 + 2000 * (90 - (n8 + 1)) + 1138 + 0 ≤ 7086499; omega⟩) hS (fun r_7 ad1 w1 H locs hq hP hS => ?_)
                    obtain ⟨h81, h82⟩ := hq
                    cases h81
                    subst h82
                    refine lv_aload_n hx hb dL_law_196 rfl (lv_at hl 7 rfl) ?_
                    refine lv_aload hx hb dL_law_197 (lv_at hl 3 rfl) ?_
                    refine w_calll (va_runS (As := [.ref (adp 17 0), .ref (adp 26 3)]) (rest := [.long (prO (np9, ns9, nc9) σ9)]) ⟨hx, hb, hml, hown, hts⟩ (t_L_print l hns D B adp (np9, ns9, nc9) σ9 μ9 (np9, ns9, nc9) σ9 hI9 J9.2.2.2.2.2.1.1 J9.2.2.2.2.2.1.2.1) (va_cwS 2 hts gL_law_L_print rfl rfl rfl (by decide +kernel) ⟨Nat.le_of_ble_eq_true rfl, Nat.le_of_ble_eq_true rfl⟩) (w_preS hC hP hS) rfl rfl hl.1 rfl (lv_room (Nat.le_of_ble_eq_true rfl)) dL_law_199 ⟨by show 400 + 200 * (90 - (n8 + 1)) + 133 + 0 ≤ 671708; omega, by show 4000 + 2000 * (90 - (n8 + 1)) + 1138 + 0 ≤ 7086499; omega⟩) hS (fun r_8 ad1 w1 H locs hq hP hS => ?_)
                    obtain ⟨h81, h82⟩ := hq
                    cases h81
                    subst h82
                    refine W.lcmp hx hb dL_law_202 ?_
                    refine lv_if_ne (tgt := 210) hx hb dL_law_203 (by decide) (fun c_203 => ?_) (fun c_203 => ?_)
                    · exact absurd (lg_cmp_self _) c_203
                    · refine lv_iconst (v := 1) hx hb dL_law_206 (by decide) ?_
                      refine lv_goto (tgt := 211) hx hb dL_law_207 (by decide) ?_
                      refine lv_istore (lv' := [(7, .int 1), (9, .int x1), (8, .int (nI k)), (6, .ref (adp 26 3)), (5, .ref (adp 26 2)), (4, .ref (adp 26 1)), (3, .ref (adp 26 0)), (2, .ref (adp 17 0)), (1, .ref (adp 4 0)), (0, .ref b)]) hx hb dL_law_211 hl (by decide) rfl (fun ls hl => ?_)
                      refine lv_iinc (v := nI (k + 1)) (lv' := [(8, .int (nI (k + 1))), (7, .int 1), (9, .int x1), (6, .ref (adp 26 3)), (5, .ref (adp 26 2)), (4, .ref (adp 26 1)), (3, .ref (adp 26 0)), (2, .ref (adp 17 0)), (1, .ref (adp 4 0)), (0, .ref b)]) hx hb dL_law_213 hl (k := 2) rfl (nI_add k 1) (by decide) rfl (fun ls hl => ?_)
                      refine lv_goto (tgt := 65) hx hb dL_law_216 (by decide) ?_
                      refine W.widen (k := 400 + 200 * (90 - n8)) (n := 4000 + 2000 * (90 - n8)) (by show 400 + 200 * (90 - (n8 + 1)) + 133 ≤ _; omega) (by show 4000 + 2000 * (90 - (n8 + 1)) + 1138 ≤ _; omega) ?_
                      exact iha n8 _ _ _ (by omega) ⟨k + 1, adp, np9, ns9, nc9, σ9, μ9, t9, N9, by omega, J9, by omega, by omega, hP, hS, lv_sub hl [0, 1, 3, 4, 5, 6, 7, 8, 9] rfl⟩
          · refine lv_iload hx hb dL_law_87 (lv_at hl 0 rfl) ?_
            refine lv_bipush (v := (24)) hx hb dL_law_89 (by decide) ?_
            refine w_calli (va_runS (As := [.int x0, .int 24]) (rest := []) ⟨hx, hb, hml, hown, hts⟩ (c_L_low l D B ad (eW D ad ((np, ns, nc), σ) ((np, ns, nc), σ) (lW D 4 μ)) x0 24 (by decide)) (va_cwS 2 hts gL_law_L_low rfl rfl rfl (by decide +kernel) ⟨Nat.le_of_ble_eq_true rfl, Nat.le_of_ble_eq_true rfl⟩) (w_preS hC hP hS) rfl rfl hl.1 rfl (lv_room (Nat.le_of_ble_eq_true rfl)) dL_law_91 ⟨by show 400 + 200 * (90 - (n8 + 1)) + 0 + 0 ≤ 671708; omega, by show 4000 + 2000 * (90 - (n8 + 1)) + 0 + 0 ≤ 7086499; omega⟩) hS (fun r_9 ad1 w1 H locs hq hP hS => ?_)
            obtain ⟨h81, h82⟩ := hq
            cases h81
            subst h82
            obtain ⟨i1, hi1, ei1⟩ := low_lt (x0) (k := 24) (by decide) (by decide)
            refine w_top (v := nI i1) ei1 ?_
            refine lv_bipush (v := (11)) hx hb dL_law_94 (by decide) ?_
            refine lv_icmp_le (tgt := 125) hx hb dL_law_96 (by decide) (fun c_96 => ?_) (fun c_96 => ?_)
            · have hi1 : i1 ≤ 11 := (nI_leI (a := i1) (b := 11) (by omega) (by decide)).mp c_96
              refine lv_iload hx hb dL_law_125 (lv_at hl 0 rfl) ?_
              refine lv_istore (lv' := [(9, .int x0), (8, .int (nI k)), (7, .int 1), (6, .ref (ad 26 3)), (5, .ref (ad 26 2)), (4, .ref (ad 26 1)), (3, .ref (ad 26 0)), (2, .ref (ad 17 0)), (1, .ref (ad 4 0)), (0, .ref b)]) hx hb dL_law_127 hl (by decide) rfl (fun ls hl => ?_)
              exact Kx _ _ _ ⟨x0, fun i h1 h2 h3 => absurd (nI_inj (by omega) (by omega) (h1.symm.trans ei1)) (by omega), hP, hS, lv_sub hl [0, 1, 2, 3, 4, 5, 6, 7, 8, 9] rfl⟩
            · refine lv_iload hx hb dL_law_99 (lv_at hl 0 rfl) ?_
              refine lv_bipush (v := (24)) hx hb dL_law_101 (by decide) ?_
              refine w_calli (va_runS (As := [.int x0, .int 24]) (rest := []) ⟨hx, hb, hml, hown, hts⟩ (c_L_low l D B ad (eW D ad ((np, ns, nc), σ) ((np, ns, nc), σ) (lW D 4 μ)) x0 24 (by decide)) (va_cwS 2 hts gL_law_L_low rfl rfl rfl (by decide +kernel) ⟨Nat.le_of_ble_eq_true rfl, Nat.le_of_ble_eq_true rfl⟩) (w_preS hC hP hS) rfl rfl hl.1 rfl (lv_room (Nat.le_of_ble_eq_true rfl)) dL_law_103 ⟨by show 400 + 200 * (90 - (n8 + 1)) + 0 + 0 ≤ 671708; omega, by show 4000 + 2000 * (90 - (n8 + 1)) + 0 + 0 ≤ 7086499; omega⟩) hS (fun r_10 ad1 w1 H locs hq hP hS => ?_)
              obtain ⟨h81, h82⟩ := hq
              cases h81
              subst h82
              obtain ⟨i2, hi2, ei2⟩ := low_lt (x0) (k := 24) (by decide) (by decide)
              refine w_top (v := nI i2) ei2 ?_
              refine lv_bipush (v := (14)) hx hb dL_law_106 (by decide) ?_
              refine lv_icmp_ge (tgt := 125) hx hb dL_law_108 (by decide) (fun c_108 => ?_) (fun c_108 => ?_)
              · have hi2 : 14 ≤ i2 := (nI_leI (a := 14) (b := i2) (by decide) (by omega)).mp c_108
                refine lv_iload hx hb dL_law_125 (lv_at hl 0 rfl) ?_
                refine lv_istore (lv' := [(9, .int x0), (8, .int (nI k)), (7, .int 1), (6, .ref (ad 26 3)), (5, .ref (ad 26 2)), (4, .ref (ad 26 1)), (3, .ref (ad 26 0)), (2, .ref (ad 17 0)), (1, .ref (ad 4 0)), (0, .ref b)]) hx hb dL_law_127 hl (by decide) rfl (fun ls hl => ?_)
                exact Kx _ _ _ ⟨x0, fun i h1 h2 h3 => absurd (nI_inj (by omega) (by omega) (h1.symm.trans ei2)) (by omega), hP, hS, lv_sub hl [0, 1, 2, 3, 4, 5, 6, 7, 8, 9] rfl⟩
              · refine lv_aload hx hb dL_law_111 (lv_at hl 3 rfl) ?_
                refine lv_iconst (v := 1) hx hb dL_law_113 (by decide) ?_
                refine w_top (v := nI 1) rfl ?_
                refine w_ildN hx hb hC hP (eW_L (show 3 < 4 by decide)) (show 1 < 3 from by omega) (by decide) (v := nI ns) l2 dL_law_114 ?_
                refine lv_bipush (v := (20)) hx hb dL_law_115 (by decide) ?_
                refine lv_icmp_le (tgt := 125) hx hb dL_law_117 (by decide) (fun c_117 => ?_) (fun c_117 => ?_)
                · have h20 : ns ≤ 20 := (nI_leI (a := ns) (b := 20) (by omega) (by decide)).mp c_117
                  refine lv_iload hx hb dL_law_125 (lv_at hl 0 rfl) ?_
                  refine lv_istore (lv' := [(9, .int x0), (8, .int (nI k)), (7, .int 1), (6, .ref (ad 26 3)), (5, .ref (ad 26 2)), (4, .ref (ad 26 1)), (3, .ref (ad 26 0)), (2, .ref (ad 17 0)), (1, .ref (ad 4 0)), (0, .ref b)]) hx hb dL_law_127 hl (by decide) rfl (fun ls hl => ?_)
                  exact Kx _ _ _ ⟨x0, fun i h1 h2 h3 => h20, hP, hS, lv_sub hl [0, 1, 2, 3, 4, 5, 6, 7, 8, 9] rfl⟩
                · refine lv_bipush (v := (20)) hx hb dL_law_120 (by decide) ?_
                  refine lv_goto (tgt := 127) hx hb dL_law_122 (by decide) ?_
                  refine lv_istore (lv' := [(9, .int 20), (8, .int (nI k)), (7, .int 1), (6, .ref (ad 26 3)), (5, .ref (ad 26 2)), (4, .ref (ad 26 1)), (3, .ref (ad 26 0)), (2, .ref (ad 17 0)), (1, .ref (ad 4 0)), (0, .ref b)]) hx hb dL_law_127 hl (by decide) rfl (fun ls hl => ?_)
                  exact Kx _ _ _ ⟨20, fun i h1 h2 h3 => absurd (nI_inj (by omega) (by decide) (h1.symm.trans (show lowO 20 (nI 24) = nI 20 by decide))) (by omega), hP, hS, lv_sub hl [0, 1, 2, 3, 4, 5, 6, 7, 8, 9] rfl⟩
