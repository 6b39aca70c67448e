/-! p22: the law's small methods -/
set_option maxHeartbeats 4000000 in
set_option maxRecDepth 100000 in
theorem c_L_at (l : Launch) (D : va_G) (B b L : Nat) (xs : Nat → Int32) (ad : Ad) (w : Wd) (hL : L ≤ 260) (k : Nat) (hk : k < 200) : Met l yL_at wsL_at ({ frames := 0, cells := 0, slots := 0, locals := 0 }) (PreX D B b L xs ad w [.ref b, .int (nI k)]) (Qi D B (fun r u => u = (ad, w))) 0 0 (ab B) := by
  refine Met.ofW (cc := cL_at) (maxL := 2) (ret := (some .int)) (by decide) rfl ?_
  intro p e s m args below meth c s₁ Bd hml hv
  obtain ⟨rfl, ⟨hC, hX, hbB⟩, hP⟩ := hv
  have hx := Bd.exec
  have hb := Bd.bytes
  have hr := Bd.returns
  have hts := atoms_spec (ws := wsL_at) Bd.pre
  have hown : s.vm.findClass RL = some m.cls := findClass_of_methodNamed Bd.named
  have hlocks := Bd.notSynchronized
  have hS : va_S (ab B) s.heap s.heap [] := va_S.rf
  have hl := lv_entry ([.ref b, .int (nI k)]) (n := 2) (Nat.le_of_ble_eq_true rfl)
  rw [lg_entry_eq]
  generalize (lg_sl ([.ref b, .int (nI k)]) ++ List.replicate (2 - (lg_sl ([.ref b, .int (nI k)])).length) Slot.unset).toArray = ls at hl ⊢
  have hl : lv_has ls 2 [(0, .ref b), (1, .int (nI k))] := hl
  refine lv_iload_n hx hb dL_at_0 rfl (lv_at hl 1 rfl) ?_
  refine lv_aload_n hx hb dL_at_1 rfl (lv_at hl 0 rfl) ?_
  refine va_slen hx hb hX (Nat.lt_of_lt_of_le hbB hC.2.1) (Nat.not_le.mpr hbB) hS dL_at_2 ?_
  refine w_top (v := nI L) rfl ?_
  refine lv_icmp_ge (tgt := 12) hx hb dL_at_3 (by decide) (fun c_3 => ?_) (fun c_3 => ?_)
  · refine lv_ldc (v := (747365879)) hx hb hown (hts (.constant RL 7 (747365879)) (by decide +kernel)) dL_at_12 ?_
    refine lv_iload_n hx hb dL_at_14 rfl (lv_at hl 1 rfl) ?_
    refine lv_iconst (v := 1) hx hb dL_at_15 (by decide) ?_
    refine lv_iadd hx hb dL_at_16 ?_
    refine w_top (v := nI (k + 1)) (nI_add k 1) ?_
    refine lv_imul hx hb dL_at_17 ?_
    refine w_top (v := nI (747365879 * (k + 1))) (pk_mul 747365879 (k + 1)) ?_
    refine lv_ldc (v := (1831991717)) hx hb hown (hts (.constant RL 8 (1831991717)) (by decide +kernel)) dL_at_18 ?_
    refine lv_iadd hx hb dL_at_20 ?_
    refine w_top (v := nI ((747365879 * (k + 1)) + 1831991717)) (nI_add (747365879 * (k + 1)) 1831991717) ?_
    exact W.iret (v := (nI ((747365879 * (k + 1)) + 1831991717))) hx hb hr (fun t ht hW => Qi_of (post := fun r u => u = (ad, w)) rfl hP hS ht) hS.2.2 dL_at_21
  · have hlt : k < L := Nat.not_le.mp (fun z => c_3 (nI_le z (by omega)))
    refine lv_aload_n hx hb dL_at_6 rfl (lv_at hl 0 rfl) ?_
    refine lv_iload_n hx hb dL_at_7 rfl (lv_at hl 1 rfl) ?_
    refine va_sld hx hb hX (Nat.lt_of_lt_of_le hbB hC.2.1) (Nat.not_le.mpr hbB) hS (vp_in_nI hlt (by omega)) dL_at_8 ?_
    refine lv_goto (tgt := 21) hx hb dL_at_9 (by decide) ?_
    exact W.iret (v := (xs (nI k).toNatClampNeg)) hx hb hr (fun t ht hW => Qi_of (post := fun r u => u = (ad, w)) rfl hP hS ht) hS.2.2 dL_at_21
set_option maxHeartbeats 4000000 in
set_option maxRecDepth 100000 in
theorem c_L_low (l : Launch) (D : va_G) (B : Nat) (ad : Ad) (w : Wd) (v n : Int32) (hn : ¬ n = 0) : Met l yL_low wsL_low ({ frames := 0, cells := 0, slots := 0, locals := 0 }) (Pre D B ad (w) [.int v, .int n]) (Qi D B (fun r u => u = (ad, w) ∧ r = lowO v n)) 0 0 (ab B) := by
  refine Met.ofW (cc := cL_low) (maxL := 2) (ret := (some .int)) (by decide) rfl ?_
  intro p e s m args below meth c s₁ Bd hml hv
  obtain ⟨rfl, hC, hP⟩ := hv
  have hx := Bd.exec
  have hb := Bd.bytes
  have hr := Bd.returns
  have hts := atoms_spec (ws := wsL_low) Bd.pre
  have hown : s.vm.findClass RL = some m.cls := findClass_of_methodNamed Bd.named
  have hlocks := Bd.notSynchronized
  have hS : va_S (ab B) s.heap s.heap [] := va_S.rf
  have hl := lv_entry ([.int v, .int n]) (n := 2) (Nat.le_of_ble_eq_true rfl)
  rw [lg_entry_eq]
  generalize (lg_sl ([.int v, .int n]) ++ List.replicate (2 - (lg_sl ([.int v, .int n])).length) Slot.unset).toArray = ls at hl ⊢
  have hl : lv_has ls 2 [(0, .int v), (1, .int n)] := hl
  refine lv_iload_n hx hb dL_low_0 rfl (lv_at hl 0 rfl) ?_
  refine lv_ldc (v := (2147483647)) hx hb hown (hts (.constant RL 9 (2147483647)) (by decide +kernel)) dL_low_1 ?_
  refine lv_iand hx hb dL_low_3 ?_
  refine lv_iload_n hx hb dL_low_4 rfl (lv_at hl 1 rfl) ?_
  refine lv_irem hx hb dL_low_5 hn ?_
  refine w_top (v := lowO v n) rfl ?_
  exact W.iret (v := (lowO v n)) hx hb hr (fun t ht hW => Qi_of ⟨rfl, rfl⟩ hP hS ht) hS.2.2 dL_low_6
/-- what is printed of a state -/
def prC (σ : Me) (k : Nat) : Nat → Nat → Int64 → Int64
  | 0, _, h => h
  | n + 1, i, h => prC σ k n (i + 1) (47 * h + (σ 6 k i).toInt64)
def prP (σ : Me) : Nat → Nat → Int64 → Int64
  | 0, _, h => h
  | n + 1, k, h => prP σ n (k + 1) (prC σ k 16 1 (47 * (47 * (47 * (47 * h + (vaO σ k).toInt64) + (nI (stO σ k)).toInt64) + (heO σ k).toInt64) + (σ 5 k 0).toInt64))
def prS (σ : Me) : Nat → Nat → Int64 → Int64
  | 0, _, h => h
  | n + 1, s, h => prS σ n (s + 1) (47 * (47 * (47 * h + (1 - σ 11 s 0).toInt64) + (σ 12 s 0).toInt64) + (σ 13 s 0).toInt64)
def prO (g : GC) (σ : Me) : Int64 := prS σ g.2.1 0 (prP σ g.1 0 (σ 25 0 0).toInt64)
set_option maxHeartbeats 4000000 in
set_option maxRecDepth 100000 in
theorem c_L_print (l : Launch) (hns : l.stackTraces = false) (D : va_G) (B : Nat) (ad : Ad) (g : GC) (σ μ : Me) (g2 : GC) (σ2 : Me) (hI : Ib g σ) (h0 : μ 3 0 0 = nI g.1) (h1 : μ 3 0 1 = nI g.2.1) : Met l yL_print wsL_print ({ frames := 3, cells := 0, slots := 0, locals := 68 }) (Pre D B ad (eW D ad (g, σ) (g2, σ2) (lW D 4 μ)) [.ref (ad 4 0), .ref (ad 26 3)]) (Ql D B (fun r u => u = (ad, eW D ad (g, σ) (g2, σ2) (lW D 4 μ)) ∧ r = prO g σ)) 0 0 (ab B) := by
  refine Met.ofW (cc := cL_print) (maxL := 6) (ret := (some .long)) (by decide) rfl ?_
  intro p e s m args below meth c s₁ Bd hml hv
  obtain ⟨rfl, hC, hP⟩ := hv
  have hx := Bd.exec
  have hb := Bd.bytes
  have hr := Bd.returns
  have hts := atoms_spec (ws := wsL_print) Bd.pre
  have hown : s.vm.findClass RL = some m.cls := findClass_of_methodNamed Bd.named
  have hlocks := Bd.notSynchronized
  have hS : va_S (ab B) s.heap s.heap [] := va_S.rf
  have hl := lv_entry ([.ref (ad 4 0), .ref (ad 26 3)]) (n := 6) (Nat.le_of_ble_eq_true rfl)
  rw [lg_entry_eq]
  generalize (lg_sl ([.ref (ad 4 0), .ref (ad 26 3)]) ++ List.replicate (6 - (lg_sl ([.ref (ad 4 0), .ref (ad 26 3)])).length) Slot.unset).toArray = ls at hl ⊢
  have hl : lv_has ls 6 [(0, .ref (ad 4 0)), (1, .ref (ad 26 3))] := hl
  have g16 := hI.1
  have g30 := hI.2.1
  refine lv_aload_n hx hb dL_print_0 rfl (lv_at hl 0 rfl) ?_
  refine w_calli (va_runV (As := []) (rest := []) ⟨hx, hb, hml, hown, hts⟩ (c_X4_clock l D B ad g σ (tW D ad (g2, σ2) (lW D 4 μ)) 0) (cwV 0 hts gL_print_X4_clock rfl rfl rfl (by decide +kernel) ⟨Nat.le_of_ble_eq_true rfl, Nat.le_of_ble_eq_true rfl⟩) (w_preV hC hP hS cW_4 rfl) rfl rfl hl.1 rfl (lv_room (Nat.le_of_ble_eq_true rfl)) dL_print_1 ⟨Nat.le_of_ble_eq_true rfl, Nat.le_of_ble_eq_true rfl⟩) hS (fun r_1 ad1 w1 H locs hq hP hS => ?_)
  obtain ⟨h81, h82⟩ := hq
  cases h81
  subst h82
  refine lv_i2l (v := (σ 25 0 0).toInt64) hx hb dL_print_4 rfl ?_
  refine lv_lstore_n (lv' := [(2, .long ((σ 25 0 0).toInt64)), (0, .ref (ad 4 0)), (1, .ref (ad 26 3))]) hx hb dL_print_5 rfl hl (by decide) rfl (fun ls hl => ?_)
  refine lv_iconst (v := 0) hx hb dL_print_6 (by decide) ?_
  refine lv_istore (lv' := [(4, .int 0), (2, .long ((σ 25 0 0).toInt64)), (0, .ref (ad 4 0)), (1, .ref (ad 26 3))]) hx hb dL_print_7 hl (by decide) rfl (fun ls hl => ?_)
  refine w_ind (fun na H locs ls => ∃ (k : Nat) (h : Int64), k + na = g.1 ∧ prP σ g.1 0 (σ 25 0 0).toInt64 = prP σ na k h ∧ hw D B ad (eW D ad (g, σ) (g2, σ2) (lW D 4 μ)) H ∧ va_S (ab B) s.heap H locs ∧ lv_has ls 6 [(4, .int (nI k)), (2, .long h), (0, .ref (ad 4 0)), (1, .ref (ad 26 3))]) ?_ g.1 _ _ _ ⟨0, _, by omega, rfl, hP, hS, lv_sub hl [0, 1, 2, 3] rfl⟩
  intro na H locs ls hJa iha
  obtain ⟨k, h, hka, hea, hP, hS, hl⟩ := hJa
  refine lv_iload hx hb dL_print_9 (lv_at hl 0 rfl) ?_
  refine lv_aload_n hx hb dL_print_11 rfl (lv_at hl 3 rfl) ?_
  refine lv_iconst (v := 0) hx hb dL_print_12 (by decide) ?_
  refine w_top (v := nI 0) rfl ?_
  refine w_ildN hx hb hC hP (eW_L (show 3 < 4 by decide)) (show 0 < 3 from by omega) (by decide) (v := nI g.1) h0 dL_print_13 ?_
  refine lv_icmp_ge (tgt := 105) hx hb dL_print_14 (by decide) (fun c_14 => ?_) (fun c_14 => ?_)
  · have hk : g.1 ≤ k := Nat.not_lt.mp (fun z => absurd c_14 (nI_ge z (by omega)))
    refine lv_iconst (v := 0) hx hb dL_print_105 (by decide) ?_
    refine lv_istore (lv' := [(4, .int 0), (2, .long h), (0, .ref (ad 4 0)), (1, .ref (ad 26 3))]) hx hb dL_print_106 hl (by decide) rfl (fun ls hl => ?_)
    refine w_ind (fun nc H locs ls => ∃ (q : Nat) (h3 : Int64), q + nc = g.2.1 ∧ prO g σ = prS σ nc q h3 ∧ hw D B ad (eW D ad (g, σ) (g2, σ2) (lW D 4 μ)) H ∧ va_S (ab B) s.heap H locs ∧ lv_has ls 6 [(4, .int (nI q)), (2, .long h3), (0, .ref (ad 4 0)), (1, .ref (ad 26 3))]) ?_ g.2.1 _ _ _ ⟨0, _, by omega, (by unfold prO; rw [hea, show na = 0 by omega]; rfl), hP, hS, lv_sub hl [0, 1, 2, 3] rfl⟩
    intro nc H locs ls hJc ihc
    obtain ⟨q, h3, hqc, hec, hP, hS, hl⟩ := hJc
    refine lv_iload hx hb dL_print_108 (lv_at hl 0 rfl) ?_
    refine lv_aload_n hx hb dL_print_110 rfl (lv_at hl 3 rfl) ?_
    refine lv_iconst (v := 1) hx hb dL_print_111 (by decide) ?_
    refine w_top (v := nI 1) rfl ?_
    refine w_ildN hx hb hC hP (eW_L (show 3 < 4 by decide)) (show 1 < 3 from by omega) (by decide) (v := nI g.2.1) h1 dL_print_112 ?_
    refine lv_icmp_ge (tgt := 160) hx hb dL_print_113 (by decide) (fun c_113 => ?_) (fun c_113 => ?_)
    · have hq9 : g.2.1 ≤ q := Nat.not_lt.mp (fun z => absurd c_113 (nI_ge z (by omega)))
      refine lv_lload_n hx hb dL_print_160 rfl (lv_at hl 1 rfl) ?_
      exact W.lret (v := h3) hx hb hr (fun t ht hW => Ql_of ⟨rfl, by rw [hec, show nc = 0 by omega]; rfl⟩ hP hS ht) hS.2.2 dL_print_161
    · have hq9 : q < g.2.1 := Nat.not_le.mp (fun z => c_113 (nI_le z (by omega)))
      obtain ⟨n6, rfl⟩ : ∃ n6, nc = n6 + 1 := ⟨nc - 1, by omega⟩
      refine lv_ldc2 (v := 47) hx hb hown (hts (.constantLong RL 85 47) (by decide +kernel)) dL_print_116 ?_
      refine lv_ldc2 (v := 47) hx hb hown (hts (.constantLong RL 85 47) (by decide +kernel)) dL_print_119 ?_
      refine lv_ldc2 (v := 47) hx hb hown (hts (.constantLong RL 85 47) (by decide +kernel)) dL_print_122 ?_
      refine lv_lload_n hx hb dL_print_125 rfl (lv_at hl 1 rfl) ?_
      refine lv_lmul hx hb dL_print_126 ?_
      refine lv_aload_n hx hb dL_print_127 rfl (lv_at hl 2 rfl) ?_
      refine lv_iload hx hb dL_print_128 (lv_at hl 0 rfl) ?_
      refine w_calli (vx_runSW (As := [.ref (ad 4 0), .int (nI q)]) (rest := [.long (47 * h3), .long 47, .long 47]) ⟨hx, hb, hml, hown, hts⟩ (c0_L_goesOn l hns D B ad g σ (tW D ad (g2, σ2) (lW D 4 μ)) 0 hI q hq9) (vx_cwSW 2 hts gL_print_L_goesOn rfl rfl rfl (by decide +kernel) ⟨Nat.le_of_ble_eq_true rfl, Nat.le_of_ble_eq_true rfl⟩) (w_preS hC hP hS) rfl rfl hl.1 rfl (lv_room (Nat.le_of_ble_eq_true rfl)) dL_print_130 ⟨Nat.le_of_ble_eq_true rfl, Nat.le_of_ble_eq_true rfl⟩) hS (fun r_2 ad1 w1 H locs hq hP hS => ?_)
      obtain ⟨S2, h81, h82, h83⟩ := hq
      cases h82
      cases h81
      subst h83
      refine lv_i2l (v := (1 - σ 11 q 0).toInt64) hx hb dL_print_133 rfl ?_
      refine lv_ladd hx hb dL_print_134 ?_
      refine lv_lmul hx hb dL_print_135 ?_
      refine lv_aload_n hx hb dL_print_136 rfl (lv_at hl 2 rfl) ?_
      refine lv_iload hx hb dL_print_137 (lv_at hl 0 rfl) ?_
      refine w_calli (vx_runSW (As := [.ref (ad 4 0), .int (nI q)]) (rest := [.long (47 * ((47 * h3) + ((1 - σ 11 q 0).toInt64))), .long 47]) ⟨hx, hb, hml, hown, hts⟩ (c0_L_reports l hns D B ad g σ (tW D ad (g2, σ2) (lW D 4 μ)) 0 hI q hq9) (vx_cwSW 2 hts gL_print_L_reports rfl rfl rfl (by decide +kernel) ⟨Nat.le_of_ble_eq_true rfl, Nat.le_of_ble_eq_true rfl⟩) (w_preS hC hP hS) rfl rfl hl.1 rfl (lv_room (Nat.le_of_ble_eq_true rfl)) dL_print_139 ⟨Nat.le_of_ble_eq_true rfl, Nat.le_of_ble_eq_true rfl⟩) hS (fun r_3 ad1 w1 H locs hq hP hS => ?_)
      obtain ⟨S2, h81, h82, h83⟩ := hq
      cases h82
      cases h81
      subst h83
      refine lv_i2l (v := (σ 12 q 0).toInt64) hx hb dL_print_142 rfl ?_
      refine lv_ladd hx hb dL_print_143 ?_
      refine lv_lmul hx hb dL_print_144 ?_
      refine lv_aload_n hx hb dL_print_145 rfl (lv_at hl 2 rfl) ?_
      refine lv_iload hx hb dL_print_146 (lv_at hl 0 rfl) ?_
      refine w_calli (vx_runSW (As := [.ref (ad 4 0), .int (nI q)]) (rest := [.long (47 * ((47 * ((47 * h3) + ((1 - σ 11 q 0).toInt64))) + ((σ 12 q 0).toInt64)))]) ⟨hx, hb, hml, hown, hts⟩ (c0_L_reported l hns D B ad g σ (tW D ad (g2, σ2) (lW D 4 μ)) 0 hI q hq9) (vx_cwSW 2 hts gL_print_L_reported rfl rfl rfl (by decide +kernel) ⟨Nat.le_of_ble_eq_true rfl, Nat.le_of_ble_eq_true rfl⟩) (w_preS hC hP hS) rfl rfl hl.1 rfl (lv_room (Nat.le_of_ble_eq_true rfl)) dL_print_148 ⟨Nat.le_of_ble_eq_true rfl, Nat.le_of_ble_eq_true rfl⟩) hS (fun r_4 ad1 w1 H locs hq hP hS => ?_)
      obtain ⟨S2, h81, h82, h83⟩ := hq
      cases h82
      cases h81
      subst h83
      refine lv_i2l (v := (σ 13 q 0).toInt64) hx hb dL_print_151 rfl ?_
      refine lv_ladd hx hb dL_print_152 ?_
      refine lv_lstore_n (lv' := [(2, .long ((47 * ((47 * ((47 * h3) + ((1 - σ 11 q 0).toInt64))) + ((σ 12 q 0).toInt64))) + ((σ 13 q 0).toInt64))), (4, .int (nI q)), (0, .ref (ad 4 0)), (1, .ref (ad 26 3))]) hx hb dL_print_153 rfl hl (by decide) rfl (fun ls hl => ?_)
      refine lv_iinc (v := nI (q + 1)) (lv' := [(4, .int (nI (q + 1))), (2, .long ((47 * ((47 * ((47 * h3) + ((1 - σ 11 q 0).toInt64))) + ((σ 12 q 0).toInt64))) + ((σ 13 q 0).toInt64))), (0, .ref (ad 4 0)), (1, .ref (ad 26 3))]) hx hb dL_print_154 hl (k := 1) rfl (nI_add q 1) (by decide) rfl (fun ls hl => ?_)
      refine lv_goto (tgt := 108) hx hb dL_print_157 (by decide) ?_
      exact ihc n6 _ _ _ (by omega) ⟨q + 1, _, by omega, hec.trans rfl, hP, hS, lv_sub hl [0, 1, 2, 3] rfl⟩
  · have hk : k < g.1 := Nat.not_le.mp (fun z => c_14 (nI_le z (by omega)))
    obtain ⟨n8, rfl⟩ : ∃ n8, na = n8 + 1 := ⟨na - 1, by omega⟩
    refine lv_ldc2 (v := 47) hx hb hown (hts (.constantLong RL 85 47) (by decide +kernel)) dL_print_17 ?_
    refine lv_ldc2 (v := 47) hx hb hown (hts (.constantLong RL 85 47) (by decide +kernel)) dL_print_20 ?_
    refine lv_ldc2 (v := 47) hx hb hown (hts (.constantLong RL 85 47) (by decide +kernel)) dL_print_23 ?_
    refine lv_ldc2 (v := 47) hx hb hown (hts (.constantLong RL 85 47) (by decide +kernel)) dL_print_26 ?_
    refine lv_lload_n hx hb dL_print_29 rfl (lv_at hl 1 rfl) ?_
    refine lv_lmul hx hb dL_print_30 ?_
    refine lv_aload_n hx hb dL_print_31 rfl (lv_at hl 2 rfl) ?_
    refine lv_iload hx hb dL_print_32 (lv_at hl 0 rfl) ?_
    refine w_calli (vx_runSW (As := [.ref (ad 4 0), .int (nI k)]) (rest := [.long (47 * h), .long 47, .long 47, .long 47]) ⟨hx, hb, hml, hown, hts⟩ (c0_L_value l hns D B ad g σ (tW D ad (g2, σ2) (lW D 4 μ)) 0 hI k hk) (vx_cwSW 2 hts gL_print_L_value rfl rfl rfl (by decide +kernel) ⟨Nat.le_of_ble_eq_true rfl, Nat.le_of_ble_eq_true rfl⟩) (w_preS hC hP hS) rfl rfl hl.1 rfl (lv_room (Nat.le_of_ble_eq_true rfl)) dL_print_34 ⟨Nat.le_of_ble_eq_true rfl, Nat.le_of_ble_eq_true rfl⟩) hS (fun r_5 ad1 w1 H locs hq hP hS => ?_)
    obtain ⟨S2, h81, h82, h83⟩ := hq
    cases h82
    cases h81
    subst h83
    refine lv_i2l (v := (vaO σ k).toInt64) hx hb dL_print_37 rfl ?_
    refine lv_ladd hx hb dL_print_38 ?_
    refine lv_lmul hx hb dL_print_39 ?_
    refine lv_aload_n hx hb dL_print_40 rfl (lv_at hl 2 rfl) ?_
    refine lv_iload hx hb dL_print_41 (lv_at hl 0 rfl) ?_
    refine w_calli (vx_runSW (As := [.ref (ad 4 0), .int (nI k)]) (rest := [.long (47 * ((47 * h) + ((vaO σ k).toInt64))), .long 47, .long 47]) ⟨hx, hb, hml, hown, hts⟩ (c0_L_standing l hns D B ad g σ (tW D ad (g2, σ2) (lW D 4 μ)) 0 hI k hk) (vx_cwSW 2 hts gL_print_L_standing rfl rfl rfl (by decide +kernel) ⟨Nat.le_of_ble_eq_true rfl, Nat.le_of_ble_eq_true rfl⟩) (w_preS hC hP hS) rfl rfl hl.1 rfl (lv_room (Nat.le_of_ble_eq_true rfl)) dL_print_43 ⟨Nat.le_of_ble_eq_true rfl, Nat.le_of_ble_eq_true rfl⟩) hS (fun r_6 ad1 w1 H locs hq hP hS => ?_)
    obtain ⟨S2, h81, h82, h83⟩ := hq
    cases h82
    cases h81
    subst h83
    refine lv_i2l (v := (nI (stO σ k)).toInt64) hx hb dL_print_46 rfl ?_
    refine lv_ladd hx hb dL_print_47 ?_
    refine lv_lmul hx hb dL_print_48 ?_
    refine lv_aload_n hx hb dL_print_49 rfl (lv_at hl 2 rfl) ?_
    refine lv_iload hx hb dL_print_50 (lv_at hl 0 rfl) ?_
    refine w_calli (vx_runSW (As := [.ref (ad 4 0), .int (nI k)]) (rest := [.long (47 * ((47 * ((47 * h) + ((vaO σ k).toInt64))) + ((nI (stO σ k)).toInt64))), .long 47]) ⟨hx, hb, hml, hown, hts⟩ (c0_L_held l hns D B ad g σ (tW D ad (g2, σ2) (lW D 4 μ)) 0 hI k hk) (vx_cwSW 2 hts gL_print_L_held rfl rfl rfl (by decide +kernel) ⟨Nat.le_of_ble_eq_true rfl, Nat.le_of_ble_eq_true rfl⟩) (w_preS hC hP hS) rfl rfl hl.1 rfl (lv_room (Nat.le_of_ble_eq_true rfl)) dL_print_52 ⟨Nat.le_of_ble_eq_true rfl, Nat.le_of_ble_eq_true rfl⟩) hS (fun r_7 ad1 w1 H locs hq hP hS => ?_)
    obtain ⟨S2, h81, h82, h83⟩ := hq
    cases h82
    cases h81
    subst h83
    refine w_top (v := heO σ k) rfl ?_
    refine lv_i2l (v := (heO σ k).toInt64) hx hb dL_print_55 rfl ?_
    refine lv_ladd hx hb dL_print_56 ?_
    refine lv_lmul hx hb dL_print_57 ?_
    refine lv_aload_n hx hb dL_print_58 rfl (lv_at hl 2 rfl) ?_
    refine lv_iload hx hb dL_print_59 (lv_at hl 0 rfl) ?_
    refine w_calli (vx_runSW (As := [.ref (ad 4 0), .int (nI k)]) (rest := [.long (47 * ((47 * ((47 * ((47 * h) + ((vaO σ k).toInt64))) + ((nI (stO σ k)).toInt64))) + ((heO σ k).toInt64)))]) ⟨hx, hb, hml, hown, hts⟩ (c0_L_changes l hns D B ad g σ (tW D ad (g2, σ2) (lW D 4 μ)) 0 hI k hk) (vx_cwSW 2 hts gL_print_L_changes rfl rfl rfl (by decide +kernel) ⟨Nat.le_of_ble_eq_true rfl, Nat.le_of_ble_eq_true rfl⟩) (w_preS hC hP hS) rfl rfl hl.1 rfl (lv_room (Nat.le_of_ble_eq_true rfl)) dL_print_61 ⟨Nat.le_of_ble_eq_true rfl, Nat.le_of_ble_eq_true rfl⟩) hS (fun r_8 ad1 w1 H locs hq hP hS => ?_)
    obtain ⟨S2, h81, h82, h83⟩ := hq
    cases h82
    cases h81
    subst h83
    refine lv_i2l (v := (σ 5 k 0).toInt64) hx hb dL_print_64 rfl ?_
    refine lv_ladd hx hb dL_print_65 ?_
    refine lv_lstore_n (lv' := [(2, .long ((47 * ((47 * ((47 * ((47 * h) + ((vaO σ k).toInt64))) + ((nI (stO σ k)).toInt64))) + ((heO σ k).toInt64))) + ((σ 5 k 0).toInt64))), (4, .int (nI k)), (0, .ref (ad 4 0)), (1, .ref (ad 26 3))]) hx hb dL_print_66 rfl hl (by decide) rfl (fun ls hl => ?_)
    refine lv_iconst (v := 1) hx hb dL_print_67 (by decide) ?_
    refine lv_istore (lv' := [(5, .int 1), (2, .long ((47 * ((47 * ((47 * ((47 * h) + ((vaO σ k).toInt64))) + ((nI (stO σ k)).toInt64))) + ((heO σ k).toInt64))) + ((σ 5 k 0).toInt64))), (4, .int (nI k)), (0, .ref (ad 4 0)), (1, .ref (ad 26 3))]) hx hb dL_print_68 hl (by decide) rfl (fun ls hl => ?_)
    refine w_ind (fun nb H locs ls => ∃ (i : Nat) (h2 : Int64), i + nb = 17 ∧ 1 ≤ i ∧ prC σ k 16 1 (47 * (47 * (47 * (47 * h + (vaO σ k).toInt64) + (nI (stO σ k)).toInt64) + (heO σ k).toInt64) + (σ 5 k 0).toInt64) = prC σ k nb i h2 ∧ hw D B ad (eW D ad (g, σ) (g2, σ2) (lW D 4 μ)) H ∧ va_S (ab B) s.heap H locs ∧ lv_has ls 6 [(5, .int (nI i)), (2, .long h2), (4, .int (nI k)), (0, .ref (ad 4 0)), (1, .ref (ad 26 3))]) ?_ 16 _ _ _ ⟨1, _, rfl, Nat.le_refl 1, rfl, hP, hS, lv_sub hl [0, 1, 2, 3, 4] rfl⟩
    intro nb H locs ls hJb ihb
    obtain ⟨i, h2, hib, hi1, heb, hP, hS, hl⟩ := hJb
    refine lv_iload hx hb dL_print_70 (lv_at hl 0 rfl) ?_
    refine lv_bipush (v := (17)) hx hb dL_print_72 (by decide) ?_
    refine lv_icmp_ge (tgt := 99) hx hb dL_print_74 (by decide) (fun c_74 => ?_) (fun c_74 => ?_)
    · have hi : 17 ≤ i := Nat.not_lt.mp (fun z => absurd c_74 (nI_ge (b := 17) z (by decide)))
      refine lv_iinc (v := nI (k + 1)) (lv' := [(4, .int (nI (k + 1))), (5, .int (nI i)), (2, .long h2), (0, .ref (ad 4 0)), (1, .ref (ad 26 3))]) hx hb dL_print_99 hl (k := 2) rfl (nI_add k 1) (by decide) rfl (fun ls hl => ?_)
      refine lv_goto (tgt := 9) hx hb dL_print_102 (by decide) ?_
      exact iha n8 _ _ _ (by omega) ⟨k + 1, _, by omega, hea.trans (by rw [show nb = 0 by omega] at heb; exact congrArg (prP σ n8 (k + 1)) heb), hP, hS, lv_sub hl [0, 2, 3, 4] rfl⟩
    · have hi : i < 17 := Nat.not_le.mp (fun z => c_74 (nI_le (a := 17) z (by omega)))
      obtain ⟨n7, rfl⟩ : ∃ n7, nb = n7 + 1 := ⟨nb - 1, by omega⟩
      refine lv_ldc2 (v := 47) hx hb hown (hts (.constantLong RL 85 47) (by decide +kernel)) dL_print_77 ?_
      refine lv_lload_n hx hb dL_print_80 rfl (lv_at hl 1 rfl) ?_
      refine lv_lmul hx hb dL_print_81 ?_
      refine lv_aload_n hx hb dL_print_82 rfl (lv_at hl 3 rfl) ?_
      refine lv_iload hx hb dL_print_83 (lv_at hl 2 rfl) ?_
      refine lv_iload hx hb dL_print_85 (lv_at hl 0 rfl) ?_
      refine w_calli (vx_runSW (As := [.ref (ad 4 0), .int (nI k), .int (nI i)]) (rest := [.long (47 * h2)]) ⟨hx, hb, hml, hown, hts⟩ (c0_L_command l hns D B ad g σ (tW D ad (g2, σ2) (lW D 4 μ)) 0 hI k hk i hi1 (by omega)) (vx_cwSW 3 hts gL_print_L_command rfl rfl rfl (by decide +kernel) ⟨Nat.le_of_ble_eq_true rfl, Nat.le_of_ble_eq_true rfl⟩) (w_preS hC hP hS) rfl rfl hl.1 rfl (lv_room (Nat.le_of_ble_eq_true rfl)) dL_print_87 ⟨Nat.le_of_ble_eq_true rfl, Nat.le_of_ble_eq_true rfl⟩) hS (fun r_9 ad1 w1 H locs hq hP hS => ?_)
      obtain ⟨S2, h81, h82, h83⟩ := hq
      cases h82
      cases h81
      subst h83
      refine lv_i2l (v := (σ 6 k i).toInt64) hx hb dL_print_90 rfl ?_
      refine lv_ladd hx hb dL_print_91 ?_
      refine lv_lstore_n (lv' := [(2, .long ((47 * h2) + ((σ 6 k i).toInt64))), (5, .int (nI i)), (4, .int (nI k)), (0, .ref (ad 4 0)), (1, .ref (ad 26 3))]) hx hb dL_print_92 rfl hl (by decide) rfl (fun ls hl => ?_)
      refine lv_iinc (v := nI (i + 1)) (lv' := [(5, .int (nI (i + 1))), (2, .long ((47 * h2) + ((σ 6 k i).toInt64))), (4, .int (nI k)), (0, .ref (ad 4 0)), (1, .ref (ad 26 3))]) hx hb dL_print_93 hl (k := 1) rfl (nI_add i 1) (by decide) rfl (fun ls hl => ?_)
      refine lv_goto (tgt := 70) hx hb dL_print_96 (by decide) ?_
      exact ihb n7 _ _ _ (by omega) ⟨i + 1, _, by omega, by omega, heb.trans rfl, hP, hS, lv_sub hl [0, 1, 2, 3, 4] rfl⟩
theorem t_L_print (l : Launch) (hns : l.stackTraces = false) (D : va_G) (B : Nat) (ad : Ad) (g : GC) (σ μ : Me) (g2 : GC) (σ2 : Me) (hI : Ib g σ) (h0 : μ 3 0 0 = nI g.1) (h1 : μ 3 0 1 = nI g.2.1) : Met l yL_print wsL_print ({ frames := 3, cells := 0, slots := 0, locals := 68 }) (Pre D B ad (eW D ad (g2, σ2) (g, σ) (lW D 4 μ)) [.ref (ad 17 0), .ref (ad 26 3)]) (Ql D B (fun r u => u = (ad, eW D ad (g2, σ2) (g, σ) (lW D 4 μ)) ∧ r = prO g σ)) 0 0 (ab B) := by
  refine Jvm.Free.MetFree.mono (c_L_print l hns D B (sA ad) g σ μ g2 σ2 hI h0 h1) (fun a s hp => ⟨hp.1, hp.2.1, hw_sw hp.2.2⟩) (fun _ _ _ _ _ z => z) (fun a s o t hp hq => ?_)
  obtain ⟨⟨⟨r, u, h1, ⟨rfl, h2⟩, h3⟩, hF⟩, hL⟩ := hq
  exact ⟨⟨⟨r, (ad, eW D ad (g2, σ2) (g, σ) (lW D 4 μ)), h1, ⟨rfl, h2⟩, hw_ws h3⟩, hF⟩, hL⟩
