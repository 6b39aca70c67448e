/-! the cases of the loop: addMeasure, addSwitch, subscribe, addSchedule -/
set_option maxHeartbeats 4000000 in
set_option maxRecDepth 100000 in
theorem lc_addMeasure {p : Program} {l : Launch} {e : Env} {s : State} {m : MethodId} {below : List Frame} {meth : Method} {c : Code} {b L : Nat} {xs : Nat → Int32} {D : va_G} (A : LoA p l s m c b L xs D) {Q : State → Prop} {cells slots : Nat} (hcc : cells + 12 ≤ room_1.cells) (hcs : slots + 151 ≤ room_1.slots) {i : Nat} (hi : i + 5 ≤ L) {ad : Ad} {g : GC} {σ : Me} {d th : Int32} {o : Int64} {H : Heap} {locs : List Loc} {ls : Array Slot} (Z : LoS D s b i ad g σ d th o H locs ls) (K : LoK p l e s m below meth c b i D cells slots Q) : W p l e room_1 s m #[Value.ref b] below meth c H locs cells slots Q (F0 m 128 ls []) := by
  obtain ⟨hns, hx, hb, hml, hown, hts, hX, hbl, hL, hC⟩ := A
  obtain ⟨hP, hS, hR, hl⟩ := Z
  obtain ⟨np, ns, nc⟩ := g
  refine lv_aload_n hx hb dL_law_128 rfl (lv_at hl 3 rfl) ?_
  refine lv_aload_n hx hb dL_law_129 rfl (lv_at hl 4 rfl) ?_
  refine lv_iload hx hb dL_law_130 (lv_at hl 0 rfl) ?_
  refine lv_iconst (v := 1) hx hb dL_law_132 (by decide) ?_
  refine lv_iadd hx hb dL_law_133 ?_
  refine w_top (v := nI (i + 1)) (nI_add i 1) ?_
  refine w_sld hx hb hX hbl rfl hS (by omega) hL dL_law_134 ?_
  refine lv_aload_n hx hb dL_law_135 rfl (lv_at hl 1 rfl) ?_
  refine w_calli (vx_runSW (As := [.ref (ad 4 0), .int (xs (i + 1)), .ref (ad 6 0)]) (rest := []) ⟨hx, hb, hml, hown, hts⟩ (c_L_addMeasure l hns D s.heap.size ad np ns nc σ ((np, ns, nc), sh d σ, th) o (Rf_Ib hR) hR.2 (xs (i + 1))) (vx_cwSW 3 hts gL_law_L_addMeasure rfl rfl rfl (by decide +kernel) ⟨(Nat.le_of_ble_eq_true rfl), (Nat.le_of_ble_eq_true rfl)⟩) (w_preS hC hP hS) rfl rfl hl.1 rfl (lv_room (Nat.le_of_ble_eq_true rfl)) dL_law_136 ⟨Nat.le_trans (Nat.add_le_add_left (Nat.le_of_ble_eq_true rfl) _) hcc, Nat.le_trans (Nat.add_le_add_left (Nat.le_of_ble_eq_true rfl) _) hcs⟩) hS (fun r5 ad1 w1 H locs hq hP hS => ?_)
  refine W.widen (k := cells + 12) (n := slots + 151) (Nat.add_le_add_left (Nat.le_of_ble_eq_true rfl) _) (Nat.add_le_add_left (Nat.le_of_ble_eq_true rfl) _) ?_
  by_cases c9 : cdAdM (np, ns, nc) (xs (i + 1)) = 0
  · obtain ⟨ad9, h81, hk9, h82⟩ := hq.1 c9
    cases h81
    subst h82
    have hl : lv_has ls 7 (lvs ad1 b i) := by unfold lvs; rw [hk9 4 (by decide), hk9 5 (by decide), hk9 6 (by decide)]; exact hl
    refine lv_istore (lv' := [(5, .int 0), (4, .int (nI i)), (3, .ref (ad1 6 0)), (2, .ref (ad1 5 0)), (1, .ref (ad1 4 0)), (0, .ref b)]) hx hb dL_law_139 hl (by decide) rfl (fun ls hl => ?_)
    refine lv_aload_n hx hb dL_law_141 rfl (lv_at hl 3 rfl) ?_
    refine lv_aload_n hx hb dL_law_142 rfl (lv_at hl 5 rfl) ?_
    refine lv_iload hx hb dL_law_143 (lv_at hl 1 rfl) ?_
    refine lv_iconst (v := 1) hx hb dL_law_145 (by decide) ?_
    refine lv_iadd hx hb dL_law_146 ?_
    refine w_top (v := nI (i + 1)) (nI_add i 1) ?_
    refine w_sld hx hb hX hbl rfl hS (by omega) hL dL_law_147 ?_
    refine w_calli (va_runV (As := [.int (xs (i + 1))]) (rest := []) ⟨hx, hb, hml, hown, hts⟩ (c_X5_addMeasure l D s.heap.size ad1 ((np + 1, ns, nc), addF np (xs (i + 1)) 0 0 σ) (np, ns, nc) (sh d σ) th ((nI np).toInt64) (Ib_sh (Rf_Ib hR)) (xs (i + 1))) (cwV 1 hts gL_law_X5_addMeasure rfl rfl rfl (by decide +kernel) ⟨(Nat.le_of_ble_eq_true rfl), (Nat.le_of_ble_eq_true rfl)⟩) (w_preV hC hP hS cW_5 rfl) rfl rfl hl.1 rfl (lv_room (Nat.le_of_ble_eq_true rfl)) dL_law_148 ⟨hcc, hcs⟩) hS (fun r6 ad1 w1 H locs hq hP hS => ?_)
    rw [addF_sh] at hq
    obtain ⟨h91, h92⟩ := hq.1 c9
    cases h91
    subst h92
    have hP : hw D s.heap.size ad1 (cW D ad1 ((np + 1, ns, nc), addF np (xs (i + 1)) 0 0 σ) ((np + 1, ns, nc), sh d (addF np (xs (i + 1)) 0 0 σ), nI (cdAdM (np, ns, nc) (xs (i + 1)))) ((nI np).toInt64)) H := hP
    refine lv_istore (lv' := [(6, .int (nI np)), (5, .int 0), (4, .int (nI i)), (3, .ref (ad1 6 0)), (2, .ref (ad1 5 0)), (1, .ref (ad1 4 0)), (0, .ref b)]) hx hb dL_law_151 hl (by decide) rfl (fun ls hl => ?_)
    refine lv_aload_n hx hb dL_law_153 rfl (lv_at hl 4 rfl) ?_
    refine w_calli (va_runV (As := []) (rest := []) ⟨hx, hb, hml, hown, hts⟩ (c_X5_thrown l D s.heap.size ad1 ((np + 1, ns, nc), addF np (xs (i + 1)) 0 0 σ) (np + 1, ns, nc) (sh d (addF np (xs (i + 1)) 0 0 σ)) (nI (cdAdM (np, ns, nc) (xs (i + 1)))) ((nI np).toInt64)) (cwV 0 hts gL_law_X5_thrown rfl rfl rfl (by decide +kernel) ⟨(Nat.le_of_ble_eq_true rfl), (Nat.le_of_ble_eq_true rfl)⟩) (w_preV hC hP hS cW_5 rfl) rfl rfl hl.1 rfl (lv_room (Nat.le_of_ble_eq_true rfl)) dL_law_154 ⟨hcc, hcs⟩) hS (fun r7 ad1 w1 H locs hq hP hS => ?_)
    obtain ⟨h91, h92⟩ := hq
    cases h91
    subst h92
    refine lv_iload hx hb dL_law_157 (lv_at hl 1 rfl) ?_
    refine lv_icmp_eq (tgt := 164) hx hb dL_law_159 (by decide) (fun _ => ?_) (fun c1 => absurd (by rw [c9]; rfl) c1)
    refine lv_iload hx hb dL_law_164 (lv_at hl 1 rfl) ?_
    refine lv_if_ne (tgt := 181) hx hb dL_law_166 (by decide) (fun c2 => absurd rfl c2) (fun _ => ?_)
    refine lv_aload_n hx hb dL_law_169 rfl (lv_at hl 3 rfl) ?_
    refine lv_iconst (v := 0) hx hb dL_law_170 (by decide) ?_
    refine w_laldV hx hb hC hP cW_6 (i := 0) (v := (nI np).toInt64) (by unfold vp_in; decide) rfl dL_law_171 ?_
    refine lv_iload hx hb dL_law_172 (lv_at hl 0 rfl) ?_
    refine lv_i2l (v := (nI np).toInt64) hx hb dL_law_174 rfl ?_
    refine W.lcmp hx hb dL_law_175 ?_
    refine lv_if_eq (tgt := 181) hx hb dL_law_176 (by decide) (fun _ => ?_) (fun c3 => absurd (lg_cmp_self _) c3)
    refine lv_goto (tgt := 1304) hx hb dL_law_181 (by decide) ?_
    refine W.widen (k := cells + 12) (n := slots + 151) (by omega) (by omega) ?_
    exact K ad1 (np + 1, ns, nc) (addF np (xs (i + 1)) 0 0 σ) d (nI (cdAdM (np, ns, nc) (xs (i + 1)))) ((nI np).toInt64) H locs ls ⟨hP, hS, st_adM hR c9, lv_sub hl [2, 3, 4, 5, 6] rfl⟩
  · obtain ⟨h81, h82⟩ := hq.2 c9
    cases h81
    subst h82
    refine lv_istore (lv' := [(5, .int (nI (cdAdM (np, ns, nc) (xs (i + 1))))), (4, .int (nI i)), (3, .ref (ad 6 0)), (2, .ref (ad 5 0)), (1, .ref (ad 4 0)), (0, .ref b)]) hx hb dL_law_139 hl (by decide) rfl (fun ls hl => ?_)
    refine lv_aload_n hx hb dL_law_141 rfl (lv_at hl 3 rfl) ?_
    refine lv_aload_n hx hb dL_law_142 rfl (lv_at hl 5 rfl) ?_
    refine lv_iload hx hb dL_law_143 (lv_at hl 1 rfl) ?_
    refine lv_iconst (v := 1) hx hb dL_law_145 (by decide) ?_
    refine lv_iadd hx hb dL_law_146 ?_
    refine w_top (v := nI (i + 1)) (nI_add i 1) ?_
    refine w_sld hx hb hX hbl rfl hS (by omega) hL dL_law_147 ?_
    refine w_calli (va_runV (As := [.int (xs (i + 1))]) (rest := []) ⟨hx, hb, hml, hown, hts⟩ (c_X5_addMeasure l D s.heap.size ad ((np, ns, nc), σ) (np, ns, nc) (sh d σ) th (o) (Ib_sh (Rf_Ib hR)) (xs (i + 1))) (cwV 1 hts gL_law_X5_addMeasure rfl rfl rfl (by decide +kernel) ⟨(Nat.le_of_ble_eq_true rfl), (Nat.le_of_ble_eq_true rfl)⟩) (w_preV hC hP hS cW_5 rfl) rfl rfl hl.1 rfl (lv_room (Nat.le_of_ble_eq_true rfl)) dL_law_148 ⟨hcc, hcs⟩) hS (fun r6 ad1 w1 H locs hq hP hS => ?_)
    cases hq.2 c9
    have hP : hw D s.heap.size ad (cW D ad ((np, ns, nc), σ) ((np, ns, nc), sh d (σ), nI (cdAdM (np, ns, nc) (xs (i + 1)))) (o)) H := hP
    refine lv_istore (lv' := [(6, .int r6), (5, .int (nI (cdAdM (np, ns, nc) (xs (i + 1))))), (4, .int (nI i)), (3, .ref (ad 6 0)), (2, .ref (ad 5 0)), (1, .ref (ad 4 0)), (0, .ref b)]) hx hb dL_law_151 hl (by decide) rfl (fun ls hl => ?_)
    refine lv_aload_n hx hb dL_law_153 rfl (lv_at hl 4 rfl) ?_
    refine w_calli (va_runV (As := []) (rest := []) ⟨hx, hb, hml, hown, hts⟩ (c_X5_thrown l D s.heap.size ad ((np, ns, nc), σ) (np, ns, nc) (sh d (σ)) (nI (cdAdM (np, ns, nc) (xs (i + 1)))) (o)) (cwV 0 hts gL_law_X5_thrown rfl rfl rfl (by decide +kernel) ⟨(Nat.le_of_ble_eq_true rfl), (Nat.le_of_ble_eq_true rfl)⟩) (w_preV hC hP hS cW_5 rfl) rfl rfl hl.1 rfl (lv_room (Nat.le_of_ble_eq_true rfl)) dL_law_154 ⟨hcc, hcs⟩) hS (fun r7 ad1 w1 H locs hq hP hS => ?_)
    obtain ⟨h91, h92⟩ := hq
    cases h91
    subst h92
    refine lv_iload hx hb dL_law_157 (lv_at hl 1 rfl) ?_
    refine lv_icmp_eq (tgt := 164) hx hb dL_law_159 (by decide) (fun _ => ?_) (fun c1 => absurd rfl c1)
    refine lv_iload hx hb dL_law_164 (lv_at hl 1 rfl) ?_
    refine lv_if_ne (tgt := 181) hx hb dL_law_166 (by decide) (fun _ => ?_) (fun c2 => absurd (nI_cod c2) c9)
    refine lv_goto (tgt := 1304) hx hb dL_law_181 (by decide) ?_
    refine W.widen (k := cells + 12) (n := slots + 151) (by omega) (by omega) ?_
    exact K ad (np, ns, nc) σ d (nI (cdAdM (np, ns, nc) (xs (i + 1)))) (o) H locs ls ⟨hP, hS, hR, lv_sub hl [2, 3, 4, 5, 6] rfl⟩
set_option maxHeartbeats 4000000 in
set_option maxRecDepth 100000 in
theorem lc_addSwitch {p : Program} {l : Launch} {e : Env} {s : State} {m : MethodId} {below : List Frame} {meth : Method} {c : Code} {b L : Nat} {xs : Nat → Int32} {D : va_G} (A : LoA p l s m c b L xs D) {Q : State → Prop} {cells slots : Nat} (hcc : cells + 12 ≤ room_1.cells) (hcs : slots + 151 ≤ room_1.slots) {i : Nat} (hi : i + 5 ≤ L) {ad : Ad} {g : GC} {σ : Me} {d th : Int32} {o : Int64} {H : Heap} {locs : List Loc} {ls : Array Slot} (Z : LoS D s b i ad g σ d th o H locs ls) (K : LoK p l e s m below meth c b i D cells slots Q) : W p l e room_1 s m #[Value.ref b] below meth c H locs cells slots Q (F0 m 184 ls []) := by
  obtain ⟨hns, hx, hb, hml, hown, hts, hX, hbl, hL, hC⟩ := A
  obtain ⟨hP, hS, hR, hl⟩ := Z
  obtain ⟨np, ns, nc⟩ := g
  refine lv_aload_n hx hb dL_law_184 rfl (lv_at hl 3 rfl) ?_
  refine lv_aload_n hx hb dL_law_185 rfl (lv_at hl 4 rfl) ?_
  refine lv_iload hx hb dL_law_186 (lv_at hl 0 rfl) ?_
  refine lv_iconst (v := 1) hx hb dL_law_188 (by decide) ?_
  refine lv_iadd hx hb dL_law_189 ?_
  refine w_top (v := nI (i + 1)) (nI_add i 1) ?_
  refine w_sld hx hb hX hbl rfl hS (by omega) hL dL_law_190 ?_
  refine lv_aload_n hx hb dL_law_191 rfl (lv_at hl 4 rfl) ?_
  refine lv_iload hx hb dL_law_192 (lv_at hl 0 rfl) ?_
  refine lv_iconst (v := 2) hx hb dL_law_194 (by decide) ?_
  refine lv_iadd hx hb dL_law_195 ?_
  refine w_top (v := nI (i + 2)) (nI_add i 2) ?_
  refine w_sld hx hb hX hbl rfl hS (by omega) hL dL_law_196 ?_
  refine lv_aload_n hx hb dL_law_197 rfl (lv_at hl 1 rfl) ?_
  refine w_calli (vx_runSW (As := [.ref (ad 4 0), .int (xs (i + 1)), .int (xs (i + 2)), .ref (ad 6 0)]) (rest := []) ⟨hx, hb, hml, hown, hts⟩ (c_L_addSwitch l hns D s.heap.size ad np ns nc σ ((np, ns, nc), sh d σ, th) o (Rf_Ib hR) hR.2 (xs (i + 1)) (xs (i + 2))) (vx_cwSW 4 hts gL_law_L_addSwitch rfl rfl rfl (by decide +kernel) ⟨(Nat.le_of_ble_eq_true rfl), (Nat.le_of_ble_eq_true rfl)⟩) (w_preS hC hP hS) rfl rfl hl.1 rfl (lv_room (Nat.le_of_ble_eq_true rfl)) dL_law_198 ⟨Nat.le_trans (Nat.add_le_add_left (Nat.le_of_ble_eq_true rfl) _) hcc, Nat.le_trans (Nat.add_le_add_left (Nat.le_of_ble_eq_true rfl) _) hcs⟩) hS (fun r5 ad1 w1 H locs hq hP hS => ?_)
  refine W.widen (k := cells + 12) (n := slots + 151) (Nat.add_le_add_left (Nat.le_of_ble_eq_true rfl) _) (Nat.add_le_add_left (Nat.le_of_ble_eq_true rfl) _) ?_
  by_cases c9 : cdAdS (np, ns, nc) (xs (i + 1)) (xs (i + 2)) = 0
  · obtain ⟨ad9, h81, hk9, h82⟩ := hq.1 c9
    cases h81
    subst h82
    have hl : lv_has ls 7 (lvs ad1 b i) := by unfold lvs; rw [hk9 4 (by decide), hk9 5 (by decide), hk9 6 (by decide)]; exact hl
    refine lv_istore (lv' := [(5, .int 0), (4, .int (nI i)), (3, .ref (ad1 6 0)), (2, .ref (ad1 5 0)), (1, .ref (ad1 4 0)), (0, .ref b)]) hx hb dL_law_201 hl (by decide) rfl (fun ls hl => ?_)
    refine lv_aload_n hx hb dL_law_203 rfl (lv_at hl 3 rfl) ?_
    refine lv_aload_n hx hb dL_law_204 rfl (lv_at hl 5 rfl) ?_
    refine lv_iload hx hb dL_law_205 (lv_at hl 1 rfl) ?_
    refine lv_iconst (v := 1) hx hb dL_law_207 (by decide) ?_
    refine lv_iadd hx hb dL_law_208 ?_
    refine w_top (v := nI (i + 1)) (nI_add i 1) ?_
    refine w_sld hx hb hX hbl rfl hS (by omega) hL dL_law_209 ?_
    refine lv_aload_n hx hb dL_law_210 rfl (lv_at hl 5 rfl) ?_
    refine lv_iload hx hb dL_law_211 (lv_at hl 1 rfl) ?_
    refine lv_iconst (v := 2) hx hb dL_law_213 (by decide) ?_
    refine lv_iadd hx hb dL_law_214 ?_
    refine w_top (v := nI (i + 2)) (nI_add i 2) ?_
    refine w_sld hx hb hX hbl rfl hS (by omega) hL dL_law_215 ?_
    refine w_calli (va_runV (As := [.int (xs (i + 1)), .int (xs (i + 2))]) (rest := []) ⟨hx, hb, hml, hown, hts⟩ (c_X5_addSwitch l D s.heap.size ad1 ((np + 1, ns, nc), addF np (xs (i + 1)) 1 (xs (i + 2)) σ) (np, ns, nc) (sh d σ) th ((nI np).toInt64) (Ib_sh (Rf_Ib hR)) (xs (i + 1)) (xs (i + 2))) (cwV 2 hts gL_law_X5_addSwitch rfl rfl rfl (by decide +kernel) ⟨(Nat.le_of_ble_eq_true rfl), (Nat.le_of_ble_eq_true rfl)⟩) (w_preV hC hP hS cW_5 rfl) rfl rfl hl.1 rfl (lv_room (Nat.le_of_ble_eq_true rfl)) dL_law_216 ⟨hcc, hcs⟩) hS (fun r6 ad1 w1 H locs hq hP hS => ?_)
    rw [addF_sh] at hq
    obtain ⟨h91, h92⟩ := hq.1 c9
    cases h91
    subst h92
    have hP : hw D s.heap.size ad1 (cW D ad1 ((np + 1, ns, nc), addF np (xs (i + 1)) 1 (xs (i + 2)) σ) ((np + 1, ns, nc), sh d (addF np (xs (i + 1)) 1 (xs (i + 2)) σ), nI (cdAdS (np, ns, nc) (xs (i + 1)) (xs (i + 2)))) ((nI np).toInt64)) H := hP
    refine lv_istore (lv' := [(6, .int (nI np)), (5, .int 0), (4, .int (nI i)), (3, .ref (ad1 6 0)), (2, .ref (ad1 5 0)), (1, .ref (ad1 4 0)), (0, .ref b)]) hx hb dL_law_219 hl (by decide) rfl (fun ls hl => ?_)
    refine lv_aload_n hx hb dL_law_221 rfl (lv_at hl 4 rfl) ?_
    refine w_calli (va_runV (As := []) (rest := []) ⟨hx, hb, hml, hown, hts⟩ (c_X5_thrown l D s.heap.size ad1 ((np + 1, ns, nc), addF np (xs (i + 1)) 1 (xs (i + 2)) σ) (np + 1, ns, nc) (sh d (addF np (xs (i + 1)) 1 (xs (i + 2)) σ)) (nI (cdAdS (np, ns, nc) (xs (i + 1)) (xs (i + 2)))) ((nI np).toInt64)) (cwV 0 hts gL_law_X5_thrown rfl rfl rfl (by decide +kernel) ⟨(Nat.le_of_ble_eq_true rfl), (Nat.le_of_ble_eq_true rfl)⟩) (w_preV hC hP hS cW_5 rfl) rfl rfl hl.1 rfl (lv_room (Nat.le_of_ble_eq_true rfl)) dL_law_222 ⟨hcc, hcs⟩) hS (fun r7 ad1 w1 H locs hq hP hS => ?_)
    obtain ⟨h91, h92⟩ := hq
    cases h91
    subst h92
    refine lv_iload hx hb dL_law_225 (lv_at hl 1 rfl) ?_
    refine lv_icmp_eq (tgt := 232) hx hb dL_law_227 (by decide) (fun _ => ?_) (fun c1 => absurd (by rw [c9]; rfl) c1)
    refine lv_iload hx hb dL_law_232 (lv_at hl 1 rfl) ?_
    refine lv_if_ne (tgt := 249) hx hb dL_law_234 (by decide) (fun c2 => absurd rfl c2) (fun _ => ?_)
    refine lv_aload_n hx hb dL_law_237 rfl (lv_at hl 3 rfl) ?_
    refine lv_iconst (v := 0) hx hb dL_law_238 (by decide) ?_
    refine w_laldV hx hb hC hP cW_6 (i := 0) (v := (nI np).toInt64) (by unfold vp_in; decide) rfl dL_law_239 ?_
    refine lv_iload hx hb dL_law_240 (lv_at hl 0 rfl) ?_
    refine lv_i2l (v := (nI np).toInt64) hx hb dL_law_242 rfl ?_
    refine W.lcmp hx hb dL_law_243 ?_
    refine lv_if_eq (tgt := 249) hx hb dL_law_244 (by decide) (fun _ => ?_) (fun c3 => absurd (lg_cmp_self _) c3)
    refine lv_goto (tgt := 1304) hx hb dL_law_249 (by decide) ?_
    refine W.widen (k := cells + 12) (n := slots + 151) (by omega) (by omega) ?_
    exact K ad1 (np + 1, ns, nc) (addF np (xs (i + 1)) 1 (xs (i + 2)) σ) d (nI (cdAdS (np, ns, nc) (xs (i + 1)) (xs (i + 2)))) ((nI np).toInt64) H locs ls ⟨hP, hS, st_adS hR c9, lv_sub hl [2, 3, 4, 5, 6] rfl⟩
  · obtain ⟨h81, h82⟩ := hq.2 c9
    cases h81
    subst h82
    refine lv_istore (lv' := [(5, .int (nI (cdAdS (np, ns, nc) (xs (i + 1)) (xs (i + 2))))), (4, .int (nI i)), (3, .ref (ad 6 0)), (2, .ref (ad 5 0)), (1, .ref (ad 4 0)), (0, .ref b)]) hx hb dL_law_201 hl (by decide) rfl (fun ls hl => ?_)
    refine lv_aload_n hx hb dL_law_203 rfl (lv_at hl 3 rfl) ?_
    refine lv_aload_n hx hb dL_law_204 rfl (lv_at hl 5 rfl) ?_
    refine lv_iload hx hb dL_law_205 (lv_at hl 1 rfl) ?_
    refine lv_iconst (v := 1) hx hb dL_law_207 (by decide) ?_
    refine lv_iadd hx hb dL_law_208 ?_
    refine w_top (v := nI (i + 1)) (nI_add i 1) ?_
    refine w_sld hx hb hX hbl rfl hS (by omega) hL dL_law_209 ?_
    refine lv_aload_n hx hb dL_law_210 rfl (lv_at hl 5 rfl) ?_
    refine lv_iload hx hb dL_law_211 (lv_at hl 1 rfl) ?_
    refine lv_iconst (v := 2) hx hb dL_law_213 (by decide) ?_
    refine lv_iadd hx hb dL_law_214 ?_
    refine w_top (v := nI (i + 2)) (nI_add i 2) ?_
    refine w_sld hx hb hX hbl rfl hS (by omega) hL dL_law_215 ?_
    refine w_calli (va_runV (As := [.int (xs (i + 1)), .int (xs (i + 2))]) (rest := []) ⟨hx, hb, hml, hown, hts⟩ (c_X5_addSwitch l D s.heap.size ad ((np, ns, nc), σ) (np, ns, nc) (sh d σ) th (o) (Ib_sh (Rf_Ib hR)) (xs (i + 1)) (xs (i + 2))) (cwV 2 hts gL_law_X5_addSwitch rfl rfl rfl (by decide +kernel) ⟨(Nat.le_of_ble_eq_true rfl), (Nat.le_of_ble_eq_true rfl)⟩) (w_preV hC hP hS cW_5 rfl) rfl rfl hl.1 rfl (lv_room (Nat.le_of_ble_eq_true rfl)) dL_law_216 ⟨hcc, hcs⟩) hS (fun r6 ad1 w1 H locs hq hP hS => ?_)
    cases hq.2 c9
    have hP : hw D s.heap.size ad (cW D ad ((np, ns, nc), σ) ((np, ns, nc), sh d (σ), nI (cdAdS (np, ns, nc) (xs (i + 1)) (xs (i + 2)))) (o)) H := hP
    refine lv_istore (lv' := [(6, .int r6), (5, .int (nI (cdAdS (np, ns, nc) (xs (i + 1)) (xs (i + 2))))), (4, .int (nI i)), (3, .ref (ad 6 0)), (2, .ref (ad 5 0)), (1, .ref (ad 4 0)), (0, .ref b)]) hx hb dL_law_219 hl (by decide) rfl (fun ls hl => ?_)
    refine lv_aload_n hx hb dL_law_221 rfl (lv_at hl 4 rfl) ?_
    refine w_calli (va_runV (As := []) (rest := []) ⟨hx, hb, hml, hown, hts⟩ (c_X5_thrown l D s.heap.size ad ((np, ns, nc), σ) (np, ns, nc) (sh d (σ)) (nI (cdAdS (np, ns, nc) (xs (i + 1)) (xs (i + 2)))) (o)) (cwV 0 hts gL_law_X5_thrown rfl rfl rfl (by decide +kernel) ⟨(Nat.le_of_ble_eq_true rfl), (Nat.le_of_ble_eq_true rfl)⟩) (w_preV hC hP hS cW_5 rfl) rfl rfl hl.1 rfl (lv_room (Nat.le_of_ble_eq_true rfl)) dL_law_222 ⟨hcc, hcs⟩) hS (fun r7 ad1 w1 H locs hq hP hS => ?_)
    obtain ⟨h91, h92⟩ := hq
    cases h91
    subst h92
    refine lv_iload hx hb dL_law_225 (lv_at hl 1 rfl) ?_
    refine lv_icmp_eq (tgt := 232) hx hb dL_law_227 (by decide) (fun _ => ?_) (fun c1 => absurd rfl c1)
    refine lv_iload hx hb dL_law_232 (lv_at hl 1 rfl) ?_
    refine lv_if_ne (tgt := 249) hx hb dL_law_234 (by decide) (fun _ => ?_) (fun c2 => absurd (nI_cod c2) c9)
    refine lv_goto (tgt := 1304) hx hb dL_law_249 (by decide) ?_
    refine W.widen (k := cells + 12) (n := slots + 151) (by omega) (by omega) ?_
    exact K ad (np, ns, nc) σ d (nI (cdAdS (np, ns, nc) (xs (i + 1)) (xs (i + 2)))) (o) H locs ls ⟨hP, hS, hR, lv_sub hl [2, 3, 4, 5, 6] rfl⟩
set_option maxHeartbeats 4000000 in
set_option maxRecDepth 100000 in
theorem lc_subscribe {p : Program} {l : Launch} {e : Env} {s : State} {m : MethodId} {below : List Frame} {meth : Method} {c : Code} {b L : Nat} {xs : Nat → Int32} {D : va_G} (A : LoA p l s m c b L xs D) {Q : State → Prop} {cells slots : Nat} (hcc : cells + 12 ≤ room_1.cells) (hcs : slots + 151 ≤ room_1.slots) {i : Nat} (hi : i + 5 ≤ L) {ad : Ad} {g : GC} {σ : Me} {d th : Int32} {o : Int64} {H : Heap} {locs : List Loc} {ls : Array Slot} (Z : LoS D s b i ad g σ d th o H locs ls) (K : LoK p l e s m below meth c b i D cells slots Q) : W p l e room_1 s m #[Value.ref b] below meth c H locs cells slots Q (F0 m 624 ls []) := by
  obtain ⟨hns, hx, hb, hml, hown, hts, hX, hbl, hL, hC⟩ := A
  obtain ⟨hP, hS, hR, hl⟩ := Z
  obtain ⟨np, ns, nc⟩ := g
  refine lv_aload_n hx hb dL_law_624 rfl (lv_at hl 3 rfl) ?_
  refine lv_aload_n hx hb dL_law_625 rfl (lv_at hl 4 rfl) ?_
  refine lv_iload hx hb dL_law_626 (lv_at hl 0 rfl) ?_
  refine lv_iconst (v := 1) hx hb dL_law_628 (by decide) ?_
  refine lv_iadd hx hb dL_law_629 ?_
  refine w_top (v := nI (i + 1)) (nI_add i 1) ?_
  refine w_sld hx hb hX hbl rfl hS (by omega) hL dL_law_630 ?_
  refine lv_aload_n hx hb dL_law_631 rfl (lv_at hl 4 rfl) ?_
  refine lv_iload hx hb dL_law_632 (lv_at hl 0 rfl) ?_
  refine lv_iconst (v := 2) hx hb dL_law_634 (by decide) ?_
  refine lv_iadd hx hb dL_law_635 ?_
  refine w_top (v := nI (i + 2)) (nI_add i 2) ?_
  refine w_sld hx hb hX hbl rfl hS (by omega) hL dL_law_636 ?_
  refine lv_aload_n hx hb dL_law_637 rfl (lv_at hl 4 rfl) ?_
  refine lv_iload hx hb dL_law_638 (lv_at hl 0 rfl) ?_
  refine lv_iconst (v := 3) hx hb dL_law_640 (by decide) ?_
  refine lv_iadd hx hb dL_law_641 ?_
  refine w_top (v := nI (i + 3)) (nI_add i 3) ?_
  refine w_sld hx hb hX hbl rfl hS (by omega) hL dL_law_642 ?_
  refine lv_aload_n hx hb dL_law_643 rfl (lv_at hl 1 rfl) ?_
  refine w_calli (vx_runSW (As := [.ref (ad 4 0), .int (xs (i + 1)), .int (xs (i + 2)), .int (xs (i + 3)), .ref (ad 6 0)]) (rest := []) ⟨hx, hb, hml, hown, hts⟩ (c_L_subscribe l hns D s.heap.size ad np ns nc σ ((np, ns, nc), sh d σ, th) o (Rf_Ib hR) hR.2 (xs (i + 1)) (xs (i + 2)) (xs (i + 3))) (vx_cwSW 5 hts gL_law_L_subscribe rfl rfl rfl (by decide +kernel) ⟨(Nat.le_of_ble_eq_true rfl), (Nat.le_of_ble_eq_true rfl)⟩) (w_preS hC hP hS) rfl rfl hl.1 rfl (lv_room (Nat.le_of_ble_eq_true rfl)) dL_law_644 ⟨Nat.le_trans (Nat.add_le_add_left (Nat.le_of_ble_eq_true rfl) _) hcc, Nat.le_trans (Nat.add_le_add_left (Nat.le_of_ble_eq_true rfl) _) hcs⟩) hS (fun r5 ad1 w1 H locs hq hP hS => ?_)
  refine W.widen (k := cells + 12) (n := slots + 151) (Nat.add_le_add_left (Nat.le_of_ble_eq_true rfl) _) (Nat.add_le_add_left (Nat.le_of_ble_eq_true rfl) _) ?_
  by_cases c9 : cdSub (np, ns, nc) (xs (i + 1)) (xs (i + 2)) (xs (i + 3)) = 0
  · obtain ⟨ad9, h81, hk9, h82⟩ := hq.1 c9
    cases h81
    subst h82
    have hl : lv_has ls 7 (lvs ad1 b i) := by unfold lvs; rw [hk9 4 (by decide), hk9 5 (by decide), hk9 6 (by decide)]; exact hl
    refine lv_istore (lv' := [(5, .int 0), (4, .int (nI i)), (3, .ref (ad1 6 0)), (2, .ref (ad1 5 0)), (1, .ref (ad1 4 0)), (0, .ref b)]) hx hb dL_law_647 hl (by decide) rfl (fun ls hl => ?_)
    refine lv_aload_n hx hb dL_law_649 rfl (lv_at hl 3 rfl) ?_
    refine lv_aload_n hx hb dL_law_650 rfl (lv_at hl 5 rfl) ?_
    refine lv_iload hx hb dL_law_651 (lv_at hl 1 rfl) ?_
    refine lv_iconst (v := 1) hx hb dL_law_653 (by decide) ?_
    refine lv_iadd hx hb dL_law_654 ?_
    refine w_top (v := nI (i + 1)) (nI_add i 1) ?_
    refine w_sld hx hb hX hbl rfl hS (by omega) hL dL_law_655 ?_
    refine lv_aload_n hx hb dL_law_656 rfl (lv_at hl 5 rfl) ?_
    refine lv_iload hx hb dL_law_657 (lv_at hl 1 rfl) ?_
    refine lv_iconst (v := 2) hx hb dL_law_659 (by decide) ?_
    refine lv_iadd hx hb dL_law_660 ?_
    refine w_top (v := nI (i + 2)) (nI_add i 2) ?_
    refine w_sld hx hb hX hbl rfl hS (by omega) hL dL_law_661 ?_
    refine lv_aload_n hx hb dL_law_662 rfl (lv_at hl 5 rfl) ?_
    refine lv_iload hx hb dL_law_663 (lv_at hl 1 rfl) ?_
    refine lv_iconst (v := 3) hx hb dL_law_665 (by decide) ?_
    refine lv_iadd hx hb dL_law_666 ?_
    refine w_top (v := nI (i + 3)) (nI_add i 3) ?_
    refine w_sld hx hb hX hbl rfl hS (by omega) hL dL_law_667 ?_
    refine w_calli (va_runV (As := [.int (xs (i + 1)), .int (xs (i + 2)), .int (xs (i + 3))]) (rest := []) ⟨hx, hb, hml, hown, hts⟩ (c_X5_subscribe l D s.heap.size ad1 ((np, ns + 1, nc), subF ns (xs (i + 1)) (xs (i + 2)) (σ 25 0 0 + (xs (i + 3))) (σ 7 (nOf (xs (i + 1))) 0) σ) (np, ns, nc) (sh d σ) th ((nI ns).toInt64) (Ib_sh (Rf_Ib hR)) (xs (i + 1)) (xs (i + 2)) (xs (i + 3))) (cwV 3 hts gL_law_X5_subscribe rfl rfl rfl (by decide +kernel) ⟨(Nat.le_of_ble_eq_true rfl), (Nat.le_of_ble_eq_true rfl)⟩) (w_preV hC hP hS cW_5 rfl) rfl rfl hl.1 rfl (lv_room (Nat.le_of_ble_eq_true rfl)) dL_law_668 ⟨hcc, hcs⟩) hS (fun r6 ad1 w1 H locs hq hP hS => ?_)
    rw [sh_n (a := 25) (by decide), sh_n (a := 7) (by decide), subF_sh] at hq
    obtain ⟨h91, h92⟩ := hq.1 c9
    cases h91
    subst h92
    have hP : hw D s.heap.size ad1 (cW D ad1 ((np, ns + 1, nc), subF ns (xs (i + 1)) (xs (i + 2)) (σ 25 0 0 + (xs (i + 3))) (σ 7 (nOf (xs (i + 1))) 0) σ) ((np, ns + 1, nc), sh d (subF ns (xs (i + 1)) (xs (i + 2)) (σ 25 0 0 + (xs (i + 3))) (σ 7 (nOf (xs (i + 1))) 0) σ), nI (cdSub (np, ns, nc) (xs (i + 1)) (xs (i + 2)) (xs (i + 3)))) ((nI ns).toInt64)) H := hP
    refine lv_istore (lv' := [(6, .int (nI ns)), (5, .int 0), (4, .int (nI i)), (3, .ref (ad1 6 0)), (2, .ref (ad1 5 0)), (1, .ref (ad1 4 0)), (0, .ref b)]) hx hb dL_law_671 hl (by decide) rfl (fun ls hl => ?_)
    refine lv_aload_n hx hb dL_law_673 rfl (lv_at hl 4 rfl) ?_
    refine w_calli (va_runV (As := []) (rest := []) ⟨hx, hb, hml, hown, hts⟩ (c_X5_thrown l D s.heap.size ad1 ((np, ns + 1, nc), subF ns (xs (i + 1)) (xs (i + 2)) (σ 25 0 0 + (xs (i + 3))) (σ 7 (nOf (xs (i + 1))) 0) σ) (np, ns + 1, nc) (sh d (subF ns (xs (i + 1)) (xs (i + 2)) (σ 25 0 0 + (xs (i + 3))) (σ 7 (nOf (xs (i + 1))) 0) σ)) (nI (cdSub (np, ns, nc) (xs (i + 1)) (xs (i + 2)) (xs (i + 3)))) ((nI ns).toInt64)) (cwV 0 hts gL_law_X5_thrown rfl rfl rfl (by decide +kernel) ⟨(Nat.le_of_ble_eq_true rfl), (Nat.le_of_ble_eq_true rfl)⟩) (w_preV hC hP hS cW_5 rfl) rfl rfl hl.1 rfl (lv_room (Nat.le_of_ble_eq_true rfl)) dL_law_674 ⟨hcc, hcs⟩) hS (fun r7 ad1 w1 H locs hq hP hS => ?_)
    obtain ⟨h91, h92⟩ := hq
    cases h91
    subst h92
    refine lv_iload hx hb dL_law_677 (lv_at hl 1 rfl) ?_
    refine lv_icmp_eq (tgt := 684) hx hb dL_law_679 (by decide) (fun _ => ?_) (fun c1 => absurd (by rw [c9]; rfl) c1)
    refine lv_iload hx hb dL_law_684 (lv_at hl 1 rfl) ?_
    refine lv_if_ne (tgt := 701) hx hb dL_law_686 (by decide) (fun c2 => absurd rfl c2) (fun _ => ?_)
    refine lv_aload_n hx hb dL_law_689 rfl (lv_at hl 3 rfl) ?_
    refine lv_iconst (v := 0) hx hb dL_law_690 (by decide) ?_
    refine w_laldV hx hb hC hP cW_6 (i := 0) (v := (nI ns).toInt64) (by unfold vp_in; decide) rfl dL_law_691 ?_
    refine lv_iload hx hb dL_law_692 (lv_at hl 0 rfl) ?_
    refine lv_i2l (v := (nI ns).toInt64) hx hb dL_law_694 rfl ?_
    refine W.lcmp hx hb dL_law_695 ?_
    refine lv_if_eq (tgt := 701) hx hb dL_law_696 (by decide) (fun _ => ?_) (fun c3 => absurd (lg_cmp_self _) c3)
    refine lv_goto (tgt := 1304) hx hb dL_law_701 (by decide) ?_
    refine W.widen (k := cells + 12) (n := slots + 151) (by omega) (by omega) ?_
    exact K ad1 (np, ns + 1, nc) (subF ns (xs (i + 1)) (xs (i + 2)) (σ 25 0 0 + (xs (i + 3))) (σ 7 (nOf (xs (i + 1))) 0) σ) d (nI (cdSub (np, ns, nc) (xs (i + 1)) (xs (i + 2)) (xs (i + 3)))) ((nI ns).toInt64) H locs ls ⟨hP, hS, st_sub hR c9, lv_sub hl [2, 3, 4, 5, 6] rfl⟩
  · obtain ⟨h81, h82⟩ := hq.2 c9
    cases h81
    subst h82
    refine lv_istore (lv' := [(5, .int (nI (cdSub (np, ns, nc) (xs (i + 1)) (xs (i + 2)) (xs (i + 3))))), (4, .int (nI i)), (3, .ref (ad 6 0)), (2, .ref (ad 5 0)), (1, .ref (ad 4 0)), (0, .ref b)]) hx hb dL_law_647 hl (by decide) rfl (fun ls hl => ?_)
    refine lv_aload_n hx hb dL_law_649 rfl (lv_at hl 3 rfl) ?_
    refine lv_aload_n hx hb dL_law_650 rfl (lv_at hl 5 rfl) ?_
    refine lv_iload hx hb dL_law_651 (lv_at hl 1 rfl) ?_
    refine lv_iconst (v := 1) hx hb dL_law_653 (by decide) ?_
    refine lv_iadd hx hb dL_law_654 ?_
    refine w_top (v := nI (i + 1)) (nI_add i 1) ?_
    refine w_sld hx hb hX hbl rfl hS (by omega) hL dL_law_655 ?_
    refine lv_aload_n hx hb dL_law_656 rfl (lv_at hl 5 rfl) ?_
    refine lv_iload hx hb dL_law_657 (lv_at hl 1 rfl) ?_
    refine lv_iconst (v := 2) hx hb dL_law_659 (by decide) ?_
    refine lv_iadd hx hb dL_law_660 ?_
    refine w_top (v := nI (i + 2)) (nI_add i 2) ?_
    refine w_sld hx hb hX hbl rfl hS (by omega) hL dL_law_661 ?_
    refine lv_aload_n hx hb dL_law_662 rfl (lv_at hl 5 rfl) ?_
    refine lv_iload hx hb dL_law_663 (lv_at hl 1 rfl) ?_
    refine lv_iconst (v := 3) hx hb dL_law_665 (by decide) ?_
    refine lv_iadd hx hb dL_law_666 ?_
    refine w_top (v := nI (i + 3)) (nI_add i 3) ?_
    refine w_sld hx hb hX hbl rfl hS (by omega) hL dL_law_667 ?_
    refine w_calli (va_runV (As := [.int (xs (i + 1)), .int (xs (i + 2)), .int (xs (i + 3))]) (rest := []) ⟨hx, hb, hml, hown, hts⟩ (c_X5_subscribe l D s.heap.size ad ((np, ns, nc), σ) (np, ns, nc) (sh d σ) th (o) (Ib_sh (Rf_Ib hR)) (xs (i + 1)) (xs (i + 2)) (xs (i + 3))) (cwV 3 hts gL_law_X5_subscribe rfl rfl rfl (by decide +kernel) ⟨(Nat.le_of_ble_eq_true rfl), (Nat.le_of_ble_eq_true rfl)⟩) (w_preV hC hP hS cW_5 rfl) rfl rfl hl.1 rfl (lv_room (Nat.le_of_ble_eq_true rfl)) dL_law_668 ⟨hcc, hcs⟩) hS (fun r6 ad1 w1 H locs hq hP hS => ?_)
    cases hq.2 c9
    have hP : hw D s.heap.size ad (cW D ad ((np, ns, nc), σ) ((np, ns, nc), sh d (σ), nI (cdSub (np, ns, nc) (xs (i + 1)) (xs (i + 2)) (xs (i + 3)))) (o)) H := hP
    refine lv_istore (lv' := [(6, .int r6), (5, .int (nI (cdSub (np, ns, nc) (xs (i + 1)) (xs (i + 2)) (xs (i + 3))))), (4, .int (nI i)), (3, .ref (ad 6 0)), (2, .ref (ad 5 0)), (1, .ref (ad 4 0)), (0, .ref b)]) hx hb dL_law_671 hl (by decide) rfl (fun ls hl => ?_)
    refine lv_aload_n hx hb dL_law_673 rfl (lv_at hl 4 rfl) ?_
    refine w_calli (va_runV (As := []) (rest := []) ⟨hx, hb, hml, hown, hts⟩ (c_X5_thrown l D s.heap.size ad ((np, ns, nc), σ) (np, ns, nc) (sh d (σ)) (nI (cdSub (np, ns, nc) (xs (i + 1)) (xs (i + 2)) (xs (i + 3)))) (o)) (cwV 0 hts gL_law_X5_thrown rfl rfl rfl (by decide +kernel) ⟨(Nat.le_of_ble_eq_true rfl), (Nat.le_of_ble_eq_true rfl)⟩) (w_preV hC hP hS cW_5 rfl) rfl rfl hl.1 rfl (lv_room (Nat.le_of_ble_eq_true rfl)) dL_law_674 ⟨hcc, hcs⟩) hS (fun r7 ad1 w1 H locs hq hP hS => ?_)
    obtain ⟨h91, h92⟩ := hq
    cases h91
    subst h92
    refine lv_iload hx hb dL_law_677 (lv_at hl 1 rfl) ?_
    refine lv_icmp_eq (tgt := 684) hx hb dL_law_679 (by decide) (fun _ => ?_) (fun c1 => absurd rfl c1)
    refine lv_iload hx hb dL_law_684 (lv_at hl 1 rfl) ?_
    refine lv_if_ne (tgt := 701) hx hb dL_law_686 (by decide) (fun _ => ?_) (fun c2 => absurd (nI_cod c2) c9)
    refine lv_goto (tgt := 1304) hx hb dL_law_701 (by decide) ?_
    refine W.widen (k := cells + 12) (n := slots + 151) (by omega) (by omega) ?_
    exact K ad (np, ns, nc) σ d (nI (cdSub (np, ns, nc) (xs (i + 1)) (xs (i + 2)) (xs (i + 3)))) (o) H locs ls ⟨hP, hS, hR, lv_sub hl [2, 3, 4, 5, 6] rfl⟩
set_option maxHeartbeats 4000000 in
set_option maxRecDepth 100000 in
theorem lc_addSchedule {p : Program} {l : Launch} {e : Env} {s : State} {m : MethodId} {below : List Frame} {meth : Method} {c : Code} {b L : Nat} {xs : Nat → Int32} {D : va_G} (A : LoA p l s m c b L xs D) {Q : State → Prop} {cells slots : Nat} (hcc : cells + 12 ≤ room_1.cells) (hcs : slots + 151 ≤ room_1.slots) {i : Nat} (hi : i + 5 ≤ L) {ad : Ad} {g : GC} {σ : Me} {d th : Int32} {o : Int64} {H : Heap} {locs : List Loc} {ls : Array Slot} (Z : LoS D s b i ad g σ d th o H locs ls) (K : LoK p l e s m below meth c b i D cells slots Q) : W p l e room_1 s m #[Value.ref b] below meth c H locs cells slots Q (F0 m 915 ls []) := by
  obtain ⟨hns, hx, hb, hml, hown, hts, hX, hbl, hL, hC⟩ := A
  obtain ⟨hP, hS, hR, hl⟩ := Z
  obtain ⟨np, ns, nc⟩ := g
  refine lv_aload_n hx hb dL_law_915 rfl (lv_at hl 3 rfl) ?_
  refine lv_aload_n hx hb dL_law_916 rfl (lv_at hl 4 rfl) ?_
  refine lv_iload hx hb dL_law_917 (lv_at hl 0 rfl) ?_
  refine lv_iconst (v := 1) hx hb dL_law_919 (by decide) ?_
  refine lv_iadd hx hb dL_law_920 ?_
  refine w_top (v := nI (i + 1)) (nI_add i 1) ?_
  refine w_sld hx hb hX hbl rfl hS (by omega) hL dL_law_921 ?_
  refine lv_aload_n hx hb dL_law_922 rfl (lv_at hl 4 rfl) ?_
  refine lv_iload hx hb dL_law_923 (lv_at hl 0 rfl) ?_
  refine lv_iconst (v := 2) hx hb dL_law_925 (by decide) ?_
  refine lv_iadd hx hb dL_law_926 ?_
  refine w_top (v := nI (i + 2)) (nI_add i 2) ?_
  refine w_sld hx hb hX hbl rfl hS (by omega) hL dL_law_927 ?_
  refine lv_aload_n hx hb dL_law_928 rfl (lv_at hl 1 rfl) ?_
  refine w_calli (vx_runSW (As := [.ref (ad 4 0), .int (xs (i + 1)), .int (xs (i + 2)), .ref (ad 6 0)]) (rest := []) ⟨hx, hb, hml, hown, hts⟩ (c_L_addSchedule l hns D s.heap.size ad np ns nc σ ((np, ns, nc), sh d σ, th) o (Rf_Ib hR) hR.2 (xs (i + 1)) (xs (i + 2))) (vx_cwSW 4 hts gL_law_L_addSchedule rfl rfl rfl (by decide +kernel) ⟨(Nat.le_of_ble_eq_true rfl), (Nat.le_of_ble_eq_true rfl)⟩) (w_preS hC hP hS) rfl rfl hl.1 rfl (lv_room (Nat.le_of_ble_eq_true rfl)) dL_law_929 ⟨Nat.le_trans (Nat.add_le_add_left (Nat.le_of_ble_eq_true rfl) _) hcc, Nat.le_trans (Nat.add_le_add_left (Nat.le_of_ble_eq_true rfl) _) hcs⟩) hS (fun r5 ad1 w1 H locs hq hP hS => ?_)
  refine W.widen (k := cells + 12) (n := slots + 151) (Nat.add_le_add_left (Nat.le_of_ble_eq_true rfl) _) (Nat.add_le_add_left (Nat.le_of_ble_eq_true rfl) _) ?_
  by_cases c9 : cdAdC (np, ns, nc) (xs (i + 1)) (xs (i + 2)) = 0
  · obtain ⟨ad9, h81, hk9, h82⟩ := hq.1 c9
    cases h81
    subst h82
    have hl : lv_has ls 7 (lvs ad1 b i) := by unfold lvs; rw [hk9 4 (by decide), hk9 5 (by decide), hk9 6 (by decide)]; exact hl
    refine lv_istore (lv' := [(5, .int 0), (4, .int (nI i)), (3, .ref (ad1 6 0)), (2, .ref (ad1 5 0)), (1, .ref (ad1 4 0)), (0, .ref b)]) hx hb dL_law_932 hl (by decide) rfl (fun ls hl => ?_)
    refine lv_aload_n hx hb dL_law_934 rfl (lv_at hl 3 rfl) ?_
    refine lv_aload_n hx hb dL_law_935 rfl (lv_at hl 5 rfl) ?_
    refine lv_iload hx hb dL_law_936 (lv_at hl 1 rfl) ?_
    refine lv_iconst (v := 1) hx hb dL_law_938 (by decide) ?_
    refine lv_iadd hx hb dL_law_939 ?_
    refine w_top (v := nI (i + 1)) (nI_add i 1) ?_
    refine w_sld hx hb hX hbl rfl hS (by omega) hL dL_law_940 ?_
    refine lv_aload_n hx hb dL_law_941 rfl (lv_at hl 5 rfl) ?_
    refine lv_iload hx hb dL_law_942 (lv_at hl 1 rfl) ?_
    refine lv_iconst (v := 2) hx hb dL_law_944 (by decide) ?_
    refine lv_iadd hx hb dL_law_945 ?_
    refine w_top (v := nI (i + 2)) (nI_add i 2) ?_
    refine w_sld hx hb hX hbl rfl hS (by omega) hL dL_law_946 ?_
    refine w_calli (va_runV (As := [.int (xs (i + 1)), .int (xs (i + 2))]) (rest := []) ⟨hx, hb, hml, hown, hts⟩ (c_X5_addSchedule l D s.heap.size ad1 ((np, ns, nc + 1), schF nc (xs (i + 1)) (xs (i + 2)) σ) (np, ns, nc) (sh d σ) th ((nI nc).toInt64) (Ib_sh (Rf_Ib hR)) (xs (i + 1)) (xs (i + 2))) (cwV 2 hts gL_law_X5_addSchedule rfl rfl rfl (by decide +kernel) ⟨(Nat.le_of_ble_eq_true rfl), (Nat.le_of_ble_eq_true rfl)⟩) (w_preV hC hP hS cW_5 rfl) rfl rfl hl.1 rfl (lv_room (Nat.le_of_ble_eq_true rfl)) dL_law_947 ⟨hcc, hcs⟩) hS (fun r6 ad1 w1 H locs hq hP hS => ?_)
    rw [schF_sh] at hq
    obtain ⟨h91, h92⟩ := hq.1 c9
    cases h91
    subst h92
    have hP : hw D s.heap.size ad1 (cW D ad1 ((np, ns, nc + 1), schF nc (xs (i + 1)) (xs (i + 2)) σ) ((np, ns, nc + 1), sh d (schF nc (xs (i + 1)) (xs (i + 2)) σ), nI (cdAdC (np, ns, nc) (xs (i + 1)) (xs (i + 2)))) ((nI nc).toInt64)) H := hP
    refine lv_istore (lv' := [(6, .int (nI nc)), (5, .int 0), (4, .int (nI i)), (3, .ref (ad1 6 0)), (2, .ref (ad1 5 0)), (1, .ref (ad1 4 0)), (0, .ref b)]) hx hb dL_law_950 hl (by decide) rfl (fun ls hl => ?_)
    refine lv_aload_n hx hb dL_law_952 rfl (lv_at hl 4 rfl) ?_
    refine w_calli (va_runV (As := []) (rest := []) ⟨hx, hb, hml, hown, hts⟩ (c_X5_thrown l D s.heap.size ad1 ((np, ns, nc + 1), schF nc (xs (i + 1)) (xs (i + 2)) σ) (np, ns, nc + 1) (sh d (schF nc (xs (i + 1)) (xs (i + 2)) σ)) (nI (cdAdC (np, ns, nc) (xs (i + 1)) (xs (i + 2)))) ((nI nc).toInt64)) (cwV 0 hts gL_law_X5_thrown rfl rfl rfl (by decide +kernel) ⟨(Nat.le_of_ble_eq_true rfl), (Nat.le_of_ble_eq_true rfl)⟩) (w_preV hC hP hS cW_5 rfl) rfl rfl hl.1 rfl (lv_room (Nat.le_of_ble_eq_true rfl)) dL_law_953 ⟨hcc, hcs⟩) hS (fun r7 ad1 w1 H locs hq hP hS => ?_)
    obtain ⟨h91, h92⟩ := hq
    cases h91
    subst h92
    refine lv_iload hx hb dL_law_956 (lv_at hl 1 rfl) ?_
    refine lv_icmp_eq (tgt := 963) hx hb dL_law_958 (by decide) (fun _ => ?_) (fun c1 => absurd (by rw [c9]; rfl) c1)
    refine lv_iload hx hb dL_law_963 (lv_at hl 1 rfl) ?_
    refine lv_if_ne (tgt := 980) hx hb dL_law_965 (by decide) (fun c2 => absurd rfl c2) (fun _ => ?_)
    refine lv_aload_n hx hb dL_law_968 rfl (lv_at hl 3 rfl) ?_
    refine lv_iconst (v := 0) hx hb dL_law_969 (by decide) ?_
    refine w_laldV hx hb hC hP cW_6 (i := 0) (v := (nI nc).toInt64) (by unfold vp_in; decide) rfl dL_law_970 ?_
    refine lv_iload hx hb dL_law_971 (lv_at hl 0 rfl) ?_
    refine lv_i2l (v := (nI nc).toInt64) hx hb dL_law_973 rfl ?_
    refine W.lcmp hx hb dL_law_974 ?_
    refine lv_if_eq (tgt := 980) hx hb dL_law_975 (by decide) (fun _ => ?_) (fun c3 => absurd (lg_cmp_self _) c3)
    refine lv_goto (tgt := 1304) hx hb dL_law_980 (by decide) ?_
    refine W.widen (k := cells + 12) (n := slots + 151) (by omega) (by omega) ?_
    exact K ad1 (np, ns, nc + 1) (schF nc (xs (i + 1)) (xs (i + 2)) σ) d (nI (cdAdC (np, ns, nc) (xs (i + 1)) (xs (i + 2)))) ((nI nc).toInt64) H locs ls ⟨hP, hS, st_adC hR c9, lv_sub hl [2, 3, 4, 5, 6] rfl⟩
  · obtain ⟨h81, h82⟩ := hq.2 c9
    cases h81
    subst h82
    refine lv_istore (lv' := [(5, .int (nI (cdAdC (np, ns, nc) (xs (i + 1)) (xs (i + 2))))), (4, .int (nI i)), (3, .ref (ad 6 0)), (2, .ref (ad 5 0)), (1, .ref (ad 4 0)), (0, .ref b)]) hx hb dL_law_932 hl (by decide) rfl (fun ls hl => ?_)
    refine lv_aload_n hx hb dL_law_934 rfl (lv_at hl 3 rfl) ?_
    refine lv_aload_n hx hb dL_law_935 rfl (lv_at hl 5 rfl) ?_
    refine lv_iload hx hb dL_law_936 (lv_at hl 1 rfl) ?_
    refine lv_iconst (v := 1) hx hb dL_law_938 (by decide) ?_
    refine lv_iadd hx hb dL_law_939 ?_
    refine w_top (v := nI (i + 1)) (nI_add i 1) ?_
    refine w_sld hx hb hX hbl rfl hS (by omega) hL dL_law_940 ?_
    refine lv_aload_n hx hb dL_law_941 rfl (lv_at hl 5 rfl) ?_
    refine lv_iload hx hb dL_law_942 (lv_at hl 1 rfl) ?_
    refine lv_iconst (v := 2) hx hb dL_law_944 (by decide) ?_
    refine lv_iadd hx hb dL_law_945 ?_
    refine w_top (v := nI (i + 2)) (nI_add i 2) ?_
    refine w_sld hx hb hX hbl rfl hS (by omega) hL dL_law_946 ?_
    refine w_calli (va_runV (As := [.int (xs (i + 1)), .int (xs (i + 2))]) (rest := []) ⟨hx, hb, hml, hown, hts⟩ (c_X5_addSchedule l D s.heap.size ad ((np, ns, nc), σ) (np, ns, nc) (sh d σ) th (o) (Ib_sh (Rf_Ib hR)) (xs (i + 1)) (xs (i + 2))) (cwV 2 hts gL_law_X5_addSchedule rfl rfl rfl (by decide +kernel) ⟨(Nat.le_of_ble_eq_true rfl), (Nat.le_of_ble_eq_true rfl)⟩) (w_preV hC hP hS cW_5 rfl) rfl rfl hl.1 rfl (lv_room (Nat.le_of_ble_eq_true rfl)) dL_law_947 ⟨hcc, hcs⟩) hS (fun r6 ad1 w1 H locs hq hP hS => ?_)
    cases hq.2 c9
    have hP : hw D s.heap.size ad (cW D ad ((np, ns, nc), σ) ((np, ns, nc), sh d (σ), nI (cdAdC (np, ns, nc) (xs (i + 1)) (xs (i + 2)))) (o)) H := hP
    refine lv_istore (lv' := [(6, .int r6), (5, .int (nI (cdAdC (np, ns, nc) (xs (i + 1)) (xs (i + 2))))), (4, .int (nI i)), (3, .ref (ad 6 0)), (2, .ref (ad 5 0)), (1, .ref (ad 4 0)), (0, .ref b)]) hx hb dL_law_950 hl (by decide) rfl (fun ls hl => ?_)
    refine lv_aload_n hx hb dL_law_952 rfl (lv_at hl 4 rfl) ?_
    refine w_calli (va_runV (As := []) (rest := []) ⟨hx, hb, hml, hown, hts⟩ (c_X5_thrown l D s.heap.size ad ((np, ns, nc), σ) (np, ns, nc) (sh d (σ)) (nI (cdAdC (np, ns, nc) (xs (i + 1)) (xs (i + 2)))) (o)) (cwV 0 hts gL_law_X5_thrown rfl rfl rfl (by decide +kernel) ⟨(Nat.le_of_ble_eq_true rfl), (Nat.le_of_ble_eq_true rfl)⟩) (w_preV hC hP hS cW_5 rfl) rfl rfl hl.1 rfl (lv_room (Nat.le_of_ble_eq_true rfl)) dL_law_953 ⟨hcc, hcs⟩) hS (fun r7 ad1 w1 H locs hq hP hS => ?_)
    obtain ⟨h91, h92⟩ := hq
    cases h91
    subst h92
    refine lv_iload hx hb dL_law_956 (lv_at hl 1 rfl) ?_
    refine lv_icmp_eq (tgt := 963) hx hb dL_law_958 (by decide) (fun _ => ?_) (fun c1 => absurd rfl c1)
    refine lv_iload hx hb dL_law_963 (lv_at hl 1 rfl) ?_
    refine lv_if_ne (tgt := 980) hx hb dL_law_965 (by decide) (fun _ => ?_) (fun c2 => absurd (nI_cod c2) c9)
    refine lv_goto (tgt := 1304) hx hb dL_law_980 (by decide) ?_
    refine W.widen (k := cells + 12) (n := slots + 151) (by omega) (by omega) ?_
    exact K ad (np, ns, nc) σ d (nI (cdAdC (np, ns, nc) (xs (i + 1)) (xs (i + 2)))) (o) H locs ls ⟨hP, hS, hR, lv_sub hl [2, 3, 4, 5, 6] rfl⟩
