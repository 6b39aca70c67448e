/-! p22: the law, from its entry to its loop: two objects, four arrays -/
theorem hw_sub {D : va_G} {B : Nat} {ad : Ad} {w w' : Wd} {H : Heap} (h : hw D B ad w H) (hs : ∀ f k e, w' f k = some e → w f k = some e) : hw D B ad w' H :=
  ⟨fun f k e he => h.1 f k e (hs f k e he), fun f k f' k' e e' he he' => h.2 f k f' k' e e' (hs f k e he) (hs f' k' e' he')⟩
/-- the cells of a new object -/
theorem cW_st {D : va_G} {ad : Ad} {w : Wd} {f k : Nat} {e : va_E} {T : Wd} (h4 : w 4 0 = some (.inr (4, [.ref (ad 7 0), .ref (ad 7 1), .ref (ad 7 2), .int 0, .int 0, .int 0, .int 0, .int 0]))) (h70 : w 7 0 = some (eR D 103 16 (fun _ => none))) (h71 : w 7 1 = some (eR D 104 30 (fun _ => none))) (h72 : w 7 2 = some (eR D 105 4 (fun _ => none))) (hf : f < 13) (he : cW D ad ((0, 0, 0), z0) T 0 f k = some e) : w f k = some e := by
  match f, hf, he with
  | 0, _, he => rw [cN_e (by omega) (Nat.not_lt_zero k)] at he; cases he
  | 1, _, he => rw [cN_1 (Nat.not_lt_zero k)] at he; cases he
  | 2, _, he => rw [cN_2 (Nat.not_lt_zero k)] at he; cases he
  | 3, _, he => rw [cN_3 (Nat.not_lt_zero k)] at he; cases he
  | 4, _, he =>
    have he : (if k = 0 then some (eBP ad (0, 0, 0) z0) else none) = some e := he
    split at he
    · rename_i hk; subst hk; rw [h4]; exact he
    · cases he
  | 5, _, he => cases he
  | 6, _, he => cases he
  | 7, _, he =>
    have he : (if k = 0 then some (eR D 103 16 (fP ad 1 0)) else if k = 1 then some (eR D 104 30 (fP ad 3 0)) else if k = 2 then some (eR D 105 4 (fP ad 2 0)) else none) = some e := he
    have fz : ∀ t, fP ad t 0 = fun _ => none := fun t => by funext j; exact if_neg (Nat.not_lt_zero j)
    rw [fz, fz, fz] at he
    split at he
    · rename_i hk; subst hk; rw [h70]; exact he
    · split at he
      · rename_i hk; subst hk; rw [h71]; exact he
      · split at he
        · rename_i hk; subst hk; rw [h72]; exact he
        · cases he
  | 8, _, he => rw [cN_8 (Nat.not_lt_zero k)] at he; cases he
  | 9, _, he => rw [cN_e (by omega) (Nat.not_lt_zero k)] at he; cases he
  | 10, _, he => rw [cN_e (by omega) (Nat.not_lt_zero k)] at he; cases he
  | 11, _, he => rw [cN_e (by omega) (Nat.not_lt_zero k)] at he; cases he
  | 12, _, he => cases he
  | n + 13, hf, _ => exact absurd hf (by omega)
theorem hw_swg {D : va_G} {B : Nat} {ad : Ad} {w : Wd} {H : Heap} (h : hw D B ad w H) : hw D B (sA ad) (fun f k => w (sf f) k) H := by
  refine ⟨fun f k e he => h.1 (sf f) k e he, fun f k f' k' e e' he he' hq => ?_⟩
  obtain ⟨h1, h2⟩ := h.2 (sf f) k (sf f') k' e e' he he' hq
  exact ⟨by rw [← sf_sf f, h1, sf_sf], h2⟩
/-- one new object -/
theorem st_one {D : va_G} {B : Nat} {ad : Ad} {w : Wd} {H : Heap} (h : hw D B ad w H) (h4 : w 4 0 = some (.inr (4, [.ref (ad 7 0), .ref (ad 7 1), .ref (ad 7 2), .int 0, .int 0, .int 0, .int 0, .int 0]))) (h70 : w 7 0 = some (eR D 103 16 (fun _ => none))) (h71 : w 7 1 = some (eR D 104 30 (fun _ => none))) (h72 : w 7 2 = some (eR D 105 4 (fun _ => none))) : hw D B ad (cW D ad ((0, 0, 0), z0) noW 0) H := by
  refine hw_sub h (fun f k e he => ?_)
  by_cases hf : f < 13
  · exact cW_st h4 h70 h71 h72 hf he
  · rw [cW_hi (by omega)] at he; cases he
/-- the second new object, beside the first -/
theorem st_two {D : va_G} {B : Nat} {ad adA : Ad} {w : Wd} {H : Heap} (h : hw D B ad w H) (h4 : w 4 0 = some (.inr (4, [.ref (ad 7 0), .ref (ad 7 1), .ref (ad 7 2), .int 0, .int 0, .int 0, .int 0, .int 0]))) (h70 : w 7 0 = some (eR D 103 16 (fun _ => none))) (h71 : w 7 1 = some (eR D 104 30 (fun _ => none))) (h72 : w 7 2 = some (eR D 105 4 (fun _ => none)))
    (ho : ∀ f k, 13 ≤ f → w f k = cW D adA ((0, 0, 0), z0) noW 0 (sf f) k) (ha : ∀ f k, 13 ≤ f → ad f k = sA adA f k) : hw D B (sA ad) (eW D (sA ad) ((0, 0, 0), z0) ((0, 0, 0), z0) (lW D 0 z0)) H := by
  refine hw_sw (ad := ad) (hw_sub h (fun f k e he => ?_))
  by_cases hf : f < 13
  · exact cW_st (T := tW D ad ((0, 0, 0), z0) (lW D 0 z0)) h4 h70 h71 h72 hf he
  · by_cases h2 : f < 26
    · rw [ho f k (by omega), sf_mi hf h2]
      have he2 : cW D ad ((0, 0, 0), z0) (tW D ad ((0, 0, 0), z0) (lW D 0 z0)) 0 f k = some e := he
      rw [cW_hi (by omega)] at he2
      have h3 : f - 13 < 13 := by omega
      have he3 : (if f - 13 < 13 then cW D (fun a b => ad (13 + a) b) ((0, 0, 0), z0) noW 0 (f - 13) k else lW D 0 z0 (f - 13 - 13) k) = some e := he2
      rw [if_pos h3] at he3
      rw [← he3]
      exact (cW_lo h3 (fun a b q => by
        show ad (13 + a) b = adA a b
        rw [ha (13 + a) b (by omega)]
        show adA (sf (13 + a)) b = adA a b
        rw [sf_mi (by omega) (by omega), Nat.add_sub_cancel_left])).symm
    · rw [eW_hi (by omega)] at he
      unfold lW at he
      split at he
      · rename_i hc; exact absurd hc.2 (Nat.not_lt_zero k)
      · cases he
set_option maxHeartbeats 4000000 in
set_option maxRecDepth 100000 in
theorem lw_begin {p : Program} {l : Launch} {e : Env} {s : State} {m : MethodId} {below : List Frame} {meth : Method} {c : Code} {b L : Nat} {xs : Nat → Int32} (hns : l.stackTraces = false) (hx : p.tables.exec = Jvm.exec) (hb : c.code = cL_law) (hml : c.maxLocals = 10) (hown : s.vm.findClass RL = some m.cls) (hT : ∀ w ∈ lw_tbl, w.before #[Value.ref b] s = true) (hX : va_X b L xs s s.heap) (hbl : b < s.heap.size) (hL : L ≤ 260) (hV : (Jvm.Cond.and given_1 narrow_1).before #[Value.ref b] s = true) {Q : State → Prop}
    (hend : ∀ (H : Heap) (locs : List Loc) (ls : Array Slot), va_S (ab s.heap.size) s.heap H locs → lv_has ls 10 [(7, .int 1)] → W p l e room_1 s m #[Value.ref b] below meth c H locs 600000 7000000 Q (F0 m 219 ls [])) : W p l e room_1 s m #[Value.ref b] below meth c s.heap [] 0 0 Q (entryFrame m ([Value.ref b] : List Value).toArray 10) := by
  have hts : ∀ w ∈ wsL_law, w.before #[Value.ref b] s = true := fun w h => hT w (wsL_law_in w h)
  obtain ⟨D, hC⟩ := st_cx hT hV
  have hov := st_ov hT
  have hS : va_S (ab s.heap.size) s.heap s.heap [] := va_S.rf
  have hl := lv_entry ([.ref b]) (n := 10) (Nat.le_of_ble_eq_true rfl)
  rw [lg_entry_eq]
  generalize (lg_sl ([.ref b]) ++ List.replicate (10 - (lg_sl ([.ref b])).length) Slot.unset).toArray = ls at hl ⊢
  have hl : lv_has ls 10 [(0, .ref b)] := hl
  have hP : hw D s.heap.size (fun _ _ => 0) noW s.heap := ⟨fun f k e he => absurd he (by simp [noW]), fun f k f' k' e e' he => absurd he (by simp [noW])⟩
  refine w_new (ci := 4) hx hb hT inX4 tyX4 tyX4_ok hown (hT (.classLink RL 11 RX4) (by decide +kernel)) (hT (.instantiable RX4 8) (by decide +kernel)) (hT (.initialized RX4) (by decide +kernel)) hC hP hS rfl (fs := [.null, .null, .null, .int 0, .int 0, .int 0, .int 0, .int 0]) (by decide) (Nat.le_of_ble_eq_true rfl) (Nat.le_of_ble_eq_true rfl) 4 0 rfl dL_law_0 (fun q1 H hq1 hP hS => ?_)
  refine lv_dup hx hb dL_law_3 rfl ?_
  refine w_callv (va_runI (As := []) (rest := [.ref q1]) ⟨hx, hb, hml, hown, hts⟩ (c_X4_init l D s.heap.size _ _ q1 hq1 (u2_self _ _ _ _) (fun k hk => u2_f _ _ (by decide))) (cwI 0 hts gL_law_X4_init rfl rfl rfl (hT (.initialized RX4) (by decide +kernel)) (hT (.methodLink RL 151 yX4_init) (by decide +kernel)) (hT (.instanceMethod yX4_init) (by decide +kernel)) rfl (by decide +kernel) ⟨Nat.le_of_ble_eq_true rfl, Nat.le_of_ble_eq_true rfl⟩) (w_pre4 hC hov hP hS) rfl rfl hl.1 rfl (lv_room (Nat.le_of_ble_eq_true rfl)) dL_law_4 ⟨Nat.le_of_ble_eq_true rfl, Nat.le_of_ble_eq_true rfl⟩) hS (fun adA w2 H locs hq hP hS => ?_)
  obtain ⟨q70, q71, q72, w9, hu, w40, w70, w71, w72, -⟩ := hq
  obtain ⟨eA, ew⟩ := Prod.mk.inj hu
  have kA4 : adA 4 0 = q1 := by rw [eA]; exact (a2_o (by omega)).trans ((a2_o (by omega)).trans ((a2_o (by omega)).trans hq1))
  have kA70 : adA 7 0 = q70 := by rw [eA]; exact (a2_o (by omega)).trans ((a2_o (by omega)).trans a2_s)
  have kA71 : adA 7 1 = q71 := by rw [eA]; exact (a2_o (by omega)).trans a2_s
  have kA72 : adA 7 2 = q72 := by rw [eA]; exact a2_s
  clear eA hu
  subst ew
  have hP := st_one hP (by rw [kA70, kA71, kA72]; exact w40) w70 w71 w72
  clear w40 w70 w71 w72
  refine lv_astore_n (lv' := [(1, .ref q1), (0, .ref b)]) hx hb dL_law_7 rfl hl (by decide) rfl (fun ls hl => ?_)
  have hP := hw_swg hP
  have hno : ∀ f k, f < 13 → (fun f k => cW D adA ((0, 0, 0), z0) noW 0 (sf f) k) f k = none := fun f k hf => by
    show cW D adA ((0, 0, 0), z0) noW 0 (sf f) k = none
    rw [sf_lo hf, cW_hi (by omega)]
    rfl
  refine w_new (ci := 4) hx hb hT inX4 tyX4 tyX4_ok hown (hT (.classLink RL 11 RX4) (by decide +kernel)) (hT (.instantiable RX4 8) (by decide +kernel)) (hT (.initialized RX4) (by decide +kernel)) hC hP hS rfl (fs := [.null, .null, .null, .int 0, .int 0, .int 0, .int 0, .int 0]) (by decide) (Nat.le_of_ble_eq_true rfl) (Nat.le_of_ble_eq_true rfl) 4 0 (hno 4 0 (by decide)) dL_law_8 (fun q2 H hq2 hP hS => ?_)
  refine lv_dup hx hb dL_law_11 rfl ?_
  refine w_callv (va_runI (As := []) (rest := [.ref q2]) ⟨hx, hb, hml, hown, hts⟩ (c_X4_init l D s.heap.size _ _ q2 hq2 (u2_self _ _ _ _) (fun k hk => (u2_f _ _ (by decide)).trans (hno 7 k (by decide)))) (cwI 0 hts gL_law_X4_init rfl rfl rfl (hT (.initialized RX4) (by decide +kernel)) (hT (.methodLink RL 151 yX4_init) (by decide +kernel)) (hT (.instanceMethod yX4_init) (by decide +kernel)) rfl (by decide +kernel) ⟨Nat.le_of_ble_eq_true rfl, Nat.le_of_ble_eq_true rfl⟩) (w_pre4 hC hov hP hS) rfl rfl hl.1 rfl (lv_room (Nat.le_of_ble_eq_true rfl)) dL_law_12 ⟨Nat.le_of_ble_eq_true rfl, Nat.le_of_ble_eq_true rfl⟩) hS (fun adB w3 H locs hq hP hS => ?_)
  obtain ⟨q70, q71, q72, w9, hu, w40, w70, w71, w72, wk⟩ := hq
  obtain ⟨eB, ew⟩ := Prod.mk.inj hu
  have kB4 : adB 4 0 = q2 := by rw [eB]; exact (a2_o (by omega)).trans ((a2_o (by omega)).trans ((a2_o (by omega)).trans hq2))
  have kB70 : adB 7 0 = q70 := by rw [eB]; exact (a2_o (by omega)).trans ((a2_o (by omega)).trans a2_s)
  have kB71 : adB 7 1 = q71 := by rw [eB]; exact (a2_o (by omega)).trans a2_s
  have kB72 : adB 7 2 = q72 := by rw [eB]; exact a2_s
  have kBo : ∀ f k, 13 ≤ f → adB f k = sA adA f k := fun f k hf => by rw [eB]; exact (a2_o (by omega)).trans ((a2_o (by omega)).trans ((a2_o (by omega)).trans (a2_o (by omega))))
  clear eB hu
  subst ew
  have hP := st_two (adA := adA) hP (by rw [kB70, kB71, kB72]; exact w40) w70 w71 w72 (fun f k hf => (wk f k (fun z => by omega) (fun z => by omega) (fun z => by omega) (fun z => by omega)).trans (u2_f _ _ (by omega))) kBo
  have k4 : sA adB 4 0 = q1 := by
    show adB 17 0 = q1
    rw [kBo 17 0 (by omega)]
    exact kA4
  have k17 : sA adB 17 0 = q2 := kB4
  generalize sA adB = adC at hP k4 k17
  refine lv_astore_n (lv' := [(2, .ref q2), (1, .ref q1), (0, .ref b)]) hx hb dL_law_15 rfl hl (by decide) rfl (fun ls hl => ?_)
  refine lv_bipush (v := 32) hx hb dL_law_16 (by decide) ?_
  refine w_newa (atype := .int) hx hb (hT (.arrayClass .int) (by decide +kernel)) 0 rfl (fun C z => by cases z) hC hP hS (N' := 32) (a0 := (32, .inl (fun _ => 0))) (fun _ => vp_cell_i _ _ _) (by decide) (by decide) (show 32 * 4 ≤ 536870912 by decide) (Nat.le_of_ble_eq_true rfl) (Nat.le_of_ble_eq_true rfl) 26 0 (eW_N (by decide)) dL_law_18 (fun q3 H h3 hP hS => ?_)
  have hP := hw_eq hP (eW_new (q := q3) rfl)
  refine lv_astore_n (lv' := [(3, .ref q3), (2, .ref q2), (1, .ref q1), (0, .ref b)]) hx hb dL_law_20 rfl hl (by decide) rfl (fun ls hl => ?_)
  refine lv_bipush (v := 64) hx hb dL_law_21 (by decide) ?_
  refine w_newa (atype := .int) hx hb (hT (.arrayClass .int) (by decide +kernel)) 0 rfl (fun C z => by cases z) hC hP hS (N' := 64) (a0 := (64, .inl (fun _ => 0))) (fun _ => vp_cell_i _ _ _) (by decide) (by decide) (show 64 * 4 ≤ 536870912 by decide) (Nat.le_of_ble_eq_true rfl) (Nat.le_of_ble_eq_true rfl) 26 1 (eW_N (by decide)) dL_law_23 (fun q4 H h4 hP hS => ?_)
  have hP := hw_eq hP (eW_new (q := q4) rfl)
  refine lv_astore (lv' := [(4, .ref q4), (3, .ref q3), (2, .ref q2), (1, .ref q1), (0, .ref b)]) hx hb dL_law_25 hl (by decide) rfl (fun ls hl => ?_)
  refine lv_bipush (v := 16) hx hb dL_law_27 (by decide) ?_
  refine w_newa (atype := .int) hx hb (hT (.arrayClass .int) (by decide +kernel)) 0 rfl (fun C z => by cases z) hC hP hS (N' := 16) (a0 := (16, .inl (fun _ => 0))) (fun _ => vp_cell_i _ _ _) (by decide) (by decide) (show 16 * 4 ≤ 536870912 by decide) (Nat.le_of_ble_eq_true rfl) (Nat.le_of_ble_eq_true rfl) 26 2 (eW_N (by decide)) dL_law_29 (fun q5 H h5 hP hS => ?_)
  have hP := hw_eq hP (eW_new (q := q5) rfl)
  refine lv_astore (lv' := [(5, .ref q5), (4, .ref q4), (3, .ref q3), (2, .ref q2), (1, .ref q1), (0, .ref b)]) hx hb dL_law_31 hl (by decide) rfl (fun ls hl => ?_)
  refine lv_iconst (v := 3) hx hb dL_law_33 (by decide) ?_
  refine w_newa (atype := .int) hx hb (hT (.arrayClass .int) (by decide +kernel)) 0 rfl (fun C z => by cases z) hC hP hS (N' := 3) (a0 := (3, .inl (fun _ => 0))) (fun _ => vp_cell_i _ _ _) (by decide) (by decide) (show 3 * 4 ≤ 536870912 by decide) (Nat.le_of_ble_eq_true rfl) (Nat.le_of_ble_eq_true rfl) 26 3 (eW_N (by decide)) dL_law_34 (fun q6 H h6 hP hS => ?_)
  have hP := hw_eq hP (eW_new (q := q6) rfl)
  refine lv_astore (lv' := [(6, .ref q6), (5, .ref q5), (4, .ref q4), (3, .ref q3), (2, .ref q2), (1, .ref q1), (0, .ref b)]) hx hb dL_law_36 hl (by decide) rfl (fun ls hl => ?_)
  refine W.widen (k := 200) (n := 2000) (Nat.le_of_ble_eq_true rfl) (Nat.le_of_ble_eq_true rfl) ?_
  refine lw_run (ad0 := a2 (a2 (a2 (a2 adC 26 0 q3) 26 1 q4) 26 2 q5) 26 3 q6) ⟨hns, hx, hb, hml, hown, hts, hX, hbl, hL, hC⟩ hend hP hS ?_
  have e4 : a2 (a2 (a2 (a2 adC 26 0 q3) 26 1 q4) 26 2 q5) 26 3 q6 4 0 = q1 := (a2_o (by omega)).trans ((a2_o (by omega)).trans ((a2_o (by omega)).trans ((a2_o (by omega)).trans k4)))
  have e17 : a2 (a2 (a2 (a2 adC 26 0 q3) 26 1 q4) 26 2 q5) 26 3 q6 17 0 = q2 := (a2_o (by omega)).trans ((a2_o (by omega)).trans ((a2_o (by omega)).trans ((a2_o (by omega)).trans k17)))
  have e0 : a2 (a2 (a2 (a2 adC 26 0 q3) 26 1 q4) 26 2 q5) 26 3 q6 26 0 = q3 := (a2_o (by omega)).trans ((a2_o (by omega)).trans ((a2_o (by omega)).trans a2_s))
  have e1 : a2 (a2 (a2 (a2 adC 26 0 q3) 26 1 q4) 26 2 q5) 26 3 q6 26 1 = q4 := (a2_o (by omega)).trans ((a2_o (by omega)).trans a2_s)
  have e2 : a2 (a2 (a2 (a2 adC 26 0 q3) 26 1 q4) 26 2 q5) 26 3 q6 26 2 = q5 := (a2_o (by omega)).trans a2_s
  have e3 : a2 (a2 (a2 (a2 adC 26 0 q3) 26 1 q4) 26 2 q5) 26 3 q6 26 3 = q6 := a2_s
  rw [e4, e17, e0, e1, e2, e3]
  exact hl
