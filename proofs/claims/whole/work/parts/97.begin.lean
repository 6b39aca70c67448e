/-! the law, from its entry to the head of its loop -/
theorem hw_sub {D : va_G} {B : Nat} {ad : Ad} {w w' : Wd} {H : Heap} (h : hw D B ad w H) (hs : ∀ f k e, w' f k = some e → w f k = some e) : hw D B ad w' H :=
  ⟨fun f k e he => h.1 f k e (hs f k e he), fun f k f' k' e e' he he' => h.2 f k f' k' e e' (hs f k e he) (hs f' k' e' he')⟩
theorem ou_0 : (fun j : Nat => if j = 0 then (0 : Int64) else 0) = fun _ => 0 := by
  funext j
  split <;> rfl
theorem cW_start {D : va_G} {B : Nat} {ad : Ad} {w : Wd} {H : Heap} (h : hw D B ad w H) (h4 : w 4 0 = some (.inr (4, [.ref (ad 7 0), .ref (ad 7 1), .ref (ad 7 2), .int 0, .int 0, .int 0, .int 0, .int 0]))) (h5 : w 5 0 = some (eMo ad (0, 0, 0) (fun _ _ _ => 0) 0)) (h6 : w 6 0 = some (eL D 1 (fun _ => 0))) (h70 : w 7 0 = some (eR D 103 16 (fun _ => none))) (h71 : w 7 1 = some (eR D 104 30 (fun _ => none))) (h72 : w 7 2 = some (eR D 105 4 (fun _ => none))) (h12 : ∀ k, k < 19 → w 12 k = mAr D (fun _ _ _ => 0) k) : hw D B ad (cW D ad ((0, 0, 0), fun _ _ _ => 0) ((0, 0, 0), fun _ _ _ => 0, 0) 0) H := by
  refine hw_sub h (fun f k e he => ?_)
  match f, he with
  | 0, he => rw [cN_e (by omega) (Nat.not_lt_zero k)] at he; cases he
  | 1, he => rw [cN_1 (Nat.not_lt_zero k)] at he; cases he
  | 2, he => rw [cN_2 (Nat.not_lt_zero k)] at he; cases he
  | 3, he => rw [cN_3 (Nat.not_lt_zero k)] at he; cases he
  | 4, he =>
    have he : (if k = 0 then some (eBP ad (0, 0, 0) (fun _ _ _ => 0)) else none) = some e := he
    split at he
    · rename_i hk; subst hk; rw [h4]; exact he
    · cases he
  | 5, he =>
    have he : (if k = 0 then some (eMo ad (0, 0, 0) (fun _ _ _ => 0) 0) else none) = some e := he
    split at he
    · rename_i hk; subst hk; rw [h5]; exact he
    · cases he
  | 6, he =>
    have he : (if k = 0 then some (eOu D 0) else none) = some e := he
    split at he
    · rename_i hk; subst hk; rw [h6, ← ou_0]; exact he
    · cases he
  | 7, he =>
    have he : (if k = 0 then some (eR D 103 16 (fP ad 1 0)) else if k = 1 then some (eR D 104 30 (fP ad 3 0)) else if k = 2 then some (eR D 105 4 (fP ad 2 0)) else none) = some e := he
    have fz : ∀ t, fP ad t 0 = fun _ => none := fun t => by funext j; exact if_neg (Nat.not_lt_zero j)
    rw [fz, fz, fz] at he
    split at he
    · rename_i hk; subst hk; rw [h70]; exact he
    · split at he
      · rename_i hk; subst hk; rw [h71]; exact he
      · split at he
        · rename_i hk; subst hk; rw [h72]; exact he
        · cases he
  | 8, he => rw [cN_8 (Nat.not_lt_zero k)] at he; cases he
  | 9, he => rw [cN_e (by omega) (Nat.not_lt_zero k)] at he; cases he
  | 10, he => rw [cN_e (by omega) (Nat.not_lt_zero k)] at he; cases he
  | 11, he => rw [cN_e (by omega) (Nat.not_lt_zero k)] at he; cases he
  | 12, he =>
    have he : mAr D (fun _ _ _ => 0) k = some e := he
    by_cases hk : k < 19
    · rw [h12 k hk]; exact he
    · match k, hk, he with
      | k + 19, _, he => cases he
      | 0, hk, _ | 1, hk, _ | 2, hk, _ | 3, hk, _ | 4, hk, _ | 5, hk, _ | 6, hk, _ | 7, hk, _ | 8, hk, _ | 9, hk, _ | 10, hk, _ | 11, hk, _ | 12, hk, _ | 13, hk, _ | 14, hk, _ | 15, hk, _ | 16, hk, _ | 17, hk, _ | 18, hk, _ => exact absurd (by decide) hk
  | n + 13, he => cases he
set_option maxHeartbeats 4000000 in
set_option maxRecDepth 100000 in
theorem lw_begin {p : Program} {l : Launch} {e : Env} {s : State} {m : MethodId} {below : List Frame} {meth : Method} {c : Code} {b L : Nat} {xs : Nat → Int32} (hns : l.stackTraces = false) (hx : p.tables.exec = Jvm.exec) (hb : c.code = cL_law) (hml : c.maxLocals = 7) (hown : s.vm.findClass RL = some m.cls) (hT : ∀ w ∈ lw_tbl, w.before #[Value.ref b] s = true) (hX : va_X b L xs s s.heap) (hbl : b < s.heap.size) (hL : L ≤ 2560) (hV : (Jvm.Cond.and given_1 narrow_1).before #[Value.ref b] s = true) {Q : State → Prop} (hend : ∀ (H : Heap) (locs : List Loc) (ls : Array Slot) (cells slots : Nat), cells ≤ room_1.cells → slots ≤ room_1.slots → va_S (ab s.heap.size) s.heap H locs → W p l e room_1 s m #[Value.ref b] below meth c H locs cells slots Q (F0 m 1310 ls [])) : W p l e room_1 s m #[Value.ref b] below meth c s.heap [] 0 0 Q (entryFrame m ([Value.ref b] : List Value).toArray 7) := by
  have hts : ∀ w ∈ wsL_law, w.before #[Value.ref b] s = true := fun w h => hT w (wsL_law_in w h)
  obtain ⟨D, hC⟩ := st_cx hT hV
  have hov := st_ov hT
  have hS : va_S (ab s.heap.size) s.heap s.heap [] := va_S.rf
  have hl := lv_entry ([.ref b]) (n := 7) (Nat.le_of_ble_eq_true rfl)
  rw [lg_entry_eq]
  generalize (lg_sl ([.ref b]) ++ List.replicate (7 - (lg_sl ([.ref b])).length) Slot.unset).toArray = ls at hl ⊢
  have hl : lv_has ls 7 [(0, .ref b)] := hl
  have hP : hw D s.heap.size (fun _ _ => 0) (fun _ _ => none) s.heap := ⟨fun f k e he => absurd he (by simp), fun f k f' k' e e' he => absurd he (by simp)⟩
  refine w_new (ci := 4) hx hb hT inX4 tyX4 tyX4_ok hown (hT (.classLink RL 8 RX4) (by decide +kernel)) (hT (.instantiable RX4 8) (by decide +kernel)) (hT (.initialized RX4) (by decide +kernel)) hC hP hS rfl (fs := [.null, .null, .null, .int 0, .int 0, .int 0, .int 0, .int 0]) (by decide) (Nat.le_of_ble_eq_true rfl) (Nat.le_of_ble_eq_true rfl) 4 0 rfl dL_law_0 (fun q1 H hq1 hP hS => ?_)
  refine lv_dup hx hb dL_law_3 rfl ?_
  refine w_callv (va_runI (As := []) (rest := [.ref q1]) ⟨hx, hb, hml, hown, hts⟩ (c_X4_init l D s.heap.size _ _ q1 hq1 (u2_self _ _ _ _) (fun k hk => u2_f _ _ (by decide))) (cwI 0 hts gL_law_X4_init rfl rfl rfl (hT (.initialized RX4) (by decide +kernel)) (hT (.methodLink RL 75 yX4_init) (by decide +kernel)) (hT (.instanceMethod yX4_init) (by decide +kernel)) rfl (by decide +kernel) ⟨Nat.le_of_ble_eq_true rfl, Nat.le_of_ble_eq_true rfl⟩) (w_pre4 hC hov hP hS) rfl rfl hl.1 rfl (lv_room (Nat.le_of_ble_eq_true rfl)) dL_law_4 ⟨Nat.le_of_ble_eq_true rfl, Nat.le_of_ble_eq_true rfl⟩) hS (fun ad2 w2 H locs hq hP hS => ?_)
  obtain ⟨q70, q71, q72, w9, hu, w40, w70, w71, w72, wk⟩ := hq
  cases hu
  refine lv_astore_n (lv' := [(1, .ref q1), (0, .ref b)]) hx hb dL_law_7 rfl hl (by decide) rfl (fun ls hl => ?_)
  have n5 : w2 5 0 = none := (wk 5 0 (by decide) (by decide) (by decide) (by decide)).trans (u2_f _ _ (by decide))
  have n12 : ∀ k, w2 12 k = none := fun k => (wk 12 k (fun z => absurd z.1 (by decide)) (fun z => absurd z.1 (by decide)) (fun z => absurd z.1 (by decide)) (fun z => absurd z.1 (by decide))).trans (u2_f _ _ (by decide))
  have n6 : w2 6 0 = none := (wk 6 0 (by decide) (by decide) (by decide) (by decide)).trans (u2_f _ _ (by decide))
  refine w_new (ci := 5) hx hb hT inX5 tyX5 tyX5_ok hown (hT (.classLink RL 76 RX5) (by decide +kernel)) (hT (.instantiable RX5 25) (by decide +kernel)) (hT (.initialized RX5) (by decide +kernel)) hC hP hS rfl (fs := [.int 0, .int 0, .int 0, .int 0, .int 0, .null, .null, .null, .null, .null, .null, .null, .null, .null, .null, .null, .null, .null, .null, .null, .null, .null, .null, .null, .int 0]) (by decide) (Nat.le_of_ble_eq_true rfl) (Nat.le_of_ble_eq_true rfl) 5 0 n5 dL_law_8 (fun p1 H hp1 hP hS => ?_)
  refine lv_dup hx hb dL_law_11 rfl ?_
  refine w_callv (va_runI (As := []) (rest := [.ref p1]) ⟨hx, hb, hml, hown, hts⟩ (c_X5_init l D s.heap.size _ _ p1 hp1 (u2_self _ _ _ _) (fun k => (u2_f _ _ (by decide)).trans (n12 k))) (cwI 0 hts gL_law_X5_init rfl rfl rfl (hT (.initialized RX5) (by decide +kernel)) (hT (.methodLink RL 78 yX5_init) (by decide +kernel)) (hT (.instanceMethod yX5_init) (by decide +kernel)) rfl (by decide +kernel) ⟨Nat.le_of_ble_eq_true rfl, Nat.le_of_ble_eq_true rfl⟩) (w_preS hC hP hS) rfl rfl hl.1 rfl (lv_room (Nat.le_of_ble_eq_true rfl)) dL_law_12 ⟨Nat.le_of_ble_eq_true rfl, Nat.le_of_ble_eq_true rfl⟩) hS (fun ad3 w3 H locs hq hP hS => ?_)
  obtain ⟨ad9, v9, hu, adk, v50, v12, vk⟩ := hq
  cases hu
  refine lv_astore_n (lv' := [(2, .ref p1), (1, .ref q1), (0, .ref b)]) hx hb dL_law_15 rfl hl (by decide) rfl (fun ls hl => ?_)
  refine lv_iconst (v := 1) hx hb dL_law_16 (by decide) ?_
  have m6 : w3 6 0 = none := (vk 6 0 (by decide) (by decide)).trans ((u2_f _ _ (by decide)).trans n6)
  refine w_newa (atype := .long) hx hb (hT (.arrayClass .long) (by decide +kernel)) 2 rfl (fun C z => by cases z) hC hP hS (N' := 1) (a0 := (1, .inr (.inl (fun _ => 0)))) (fun _ => vp_cell_l _ _ _) (by decide) (by decide) (show 1 * 8 ≤ 536870912 by decide) (Nat.le_of_ble_eq_true rfl) (Nat.le_of_ble_eq_true rfl) 6 0 m6 dL_law_17 (fun q6 H hq6 hP hS => ?_)
  refine lv_astore_n (lv' := [(3, .ref q6), (2, .ref p1), (1, .ref q1), (0, .ref b)]) hx hb dL_law_19 rfl hl (by decide) rfl (fun ls hl => ?_)
  refine lv_iconst (v := 0) hx hb dL_law_20 (by decide) ?_
  refine lv_istore (lv' := [(4, .int 0), (3, .ref q6), (2, .ref p1), (1, .ref q1), (0, .ref b)]) hx hb dL_law_21 hl (by decide) rfl (fun ls hl => ?_)
  have k4 : ad3 4 0 = q1 := (adk 4 0 (by decide)).trans hq1
  have k5 : ad3 5 0 = p1 := (adk 5 0 (by decide)).trans hp1
  have k70 : ad3 7 0 = q70 := adk 7 0 (by decide)
  have k71 : ad3 7 1 = q71 := adk 7 1 (by decide)
  have k72 : ad3 7 2 = q72 := adk 7 2 (by decide)
  have v4 : w3 4 0 = w2 4 0 := (vk 4 0 (by decide) (by decide)).trans (u2_f _ _ (by decide))
  have v70 : w3 7 0 = w2 7 0 := (vk 7 0 (by decide) (by decide)).trans (u2_f _ _ (by decide))
  have v71 : w3 7 1 = w2 7 1 := (vk 7 1 (by decide) (by decide)).trans (u2_f _ _ (by decide))
  have v72 : w3 7 2 = w2 7 2 := (vk 7 2 (by decide) (by decide)).trans (u2_f _ _ (by decide))
  have hP0 := cW_start (ad := a2 ad3 6 0 q6) hP ((u2_f _ _ (by decide)).trans (v4.trans (w40.trans (by
      show _ = some (Sum.inr (4, [Value.ref (ad3 7 0), .ref (ad3 7 1), .ref (ad3 7 2), .int 0, .int 0, .int 0, .int 0, .int 0]))
      rw [k70, k71, k72])))) ((u2_f _ _ (by decide)).trans v50) (u2_self _ _ _ _) ((u2_f _ _ (by decide)).trans (v70.trans w70)) ((u2_f _ _ (by decide)).trans (v71.trans w71)) ((u2_f _ _ (by decide)).trans (v72.trans w72)) (fun k hk => (u2_f _ _ (by decide)).trans (v12 k hk))
  refine lw_loop ⟨hns, hx, hb, hml, hown, hts, hX, hbl, hL, hC⟩ hend 513 0 _ _ (a2 ad3 6 0 q6) (0, 0, 0) (fun _ _ _ => 0) 0 0 0 H _ ls (Nat.zero_le _) (by omega) (Nat.le_of_ble_eq_true rfl) (Nat.le_of_ble_eq_true rfl) ⟨by rw [sh_0]; exact hP0, hS, Rf_0, ?_⟩
  have e : lvs (a2 ad3 6 0 q6) b 0 = [(4, .int 0), (3, .ref q6), (2, .ref p1), (1, .ref q1), (0, .ref b)] := by
    show [(4, Value.int (nI 0)), (3, .ref q6), (2, .ref (ad3 5 0)), (1, .ref (ad3 4 0)), (0, .ref b)] = _
    rw [k4, k5]; rfl
  rw [e]
  exact hl
