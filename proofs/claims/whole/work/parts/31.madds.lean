/-! the model's calls that add -/
def comF (p : Nat) : Nat → Me → Me
  | 0, σ => σ
  | j + 1, σ => st3 (comF p j σ) 6 p (j + 1) nth
theorem comF_n {p a : Nat} (h : a ≠ 6) : ∀ (n : Nat) (σ : Me), comF p n σ a = σ a
  | 0, _ => rfl
  | n + 1, σ => by
    show st3 (comF p n σ) 6 p (n + 1) nth a = _
    rw [st3_n h]
    exact comF_n h n σ
theorem comF_i {p i : Nat} (h : i ≠ p) : ∀ (n : Nat) (σ : Me), comF p n σ 6 i = σ 6 i
  | 0, _ => rfl
  | n + 1, σ => by
    show st3 (comF p n σ) 6 p (n + 1) nth 6 i = _
    rw [st3_i h]
    exact comF_i h n σ
theorem comF_v {p : Nat} : ∀ (n j : Nat) (σ : Me), j < n → comF p n σ 6 p (j + 1) = nth
  | 0, j, _, h => absurd h (Nat.not_lt_zero _)
  | n + 1, j, σ, h => by
    show st3 (comF p n σ) 6 p (n + 1) nth 6 p (j + 1) = _
    by_cases hj : j = n
    · rw [hj, st3_v]
    · rw [st3_j (by omega)]
      exact comF_v n j σ (by omega)
theorem cW_me {D : va_G} {ad : Ad} {S : GC × Me} {h : GC} {τ τ' : Me} {th : Int32} {o : Int64} (e : ∀ a, a ≠ 6 → a ≠ 7 → τ' a = τ a) (e6 : ∀ p j, j < 16 → τ' 6 p (j + 1) = τ 6 p (j + 1)) : cW D ad S (h, τ', th) o = cW D ad S (h, τ, th) o := by
  funext f k
  match f with
  | 0 => simp only [cW]
  | 1 => simp only [cW]
  | 2 => simp only [cW]
  | 3 => simp only [cW]
  | 4 => simp only [cW]
  | 5 => simp [cW, eMo, e 25, e 26]
  | 6 => simp only [cW]
  | 7 => simp only [cW]
  | 8 => simp only [cW]
  | 9 => simp only [cW]
  | 10 => simp only [cW]
  | 11 => simp only [cW]
  | 12 =>
    show mAr D _ k = mAr D _ k
    match k with
    | 0 => simp [mAr, e 1]
    | 1 => simp [mAr, e 2]
    | 2 => simp [mAr, e 3]
    | 3 => simp [mAr, e 4]
    | 4 => simp [mAr, e 5]
    | 5 =>
      have e9 : (fun q => τ' 6 (q / 16) (q % 16 + 1)) = fun q => τ 6 (q / 16) (q % 16 + 1) := funext fun q => e6 _ _ (Nat.mod_lt _ (by decide))
      simp only [mAr, e9]
    | 6 => simp [mAr, e 8]
    | 7 => simp [mAr, e 9]
    | 8 => simp [mAr, e 10]
    | 9 => simp [mAr, e 11]
    | 10 => simp [mAr, e 12]
    | 11 => simp [mAr, e 13]
    | 12 => simp [mAr, e 14]
    | 13 => simp [mAr, e 15]
    | 14 => simp [mAr, e 16]
    | 15 => simp [mAr, e 17]
    | 16 => simp [mAr, e 18]
    | 17 => simp [mAr, e 19]
    | 18 => simp [mAr, e 20]
    | n + 19 => rfl
  | n + 13 => simp only [cW]
theorem cW_addM {D : va_G} {ad : Ad} {S : GC × Me} {h : GC} {τ : Me} {th : Int32} {o : Int64} {p : Nat} {v sw ti : Int32} : cW D ad S (h, comF p 16 (st3 (st3 (st3 τ 2 p 0 v) 1 p 0 sw) 3 p 0 ti), th) o = cW D ad S (h, addF p v sw ti τ, th) o := by
  refine cW_me (fun a h6 h7 => ?_) (fun i j hj => ?_)
  · rw [comF_n h6]
    unfold addF
    rw [rowF_n h6, st3_n h7]
  · by_cases hi : i = p
    · subst hi
      rw [comF_v 16 j _ hj, addF_6]
      show nth = if j + 1 < 17 then nth else 0
      rw [if_pos (by omega)]
    · rw [comF_i hi, addF_i hi, st3_n (by decide), st3_n (by decide), st3_n (by decide)]
set_option maxHeartbeats 4000000 in
set_option maxRecDepth 100000 in
theorem c_X5_adds (l : Launch) (D : va_G) (B : Nat) (ad : Ad) (S : GC × Me) (h : GC) (τ : Me) (th : Int32) (o : Int64) (hp : h.1 < 16) (v sw ti : Int32) (h01 : sw = 0 ∨ sw = 1) : Met l yX5_adds wsX5_adds ({ frames := 0, cells := 0, slots := 0, locals := 0 }) (Pre D B ad (cW D ad S (h, τ, th) o) [.ref (ad 5 0), .int v, .int sw, .int ti]) (Qi D B (fun r u => u = (ad, cW D ad S ((h.1 + 1, h.2), addF h.1 v sw ti τ, th) o) ∧ r = nI h.1)) 0 0 (ab B) := by
  refine Met.ofW (cc := cX5_adds) (maxL := 5) (ret := (some .int)) (by decide) rfl ?_
  intro p e s m args below meth c s₁ Bd hml hv
  obtain ⟨rfl, hC, hP⟩ := hv
  have hx := Bd.exec
  have hb := Bd.bytes
  have hr := Bd.returns
  have hts := atoms_spec (ws := wsX5_adds) Bd.pre
  have hown : s.vm.findClass RX5 = some m.cls := findClass_of_methodNamed Bd.named
  have hlocks := Bd.notSynchronized
  have hS : va_S (ab B) s.heap s.heap [] := va_S.rf
  have hl := lv_entry ([.ref (ad 5 0), .int v, .int sw, .int ti]) (n := 5) (Nat.le_of_ble_eq_true rfl)
  rw [lg_entry_eq]
  generalize (lg_sl ([.ref (ad 5 0), .int v, .int sw, .int ti]) ++ List.replicate (5 - (lg_sl ([.ref (ad 5 0), .int v, .int sw, .int ti])).length) Slot.unset).toArray = ls at hl ⊢
  have hl : lv_has ls 5 [(0, .ref (ad 5 0)), (1, .int v), (2, .int sw), (3, .int ti)] := hl
  refine lv_aload_n hx hb dX5_adds_0 rfl (lv_at hl 0 rfl) ?_
  refine w_get hx hb hts (by decide +kernel) hown hC hP cW_5 rfl 6 (by decide) (hts (.fieldLink RX5 13 "BuildingPointsModel" "first" "[I") (by decide +kernel)) rfl dX5_adds_1 ?_
  refine lv_aload_n hx hb dX5_adds_4 rfl (lv_at hl 0 rfl) ?_
  refine w_get hx hb hts (by decide +kernel) hown hC hP cW_5 rfl 1 (by decide) (hts (.fieldLink RX5 72 "BuildingPointsModel" "points" "I") (by decide +kernel)) rfl dX5_adds_5 ?_
  refine lv_iload_n hx hb dX5_adds_8 rfl (lv_at hl 1 rfl) ?_
  refine w_istN hx hb hC hP hS cW_12_1 (by omega) (by decide) dX5_adds_9 (fun H locs hP hS => ?_)
  have hP := hw_eq hP (pA1 h.1 _)
  refine lv_aload_n hx hb dX5_adds_10 rfl (lv_at hl 0 rfl) ?_
  refine w_get hx hb hts (by decide +kernel) hown hC hP cW_5 rfl 5 (by decide) (hts (.fieldLink RX5 7 "BuildingPointsModel" "isSwitch" "[Z") (by decide +kernel)) rfl dX5_adds_11 ?_
  refine lv_aload_n hx hb dX5_adds_14 rfl (lv_at hl 0 rfl) ?_
  refine w_get hx hb hts (by decide +kernel) hown hC hP cW_5 rfl 1 (by decide) (hts (.fieldLink RX5 72 "BuildingPointsModel" "points" "I") (by decide +kernel)) rfl dX5_adds_15 ?_
  refine lv_iload_n hx hb dX5_adds_18 rfl (lv_at hl 2 rfl) ?_
  refine w_zstN hx hb hC hP hS cW_12_0 (by omega) (by decide) h01 dX5_adds_19 (fun H locs hP hS => ?_)
  have hP := hw_eq hP (pA0 h.1 _)
  refine lv_aload_n hx hb dX5_adds_20 rfl (lv_at hl 0 rfl) ?_
  refine w_get hx hb hts (by decide +kernel) hown hC hP cW_5 rfl 7 (by decide) (hts (.fieldLink RX5 17 "BuildingPointsModel" "least" "[I") (by decide +kernel)) rfl dX5_adds_21 ?_
  refine lv_aload_n hx hb dX5_adds_24 rfl (lv_at hl 0 rfl) ?_
  refine w_get hx hb hts (by decide +kernel) hown hC hP cW_5 rfl 1 (by decide) (hts (.fieldLink RX5 72 "BuildingPointsModel" "points" "I") (by decide +kernel)) rfl dX5_adds_25 ?_
  refine lv_iload_n hx hb dX5_adds_28 rfl (lv_at hl 3 rfl) ?_
  refine w_istN hx hb hC hP hS cW_12_2 (by omega) (by decide) dX5_adds_29 (fun H locs hP hS => ?_)
  have hP := hw_eq hP (pA2 h.1 _)
  refine lv_iconst (v := 0) hx hb dX5_adds_30 (by decide) ?_
  refine lv_istore (lv' := [(4, .int 0), (0, .ref (ad 5 0)), (1, .int v), (2, .int sw), (3, .int ti)]) hx hb dX5_adds_31 hl (by decide) rfl (fun ls hl => ?_)
  refine w_ind (fun n9 H locs ls => ∃ i : Nat, i + n9 = 16 ∧ hw D B ad (cW D ad S (h, comF h.1 i (st3 (st3 (st3 τ 2 h.1 0 v) 1 h.1 0 sw) 3 h.1 0 ti), th) o) H ∧ va_S (ab B) s.heap H locs ∧ lv_has ls 5 [(4, .int (nI i)), (0, .ref (ad 5 0)), (1, .int v), (2, .int sw), (3, .int ti)]) ?_ 16 _ _ _ ⟨0, rfl, hP, hS, lv_sub hl [0, 1, 2, 3, 4] rfl⟩
  intro n9 H locs ls hJ ih
  obtain ⟨i, hi, hP, hS, hl⟩ := hJ
  refine lv_iload hx hb dX5_adds_33 (lv_at hl 0 rfl) ?_
  refine lv_bipush (v := (16)) hx hb dX5_adds_35 (by decide) ?_
  refine lv_icmp_ge (tgt := 63) hx hb dX5_adds_37 (by decide) (fun c_37 => ?_) (fun c_37 => ?_)
  · have hin : 16 ≤ i := Nat.not_lt.mp (fun z => absurd c_37 (nI_ge z (by decide)))
    have h16 : i = 16 := by omega
    subst h16
    refine lv_aload_n hx hb dX5_adds_63 rfl (lv_at hl 1 rfl) ?_
    refine lv_dup hx hb dX5_adds_64 rfl ?_
    refine w_get hx hb hts (by decide +kernel) hown hC hP cW_5 rfl 1 (by decide) (hts (.fieldLink RX5 72 "BuildingPointsModel" "points" "I") (by decide +kernel)) rfl dX5_adds_65 ?_
    refine lv_iconst (v := 1) hx hb dX5_adds_68 (by decide) ?_
    refine lv_iadd hx hb dX5_adds_69 ?_
    refine w_top (v := nI (h.1 + 1)) (nI_add h.1 1) ?_
    refine w_put hx hb hts (by decide +kernel) tyX5 tyX5_ok nmX5 hown hC hP hS cW_5 rfl 1 (by decide) (hts (.fieldLink RX5 72 "BuildingPointsModel" "points" "I") (by decide +kernel)) rfl rfl rfl (Nat.le_of_ble_eq_true rfl) rfl dX5_adds_70 (fun H locs hP hS => ?_)
    have hP := hw_eq hP (pM1 _)
    refine lv_aload_n hx hb dX5_adds_73 rfl (lv_at hl 1 rfl) ?_
    refine w_get hx hb hts (by decide +kernel) hown hC hP cW_5 rfl 1 (by decide) (hts (.fieldLink RX5 72 "BuildingPointsModel" "points" "I") (by decide +kernel)) rfl dX5_adds_74 ?_
    refine lv_iconst (v := 1) hx hb dX5_adds_77 (by decide) ?_
    refine lv_isub hx hb dX5_adds_78 ?_
    refine w_top (v := nI (h.1 + 1 - 1)) (pk_sub (a := h.1 + 1) (b := 1) (by omega)) ?_
    exact W.iret (v := (nI (h.1 + 1 - 1))) hx hb hr (fun t ht hW => Qi_of ⟨congrArg (Prod.mk _) cW_addM, by rw [show h.1 + 1 - 1 = h.1 by omega]⟩ hP hS ht) hS.2.2 dX5_adds_79
  · have hin : i < 16 := Nat.not_le.mp (fun z => c_37 (nI_le (a := 16) (b := i) z (by omega)))
    refine lv_aload_n hx hb dX5_adds_40 rfl (lv_at hl 1 rfl) ?_
    refine w_get hx hb hts (by decide +kernel) hown hC hP cW_5 rfl 10 (by decide) (hts (.fieldLink RX5 26 "BuildingPointsModel" "commands" "[I") (by decide +kernel)) rfl dX5_adds_41 ?_
    refine lv_bipush (v := (16)) hx hb dX5_adds_44 (by decide) ?_
    refine lv_aload_n hx hb dX5_adds_46 rfl (lv_at hl 1 rfl) ?_
    refine w_get hx hb hts (by decide +kernel) hown hC hP cW_5 rfl 1 (by decide) (hts (.fieldLink RX5 72 "BuildingPointsModel" "points" "I") (by decide +kernel)) rfl dX5_adds_47 ?_
    refine lv_imul hx hb dX5_adds_50 ?_
    refine w_top (v := nI (16 * h.1)) (pk_mul 16 h.1) ?_
    refine lv_iload hx hb dX5_adds_51 (lv_at hl 0 rfl) ?_
    refine lv_iadd hx hb dX5_adds_53 ?_
    refine w_top (v := nI (16 * h.1 + i)) (nI_add (16 * h.1) i) ?_
    refine lv_ldc (v := (-100000)) hx hb hown (hts (.constant RX5 79 (-100000)) (by decide +kernel)) dX5_adds_54 ?_
    refine w_top (v := nth) rfl ?_
    refine w_istN hx hb hC hP hS cW_12_5 (by omega) (by decide) dX5_adds_56 (fun H locs hP hS => ?_)
    have hP := hw_eq hP (pA5 (p := h.1) (j := i) (by omega) _)
    refine lv_iinc (v := nI (i + 1)) (lv' := [(4, .int (nI (i + 1))), (0, .ref (ad 5 0)), (1, .int v), (2, .int sw), (3, .int ti)]) hx hb dX5_adds_57 hl (k := 0) rfl (nI_add i 1) (by decide) rfl (fun ls hl => ?_)
    refine lv_goto (tgt := 33) hx hb dX5_adds_60 (by decide) ?_
    exact ih (n9 - 1) _ _ _ (by omega) ⟨i + 1, by omega, hP, hS, lv_sub hl [0, 1, 2, 3, 4] rfl⟩
set_option maxHeartbeats 4000000 in
set_option maxRecDepth 100000 in
theorem c_X5_addMeasure (l : Launch) (D : va_G) (B : Nat) (ad : Ad) (S : GC × Me) (h : GC) (τ : Me) (th : Int32) (o : Int64) (hI : Ib h τ)  (x0 : Int32) : Met l yX5_addMeasure wsX5_addMeasure ({ frames := 1, cells := 0, slots := 0, locals := 24 }) (Pre D B ad (cW D ad S (h, τ, th) o) [.ref (ad 5 0), .int x0]) (Qi D B (fun r u => (cdAdM h x0 = 0 → u = (ad, cW D ad S ((h.1 + 1, h.2), addF h.1 x0 0 0 τ, nI (cdAdM h x0)) o) ∧ r = nI h.1) ∧ (¬ cdAdM h x0 = 0 → u = (ad, cW D ad S (h, τ, nI (cdAdM h x0)) o)))) 0 0 (ab B) := by
  refine Met.ofW (cc := cX5_addMeasure) (maxL := 2) (ret := (some .int)) (by decide) rfl ?_
  intro p e s m args below meth c s₁ Bd hml hv
  obtain ⟨rfl, hC, hP⟩ := hv
  have hx := Bd.exec
  have hb := Bd.bytes
  have hr := Bd.returns
  have hts := atoms_spec (ws := wsX5_addMeasure) Bd.pre
  have hown : s.vm.findClass RX5 = some m.cls := findClass_of_methodNamed Bd.named
  have hlocks := Bd.notSynchronized
  have hS : va_S (ab B) s.heap s.heap [] := va_S.rf
  have hl := lv_entry ([.ref (ad 5 0), .int x0]) (n := 2) (Nat.le_of_ble_eq_true rfl)
  rw [lg_entry_eq]
  generalize (lg_sl ([.ref (ad 5 0), .int x0]) ++ List.replicate (2 - (lg_sl ([.ref (ad 5 0), .int x0])).length) Slot.unset).toArray = ls at hl ⊢
  have hl : lv_has ls 2 [(0, .ref (ad 5 0)), (1, .int x0)] := hl
  refine lv_aload_n hx hb dX5_addMeasure_0 rfl (lv_at hl 0 rfl) ?_
  refine lv_iload_n hx hb dX5_addMeasure_1 rfl (lv_at hl 1 rfl) ?_
  refine lv_sipush (v := (-1000)) hx hb dX5_addMeasure_2 (by decide) ?_
  refine lv_sipush (v := (1000)) hx hb dX5_addMeasure_5 (by decide) ?_
  refine w_calli (va_runS (As := [.int x0, .int (-1000), .int 1000]) (rest := [.ref (ad 5 0)]) ⟨hx, hb, hml, hown, hts⟩ (c_X5_in l D B ad (cW D ad S (h, τ, th) o) x0 (-1000) 1000) (va_cwS 3 hts gX5_addMeasure_X5_in rfl rfl rfl (by decide +kernel) ⟨Nat.le_of_ble_eq_true rfl, Nat.le_of_ble_eq_true rfl⟩) (w_preS hC hP hS) rfl rfl hl.1 rfl (lv_room (Nat.le_of_ble_eq_true rfl)) dX5_addMeasure_8 ⟨Nat.le_of_ble_eq_true rfl, Nat.le_of_ble_eq_true rfl⟩) hS (fun r_1 ad1 w1 H locs hq hP hS => ?_)
  obtain ⟨h91, h92⟩ := hq
  cases h91
  subst h92
  refine w_join (D := D) (B := B) (ad := ad) (w := cW D ad S (h, τ, th) o) (H0 := s.heap) (pcJ := 25) (ls := ls) (rest := [.int (bI (bt x0 (-1000) 1000)), .ref (ad 5 0)]) (bI (h.1 < 16)) (fun H locs hP hS => ?_) (fun hJ => ?_) hP hS
  · refine lv_iconst (v := 1) hx hb dX5_addMeasure_25 (by decide) ?_
    refine w_top (v := bI True) (bI_t trivial).symm ?_
    refine w_calli (va_runV (As := [.int (bI (bt x0 (-1000) 1000)), .int (bI (h.1 < 16)), .int (bI True)]) (rest := []) ⟨hx, hb, hml, hown, hts⟩ (c_X5_goes l D B ad S h τ th o (bt x0 (-1000) 1000) (h.1 < 16) (True)) (cwV 3 hts gX5_addMeasure_X5_goes rfl rfl rfl (by decide +kernel) ⟨Nat.le_of_ble_eq_true rfl, Nat.le_of_ble_eq_true rfl⟩) (w_preV hC hP hS cW_5 rfl) rfl rfl hl.1 rfl (lv_room (Nat.le_of_ble_eq_true rfl)) dX5_addMeasure_26 ⟨Nat.le_of_ble_eq_true rfl, Nat.le_of_ble_eq_true rfl⟩) hS (fun r_2 ad1 w1 H locs hq hP hS => ?_)
    have hCD : cod3 (bt x0 (-1000) 1000) (h.1 < 16) (True) = cdAdM h x0 := rfl
    obtain ⟨h91, h92⟩ := hq
    cases h91
    rw [hCD] at hP h92
    subst h92
    refine lv_if_eq (tgt := 42) hx hb dX5_addMeasure_29 (by decide) (fun c_29 => ?_) (fun c_29 => ?_)
    · have hcd := bI_0.mp c_29
      refine lv_iconst (v := 0) hx hb dX5_addMeasure_42 (by decide) ?_
      exact W.iret (v := 0) hx hb hr (fun t ht hW => Qi_of ⟨fun z => absurd z hcd, fun _ => rfl⟩ hP hS ht) hS.2.2 dX5_addMeasure_43
    · have hcd := bI_n0 c_29
      have hz := cod3_z (hCD.trans hcd)
      refine lv_aload_n hx hb dX5_addMeasure_32 rfl (lv_at hl 0 rfl) ?_
      refine lv_iload_n hx hb dX5_addMeasure_33 rfl (lv_at hl 1 rfl) ?_
      refine lv_iconst (v := 0) hx hb dX5_addMeasure_34 (by decide) ?_
      refine lv_iconst (v := 0) hx hb dX5_addMeasure_35 (by decide) ?_
      refine w_calli (va_runV (As := [.int x0, .int 0, .int 0]) (rest := []) ⟨hx, hb, hml, hown, hts⟩ (c_X5_adds l D B ad S h τ (nI (cdAdM h x0)) o hz.2.1 x0 0 0 (Or.inl rfl)) (cwV 3 hts gX5_addMeasure_X5_adds rfl rfl rfl (by decide +kernel) ⟨Nat.le_of_ble_eq_true rfl, Nat.le_of_ble_eq_true rfl⟩) (w_preV hC hP hS cW_5 rfl) rfl rfl hl.1 rfl (lv_room (Nat.le_of_ble_eq_true rfl)) dX5_addMeasure_36 ⟨Nat.le_of_ble_eq_true rfl, Nat.le_of_ble_eq_true rfl⟩) hS (fun r_3 ad1 w1 H locs hq hP hS => ?_)
      obtain ⟨h91, h92⟩ := hq
      cases h91
      subst h92
      refine lv_goto (tgt := 43) hx hb dX5_addMeasure_39 (by decide) ?_
      exact W.iret (v := (nI h.1)) hx hb hr (fun t ht hW => Qi_of ⟨fun _ => ⟨rfl, rfl⟩, fun z => absurd hcd z⟩ hP hS ht) hS.2.2 dX5_addMeasure_43
  · refine lv_aload_n hx hb dX5_addMeasure_11 rfl (lv_at hl 0 rfl) ?_
    refine w_get hx hb hts (by decide +kernel) hown hC hP cW_5 rfl 1 (by decide) (hts (.fieldLink RX5 72 "BuildingPointsModel" "points" "I") (by decide +kernel)) rfl dX5_addMeasure_12 ?_
    refine lv_bipush (v := (16)) hx hb dX5_addMeasure_15 (by decide) ?_
    refine lv_icmp_ge (tgt := 24) hx hb dX5_addMeasure_17 (by decide) (fun c_17 => ?_) (fun c_17 => ?_)
    · refine lv_iconst (v := 0) hx hb dX5_addMeasure_24 (by decide) ?_
      exact hJ _ _ _ (bI_f (fun z => absurd c_17 (nI_ge z (by decide)))).symm hP hS
    · refine lv_iconst (v := 1) hx hb dX5_addMeasure_20 (by decide) ?_
      refine lv_goto (tgt := 25) hx hb dX5_addMeasure_21 (by decide) ?_
      exact hJ _ _ _ (bI_t (Nat.not_le.mp (fun z => c_17 (nI_le (a := 16) (b := h.1) z (by have := hI.1; have := hI.2.1; have := hI.2.2.1; omega))))).symm hP hS
set_option maxHeartbeats 4000000 in
set_option maxRecDepth 100000 in
theorem c_X5_addSwitch (l : Launch) (D : va_G) (B : Nat) (ad : Ad) (S : GC × Me) (h : GC) (τ : Me) (th : Int32) (o : Int64) (hI : Ib h τ)  (x0 : Int32) (x1 : Int32) : Met l yX5_addSwitch wsX5_addSwitch ({ frames := 1, cells := 0, slots := 0, locals := 24 }) (Pre D B ad (cW D ad S (h, τ, th) o) [.ref (ad 5 0), .int x0, .int x1]) (Qi D B (fun r u => (cdAdS h x0 x1 = 0 → u = (ad, cW D ad S ((h.1 + 1, h.2), addF h.1 x0 1 x1 τ, nI (cdAdS h x0 x1)) o) ∧ r = nI h.1) ∧ (¬ cdAdS h x0 x1 = 0 → u = (ad, cW D ad S (h, τ, nI (cdAdS h x0 x1)) o)))) 0 0 (ab B) := by
  refine Met.ofW (cc := cX5_addSwitch) (maxL := 3) (ret := (some .int)) (by decide) rfl ?_
  intro p e s m args below meth c s₁ Bd hml hv
  obtain ⟨rfl, hC, hP⟩ := hv
  have hx := Bd.exec
  have hb := Bd.bytes
  have hr := Bd.returns
  have hts := atoms_spec (ws := wsX5_addSwitch) Bd.pre
  have hown : s.vm.findClass RX5 = some m.cls := findClass_of_methodNamed Bd.named
  have hlocks := Bd.notSynchronized
  have hS : va_S (ab B) s.heap s.heap [] := va_S.rf
  have hl := lv_entry ([.ref (ad 5 0), .int x0, .int x1]) (n := 3) (Nat.le_of_ble_eq_true rfl)
  rw [lg_entry_eq]
  generalize (lg_sl ([.ref (ad 5 0), .int x0, .int x1]) ++ List.replicate (3 - (lg_sl ([.ref (ad 5 0), .int x0, .int x1])).length) Slot.unset).toArray = ls at hl ⊢
  have hl : lv_has ls 3 [(0, .ref (ad 5 0)), (1, .int x0), (2, .int x1)] := hl
  refine lv_aload_n hx hb dX5_addSwitch_0 rfl (lv_at hl 0 rfl) ?_
  refine w_join (D := D) (B := B) (ad := ad) (w := cW D ad S (h, τ, th) o) (H0 := s.heap) (pcJ := 26) (ls := ls) (rest := [.ref (ad 5 0)]) (bI (bt x0 0 1 ∧ bt x1 0 1000)) (fun H locs hP hS => ?_) (fun hJ => ?_) hP hS
  · refine w_join (D := D) (B := B) (ad := ad) (w := cW D ad S (h, τ, th) o) (H0 := s.heap) (pcJ := 40) (ls := ls) (rest := [.int (bI (bt x0 0 1 ∧ bt x1 0 1000)), .ref (ad 5 0)]) (bI (h.1 < 16)) (fun H locs hP hS => ?_) (fun hJ => ?_) hP hS
    · refine lv_iconst (v := 1) hx hb dX5_addSwitch_40 (by decide) ?_
      refine w_top (v := bI True) (bI_t trivial).symm ?_
      refine w_calli (va_runV (As := [.int (bI (bt x0 0 1 ∧ bt x1 0 1000)), .int (bI (h.1 < 16)), .int (bI True)]) (rest := []) ⟨hx, hb, hml, hown, hts⟩ (c_X5_goes l D B ad S h τ th o (bt x0 0 1 ∧ bt x1 0 1000) (h.1 < 16) (True)) (cwV 3 hts gX5_addSwitch_X5_goes rfl rfl rfl (by decide +kernel) ⟨Nat.le_of_ble_eq_true rfl, Nat.le_of_ble_eq_true rfl⟩) (w_preV hC hP hS cW_5 rfl) rfl rfl hl.1 rfl (lv_room (Nat.le_of_ble_eq_true rfl)) dX5_addSwitch_41 ⟨Nat.le_of_ble_eq_true rfl, Nat.le_of_ble_eq_true rfl⟩) hS (fun r_1 ad1 w1 H locs hq hP hS => ?_)
      have hCD : cod3 (bt x0 0 1 ∧ bt x1 0 1000) (h.1 < 16) (True) = cdAdS h x0 x1 := rfl
      obtain ⟨h91, h92⟩ := hq
      cases h91
      rw [hCD] at hP h92
      subst h92
      refine lv_if_eq (tgt := 57) hx hb dX5_addSwitch_44 (by decide) (fun c_44 => ?_) (fun c_44 => ?_)
      · have hcd := bI_0.mp c_44
        refine lv_iconst (v := 0) hx hb dX5_addSwitch_57 (by decide) ?_
        exact W.iret (v := 0) hx hb hr (fun t ht hW => Qi_of ⟨fun z => absurd z hcd, fun _ => rfl⟩ hP hS ht) hS.2.2 dX5_addSwitch_58
      · have hcd := bI_n0 c_44
        have hz := cod3_z (hCD.trans hcd)
        refine lv_aload_n hx hb dX5_addSwitch_47 rfl (lv_at hl 0 rfl) ?_
        refine lv_iload_n hx hb dX5_addSwitch_48 rfl (lv_at hl 1 rfl) ?_
        refine lv_iconst (v := 1) hx hb dX5_addSwitch_49 (by decide) ?_
        refine lv_iload_n hx hb dX5_addSwitch_50 rfl (lv_at hl 2 rfl) ?_
        refine w_calli (va_runV (As := [.int x0, .int 1, .int x1]) (rest := []) ⟨hx, hb, hml, hown, hts⟩ (c_X5_adds l D B ad S h τ (nI (cdAdS h x0 x1)) o hz.2.1 x0 1 x1 (Or.inr rfl)) (cwV 3 hts gX5_addSwitch_X5_adds rfl rfl rfl (by decide +kernel) ⟨Nat.le_of_ble_eq_true rfl, Nat.le_of_ble_eq_true rfl⟩) (w_preV hC hP hS cW_5 rfl) rfl rfl hl.1 rfl (lv_room (Nat.le_of_ble_eq_true rfl)) dX5_addSwitch_51 ⟨Nat.le_of_ble_eq_true rfl, Nat.le_of_ble_eq_true rfl⟩) hS (fun r_2 ad1 w1 H locs hq hP hS => ?_)
        obtain ⟨h91, h92⟩ := hq
        cases h91
        subst h92
        refine lv_goto (tgt := 58) hx hb dX5_addSwitch_54 (by decide) ?_
        exact W.iret (v := (nI h.1)) hx hb hr (fun t ht hW => Qi_of ⟨fun _ => ⟨rfl, rfl⟩, fun z => absurd hcd z⟩ hP hS ht) hS.2.2 dX5_addSwitch_58
    · refine lv_aload_n hx hb dX5_addSwitch_26 rfl (lv_at hl 0 rfl) ?_
      refine w_get hx hb hts (by decide +kernel) hown hC hP cW_5 rfl 1 (by decide) (hts (.fieldLink RX5 72 "BuildingPointsModel" "points" "I") (by decide +kernel)) rfl dX5_addSwitch_27 ?_
      refine lv_bipush (v := (16)) hx hb dX5_addSwitch_30 (by decide) ?_
      refine lv_icmp_ge (tgt := 39) hx hb dX5_addSwitch_32 (by decide) (fun c_32 => ?_) (fun c_32 => ?_)
      · refine lv_iconst (v := 0) hx hb dX5_addSwitch_39 (by decide) ?_
        exact hJ _ _ _ (bI_f (fun z => absurd c_32 (nI_ge z (by decide)))).symm hP hS
      · refine lv_iconst (v := 1) hx hb dX5_addSwitch_35 (by decide) ?_
        refine lv_goto (tgt := 40) hx hb dX5_addSwitch_36 (by decide) ?_
        exact hJ _ _ _ (bI_t (Nat.not_le.mp (fun z => c_32 (nI_le (a := 16) (b := h.1) z (by have := hI.1; have := hI.2.1; have := hI.2.2.1; omega))))).symm hP hS
  · refine lv_iload_n hx hb dX5_addSwitch_1 rfl (lv_at hl 1 rfl) ?_
    refine lv_iconst (v := 0) hx hb dX5_addSwitch_2 (by decide) ?_
    refine lv_iconst (v := 1) hx hb dX5_addSwitch_3 (by decide) ?_
    refine w_calli (va_runS (As := [.int x0, .int 0, .int 1]) (rest := [.ref (ad 5 0)]) ⟨hx, hb, hml, hown, hts⟩ (c_X5_in l D B ad (cW D ad S (h, τ, th) o) x0 0 1) (va_cwS 3 hts gX5_addSwitch_X5_in rfl rfl rfl (by decide +kernel) ⟨Nat.le_of_ble_eq_true rfl, Nat.le_of_ble_eq_true rfl⟩) (w_preS hC hP hS) rfl rfl hl.1 rfl (lv_room (Nat.le_of_ble_eq_true rfl)) dX5_addSwitch_4 ⟨Nat.le_of_ble_eq_true rfl, Nat.le_of_ble_eq_true rfl⟩) hS (fun r_3 ad1 w1 H locs hq hP hS => ?_)
    obtain ⟨h91, h92⟩ := hq
    cases h91
    subst h92
    refine lv_if_eq (tgt := 25) hx hb dX5_addSwitch_7 (by decide) (fun c_7 => ?_) (fun c_7 => ?_)
    · refine lv_iconst (v := 0) hx hb dX5_addSwitch_25 (by decide) ?_
      exact hJ _ _ _ (bI_f (fun z => bI_0.mp c_7 z.1)).symm hP hS
    · refine lv_iload_n hx hb dX5_addSwitch_10 rfl (lv_at hl 2 rfl) ?_
      refine lv_iconst (v := 0) hx hb dX5_addSwitch_11 (by decide) ?_
      refine lv_sipush (v := (1000)) hx hb dX5_addSwitch_12 (by decide) ?_
      refine w_calli (va_runS (As := [.int x1, .int 0, .int 1000]) (rest := [.ref (ad 5 0)]) ⟨hx, hb, hml, hown, hts⟩ (c_X5_in l D B ad (cW D ad S (h, τ, th) o) x1 0 1000) (va_cwS 3 hts gX5_addSwitch_X5_in rfl rfl rfl (by decide +kernel) ⟨Nat.le_of_ble_eq_true rfl, Nat.le_of_ble_eq_true rfl⟩) (w_preS hC hP hS) rfl rfl hl.1 rfl (lv_room (Nat.le_of_ble_eq_true rfl)) dX5_addSwitch_15 ⟨Nat.le_of_ble_eq_true rfl, Nat.le_of_ble_eq_true rfl⟩) hS (fun r_4 ad1 w1 H locs hq hP hS => ?_)
      obtain ⟨h91, h92⟩ := hq
      cases h91
      subst h92
      refine lv_if_eq (tgt := 25) hx hb dX5_addSwitch_18 (by decide) (fun c_18 => ?_) (fun c_18 => ?_)
      · refine lv_iconst (v := 0) hx hb dX5_addSwitch_25 (by decide) ?_
        exact hJ _ _ _ (bI_f (fun z => bI_0.mp c_18 z.2)).symm hP hS
      · refine lv_iconst (v := 1) hx hb dX5_addSwitch_21 (by decide) ?_
        refine lv_goto (tgt := 26) hx hb dX5_addSwitch_22 (by decide) ?_
        exact hJ _ _ _ (bI_t ⟨bI_n0 c_7, bI_n0 c_18⟩).symm hP hS
set_option maxHeartbeats 4000000 in
set_option maxRecDepth 100000 in
theorem c_X5_subscribe (l : Launch) (D : va_G) (B : Nat) (ad : Ad) (S : GC × Me) (h : GC) (τ : Me) (th : Int32) (o : Int64) (hI : Ib h τ)  (x0 : Int32) (x1 : Int32) (x2 : Int32) : Met l yX5_subscribe wsX5_subscribe ({ frames := 2, cells := 0, slots := 0, locals := 45 }) (Pre D B ad (cW D ad S (h, τ, th) o) [.ref (ad 5 0), .int x0, .int x1, .int x2]) (Qi D B (fun r u => (cdSub h x0 x1 x2 = 0 → u = (ad, cW D ad S ((h.1, h.2.1 + 1, h.2.2), subF h.2.1 x0 x1 (τ 25 0 0 + x2) (τ 7 (nOf x0) 0) τ, nI (cdSub h x0 x1 x2)) o) ∧ r = nI h.2.1) ∧ (¬ cdSub h x0 x1 x2 = 0 → u = (ad, cW D ad S (h, τ, nI (cdSub h x0 x1 x2)) o)))) 0 0 (ab B) := by
  refine Met.ofW (cc := cX5_subscribe) (maxL := 5) (ret := (some .int)) (by decide) rfl ?_
  intro p e s m args below meth c s₁ Bd hml hv
  obtain ⟨rfl, hC, hP⟩ := hv
  have hx := Bd.exec
  have hb := Bd.bytes
  have hr := Bd.returns
  have hts := atoms_spec (ws := wsX5_subscribe) Bd.pre
  have hown : s.vm.findClass RX5 = some m.cls := findClass_of_methodNamed Bd.named
  have hlocks := Bd.notSynchronized
  have hS : va_S (ab B) s.heap s.heap [] := va_S.rf
  have hl := lv_entry ([.ref (ad 5 0), .int x0, .int x1, .int x2]) (n := 5) (Nat.le_of_ble_eq_true rfl)
  rw [lg_entry_eq]
  generalize (lg_sl ([.ref (ad 5 0), .int x0, .int x1, .int x2]) ++ List.replicate (5 - (lg_sl ([.ref (ad 5 0), .int x0, .int x1, .int x2])).length) Slot.unset).toArray = ls at hl ⊢
  have hl : lv_has ls 5 [(0, .ref (ad 5 0)), (1, .int x0), (2, .int x1), (3, .int x2)] := hl
  refine lv_aload_n hx hb dX5_subscribe_0 rfl (lv_at hl 0 rfl) ?_
  refine lv_iload_n hx hb dX5_subscribe_1 rfl (lv_at hl 1 rfl) ?_
  refine w_calli (va_runV (As := [.int x0]) (rest := []) ⟨hx, hb, hml, hown, hts⟩ (c_X5_isPoint l D B ad S h τ th o hI.1 x0) (cwV 1 hts gX5_subscribe_X5_isPoint rfl rfl rfl (by decide +kernel) ⟨Nat.le_of_ble_eq_true rfl, Nat.le_of_ble_eq_true rfl⟩) (w_preV hC hP hS cW_5 rfl) rfl rfl hl.1 rfl (lv_room (Nat.le_of_ble_eq_true rfl)) dX5_subscribe_2 ⟨Nat.le_of_ble_eq_true rfl, Nat.le_of_ble_eq_true rfl⟩) hS (fun r_1 ad1 w1 H locs hq hP hS => ?_)
  obtain ⟨h91, h92⟩ := hq
  cases h91
  subst h92
  refine lv_istore (lv' := [(4, .int (bI (isN h.1 x0))), (0, .ref (ad 5 0)), (1, .int x0), (2, .int x1), (3, .int x2)]) hx hb dX5_subscribe_5 hl (by decide) rfl (fun ls hl => ?_)
  refine lv_aload_n hx hb dX5_subscribe_7 rfl (lv_at hl 1 rfl) ?_
  refine lv_iload hx hb dX5_subscribe_8 (lv_at hl 0 rfl) ?_
  refine w_join (D := D) (B := B) (ad := ad) (w := cW D ad S (h, τ, th) o) (H0 := s.heap) (pcJ := 36) (ls := ls) (rest := [.int (bI (isN h.1 x0)), .ref (ad 5 0)]) (bI (bt x1 1 2000 ∧ bt x2 1 100000)) (fun H locs hP hS => ?_) (fun hJ => ?_) hP hS
  · refine w_join (D := D) (B := B) (ad := ad) (w := cW D ad S (h, τ, th) o) (H0 := s.heap) (pcJ := 50) (ls := ls) (rest := [.int (bI (bt x1 1 2000 ∧ bt x2 1 100000)), .int (bI (isN h.1 x0)), .ref (ad 5 0)]) (bI (h.2.1 < 30)) (fun H locs hP hS => ?_) (fun hJ => ?_) hP hS
    · refine w_calli (va_runV (As := [.int (bI (isN h.1 x0)), .int (bI (bt x1 1 2000 ∧ bt x2 1 100000)), .int (bI (h.2.1 < 30))]) (rest := []) ⟨hx, hb, hml, hown, hts⟩ (c_X5_goes l D B ad S h τ th o (isN h.1 x0) (bt x1 1 2000 ∧ bt x2 1 100000) (h.2.1 < 30)) (cwV 3 hts gX5_subscribe_X5_goes rfl rfl rfl (by decide +kernel) ⟨Nat.le_of_ble_eq_true rfl, Nat.le_of_ble_eq_true rfl⟩) (w_preV hC hP hS cW_5 rfl) rfl rfl hl.1 rfl (lv_room (Nat.le_of_ble_eq_true rfl)) dX5_subscribe_50 ⟨Nat.le_of_ble_eq_true rfl, Nat.le_of_ble_eq_true rfl⟩) hS (fun r_2 ad1 w1 H locs hq hP hS => ?_)
      have hCD : cod3 (isN h.1 x0) (bt x1 1 2000 ∧ bt x2 1 100000) (h.2.1 < 30) = cdSub h x0 x1 x2 := rfl
      obtain ⟨h91, h92⟩ := hq
      cases h91
      rw [hCD] at hP h92
      subst h92
      refine lv_if_ne (tgt := 58) hx hb dX5_subscribe_53 (by decide) (fun c_53 => ?_) (fun c_53 => ?_)
      · have hcd := bI_n0 c_53
        have hz := cod3_z (hCD.trans hcd)
        obtain ⟨pi, hpi, rfl⟩ := hz.1
        have hcl : nOf (nI pi) = pi := nI_clamp (by have := hI.1; have := hI.2.1; have := hI.2.2.1; omega)
        have hsl : h.2.1 < 30 := hz.2.2
        have h16 : pi < 16 := by have := hI.1; omega
        refine lv_aload_n hx hb dX5_subscribe_58 rfl (lv_at hl 1 rfl) ?_
        refine w_get hx hb hts (by decide +kernel) hown hC hP cW_5 rfl 11 (by decide) (hts (.fieldLink RX5 29 "BuildingPointsModel" "of" "[I") (by decide +kernel)) rfl dX5_subscribe_59 ?_
        refine lv_aload_n hx hb dX5_subscribe_62 rfl (lv_at hl 1 rfl) ?_
        refine w_get hx hb hts (by decide +kernel) hown hC hP cW_5 rfl 2 (by decide) (hts (.fieldLink RX5 92 "BuildingPointsModel" "subscriptions" "I") (by decide +kernel)) rfl dX5_subscribe_63 ?_
        refine lv_iload_n hx hb dX5_subscribe_66 rfl (lv_at hl 2 rfl) ?_
        refine w_istN hx hb hC hP hS cW_12_6 (by omega) (by decide) dX5_subscribe_67 (fun H locs hP hS => ?_)
        have hP := hw_eq hP (pA6 h.2.1 _)
        refine lv_aload_n hx hb dX5_subscribe_68 rfl (lv_at hl 1 rfl) ?_
        refine w_get hx hb hts (by decide +kernel) hown hC hP cW_5 rfl 12 (by decide) (hts (.fieldLink RX5 32 "BuildingPointsModel" "increment" "[I") (by decide +kernel)) rfl dX5_subscribe_69 ?_
        refine lv_aload_n hx hb dX5_subscribe_72 rfl (lv_at hl 1 rfl) ?_
        refine w_get hx hb hts (by decide +kernel) hown hC hP cW_5 rfl 2 (by decide) (hts (.fieldLink RX5 92 "BuildingPointsModel" "subscriptions" "I") (by decide +kernel)) rfl dX5_subscribe_73 ?_
        refine lv_iload_n hx hb dX5_subscribe_76 rfl (lv_at hl 3 rfl) ?_
        refine w_istN hx hb hC hP hS cW_12_7 (by omega) (by decide) dX5_subscribe_77 (fun H locs hP hS => ?_)
        have hP := hw_eq hP (pA7 h.2.1 _)
        refine lv_aload_n hx hb dX5_subscribe_78 rfl (lv_at hl 1 rfl) ?_
        refine w_get hx hb hts (by decide +kernel) hown hC hP cW_5 rfl 13 (by decide) (hts (.fieldLink RX5 35 "BuildingPointsModel" "over" "[I") (by decide +kernel)) rfl dX5_subscribe_79 ?_
        refine lv_aload_n hx hb dX5_subscribe_82 rfl (lv_at hl 1 rfl) ?_
        refine w_get hx hb hts (by decide +kernel) hown hC hP cW_5 rfl 2 (by decide) (hts (.fieldLink RX5 92 "BuildingPointsModel" "subscriptions" "I") (by decide +kernel)) rfl dX5_subscribe_83 ?_
        refine lv_aload_n hx hb dX5_subscribe_86 rfl (lv_at hl 1 rfl) ?_
        refine w_get hx hb hts (by decide +kernel) hown hC hP cW_5 rfl 0 (by decide) (hts (.fieldLink RX5 101 "BuildingPointsModel" "clock" "I") (by decide +kernel)) rfl dX5_subscribe_87 ?_
        refine lv_iload_n hx hb dX5_subscribe_90 rfl (lv_at hl 4 rfl) ?_
        refine lv_iadd hx hb dX5_subscribe_91 ?_
        refine w_top (v := τ 25 0 0 + x2) (by rw [st3_n (by decide), st3_n (by decide)]) ?_
        refine w_istN hx hb hC hP hS cW_12_8 (by omega) (by decide) dX5_subscribe_92 (fun H locs hP hS => ?_)
        have hP := hw_eq hP (pA8 h.2.1 _)
        refine lv_aload_n hx hb dX5_subscribe_93 rfl (lv_at hl 1 rfl) ?_
        refine w_get hx hb hts (by decide +kernel) hown hC hP cW_5 rfl 16 (by decide) (hts (.fieldLink RX5 44 "BuildingPointsModel" "kept" "[I") (by decide +kernel)) rfl dX5_subscribe_94 ?_
        refine lv_aload_n hx hb dX5_subscribe_97 rfl (lv_at hl 1 rfl) ?_
        refine w_get hx hb hts (by decide +kernel) hown hC hP cW_5 rfl 2 (by decide) (hts (.fieldLink RX5 92 "BuildingPointsModel" "subscriptions" "I") (by decide +kernel)) rfl dX5_subscribe_98 ?_
        refine lv_aload_n hx hb dX5_subscribe_101 rfl (lv_at hl 1 rfl) ?_
        refine lv_iload_n hx hb dX5_subscribe_102 rfl (lv_at hl 2 rfl) ?_
        refine w_calli (va_runV (As := [.int (nI pi)]) (rest := [.int (nI h.2.1), .ref (ad 12 11)]) ⟨hx, hb, hml, hown, hts⟩ (c_X5_valueOf l D B ad S h (st3 (st3 (st3 τ 8 h.2.1 0 (nI pi)) 9 h.2.1 0 x1) 10 h.2.1 0 (τ 25 0 0 + x2)) (nI (cdSub h (nI pi) x1 x2)) o pi h16) (cwV 1 hts gX5_subscribe_X5_valueOf rfl rfl rfl (by decide +kernel) ⟨Nat.le_of_ble_eq_true rfl, Nat.le_of_ble_eq_true rfl⟩) (w_preV hC hP hS cW_5 rfl) rfl rfl hl.1 rfl (lv_room (Nat.le_of_ble_eq_true rfl)) dX5_subscribe_103 ⟨Nat.le_of_ble_eq_true rfl, Nat.le_of_ble_eq_true rfl⟩) hS (fun r_3 ad1 w1 H locs hq hP hS => ?_)
        obtain ⟨h91, h92⟩ := hq
        cases h91
        subst h92
        refine w_top (v := τ 7 pi 0) (by rw [vaO_eq, st3_n (by decide), st3_n (by decide), st3_n (by decide), st3_n (by decide), st3_n (by decide), st3_n (by decide), ← vaO_eq]; exact (hI.2.2.2.1 pi hpi).2.2.2.2.symm) ?_
        refine w_istN hx hb hC hP hS cW_12_11 (by omega) (by decide) dX5_subscribe_106 (fun H locs hP hS => ?_)
        have hP := hw_eq hP (pA11 h.2.1 _)
        refine lv_aload_n hx hb dX5_subscribe_107 rfl (lv_at hl 1 rfl) ?_
        refine lv_dup hx hb dX5_subscribe_108 rfl ?_
        refine w_get hx hb hts (by decide +kernel) hown hC hP cW_5 rfl 2 (by decide) (hts (.fieldLink RX5 92 "BuildingPointsModel" "subscriptions" "I") (by decide +kernel)) rfl dX5_subscribe_109 ?_
        refine lv_iconst (v := 1) hx hb dX5_subscribe_112 (by decide) ?_
        refine lv_iadd hx hb dX5_subscribe_113 ?_
        refine w_top (v := nI (h.2.1 + 1)) (nI_add h.2.1 1) ?_
        refine w_put hx hb hts (by decide +kernel) tyX5 tyX5_ok nmX5 hown hC hP hS cW_5 rfl 2 (by decide) (hts (.fieldLink RX5 92 "BuildingPointsModel" "subscriptions" "I") (by decide +kernel)) rfl rfl rfl (Nat.le_of_ble_eq_true rfl) rfl dX5_subscribe_114 (fun H locs hP hS => ?_)
        have hP := hw_eq hP (pM2 _)
        refine lv_aload_n hx hb dX5_subscribe_117 rfl (lv_at hl 1 rfl) ?_
        refine w_get hx hb hts (by decide +kernel) hown hC hP cW_5 rfl 2 (by decide) (hts (.fieldLink RX5 92 "BuildingPointsModel" "subscriptions" "I") (by decide +kernel)) rfl dX5_subscribe_118 ?_
        refine lv_iconst (v := 1) hx hb dX5_subscribe_121 (by decide) ?_
        refine lv_isub hx hb dX5_subscribe_122 ?_
        refine w_top (v := nI (h.2.1 + 1 - 1)) (pk_sub (a := h.2.1 + 1) (b := 1) (by omega)) ?_
        exact W.iret (v := (nI (h.2.1 + 1 - 1))) hx hb hr (fun t ht hW => Qi_of ⟨fun _ => ⟨by rw [hcl]; rfl, by rw [show h.2.1 + 1 - 1 = h.2.1 by omega]⟩, fun z => absurd hcd z⟩ hP hS ht) hS.2.2 dX5_subscribe_123
      · have hcd := bI_0.mp c_53
        refine lv_iconst (v := 0) hx hb dX5_subscribe_56 (by decide) ?_
        exact W.iret (v := 0) hx hb hr (fun t ht hW => Qi_of ⟨fun z => absurd z hcd, fun _ => rfl⟩ hP hS ht) hS.2.2 dX5_subscribe_57
    · refine lv_aload_n hx hb dX5_subscribe_36 rfl (lv_at hl 1 rfl) ?_
      refine w_get hx hb hts (by decide +kernel) hown hC hP cW_5 rfl 2 (by decide) (hts (.fieldLink RX5 92 "BuildingPointsModel" "subscriptions" "I") (by decide +kernel)) rfl dX5_subscribe_37 ?_
      refine lv_bipush (v := (30)) hx hb dX5_subscribe_40 (by decide) ?_
      refine lv_icmp_ge (tgt := 49) hx hb dX5_subscribe_42 (by decide) (fun c_42 => ?_) (fun c_42 => ?_)
      · refine lv_iconst (v := 0) hx hb dX5_subscribe_49 (by decide) ?_
        exact hJ _ _ _ (bI_f (fun z => absurd c_42 (nI_ge z (by decide)))).symm hP hS
      · refine lv_iconst (v := 1) hx hb dX5_subscribe_45 (by decide) ?_
        refine lv_goto (tgt := 50) hx hb dX5_subscribe_46 (by decide) ?_
        exact hJ _ _ _ (bI_t (Nat.not_le.mp (fun z => c_42 (nI_le (a := 30) (b := h.2.1) z (by have := hI.1; have := hI.2.1; have := hI.2.2.1; omega))))).symm hP hS
  · refine lv_iload_n hx hb dX5_subscribe_10 rfl (lv_at hl 3 rfl) ?_
    refine lv_iconst (v := 1) hx hb dX5_subscribe_11 (by decide) ?_
    refine lv_sipush (v := (2000)) hx hb dX5_subscribe_12 (by decide) ?_
    refine w_calli (va_runS (As := [.int x1, .int 1, .int 2000]) (rest := [.int (bI (isN h.1 x0)), .ref (ad 5 0)]) ⟨hx, hb, hml, hown, hts⟩ (c_X5_in l D B ad (cW D ad S (h, τ, th) o) x1 1 2000) (va_cwS 3 hts gX5_subscribe_X5_in rfl rfl rfl (by decide +kernel) ⟨Nat.le_of_ble_eq_true rfl, Nat.le_of_ble_eq_true rfl⟩) (w_preS hC hP hS) rfl rfl hl.1 rfl (lv_room (Nat.le_of_ble_eq_true rfl)) dX5_subscribe_15 ⟨Nat.le_of_ble_eq_true rfl, Nat.le_of_ble_eq_true rfl⟩) hS (fun r_4 ad1 w1 H locs hq hP hS => ?_)
    obtain ⟨h91, h92⟩ := hq
    cases h91
    subst h92
    refine lv_if_eq (tgt := 35) hx hb dX5_subscribe_18 (by decide) (fun c_18 => ?_) (fun c_18 => ?_)
    · refine lv_iconst (v := 0) hx hb dX5_subscribe_35 (by decide) ?_
      exact hJ _ _ _ (bI_f (fun z => bI_0.mp c_18 z.1)).symm hP hS
    · refine lv_iload_n hx hb dX5_subscribe_21 rfl (lv_at hl 4 rfl) ?_
      refine lv_iconst (v := 1) hx hb dX5_subscribe_22 (by decide) ?_
      refine lv_ldc (v := (100000)) hx hb hown (hts (.constant RX5 120 (100000)) (by decide +kernel)) dX5_subscribe_23 ?_
      refine w_calli (va_runS (As := [.int x2, .int 1, .int 100000]) (rest := [.int (bI (isN h.1 x0)), .ref (ad 5 0)]) ⟨hx, hb, hml, hown, hts⟩ (c_X5_in l D B ad (cW D ad S (h, τ, th) o) x2 1 100000) (va_cwS 3 hts gX5_subscribe_X5_in rfl rfl rfl (by decide +kernel) ⟨Nat.le_of_ble_eq_true rfl, Nat.le_of_ble_eq_true rfl⟩) (w_preS hC hP hS) rfl rfl hl.1 rfl (lv_room (Nat.le_of_ble_eq_true rfl)) dX5_subscribe_25 ⟨Nat.le_of_ble_eq_true rfl, Nat.le_of_ble_eq_true rfl⟩) hS (fun r_5 ad1 w1 H locs hq hP hS => ?_)
      obtain ⟨h91, h92⟩ := hq
      cases h91
      subst h92
      refine lv_if_eq (tgt := 35) hx hb dX5_subscribe_28 (by decide) (fun c_28 => ?_) (fun c_28 => ?_)
      · refine lv_iconst (v := 0) hx hb dX5_subscribe_35 (by decide) ?_
        exact hJ _ _ _ (bI_f (fun z => bI_0.mp c_28 z.2)).symm hP hS
      · refine lv_iconst (v := 1) hx hb dX5_subscribe_31 (by decide) ?_
        refine lv_goto (tgt := 36) hx hb dX5_subscribe_32 (by decide) ?_
        exact hJ _ _ _ (bI_t ⟨bI_n0 c_18, bI_n0 c_28⟩).symm hP hS
set_option maxHeartbeats 4000000 in
set_option maxRecDepth 100000 in
theorem c_X5_addSchedule (l : Launch) (D : va_G) (B : Nat) (ad : Ad) (S : GC × Me) (h : GC) (τ : Me) (th : Int32) (o : Int64) (hI : Ib h τ)  (x0 : Int32) (x1 : Int32) : Met l yX5_addSchedule wsX5_addSchedule ({ frames := 2, cells := 0, slots := 0, locals := 43 }) (Pre D B ad (cW D ad S (h, τ, th) o) [.ref (ad 5 0), .int x0, .int x1]) (Qi D B (fun r u => (cdAdC h x0 x1 = 0 → u = (ad, cW D ad S ((h.1, h.2.1, h.2.2 + 1), schF h.2.2 x0 x1 τ, nI (cdAdC h x0 x1)) o) ∧ r = nI h.2.2) ∧ (¬ cdAdC h x0 x1 = 0 → u = (ad, cW D ad S (h, τ, nI (cdAdC h x0 x1)) o)))) 0 0 (ab B) := by
  refine Met.ofW (cc := cX5_addSchedule) (maxL := 3) (ret := (some .int)) (by decide) rfl ?_
  intro p e s m args below meth c s₁ Bd hml hv
  obtain ⟨rfl, hC, hP⟩ := hv
  have hx := Bd.exec
  have hb := Bd.bytes
  have hr := Bd.returns
  have hts := atoms_spec (ws := wsX5_addSchedule) Bd.pre
  have hown : s.vm.findClass RX5 = some m.cls := findClass_of_methodNamed Bd.named
  have hlocks := Bd.notSynchronized
  have hS : va_S (ab B) s.heap s.heap [] := va_S.rf
  have hl := lv_entry ([.ref (ad 5 0), .int x0, .int x1]) (n := 3) (Nat.le_of_ble_eq_true rfl)
  rw [lg_entry_eq]
  generalize (lg_sl ([.ref (ad 5 0), .int x0, .int x1]) ++ List.replicate (3 - (lg_sl ([.ref (ad 5 0), .int x0, .int x1])).length) Slot.unset).toArray = ls at hl ⊢
  have hl : lv_has ls 3 [(0, .ref (ad 5 0)), (1, .int x0), (2, .int x1)] := hl
  refine lv_aload_n hx hb dX5_addSchedule_0 rfl (lv_at hl 0 rfl) ?_
  refine lv_aload_n hx hb dX5_addSchedule_1 rfl (lv_at hl 0 rfl) ?_
  refine lv_iload_n hx hb dX5_addSchedule_2 rfl (lv_at hl 1 rfl) ?_
  refine w_calli (va_runV (As := [.int x0]) (rest := [.ref (ad 5 0)]) ⟨hx, hb, hml, hown, hts⟩ (c_X5_isPoint l D B ad S h τ th o hI.1 x0) (cwV 1 hts gX5_addSchedule_X5_isPoint rfl rfl rfl (by decide +kernel) ⟨Nat.le_of_ble_eq_true rfl, Nat.le_of_ble_eq_true rfl⟩) (w_preV hC hP hS cW_5 rfl) rfl rfl hl.1 rfl (lv_room (Nat.le_of_ble_eq_true rfl)) dX5_addSchedule_3 ⟨Nat.le_of_ble_eq_true rfl, Nat.le_of_ble_eq_true rfl⟩) hS (fun r_1 ad1 w1 H locs hq hP hS => ?_)
  obtain ⟨h91, h92⟩ := hq
  cases h91
  subst h92
  refine lv_iload_n hx hb dX5_addSchedule_6 rfl (lv_at hl 2 rfl) ?_
  refine lv_bipush (v := (7)) hx hb dX5_addSchedule_7 (by decide) ?_
  refine lv_bipush (v := (16)) hx hb dX5_addSchedule_9 (by decide) ?_
  refine w_calli (va_runS (As := [.int x1, .int 7, .int 16]) (rest := [.int (bI (isN h.1 x0)), .ref (ad 5 0)]) ⟨hx, hb, hml, hown, hts⟩ (c_X5_in l D B ad (cW D ad S (h, τ, th) o) x1 7 16) (va_cwS 3 hts gX5_addSchedule_X5_in rfl rfl rfl (by decide +kernel) ⟨Nat.le_of_ble_eq_true rfl, Nat.le_of_ble_eq_true rfl⟩) (w_preS hC hP hS) rfl rfl hl.1 rfl (lv_room (Nat.le_of_ble_eq_true rfl)) dX5_addSchedule_11 ⟨Nat.le_of_ble_eq_true rfl, Nat.le_of_ble_eq_true rfl⟩) hS (fun r_2 ad1 w1 H locs hq hP hS => ?_)
  obtain ⟨h91, h92⟩ := hq
  cases h91
  subst h92
  refine w_join (D := D) (B := B) (ad := ad) (w := cW D ad S (h, τ, th) o) (H0 := s.heap) (pcJ := 27) (ls := ls) (rest := [.int (bI (bt x1 7 16)), .int (bI (isN h.1 x0)), .ref (ad 5 0)]) (bI (h.2.2 < 4)) (fun H locs hP hS => ?_) (fun hJ => ?_) hP hS
  · refine w_calli (va_runV (As := [.int (bI (isN h.1 x0)), .int (bI (bt x1 7 16)), .int (bI (h.2.2 < 4))]) (rest := []) ⟨hx, hb, hml, hown, hts⟩ (c_X5_goes l D B ad S h τ th o (isN h.1 x0) (bt x1 7 16) (h.2.2 < 4)) (cwV 3 hts gX5_addSchedule_X5_goes rfl rfl rfl (by decide +kernel) ⟨Nat.le_of_ble_eq_true rfl, Nat.le_of_ble_eq_true rfl⟩) (w_preV hC hP hS cW_5 rfl) rfl rfl hl.1 rfl (lv_room (Nat.le_of_ble_eq_true rfl)) dX5_addSchedule_27 ⟨Nat.le_of_ble_eq_true rfl, Nat.le_of_ble_eq_true rfl⟩) hS (fun r_3 ad1 w1 H locs hq hP hS => ?_)
    have hCD : cod3 (isN h.1 x0) (bt x1 7 16) (h.2.2 < 4) = cdAdC h x0 x1 := rfl
    obtain ⟨h91, h92⟩ := hq
    cases h91
    rw [hCD] at hP h92
    subst h92
    refine lv_if_ne (tgt := 35) hx hb dX5_addSchedule_30 (by decide) (fun c_30 => ?_) (fun c_30 => ?_)
    · have hcd := bI_n0 c_30
      have hz := cod3_z (hCD.trans hcd)
      have hsl : h.2.2 < 4 := hz.2.2
      refine lv_aload_n hx hb dX5_addSchedule_35 rfl (lv_at hl 0 rfl) ?_
      refine w_get hx hb hts (by decide +kernel) hown hC hP cW_5 rfl 17 (by decide) (hts (.fieldLink RX5 47 "BuildingPointsModel" "to" "[I") (by decide +kernel)) rfl dX5_addSchedule_36 ?_
      refine lv_aload_n hx hb dX5_addSchedule_39 rfl (lv_at hl 0 rfl) ?_
      refine w_get hx hb hts (by decide +kernel) hown hC hP cW_5 rfl 3 (by decide) (hts (.fieldLink RX5 124 "BuildingPointsModel" "schedules" "I") (by decide +kernel)) rfl dX5_addSchedule_40 ?_
      refine lv_iload_n hx hb dX5_addSchedule_43 rfl (lv_at hl 1 rfl) ?_
      refine w_istN hx hb hC hP hS cW_12_12 (by omega) (by decide) dX5_addSchedule_44 (fun H locs hP hS => ?_)
      have hP := hw_eq hP (pA12 h.2.2 _)
      refine lv_aload_n hx hb dX5_addSchedule_45 rfl (lv_at hl 0 rfl) ?_
      refine w_get hx hb hts (by decide +kernel) hown hC hP cW_5 rfl 18 (by decide) (hts (.fieldLink RX5 50 "BuildingPointsModel" "at" "[I") (by decide +kernel)) rfl dX5_addSchedule_46 ?_
      refine lv_aload_n hx hb dX5_addSchedule_49 rfl (lv_at hl 0 rfl) ?_
      refine w_get hx hb hts (by decide +kernel) hown hC hP cW_5 rfl 3 (by decide) (hts (.fieldLink RX5 124 "BuildingPointsModel" "schedules" "I") (by decide +kernel)) rfl dX5_addSchedule_50 ?_
      refine lv_iload_n hx hb dX5_addSchedule_53 rfl (lv_at hl 2 rfl) ?_
      refine w_istN hx hb hC hP hS cW_12_13 (by omega) (by decide) dX5_addSchedule_54 (fun H locs hP hS => ?_)
      have hP := hw_eq hP (pA13 h.2.2 _)
      refine lv_aload_n hx hb dX5_addSchedule_55 rfl (lv_at hl 0 rfl) ?_
      refine w_get hx hb hts (by decide +kernel) hown hC hP cW_5 rfl 19 (by decide) (hts (.fieldLink RX5 53 "BuildingPointsModel" "last" "[I") (by decide +kernel)) rfl dX5_addSchedule_56 ?_
      refine lv_aload_n hx hb dX5_addSchedule_59 rfl (lv_at hl 0 rfl) ?_
      refine w_get hx hb hts (by decide +kernel) hown hC hP cW_5 rfl 3 (by decide) (hts (.fieldLink RX5 124 "BuildingPointsModel" "schedules" "I") (by decide +kernel)) rfl dX5_addSchedule_60 ?_
      refine lv_ldc (v := (-100000)) hx hb hown (hts (.constant RX5 79 (-100000)) (by decide +kernel)) dX5_addSchedule_63 ?_
      refine w_top (v := nth) rfl ?_
      refine w_istN hx hb hC hP hS cW_12_14 (by omega) (by decide) dX5_addSchedule_65 (fun H locs hP hS => ?_)
      have hP := hw_eq hP (pA14 h.2.2 _)
      refine lv_aload_n hx hb dX5_addSchedule_66 rfl (lv_at hl 0 rfl) ?_
      refine lv_dup hx hb dX5_addSchedule_67 rfl ?_
      refine w_get hx hb hts (by decide +kernel) hown hC hP cW_5 rfl 3 (by decide) (hts (.fieldLink RX5 124 "BuildingPointsModel" "schedules" "I") (by decide +kernel)) rfl dX5_addSchedule_68 ?_
      refine lv_iconst (v := 1) hx hb dX5_addSchedule_71 (by decide) ?_
      refine lv_iadd hx hb dX5_addSchedule_72 ?_
      refine w_top (v := nI (h.2.2 + 1)) (nI_add h.2.2 1) ?_
      refine w_put hx hb hts (by decide +kernel) tyX5 tyX5_ok nmX5 hown hC hP hS cW_5 rfl 3 (by decide) (hts (.fieldLink RX5 124 "BuildingPointsModel" "schedules" "I") (by decide +kernel)) rfl rfl rfl (Nat.le_of_ble_eq_true rfl) rfl dX5_addSchedule_73 (fun H locs hP hS => ?_)
      have hP := hw_eq hP (pM3 _)
      refine lv_aload_n hx hb dX5_addSchedule_76 rfl (lv_at hl 0 rfl) ?_
      refine w_get hx hb hts (by decide +kernel) hown hC hP cW_5 rfl 3 (by decide) (hts (.fieldLink RX5 124 "BuildingPointsModel" "schedules" "I") (by decide +kernel)) rfl dX5_addSchedule_77 ?_
      refine lv_iconst (v := 1) hx hb dX5_addSchedule_80 (by decide) ?_
      refine lv_isub hx hb dX5_addSchedule_81 ?_
      refine w_top (v := nI (h.2.2 + 1 - 1)) (pk_sub (a := h.2.2 + 1) (b := 1) (by omega)) ?_
      exact W.iret (v := (nI (h.2.2 + 1 - 1))) hx hb hr (fun t ht hW => Qi_of ⟨fun _ => ⟨congrArg (Prod.mk _) (by unfold schF; exact ((cW_m (Or.inr (Or.inl rfl))).trans (cW_m (Or.inr (Or.inl rfl)))).symm), by rw [show h.2.2 + 1 - 1 = h.2.2 by omega]⟩, fun z => absurd hcd z⟩ hP hS ht) hS.2.2 dX5_addSchedule_82
    · have hcd := bI_0.mp c_30
      refine lv_iconst (v := 0) hx hb dX5_addSchedule_33 (by decide) ?_
      exact W.iret (v := 0) hx hb hr (fun t ht hW => Qi_of ⟨fun z => absurd z hcd, fun _ => rfl⟩ hP hS ht) hS.2.2 dX5_addSchedule_34
  · refine lv_aload_n hx hb dX5_addSchedule_14 rfl (lv_at hl 0 rfl) ?_
    refine w_get hx hb hts (by decide +kernel) hown hC hP cW_5 rfl 3 (by decide) (hts (.fieldLink RX5 124 "BuildingPointsModel" "schedules" "I") (by decide +kernel)) rfl dX5_addSchedule_15 ?_
    refine lv_iconst (v := 4) hx hb dX5_addSchedule_18 (by decide) ?_
    refine lv_icmp_ge (tgt := 26) hx hb dX5_addSchedule_19 (by decide) (fun c_19 => ?_) (fun c_19 => ?_)
    · refine lv_iconst (v := 0) hx hb dX5_addSchedule_26 (by decide) ?_
      exact hJ _ _ _ (bI_f (fun z => absurd c_19 (nI_ge z (by decide)))).symm hP hS
    · refine lv_iconst (v := 1) hx hb dX5_addSchedule_22 (by decide) ?_
      refine lv_goto (tgt := 27) hx hb dX5_addSchedule_23 (by decide) ?_
      exact hJ _ _ _ (bI_t (Nat.not_le.mp (fun z => c_19 (nI_le (a := 4) (b := h.2.2) z (by have := hI.1; have := hI.2.1; have := hI.2.2.1; omega))))).symm hP hS
