set_option maxHeartbeats 4000000 in
set_option maxRecDepth 100000 in
theorem c_X0_hasDay (l : Launch) (D : va_G) (B : Nat) (ad : Ad) (g : GC) (σ : Me) (T : Wd) (o : Int64) (k n : Nat) (hk : k < 2 * g.2.2) (hn : σ 21 k 0 = nI n) (h20 : n ≤ 20) (d : Int32) : Met l yX0_hasDay wsX0_hasDay ({ frames := 0, cells := 0, slots := 0, locals := 0 }) (Pre D B ad (cW D ad (g, σ) T o) [.ref (ad 0 k), .int d]) (Qi D B (fun r u => u = (ad, cW D ad (g, σ) T o) ∧ r = bI (hasF (σ 22 k) d n))) 0 0 (ab B) := by
  refine Met.ofW (cc := cX0_hasDay) (maxL := 3) (ret := (some .boolean)) (by decide) rfl ?_
  intro p e s m args below meth c s₁ Bd hml hv
  obtain ⟨rfl, hC, hP⟩ := hv
  have hx := Bd.exec
  have hb := Bd.bytes
  have hr := Bd.returns
  have hts := atoms_spec (ws := wsX0_hasDay) Bd.pre
  have hown : s.vm.findClass RX0 = some m.cls := findClass_of_methodNamed Bd.named
  have hlocks := Bd.notSynchronized
  have hS : va_S (ab B) s.heap s.heap [] := va_S.rf
  have hl := lv_entry ([.ref (ad 0 k), .int d]) (n := 3) (Nat.le_of_ble_eq_true rfl)
  rw [lg_entry_eq]
  generalize (lg_sl ([.ref (ad 0 k), .int d]) ++ List.replicate (3 - (lg_sl ([.ref (ad 0 k), .int d])).length) Slot.unset).toArray = ls at hl ⊢
  have hl : lv_has ls 3 [(0, .ref (ad 0 k)), (1, .int d)] := hl
  refine lv_iconst (v := 0) hx hb dX0_hasDay_0 (by decide) ?_
  refine lv_istore_n (lv' := [(2, .int 0), (0, .ref (ad 0 k)), (1, .int d)]) hx hb dX0_hasDay_1 rfl hl (by decide) rfl (fun ls hl => ?_)
  refine w_ind (fun n9 H locs ls => ∃ i : Nat, i + n9 = n ∧ (∀ j, j < i → ¬ σ 22 k j = d) ∧ hw D B ad (cW D ad (g, σ) T o) H ∧ va_S (ab B) s.heap H locs ∧ lv_has ls 3 [(2, .int (nI i)), (0, .ref (ad 0 k)), (1, .int d)]) ?_ n _ _ _ ⟨0, by omega, fun j hj => absurd hj (Nat.not_lt_zero j), hP, hS, lv_sub hl [0, 1, 2] rfl⟩
  intro n9 H locs ls hI ih
  obtain ⟨i, hi, hno, hP, hS, hl⟩ := hI
  refine lv_iload_n hx hb dX0_hasDay_2 rfl (lv_at hl 0 rfl) ?_
  refine lv_aload_n hx hb dX0_hasDay_3 rfl (lv_at hl 1 rfl) ?_
  refine w_get hx hb hts (by decide +kernel) hown hC hP (cW_0 hk) rfl 3 (by decide) (hts (.fieldLink RX0 21 "BuildingPoints$Entries" "count" "I") (by decide +kernel)) rfl dX0_hasDay_4 ?_
  refine w_top (v := nI n) hn ?_
  refine lv_icmp_ge (tgt := 28) hx hb dX0_hasDay_7 (by decide) (fun c_7 => ?_) (fun c_7 => ?_)
  · have hin : n ≤ i := Nat.not_lt.mp (fun z => absurd c_7 (nI_ge z (by omega)))
    refine lv_iconst (v := 0) hx hb dX0_hasDay_28 (by decide) ?_
    exact W.zret (v := 0) hx hb hr rfl (fun t ht hW => Qi_of ⟨rfl, (bI_f (fun ⟨j, h1, h2⟩ => hno j (by omega) h2)).symm⟩ hP hS ht) hS.2.2 dX0_hasDay_29
  · have hin : i < n := Nat.not_le.mp (fun z => c_7 (nI_le z (by omega)))
    refine lv_aload_n hx hb dX0_hasDay_10 rfl (lv_at hl 1 rfl) ?_
    refine w_get hx hb hts (by decide +kernel) hown hC hP (cW_0 hk) rfl 0 (by decide) (hts (.fieldLink RX0 9 "BuildingPoints$Entries" "days" "[I") (by decide +kernel)) rfl dX0_hasDay_11 ?_
    refine lv_iload_n hx hb dX0_hasDay_14 rfl (lv_at hl 0 rfl) ?_
    refine w_ildN hx hb hC hP (cW_9 hk) (by omega) (by decide) (v := σ 22 k i) rfl dX0_hasDay_15 ?_
    refine lv_iload_n hx hb dX0_hasDay_16 rfl (lv_at hl 2 rfl) ?_
    refine lv_icmp_ne (tgt := 22) hx hb dX0_hasDay_17 (by decide) (fun c_17 => ?_) (fun c_17 => ?_)
    · refine lv_iinc (v := nI (i + 1)) (lv' := [(2, .int (nI (i + 1))), (0, .ref (ad 0 k)), (1, .int d)]) hx hb dX0_hasDay_22 hl (k := 0) rfl (nI_add i 1) (by decide) rfl (fun ls hl => ?_)
      refine lv_goto (tgt := 2) hx hb dX0_hasDay_25 (by decide) ?_
      exact ih (n9 - 1) _ _ _ (by omega) ⟨i + 1, by omega, fun j hj => by rcases Nat.lt_succ_iff_lt_or_eq.mp hj with q | q; exact hno j q; rw [q]; exact c_17, hP, hS, lv_sub hl [0, 1, 2] rfl⟩
    · refine lv_iconst (v := 1) hx hb dX0_hasDay_20 (by decide) ?_
      exact W.zret (v := 1) hx hb hr rfl (fun t ht hW => Qi_of ⟨rfl, (bI_t ⟨i, hin, c_17⟩).symm⟩ hP hS ht) hS.2.2 dX0_hasDay_21
set_option maxHeartbeats 4000000 in
set_option maxRecDepth 100000 in
theorem c_X0_latest (l : Launch) (D : va_G) (B : Nat) (ad : Ad) (g : GC) (σ : Me) (T : Wd) (o : Int64) (k n : Nat) (hk : k < 2 * g.2.2) (hn : σ 21 k 0 = nI n) (h20 : n ≤ 20) (d x : Int32) : Met l yX0_latest wsX0_latest ({ frames := 0, cells := 0, slots := 0, locals := 0 }) (Pre D B ad (cW D ad (g, σ) T o) [.ref (ad 0 k), .int d, .int x]) (Qi D B (fun r u => u = (ad, cW D ad (g, σ) T o) ∧ r = (latF (σ 22 k) (σ 23 k) (σ 24 k) d x n).2)) 0 0 (ab B) := by
  refine Met.ofW (cc := cX0_latest) (maxL := 6) (ret := (some .int)) (by decide) rfl ?_
  intro p e s m args below meth c s₁ Bd hml hv
  obtain ⟨rfl, hC, hP⟩ := hv
  have hx := Bd.exec
  have hb := Bd.bytes
  have hr := Bd.returns
  have hts := atoms_spec (ws := wsX0_latest) Bd.pre
  have hown : s.vm.findClass RX0 = some m.cls := findClass_of_methodNamed Bd.named
  have hlocks := Bd.notSynchronized
  have hS : va_S (ab B) s.heap s.heap [] := va_S.rf
  have hl := lv_entry ([.ref (ad 0 k), .int d, .int x]) (n := 6) (Nat.le_of_ble_eq_true rfl)
  rw [lg_entry_eq]
  generalize (lg_sl ([.ref (ad 0 k), .int d, .int x]) ++ List.replicate (6 - (lg_sl ([.ref (ad 0 k), .int d, .int x])).length) Slot.unset).toArray = ls at hl ⊢
  have hl : lv_has ls 6 [(0, .ref (ad 0 k)), (1, .int d), (2, .int x)] := hl
  refine lv_iconst (v := (-1)) hx hb dX0_latest_0 (by decide) ?_
  refine lv_istore_n (lv' := [(3, .int (-1)), (0, .ref (ad 0 k)), (1, .int d), (2, .int x)]) hx hb dX0_latest_1 rfl hl (by decide) rfl (fun ls hl => ?_)
  refine lv_ldc (v := (-100000)) hx hb hown (hts (.constant RX0 25 (-100000)) (by decide +kernel)) dX0_latest_2 ?_
  refine w_top (v := nth) rfl ?_
  refine lv_istore (lv' := [(4, .int nth), (3, .int (-1)), (0, .ref (ad 0 k)), (1, .int d), (2, .int x)]) hx hb dX0_latest_4 hl (by decide) rfl (fun ls hl => ?_)
  refine lv_iconst (v := 0) hx hb dX0_latest_6 (by decide) ?_
  refine lv_istore (lv' := [(5, .int 0), (4, .int nth), (3, .int (-1)), (0, .ref (ad 0 k)), (1, .int d), (2, .int x)]) hx hb dX0_latest_7 hl (by decide) rfl (fun ls hl => ?_)
  refine w_ind (fun n9 H locs ls => ∃ i : Nat, i + n9 = n ∧ hw D B ad (cW D ad (g, σ) T o) H ∧ va_S (ab B) s.heap H locs ∧ lv_has ls 6 [(5, .int (nI i)), (3, .int (latF (σ 22 k) (σ 23 k) (σ 24 k) d x i).1), (4, .int (latF (σ 22 k) (σ 23 k) (σ 24 k) d x i).2), (0, .ref (ad 0 k)), (1, .int d), (2, .int x)]) ?_ n _ _ _ ⟨0, by omega, hP, hS, lv_sub hl [0, 2, 1, 3, 4, 5] rfl⟩
  intro n9 H locs ls hI ih
  obtain ⟨i, hi, hP, hS, hl⟩ := hI
  refine lv_iload hx hb dX0_latest_9 (lv_at hl 0 rfl) ?_
  refine lv_aload_n hx hb dX0_latest_11 rfl (lv_at hl 3 rfl) ?_
  refine w_get hx hb hts (by decide +kernel) hown hC hP (cW_0 hk) rfl 3 (by decide) (hts (.fieldLink RX0 21 "BuildingPoints$Entries" "count" "I") (by decide +kernel)) rfl dX0_latest_12 ?_
  refine w_top (v := nI n) hn ?_
  refine lv_icmp_ge (tgt := 74) hx hb dX0_latest_15 (by decide) (fun c_15 => ?_) (fun c_15 => ?_)
  · have hin : n ≤ i := Nat.not_lt.mp (fun z => absurd c_15 (nI_ge z (by omega)))
    refine lv_iload hx hb dX0_latest_74 (lv_at hl 2 rfl) ?_
    exact W.iret (v := ((latF (σ 22 k) (σ 23 k) (σ 24 k) d x i).2)) hx hb hr (fun t ht hW => Qi_of ⟨rfl, by rw [show i = n by omega]⟩ hP hS ht) hS.2.2 dX0_latest_76
  · have hin : i < n := Nat.not_le.mp (fun z => c_15 (nI_le z (by omega)))
    refine lv_aload_n hx hb dX0_latest_18 rfl (lv_at hl 3 rfl) ?_
    refine w_get hx hb hts (by decide +kernel) hown hC hP (cW_0 hk) rfl 0 (by decide) (hts (.fieldLink RX0 9 "BuildingPoints$Entries" "days" "[I") (by decide +kernel)) rfl dX0_latest_19 ?_
    refine lv_iload hx hb dX0_latest_22 (lv_at hl 0 rfl) ?_
    refine w_ildN hx hb hC hP (cW_9 hk) (by omega) (by decide) (v := σ 22 k i) rfl dX0_latest_24 ?_
    refine lv_iload_n hx hb dX0_latest_25 rfl (lv_at hl 4 rfl) ?_
    refine lv_icmp_ne (tgt := 68) hx hb dX0_latest_26 (by decide) (fun c_26 => ?_) (fun c_26 => ?_)
    · refine lv_iinc (v := nI (i + 1)) (lv' := [(5, .int (nI (i + 1))), (3, .int ((latF (σ 22 k) (σ 23 k) (σ 24 k) d x i).1)), (4, .int ((latF (σ 22 k) (σ 23 k) (σ 24 k) d x i).2)), (0, .ref (ad 0 k)), (1, .int d), (2, .int x)]) hx hb dX0_latest_68 hl (k := 0) rfl (nI_add i 1) (by decide) rfl (fun ls hl => ?_)
      refine lv_goto (tgt := 9) hx hb dX0_latest_71 (by decide) ?_
      have E9 : latF (σ 22 k) (σ 23 k) (σ 24 k) d x (i + 1) = latF (σ 22 k) (σ 23 k) (σ 24 k) d x i := by
        simp only [latF]
        exact if_neg (fun z => c_26 z.1)
      exact ih (n9 - 1) _ _ _ (by omega) ⟨i + 1, by omega, hP, hS, by rw [E9]; exact lv_sub hl [0, 1, 2, 3, 4, 5] rfl⟩
    · refine lv_aload_n hx hb dX0_latest_29 rfl (lv_at hl 3 rfl) ?_
      refine w_get hx hb hts (by decide +kernel) hown hC hP (cW_0 hk) rfl 1 (by decide) (hts (.fieldLink RX0 15 "BuildingPoints$Entries" "minutes" "[I") (by decide +kernel)) rfl dX0_latest_30 ?_
      refine lv_iload hx hb dX0_latest_33 (lv_at hl 0 rfl) ?_
      refine w_ildN hx hb hC hP (cW_10 hk) (by omega) (by decide) (v := σ 23 k i) rfl dX0_latest_35 ?_
      refine lv_iload_n hx hb dX0_latest_36 rfl (lv_at hl 5 rfl) ?_
      refine lv_icmp_gt (tgt := 68) hx hb dX0_latest_37 (by decide) (fun c_37 => ?_) (fun c_37 => ?_)
      · refine lv_iinc (v := nI (i + 1)) (lv' := [(5, .int (nI (i + 1))), (3, .int ((latF (σ 22 k) (σ 23 k) (σ 24 k) d x i).1)), (4, .int ((latF (σ 22 k) (σ 23 k) (σ 24 k) d x i).2)), (0, .ref (ad 0 k)), (1, .int d), (2, .int x)]) hx hb dX0_latest_68 hl (k := 0) rfl (nI_add i 1) (by decide) rfl (fun ls hl => ?_)
        refine lv_goto (tgt := 9) hx hb dX0_latest_71 (by decide) ?_
        have E9 : latF (σ 22 k) (σ 23 k) (σ 24 k) d x (i + 1) = latF (σ 22 k) (σ 23 k) (σ 24 k) d x i := by
          simp only [latF]
          exact if_neg (fun z => absurd z.2.1 (Int32.not_le.mpr c_37))
        exact ih (n9 - 1) _ _ _ (by omega) ⟨i + 1, by omega, hP, hS, by rw [E9]; exact lv_sub hl [0, 1, 2, 3, 4, 5] rfl⟩
      · refine lv_aload_n hx hb dX0_latest_40 rfl (lv_at hl 3 rfl) ?_
        refine w_get hx hb hts (by decide +kernel) hown hC hP (cW_0 hk) rfl 1 (by decide) (hts (.fieldLink RX0 15 "BuildingPoints$Entries" "minutes" "[I") (by decide +kernel)) rfl dX0_latest_41 ?_
        refine lv_iload hx hb dX0_latest_44 (lv_at hl 0 rfl) ?_
        refine w_ildN hx hb hC hP (cW_10 hk) (by omega) (by decide) (v := σ 23 k i) rfl dX0_latest_46 ?_
        refine lv_iload_n hx hb dX0_latest_47 rfl (lv_at hl 1 rfl) ?_
        refine lv_icmp_lt (tgt := 68) hx hb dX0_latest_48 (by decide) (fun c_48 => ?_) (fun c_48 => ?_)
        · refine lv_iinc (v := nI (i + 1)) (lv' := [(5, .int (nI (i + 1))), (3, .int ((latF (σ 22 k) (σ 23 k) (σ 24 k) d x i).1)), (4, .int ((latF (σ 22 k) (σ 23 k) (σ 24 k) d x i).2)), (0, .ref (ad 0 k)), (1, .int d), (2, .int x)]) hx hb dX0_latest_68 hl (k := 0) rfl (nI_add i 1) (by decide) rfl (fun ls hl => ?_)
          refine lv_goto (tgt := 9) hx hb dX0_latest_71 (by decide) ?_
          have E9 : latF (σ 22 k) (σ 23 k) (σ 24 k) d x (i + 1) = latF (σ 22 k) (σ 23 k) (σ 24 k) d x i := by
            simp only [latF]
            exact if_neg (fun z => absurd z.2.2 (Int32.not_le.mpr c_48))
          exact ih (n9 - 1) _ _ _ (by omega) ⟨i + 1, by omega, hP, hS, by rw [E9]; exact lv_sub hl [0, 1, 2, 3, 4, 5] rfl⟩
        · refine lv_aload_n hx hb dX0_latest_51 rfl (lv_at hl 3 rfl) ?_
          refine w_get hx hb hts (by decide +kernel) hown hC hP (cW_0 hk) rfl 1 (by decide) (hts (.fieldLink RX0 15 "BuildingPoints$Entries" "minutes" "[I") (by decide +kernel)) rfl dX0_latest_52 ?_
          refine lv_iload hx hb dX0_latest_55 (lv_at hl 0 rfl) ?_
          refine w_ildN hx hb hC hP (cW_10 hk) (by omega) (by decide) (v := σ 23 k i) rfl dX0_latest_57 ?_
          refine lv_istore_n (lv' := [(3, .int (σ 23 k i)), (5, .int (nI i)), (4, .int ((latF (σ 22 k) (σ 23 k) (σ 24 k) d x i).2)), (0, .ref (ad 0 k)), (1, .int d), (2, .int x)]) hx hb dX0_latest_58 rfl hl (by decide) rfl (fun ls hl => ?_)
          refine lv_aload_n hx hb dX0_latest_59 rfl (lv_at hl 3 rfl) ?_
          refine w_get hx hb hts (by decide +kernel) hown hC hP (cW_0 hk) rfl 2 (by decide) (hts (.fieldLink RX0 18 "BuildingPoints$Entries" "told" "[I") (by decide +kernel)) rfl dX0_latest_60 ?_
          refine lv_iload hx hb dX0_latest_63 (lv_at hl 1 rfl) ?_
          refine w_ildN hx hb hC hP (cW_11 hk) (by omega) (by decide) (v := σ 24 k i) rfl dX0_latest_65 ?_
          refine lv_istore (lv' := [(4, .int (σ 24 k i)), (3, .int (σ 23 k i)), (5, .int (nI i)), (0, .ref (ad 0 k)), (1, .int d), (2, .int x)]) hx hb dX0_latest_66 hl (by decide) rfl (fun ls hl => ?_)
          refine lv_iinc (v := nI (i + 1)) (lv' := [(5, .int (nI (i + 1))), (4, .int (σ 24 k i)), (3, .int (σ 23 k i)), (0, .ref (ad 0 k)), (1, .int d), (2, .int x)]) hx hb dX0_latest_68 hl (k := 2) rfl (nI_add i 1) (by decide) rfl (fun ls hl => ?_)
          refine lv_goto (tgt := 9) hx hb dX0_latest_71 (by decide) ?_
          have E9 : latF (σ 22 k) (σ 23 k) (σ 24 k) d x (i + 1) = (σ 23 k i, σ 24 k i) := by
            simp only [latF]
            exact if_pos ⟨c_26, Int32.not_lt.mp c_37, Int32.not_lt.mp c_48⟩
          exact ih (n9 - 1) _ _ _ (by omega) ⟨i + 1, by omega, hP, hS, by rw [E9]; exact lv_sub hl [0, 2, 1, 3, 4, 5] rfl⟩
set_option maxHeartbeats 4000000 in
set_option maxRecDepth 100000 in
theorem c_X0_add (l : Launch) (D : va_G) (B : Nat) (ad : Ad) (g : GC) (σ : Me) (T : Wd) (o : Int64) (k n : Nat) (hk : k < 2 * g.2.2) (hn : σ 21 k 0 = nI n) (h20 : n < 20) (d x v : Int32) : Met l yX0_add wsX0_add ({ frames := 0, cells := 0, slots := 0, locals := 0 }) (Pre D B ad (cW D ad (g, σ) T o) [.ref (ad 0 k), .int d, .int x, .int v]) (Qv D B (fun u => u = (ad, cW D ad (g, st3 (st3 (st3 (st3 σ 22 k n d) 23 k n x) 24 k n v) 21 k 0 (nI (n + 1))) T o))) 0 0 (ab B) := by
  refine Met.ofW (cc := cX0_add) (maxL := 4) (ret := none) (by decide) rfl ?_
  intro p e s m args below meth c s₁ Bd hml hv
  obtain ⟨rfl, hC, hP⟩ := hv
  have hx := Bd.exec
  have hb := Bd.bytes
  have hr := Bd.returns
  have hts := atoms_spec (ws := wsX0_add) Bd.pre
  have hown : s.vm.findClass RX0 = some m.cls := findClass_of_methodNamed Bd.named
  have hlocks := Bd.notSynchronized
  have hS : va_S (ab B) s.heap s.heap [] := va_S.rf
  have hl := lv_entry ([.ref (ad 0 k), .int d, .int x, .int v]) (n := 4) (Nat.le_of_ble_eq_true rfl)
  rw [lg_entry_eq]
  generalize (lg_sl ([.ref (ad 0 k), .int d, .int x, .int v]) ++ List.replicate (4 - (lg_sl ([.ref (ad 0 k), .int d, .int x, .int v])).length) Slot.unset).toArray = ls at hl ⊢
  have hl : lv_has ls 4 [(0, .ref (ad 0 k)), (1, .int d), (2, .int x), (3, .int v)] := hl
  refine lv_aload_n hx hb dX0_add_0 rfl (lv_at hl 0 rfl) ?_
  refine w_get hx hb hts (by decide +kernel) hown hC hP (cW_0 hk) rfl 3 (by decide) (hts (.fieldLink RX0 21 "BuildingPoints$Entries" "count" "I") (by decide +kernel)) rfl dX0_add_1 ?_
  refine w_top (v := nI n) (by simpa [st3] using hn) ?_
  refine lv_bipush (v := (20)) hx hb dX0_add_4 (by decide) ?_
  refine lv_icmp_ge (tgt := 49) hx hb dX0_add_6 (by decide) (fun c_6 => ?_) (fun c_6 => ?_)
  · exact absurd c_6 (nI_ge h20 (by decide))
  · refine lv_aload_n hx hb dX0_add_9 rfl (lv_at hl 0 rfl) ?_
    refine w_get hx hb hts (by decide +kernel) hown hC hP (cW_0 hk) rfl 0 (by decide) (hts (.fieldLink RX0 9 "BuildingPoints$Entries" "days" "[I") (by decide +kernel)) rfl dX0_add_10 ?_
    refine lv_aload_n hx hb dX0_add_13 rfl (lv_at hl 0 rfl) ?_
    refine w_get hx hb hts (by decide +kernel) hown hC hP (cW_0 hk) rfl 3 (by decide) (hts (.fieldLink RX0 21 "BuildingPoints$Entries" "count" "I") (by decide +kernel)) rfl dX0_add_14 ?_
    refine w_top (v := nI n) (by simpa [st3] using hn) ?_
    refine lv_iload_n hx hb dX0_add_17 rfl (lv_at hl 1 rfl) ?_
    refine w_istN hx hb hC hP hS (cW_9 hk) (by omega) (by decide) dX0_add_18 (fun H locs hP hS => ?_)
    have hP := hw_eq hP (pK9 hk n _)
    refine lv_aload_n hx hb dX0_add_19 rfl (lv_at hl 0 rfl) ?_
    refine w_get hx hb hts (by decide +kernel) hown hC hP (cW_0 hk) rfl 1 (by decide) (hts (.fieldLink RX0 15 "BuildingPoints$Entries" "minutes" "[I") (by decide +kernel)) rfl dX0_add_20 ?_
    refine lv_aload_n hx hb dX0_add_23 rfl (lv_at hl 0 rfl) ?_
    refine w_get hx hb hts (by decide +kernel) hown hC hP (cW_0 hk) rfl 3 (by decide) (hts (.fieldLink RX0 21 "BuildingPoints$Entries" "count" "I") (by decide +kernel)) rfl dX0_add_24 ?_
    refine w_top (v := nI n) (by simpa [st3] using hn) ?_
    refine lv_iload_n hx hb dX0_add_27 rfl (lv_at hl 2 rfl) ?_
    refine w_istN hx hb hC hP hS (cW_10 hk) (by omega) (by decide) dX0_add_28 (fun H locs hP hS => ?_)
    have hP := hw_eq hP (pK10 hk n _)
    refine lv_aload_n hx hb dX0_add_29 rfl (lv_at hl 0 rfl) ?_
    refine w_get hx hb hts (by decide +kernel) hown hC hP (cW_0 hk) rfl 2 (by decide) (hts (.fieldLink RX0 18 "BuildingPoints$Entries" "told" "[I") (by decide +kernel)) rfl dX0_add_30 ?_
    refine lv_aload_n hx hb dX0_add_33 rfl (lv_at hl 0 rfl) ?_
    refine w_get hx hb hts (by decide +kernel) hown hC hP (cW_0 hk) rfl 3 (by decide) (hts (.fieldLink RX0 21 "BuildingPoints$Entries" "count" "I") (by decide +kernel)) rfl dX0_add_34 ?_
    refine w_top (v := nI n) (by simpa [st3] using hn) ?_
    refine lv_iload_n hx hb dX0_add_37 rfl (lv_at hl 3 rfl) ?_
    refine w_istN hx hb hC hP hS (cW_11 hk) (by omega) (by decide) dX0_add_38 (fun H locs hP hS => ?_)
    have hP := hw_eq hP (pK11 hk n _)
    refine lv_aload_n hx hb dX0_add_39 rfl (lv_at hl 0 rfl) ?_
    refine lv_dup hx hb dX0_add_40 rfl ?_
    refine w_get hx hb hts (by decide +kernel) hown hC hP (cW_0 hk) rfl 3 (by decide) (hts (.fieldLink RX0 21 "BuildingPoints$Entries" "count" "I") (by decide +kernel)) rfl dX0_add_41 ?_
    refine w_top (v := nI n) (by simpa [st3] using hn) ?_
    refine lv_iconst (v := 1) hx hb dX0_add_44 (by decide) ?_
    refine lv_iadd hx hb dX0_add_45 ?_
    refine w_top (v := nI (n + 1)) (nI_1 n) ?_
    refine w_put hx hb hts (by decide +kernel) tyX0 tyX0_ok nmX0 hown hC hP hS (cW_0 hk) rfl 3 (by decide) (hts (.fieldLink RX0 21 "BuildingPoints$Entries" "count" "I") (by decide +kernel)) rfl rfl rfl (Nat.le_of_ble_eq_true rfl) rfl dX0_add_46 (fun H locs hP hS => ?_)
    have hP := hw_eq hP (pE3 hk _)
    exact W.vret hx hb hr (fun t ht hW => Qv_of (by rfl) hP hS ht) hS.2.2 dX0_add_49
set_option maxHeartbeats 4000000 in
set_option maxRecDepth 100000 in
theorem c_X1_canHave (l : Launch) (D : va_G) (B : Nat) (ad : Ad) (g : GC) (σ : Me) (T : Wd) (o : Int64) (k : Nat) (hk : k < g.1) (v : Int32) : Met l yX1_canHave wsX1_canHave ({ frames := 0, cells := 0, slots := 0, locals := 0 }) (Pre D B ad (cW D ad (g, σ) T o) [.ref (ad 1 k), .int v]) (Qi D B (fun r u => u = (ad, cW D ad (g, σ) T o) ∧ r = bI (loF (σ 1 k 0) ≤ v ∧ v ≤ hiF (σ 1 k 0)))) 0 0 (ab B) := by
  refine Met.ofW (cc := cX1_canHave) (maxL := 2) (ret := (some .boolean)) (by decide) rfl ?_
  intro p e s m args below meth c s₁ Bd hml hv
  obtain ⟨rfl, hC, hP⟩ := hv
  have hx := Bd.exec
  have hb := Bd.bytes
  have hr := Bd.returns
  have hts := atoms_spec (ws := wsX1_canHave) Bd.pre
  have hown : s.vm.findClass RX1 = some m.cls := findClass_of_methodNamed Bd.named
  have hlocks := Bd.notSynchronized
  have hS : va_S (ab B) s.heap s.heap [] := va_S.rf
  have hl := lv_entry ([.ref (ad 1 k), .int v]) (n := 2) (Nat.le_of_ble_eq_true rfl)
  rw [lg_entry_eq]
  generalize (lg_sl ([.ref (ad 1 k), .int v]) ++ List.replicate (2 - (lg_sl ([.ref (ad 1 k), .int v])).length) Slot.unset).toArray = ls at hl ⊢
  have hl : lv_has ls 2 [(0, .ref (ad 1 k)), (1, .int v)] := hl
  refine lv_iload_n hx hb dX1_canHave_0 rfl (lv_at hl 1 rfl) ?_
  refine lv_aload_n hx hb dX1_canHave_1 rfl (lv_at hl 0 rfl) ?_
  refine w_get hx hb hts (by decide +kernel) hown hC hP (cW_1 hk) rfl 0 (by decide) (hts (.fieldLink RX1 9 "BuildingPoints$Point" "lowest" "I") (by decide +kernel)) rfl dX1_canHave_2 ?_
  refine lv_icmp_lt (tgt := 20) hx hb dX1_canHave_5 (by decide) (fun c_5 => ?_) (fun c_5 => ?_)
  · refine lv_iconst (v := 0) hx hb dX1_canHave_20 (by decide) ?_
    exact W.zret (v := 0) hx hb hr rfl (fun t ht hW => Qi_of ⟨rfl, (bI_f (fun z => absurd z.1 (Int32.not_le.mpr c_5))).symm⟩ hP hS ht) hS.2.2 dX1_canHave_21
  · refine lv_iload_n hx hb dX1_canHave_8 rfl (lv_at hl 1 rfl) ?_
    refine lv_aload_n hx hb dX1_canHave_9 rfl (lv_at hl 0 rfl) ?_
    refine w_get hx hb hts (by decide +kernel) hown hC hP (cW_1 hk) rfl 1 (by decide) (hts (.fieldLink RX1 15 "BuildingPoints$Point" "highest" "I") (by decide +kernel)) rfl dX1_canHave_10 ?_
    refine lv_icmp_gt (tgt := 20) hx hb dX1_canHave_13 (by decide) (fun c_13 => ?_) (fun c_13 => ?_)
    · refine lv_iconst (v := 0) hx hb dX1_canHave_20 (by decide) ?_
      exact W.zret (v := 0) hx hb hr rfl (fun t ht hW => Qi_of ⟨rfl, (bI_f (fun z => absurd z.2 (Int32.not_le.mpr c_13))).symm⟩ hP hS ht) hS.2.2 dX1_canHave_21
    · refine lv_iconst (v := 1) hx hb dX1_canHave_16 (by decide) ?_
      refine lv_goto (tgt := 21) hx hb dX1_canHave_17 (by decide) ?_
      exact W.zret (v := 1) hx hb hr rfl (fun t ht hW => Qi_of ⟨rfl, (bI_t ⟨Int32.not_lt.mp c_5, Int32.not_lt.mp c_13⟩).symm⟩ hP hS ht) hS.2.2 dX1_canHave_21
set_option maxHeartbeats 4000000 in
set_option maxRecDepth 100000 in
theorem c_X1_isHeld (l : Launch) (D : va_G) (B : Nat) (ad : Ad) (g : GC) (σ : Me) (T : Wd) (o : Int64) (k : Nat) (hk : k < g.1) : Met l yX1_isHeld wsX1_isHeld ({ frames := 0, cells := 0, slots := 0, locals := 0 }) (Pre D B ad (cW D ad (g, σ) T o) [.ref (ad 1 k)]) (Qi D B (fun r u => u = (ad, cW D ad (g, σ) T o) ∧ r = bI (¬ σ 4 k 0 = 0))) 0 0 (ab B) := by
  refine Met.ofW (cc := cX1_isHeld) (maxL := 1) (ret := (some .boolean)) (by decide) rfl ?_
  intro p e s m args below meth c s₁ Bd hml hv
  obtain ⟨rfl, hC, hP⟩ := hv
  have hx := Bd.exec
  have hb := Bd.bytes
  have hr := Bd.returns
  have hts := atoms_spec (ws := wsX1_isHeld) Bd.pre
  have hown : s.vm.findClass RX1 = some m.cls := findClass_of_methodNamed Bd.named
  have hlocks := Bd.notSynchronized
  have hS : va_S (ab B) s.heap s.heap [] := va_S.rf
  have hl := lv_entry ([.ref (ad 1 k)]) (n := 1) (Nat.le_of_ble_eq_true rfl)
  rw [lg_entry_eq]
  generalize (lg_sl ([.ref (ad 1 k)]) ++ List.replicate (1 - (lg_sl ([.ref (ad 1 k)])).length) Slot.unset).toArray = ls at hl ⊢
  have hl : lv_has ls 1 [(0, .ref (ad 1 k))] := hl
  refine lv_aload_n hx hb dX1_isHeld_0 rfl (lv_at hl 0 rfl) ?_
  refine w_get hx hb hts (by decide +kernel) hown hC hP (cW_1 hk) rfl 6 (by decide) (hts (.fieldLink RX1 38 "BuildingPoints$Point" "heldUntil" "I") (by decide +kernel)) rfl dX1_isHeld_1 ?_
  refine lv_if_eq (tgt := 11) hx hb dX1_isHeld_4 (by decide) (fun c_4 => ?_) (fun c_4 => ?_)
  · refine lv_iconst (v := 0) hx hb dX1_isHeld_11 (by decide) ?_
    exact W.zret (v := 0) hx hb hr rfl (fun t ht hW => Qi_of ⟨rfl, (bI_f (fun z => z c_4)).symm⟩ hP hS ht) hS.2.2 dX1_isHeld_12
  · refine lv_iconst (v := 1) hx hb dX1_isHeld_7 (by decide) ?_
    refine lv_goto (tgt := 12) hx hb dX1_isHeld_8 (by decide) ?_
    exact W.zret (v := 1) hx hb hr rfl (fun t ht hW => Qi_of ⟨rfl, (bI_t c_4).symm⟩ hP hS ht) hS.2.2 dX1_isHeld_12
set_option maxHeartbeats 4000000 in
set_option maxRecDepth 100000 in
theorem c_X1_lowestCommanded (l : Launch) (D : va_G) (B : Nat) (ad : Ad) (g : GC) (σ : Me) (T : Wd) (o : Int64) (k : Nat) (hk : k < g.1) : Met l yX1_lowestCommanded wsX1_lowestCommanded ({ frames := 0, cells := 0, slots := 0, locals := 0 }) (Pre D B ad (cW D ad (g, σ) T o) [.ref (ad 1 k)]) (Qi D B (fun r u => u = (ad, cW D ad (g, σ) T o) ∧ r = nI (stO σ k))) 0 0 (ab B) := by
  refine Met.ofW (cc := cX1_lowestCommanded) (maxL := 2) (ret := (some .int)) (by decide) rfl ?_
  intro p e s m args below meth c s₁ Bd hml hv
  obtain ⟨rfl, hC, hP⟩ := hv
  have hx := Bd.exec
  have hb := Bd.bytes
  have hr := Bd.returns
  have hts := atoms_spec (ws := wsX1_lowestCommanded) Bd.pre
  have hown : s.vm.findClass RX1 = some m.cls := findClass_of_methodNamed Bd.named
  have hlocks := Bd.notSynchronized
  have hS : va_S (ab B) s.heap s.heap [] := va_S.rf
  have hl := lv_entry ([.ref (ad 1 k)]) (n := 2) (Nat.le_of_ble_eq_true rfl)
  rw [lg_entry_eq]
  generalize (lg_sl ([.ref (ad 1 k)]) ++ List.replicate (2 - (lg_sl ([.ref (ad 1 k)])).length) Slot.unset).toArray = ls at hl ⊢
  have hl : lv_has ls 2 [(0, .ref (ad 1 k))] := hl
  refine lv_iconst (v := 1) hx hb dX1_lowestCommanded_0 (by decide) ?_
  refine lv_istore_n (lv' := [(1, .int 1), (0, .ref (ad 1 k))]) hx hb dX1_lowestCommanded_1 rfl hl (by decide) rfl (fun ls hl => ?_)
  refine w_ind (fun n9 H locs ls => ∃ i : Nat, i + n9 = 17 ∧ stO σ k = stF (σ 6 k) n9 i ∧ hw D B ad (cW D ad (g, σ) T o) H ∧ va_S (ab B) s.heap H locs ∧ lv_has ls 2 [(1, .int (nI i)), (0, .ref (ad 1 k))]) ?_ 16 _ _ _ ⟨1, rfl, rfl, hP, hS, lv_sub hl [0, 1] rfl⟩
  intro n9 H locs ls hI ih
  obtain ⟨i, hi, hst, hP, hS, hl⟩ := hI
  refine lv_iload_n hx hb dX1_lowestCommanded_2 rfl (lv_at hl 0 rfl) ?_
  refine lv_aload_n hx hb dX1_lowestCommanded_3 rfl (lv_at hl 1 rfl) ?_
  refine w_get hx hb hts (by decide +kernel) hown hC hP (cW_1 hk) rfl 4 (by decide) (hts (.fieldLink RX1 24 "BuildingPoints$Point" "commands" "[I") (by decide +kernel)) rfl dX1_lowestCommanded_4 ?_
  refine w_alen hx hb hC hP 0 rfl (cW_8 hk) (v := 17) rfl dX1_lowestCommanded_7 ?_
  refine lv_icmp_ge (tgt := 30) hx hb dX1_lowestCommanded_8 (by decide) (fun c_8 => ?_) (fun c_8 => ?_)
  · have hin : 17 ≤ i := Nat.not_lt.mp (fun z => absurd c_8 (nI_ge z (by decide)))
    refine lv_bipush (v := (17)) hx hb dX1_lowestCommanded_30 (by decide) ?_
    exact W.iret (v := 17) hx hb hr (fun t ht hW => Qi_of ⟨rfl, by rw [hst, show n9 = 0 by omega]; rfl⟩ hP hS ht) hS.2.2 dX1_lowestCommanded_32
  · have hin : i < 17 := Nat.not_le.mp (fun z => c_8 (nI_le z (by omega)))
    obtain ⟨n8, rfl⟩ : ∃ n8, n9 = n8 + 1 := ⟨n9 - 1, by omega⟩
    refine lv_aload_n hx hb dX1_lowestCommanded_11 rfl (lv_at hl 1 rfl) ?_
    refine w_get hx hb hts (by decide +kernel) hown hC hP (cW_1 hk) rfl 4 (by decide) (hts (.fieldLink RX1 24 "BuildingPoints$Point" "commands" "[I") (by decide +kernel)) rfl dX1_lowestCommanded_12 ?_
    refine lv_iload_n hx hb dX1_lowestCommanded_15 rfl (lv_at hl 0 rfl) ?_
    refine w_ildN hx hb hC hP (cW_8 hk) (by omega) (by decide) (v := σ 6 k i) rfl dX1_lowestCommanded_16 ?_
    refine lv_ldc (v := (-100000)) hx hb hown (hts (.constant RX1 28 (-100000)) (by decide +kernel)) dX1_lowestCommanded_17 ?_
    refine w_top (v := nth) rfl ?_
    refine lv_icmp_eq (tgt := 24) hx hb dX1_lowestCommanded_19 (by decide) (fun c_19 => ?_) (fun c_19 => ?_)
    · refine lv_iinc (v := nI (i + 1)) (lv' := [(1, .int (nI (i + 1))), (0, .ref (ad 1 k))]) hx hb dX1_lowestCommanded_24 hl (k := 0) rfl (nI_add i 1) (by decide) rfl (fun ls hl => ?_)
      refine lv_goto (tgt := 2) hx hb dX1_lowestCommanded_27 (by decide) ?_
      exact ih n8 _ _ _ (by omega) ⟨i + 1, by omega, by rw [hst]; simp only [stF]; rw [if_pos c_19], hP, hS, lv_sub hl [0, 1] rfl⟩
    · refine lv_iload_n hx hb dX1_lowestCommanded_22 rfl (lv_at hl 0 rfl) ?_
      exact W.iret (v := (nI i)) hx hb hr (fun t ht hW => Qi_of ⟨rfl, by rw [hst]; simp only [stF]; rw [if_neg c_19]⟩ hP hS ht) hS.2.2 dX1_lowestCommanded_23
set_option maxHeartbeats 4000000 in
set_option maxRecDepth 100000 in
theorem c_X1_dueValue (l : Launch) (D : va_G) (B : Nat) (ad : Ad) (g : GC) (σ : Me) (T : Wd) (o : Int64) (k : Nat) (hk : k < g.1) : Met l yX1_dueValue wsX1_dueValue ({ frames := 1, cells := 0, slots := 0, locals := 21 }) (Pre D B ad (cW D ad (g, σ) T o) [.ref (ad 1 k)]) (Qi D B (fun r u => u = (ad, cW D ad (g, σ) T o) ∧ r = vaO σ k)) 0 0 (ab B) := by
  refine Met.ofW (cc := cX1_dueValue) (maxL := 2) (ret := (some .int)) (by decide) rfl ?_
  intro p e s m args below meth c s₁ Bd hml hv
  obtain ⟨rfl, hC, hP⟩ := hv
  have hx := Bd.exec
  have hb := Bd.bytes
  have hr := Bd.returns
  have hts := atoms_spec (ws := wsX1_dueValue) Bd.pre
  have hown : s.vm.findClass RX1 = some m.cls := findClass_of_methodNamed Bd.named
  have hlocks := Bd.notSynchronized
  have hS : va_S (ab B) s.heap s.heap [] := va_S.rf
  have hl := lv_entry ([.ref (ad 1 k)]) (n := 2) (Nat.le_of_ble_eq_true rfl)
  rw [lg_entry_eq]
  generalize (lg_sl ([.ref (ad 1 k)]) ++ List.replicate (2 - (lg_sl ([.ref (ad 1 k)])).length) Slot.unset).toArray = ls at hl ⊢
  have hl : lv_has ls 2 [(0, .ref (ad 1 k))] := hl
  refine lv_aload_n hx hb dX1_dueValue_0 rfl (lv_at hl 0 rfl) ?_
  refine w_calli (va_runV (As := []) (rest := []) ⟨hx, hb, hml, hown, hts⟩ (c_X1_lowestCommanded l D B ad g σ T o k hk) (cwV 0 hts gX1_dueValue_X1_lowestCommanded rfl rfl rfl (by decide +kernel) ⟨Nat.le_of_ble_eq_true rfl, Nat.le_of_ble_eq_true rfl⟩) (w_preV hC hP hS (cW_1 hk) rfl) rfl rfl hl.1 rfl (lv_room (Nat.le_of_ble_eq_true rfl)) dX1_dueValue_1 ⟨Nat.le_of_ble_eq_true rfl, Nat.le_of_ble_eq_true rfl⟩) hS (fun r_1 ad1 w1 H locs hq hP hS => ?_)
  obtain ⟨h91, h92⟩ := hq
  cases h91
  subst h92
  refine lv_istore_n (lv' := [(1, .int (nI (stO σ k))), (0, .ref (ad 1 k))]) hx hb dX1_dueValue_4 rfl hl (by decide) rfl (fun ls hl => ?_)
  refine lv_iload_n hx hb dX1_dueValue_5 rfl (lv_at hl 0 rfl) ?_
  refine lv_aload_n hx hb dX1_dueValue_6 rfl (lv_at hl 1 rfl) ?_
  refine w_get hx hb hts (by decide +kernel) hown hC hP (cW_1 hk) rfl 4 (by decide) (hts (.fieldLink RX1 24 "BuildingPoints$Point" "commands" "[I") (by decide +kernel)) rfl dX1_dueValue_7 ?_
  refine w_alen hx hb hC hP 0 rfl (cW_8 hk) (v := 17) rfl dX1_dueValue_10 ?_
  refine lv_icmp_ge (tgt := 23) hx hb dX1_dueValue_11 (by decide) (fun c_11 => ?_) (fun c_11 => ?_)
  · have hlt : ¬ stO σ k < 17 := fun z => absurd c_11 (nI_ge z (by decide))
    refine lv_aload_n hx hb dX1_dueValue_23 rfl (lv_at hl 1 rfl) ?_
    refine w_get hx hb hts (by decide +kernel) hown hC hP (cW_1 hk) rfl 2 (by decide) (hts (.fieldLink RX1 18 "BuildingPoints$Point" "original" "I") (by decide +kernel)) rfl dX1_dueValue_24 ?_
    exact W.iret (v := (σ 2 k 0)) hx hb hr (fun t ht hW => Qi_of ⟨rfl, by unfold vaO; rw [if_neg hlt]⟩ hP hS ht) hS.2.2 dX1_dueValue_27
  · have hlt : stO σ k < 17 := Nat.not_le.mp (fun z => c_11 (nI_le z (by have := (stO_le σ k).1; omega)))
    refine lv_aload_n hx hb dX1_dueValue_14 rfl (lv_at hl 1 rfl) ?_
    refine w_get hx hb hts (by decide +kernel) hown hC hP (cW_1 hk) rfl 4 (by decide) (hts (.fieldLink RX1 24 "BuildingPoints$Point" "commands" "[I") (by decide +kernel)) rfl dX1_dueValue_15 ?_
    refine lv_iload_n hx hb dX1_dueValue_18 rfl (lv_at hl 0 rfl) ?_
    refine w_ildN hx hb hC hP (cW_8 hk) hlt (by decide) (v := σ 6 k (stO σ k)) rfl dX1_dueValue_19 ?_
    refine lv_goto (tgt := 27) hx hb dX1_dueValue_20 (by decide) ?_
    exact W.iret (v := (σ 6 k (stO σ k))) hx hb hr (fun t ht hW => Qi_of ⟨rfl, by unfold vaO; rw [if_pos hlt]⟩ hP hS ht) hS.2.2 dX1_dueValue_27
set_option maxHeartbeats 4000000 in
set_option maxRecDepth 100000 in
theorem c_X1_change (l : Launch) (D : va_G) (B : Nat) (ad : Ad) (g : GC) (σ : Me) (T : Wd) (o : Int64) (k : Nat) (hk : k < g.1) (d t : Int32) : Met l yX1_change wsX1_change ({ frames := 0, cells := 0, slots := 0, locals := 0 }) (Pre D B ad (cW D ad (g, σ) T o) [.ref (ad 1 k), .int d, .int t]) (Qv D B (fun u => u = (ad, cW D ad (g, chgF k d t σ) T o))) 0 0 (ab B) := by
  refine Met.ofW (cc := cX1_change) (maxL := 3) (ret := none) (by decide) rfl ?_
  intro p e s m args below meth c s₁ Bd hml hv
  obtain ⟨rfl, hC, hP⟩ := hv
  have hx := Bd.exec
  have hb := Bd.bytes
  have hr := Bd.returns
  have hts := atoms_spec (ws := wsX1_change) Bd.pre
  have hown : s.vm.findClass RX1 = some m.cls := findClass_of_methodNamed Bd.named
  have hlocks := Bd.notSynchronized
  have hS : va_S (ab B) s.heap s.heap [] := va_S.rf
  have hl := lv_entry ([.ref (ad 1 k), .int d, .int t]) (n := 3) (Nat.le_of_ble_eq_true rfl)
  rw [lg_entry_eq]
  generalize (lg_sl ([.ref (ad 1 k), .int d, .int t]) ++ List.replicate (3 - (lg_sl ([.ref (ad 1 k), .int d, .int t])).length) Slot.unset).toArray = ls at hl ⊢
  have hl : lv_has ls 3 [(0, .ref (ad 1 k)), (1, .int d), (2, .int t)] := hl
  refine lv_aload_n hx hb dX1_change_0 rfl (lv_at hl 0 rfl) ?_
  refine lv_iload_n hx hb dX1_change_1 rfl (lv_at hl 1 rfl) ?_
  refine w_put hx hb hts (by decide +kernel) tyX1 tyX1_ok nmX1 hown hC hP hS (cW_1 hk) rfl 5 (by decide) (hts (.fieldLink RX1 35 "BuildingPoints$Point" "present" "I") (by decide +kernel)) rfl rfl rfl (Nat.le_of_ble_eq_true rfl) rfl dX1_change_2 (fun H locs hP hS => ?_)
  have hP := hw_eq hP (pP5 hk _)
  refine lv_aload_n hx hb dX1_change_5 rfl (lv_at hl 0 rfl) ?_
  refine lv_dup hx hb dX1_change_6 rfl ?_
  refine w_get hx hb hts (by decide +kernel) hown hC hP (cW_1 hk) rfl 7 (by decide) (hts (.fieldLink RX1 41 "BuildingPoints$Point" "changeCount" "I") (by decide +kernel)) rfl dX1_change_7 ?_
  refine lv_iconst (v := 1) hx hb dX1_change_10 (by decide) ?_
  refine lv_iadd hx hb dX1_change_11 ?_
  refine w_put hx hb hts (by decide +kernel) tyX1 tyX1_ok nmX1 hown hC hP hS (cW_1 hk) rfl 7 (by decide) (hts (.fieldLink RX1 41 "BuildingPoints$Point" "changeCount" "I") (by decide +kernel)) rfl rfl rfl (Nat.le_of_ble_eq_true rfl) rfl dX1_change_12 (fun H locs hP hS => ?_)
  have hP := hw_eq hP (pP7 hk _)
  refine lv_aload_n hx hb dX1_change_15 rfl (lv_at hl 0 rfl) ?_
  refine w_get hx hb hts (by decide +kernel) hown hC hP (cW_1 hk) rfl 3 (by decide) (hts (.fieldLink RX1 21 "BuildingPoints$Point" "leastTime" "I") (by decide +kernel)) rfl dX1_change_16 ?_
  refine lv_if_le (tgt := 40) hx hb dX1_change_19 (by decide) (fun c_19 => ?_) (fun c_19 => ?_)
  · exact W.vret hx hb hr (fun t ht hW => Qv_of (by unfold chgF; rw [if_neg (Int32.not_lt.mpr (by simpa [st3] using c_19))]; simp [st3]) hP hS ht) hS.2.2 dX1_change_40
  · refine lv_aload_n hx hb dX1_change_22 rfl (lv_at hl 0 rfl) ?_
    refine w_get hx hb hts (by decide +kernel) hown hC hP (cW_1 hk) rfl 4 (by decide) (hts (.fieldLink RX1 24 "BuildingPoints$Point" "commands" "[I") (by decide +kernel)) rfl dX1_change_23 ?_
    refine lv_bipush (v := (6)) hx hb dX1_change_26 (by decide) ?_
    refine lv_iload_n hx hb dX1_change_28 rfl (lv_at hl 1 rfl) ?_
    refine w_top2 (v := nI 6) rfl ?_
    refine w_istN hx hb hC hP hS (cW_8 hk) (by omega) (by decide) dX1_change_29 (fun H locs hP hS => ?_)
    have hP := hw_eq hP (pK8 hk 6 _)
    refine lv_aload_n hx hb dX1_change_30 rfl (lv_at hl 0 rfl) ?_
    refine lv_iload_n hx hb dX1_change_31 rfl (lv_at hl 2 rfl) ?_
    refine lv_aload_n hx hb dX1_change_32 rfl (lv_at hl 0 rfl) ?_
    refine w_get hx hb hts (by decide +kernel) hown hC hP (cW_1 hk) rfl 3 (by decide) (hts (.fieldLink RX1 21 "BuildingPoints$Point" "leastTime" "I") (by decide +kernel)) rfl dX1_change_33 ?_
    refine lv_iadd hx hb dX1_change_36 ?_
    refine w_put hx hb hts (by decide +kernel) tyX1 tyX1_ok nmX1 hown hC hP hS (cW_1 hk) rfl 6 (by decide) (hts (.fieldLink RX1 38 "BuildingPoints$Point" "heldUntil" "I") (by decide +kernel)) rfl rfl rfl (Nat.le_of_ble_eq_true rfl) rfl dX1_change_37 (fun H locs hP hS => ?_)
    have hP := hw_eq hP (pP6 hk _)
    exact W.vret hx hb hr (fun t ht hW => Qv_of (by unfold chgF; rw [if_pos (Int32.not_le.mp (by simpa [st3] using c_19))]; simp [st3]) hP hS ht) hS.2.2 dX1_change_40
set_option maxHeartbeats 4000000 in
set_option maxRecDepth 100000 in
theorem c_X3_isFarFrom (l : Launch) (D : va_G) (B : Nat) (ad : Ad) (g : GC) (σ : Me) (T : Wd) (o : Int64) (k : Nat) (hk : k < g.2.1) (v : Int32) : Met l yX3_isFarFrom wsX3_isFarFrom ({ frames := 1, cells := 0, slots := 0, locals := 24 }) (Pre D B ad (cW D ad (g, σ) T o) [.ref (ad 3 k), .int v]) (Qi D B (fun r u => u = (ad, cW D ad (g, σ) T o) ∧ r = bI (σ 9 k 0 ≤ (if 0 ≤ v - σ 13 k 0 then v - σ 13 k 0 else 0 - (v - σ 13 k 0))))) 0 0 (ab B) := by
  refine Met.ofW (cc := cX3_isFarFrom) (maxL := 2) (ret := (some .boolean)) (by decide) rfl ?_
  intro p e s m args below meth c s₁ Bd hml hv
  obtain ⟨rfl, hC, hP⟩ := hv
  have hx := Bd.exec
  have hb := Bd.bytes
  have hr := Bd.returns
  have hts := atoms_spec (ws := wsX3_isFarFrom) Bd.pre
  have hown : s.vm.findClass RX3 = some m.cls := findClass_of_methodNamed Bd.named
  have hlocks := Bd.notSynchronized
  have hS : va_S (ab B) s.heap s.heap [] := va_S.rf
  have hl := lv_entry ([.ref (ad 3 k), .int v]) (n := 2) (Nat.le_of_ble_eq_true rfl)
  rw [lg_entry_eq]
  generalize (lg_sl ([.ref (ad 3 k), .int v]) ++ List.replicate (2 - (lg_sl ([.ref (ad 3 k), .int v])).length) Slot.unset).toArray = ls at hl ⊢
  have hl : lv_has ls 2 [(0, .ref (ad 3 k)), (1, .int v)] := hl
  refine lv_iload_n hx hb dX3_isFarFrom_0 rfl (lv_at hl 1 rfl) ?_
  refine lv_aload_n hx hb dX3_isFarFrom_1 rfl (lv_at hl 0 rfl) ?_
  refine w_get hx hb hts (by decide +kernel) hown hC hP (cW_3 hk) rfl 3 (by decide) (hts (.fieldLink RX3 25 "BuildingPoints$Subscription" "kept" "I") (by decide +kernel)) rfl dX3_isFarFrom_2 ?_
  refine lv_isub hx hb dX3_isFarFrom_5 ?_
  refine va_mabs hx hb (by rw [hml]; exact hl.1.symm) hown (hts (.methodLink RX3 35 Lib.Math.abs.name) (by decide +kernel)) (hts (.static Lib.Math.abs.name) (by decide +kernel)) (hts (.initialized "java/lang/Math") (by decide +kernel)) (hts (.code Lib.Math.abs.name Lib.Math.abs.code 1 (some .int)) (by decide +kernel)) (Nat.le_of_ble_eq_true rfl) (Nat.le_of_ble_eq_true rfl) (Nat.le_of_ble_eq_true rfl) (Nat.le_of_ble_eq_true rfl) dX3_isFarFrom_6 ?_
  refine lv_aload_n hx hb dX3_isFarFrom_9 rfl (lv_at hl 0 rfl) ?_
  refine w_get hx hb hts (by decide +kernel) hown hC hP (cW_3 hk) rfl 1 (by decide) (hts (.fieldLink RX3 13 "BuildingPoints$Subscription" "increment" "I") (by decide +kernel)) rfl dX3_isFarFrom_10 ?_
  refine lv_icmp_lt (tgt := 20) hx hb dX3_isFarFrom_13 (by decide) (fun c_13 => ?_) (fun c_13 => ?_)
  · refine lv_iconst (v := 0) hx hb dX3_isFarFrom_20 (by decide) ?_
    exact W.zret (v := 0) hx hb hr rfl (fun t ht hW => Qi_of ⟨rfl, (bI_f (Int32.not_le.mpr c_13)).symm⟩ hP hS ht) hS.2.2 dX3_isFarFrom_21
  · refine lv_iconst (v := 1) hx hb dX3_isFarFrom_16 (by decide) ?_
    refine lv_goto (tgt := 21) hx hb dX3_isFarFrom_17 (by decide) ?_
    exact W.zret (v := 1) hx hb hr rfl (fun t ht hW => Qi_of ⟨rfl, (bI_t (Int32.not_lt.mp c_13)).symm⟩ hP hS ht) hS.2.2 dX3_isFarFrom_21
set_option maxHeartbeats 4000000 in
set_option maxRecDepth 100000 in
theorem c_X3_report (l : Launch) (D : va_G) (B : Nat) (ad : Ad) (g : GC) (σ : Me) (T : Wd) (o : Int64) (k : Nat) (hk : k < g.2.1) (v : Int32) : Met l yX3_report wsX3_report ({ frames := 0, cells := 0, slots := 0, locals := 0 }) (Pre D B ad (cW D ad (g, σ) T o) [.ref (ad 3 k), .int v]) (Qv D B (fun u => u = (ad, cW D ad (g, st3 (st3 σ 13 k 0 v) 12 k 0 (σ 12 k 0 + 1)) T o))) 0 0 (ab B) := by
  refine Met.ofW (cc := cX3_report) (maxL := 2) (ret := none) (by decide) rfl ?_
  intro p e s m args below meth c s₁ Bd hml hv
  obtain ⟨rfl, hC, hP⟩ := hv
  have hx := Bd.exec
  have hb := Bd.bytes
  have hr := Bd.returns
  have hts := atoms_spec (ws := wsX3_report) Bd.pre
  have hown : s.vm.findClass RX3 = some m.cls := findClass_of_methodNamed Bd.named
  have hlocks := Bd.notSynchronized
  have hS : va_S (ab B) s.heap s.heap [] := va_S.rf
  have hl := lv_entry ([.ref (ad 3 k), .int v]) (n := 2) (Nat.le_of_ble_eq_true rfl)
  rw [lg_entry_eq]
  generalize (lg_sl ([.ref (ad 3 k), .int v]) ++ List.replicate (2 - (lg_sl ([.ref (ad 3 k), .int v])).length) Slot.unset).toArray = ls at hl ⊢
  have hl : lv_has ls 2 [(0, .ref (ad 3 k)), (1, .int v)] := hl
  refine lv_aload_n hx hb dX3_report_0 rfl (lv_at hl 0 rfl) ?_
  refine lv_iload_n hx hb dX3_report_1 rfl (lv_at hl 1 rfl) ?_
  refine w_put hx hb hts (by decide +kernel) tyX3 tyX3_ok nmX3 hown hC hP hS (cW_3 hk) rfl 3 (by decide) (hts (.fieldLink RX3 25 "BuildingPoints$Subscription" "kept" "I") (by decide +kernel)) rfl rfl rfl (Nat.le_of_ble_eq_true rfl) rfl dX3_report_2 (fun H locs hP hS => ?_)
  have hP := hw_eq hP (pS3 hk _)
  refine lv_aload_n hx hb dX3_report_5 rfl (lv_at hl 0 rfl) ?_
  refine lv_dup hx hb dX3_report_6 rfl ?_
  refine w_get hx hb hts (by decide +kernel) hown hC hP (cW_3 hk) rfl 4 (by decide) (hts (.fieldLink RX3 28 "BuildingPoints$Subscription" "reportCount" "I") (by decide +kernel)) rfl dX3_report_7 ?_
  refine lv_iconst (v := 1) hx hb dX3_report_10 (by decide) ?_
  refine lv_iadd hx hb dX3_report_11 ?_
  refine w_put hx hb hts (by decide +kernel) tyX3 tyX3_ok nmX3 hown hC hP hS (cW_3 hk) rfl 4 (by decide) (hts (.fieldLink RX3 28 "BuildingPoints$Subscription" "reportCount" "I") (by decide +kernel)) rfl rfl rfl (Nat.le_of_ble_eq_true rfl) rfl dX3_report_12 (fun H locs hP hS => ?_)
  have hP := hw_eq hP (pS4 hk _)
  exact W.vret hx hb hr (fun t ht hW => Qv_of (by simp [st3]) hP hS ht) hS.2.2 dX3_report_15
set_option maxHeartbeats 4000000 in
set_option maxRecDepth 100000 in
theorem c_X2_entryCount (l : Launch) (D : va_G) (B : Nat) (ad : Ad) (g : GC) (σ : Me) (T : Wd) (o : Int64) (k : Nat) (hk : k < g.2.2) : Met l yX2_entryCount wsX2_entryCount ({ frames := 0, cells := 0, slots := 0, locals := 0 }) (Pre D B ad (cW D ad (g, σ) T o) [.ref (ad 2 k)]) (Qi D B (fun r u => u = (ad, cW D ad (g, σ) T o) ∧ r = σ 21 (2 * k) 0 + σ 21 (2 * k + 1) 0)) 0 0 (ab B) := by
  refine Met.ofW (cc := cX2_entryCount) (maxL := 1) (ret := (some .int)) (by decide) rfl ?_
  intro p e s m args below meth c s₁ Bd hml hv
  obtain ⟨rfl, hC, hP⟩ := hv
  have hx := Bd.exec
  have hb := Bd.bytes
  have hr := Bd.returns
  have hts := atoms_spec (ws := wsX2_entryCount) Bd.pre
  have hown : s.vm.findClass RX2 = some m.cls := findClass_of_methodNamed Bd.named
  have hlocks := Bd.notSynchronized
  have hS : va_S (ab B) s.heap s.heap [] := va_S.rf
  have hl := lv_entry ([.ref (ad 2 k)]) (n := 1) (Nat.le_of_ble_eq_true rfl)
  rw [lg_entry_eq]
  generalize (lg_sl ([.ref (ad 2 k)]) ++ List.replicate (1 - (lg_sl ([.ref (ad 2 k)])).length) Slot.unset).toArray = ls at hl ⊢
  have hl : lv_has ls 1 [(0, .ref (ad 2 k))] := hl
  refine lv_aload_n hx hb dX2_entryCount_0 rfl (lv_at hl 0 rfl) ?_
  refine w_get hx hb hts (by decide +kernel) hown hC hP (cW_2 hk) rfl 2 (by decide) (hts (.fieldLink RX2 22 "BuildingPoints$Schedule" "weekdays" "LBuildingPoints$Entries;") (by decide +kernel)) rfl dX2_entryCount_1 ?_
  refine w_get hx hb hts (by decide +kernel) hown hC hP (cW_0 (by omega)) rfl 3 (by decide) (hts (.fieldLink RX2 33 "BuildingPoints$Entries" "count" "I") (by decide +kernel)) rfl dX2_entryCount_4 ?_
  refine lv_aload_n hx hb dX2_entryCount_7 rfl (lv_at hl 0 rfl) ?_
  refine w_get hx hb hts (by decide +kernel) hown hC hP (cW_2 hk) rfl 3 (by decide) (hts (.fieldLink RX2 26 "BuildingPoints$Schedule" "singleDays" "LBuildingPoints$Entries;") (by decide +kernel)) rfl dX2_entryCount_8 ?_
  refine w_get hx hb hts (by decide +kernel) hown hC hP (cW_0 (by omega)) rfl 3 (by decide) (hts (.fieldLink RX2 33 "BuildingPoints$Entries" "count" "I") (by decide +kernel)) rfl dX2_entryCount_11 ?_
  refine lv_iadd hx hb dX2_entryCount_14 ?_
  exact W.iret (v := ((σ 21 (2 * k) 0) + (σ 21 (2 * k + 1) 0))) hx hb hr (fun t ht hW => Qi_of ⟨rfl, rfl⟩ hP hS ht) hS.2.2 dX2_entryCount_15
set_option maxHeartbeats 4000000 in
set_option maxRecDepth 100000 in
theorem c_X2_toldAt (l : Launch) (D : va_G) (B : Nat) (ad : Ad) (g : GC) (σ : Me) (T : Wd) (o : Int64) (k n1 n2 : Nat) (hk : k < g.2.2) (hn1 : σ 21 (2 * k) 0 = nI n1) (h1 : n1 ≤ 20) (hn2 : σ 21 (2 * k + 1) 0 = nI n2) (h2 : n2 ≤ 20) (t : Int32) : Met l yX2_toldAt wsX2_toldAt ({ frames := 1, cells := 0, slots := 0, locals := 25 }) (Pre D B ad (cW D ad (g, σ) T o) [.ref (ad 2 k), .int t]) (Qi D B (fun r u => u = (ad, cW D ad (g, σ) T o) ∧ r = tolC σ k n1 n2 t)) 0 0 (ab B) := by
  refine Met.ofW (cc := cX2_toldAt) (maxL := 4) (ret := (some .int)) (by decide) rfl ?_
  intro p e s m args below meth c s₁ Bd hml hv
  obtain ⟨rfl, hC, hP⟩ := hv
  have hx := Bd.exec
  have hb := Bd.bytes
  have hr := Bd.returns
  have hts := atoms_spec (ws := wsX2_toldAt) Bd.pre
  have hown : s.vm.findClass RX2 = some m.cls := findClass_of_methodNamed Bd.named
  have hlocks := Bd.notSynchronized
  have hS : va_S (ab B) s.heap s.heap [] := va_S.rf
  have hl := lv_entry ([.ref (ad 2 k), .int t]) (n := 4) (Nat.le_of_ble_eq_true rfl)
  rw [lg_entry_eq]
  generalize (lg_sl ([.ref (ad 2 k), .int t]) ++ List.replicate (4 - (lg_sl ([.ref (ad 2 k), .int t])).length) Slot.unset).toArray = ls at hl ⊢
  have hl : lv_has ls 4 [(0, .ref (ad 2 k)), (1, .int t)] := hl
  refine lv_iload_n hx hb dX2_toldAt_0 rfl (lv_at hl 1 rfl) ?_
  refine lv_sipush (v := (1440)) hx hb dX2_toldAt_1 (by decide) ?_
  refine lv_idiv hx hb dX2_toldAt_4 (by decide) ?_
  refine lv_istore_n (lv' := [(2, .int (t / 1440)), (0, .ref (ad 2 k)), (1, .int t)]) hx hb dX2_toldAt_5 rfl hl (by decide) rfl (fun ls hl => ?_)
  refine lv_iload_n hx hb dX2_toldAt_6 rfl (lv_at hl 2 rfl) ?_
  refine lv_sipush (v := (1440)) hx hb dX2_toldAt_7 (by decide) ?_
  refine lv_irem hx hb dX2_toldAt_10 (by decide) ?_
  refine w_top (v := remF t 1440) rfl ?_
  refine lv_istore_n (lv' := [(3, .int (remF t 1440)), (2, .int (t / 1440)), (0, .ref (ad 2 k)), (1, .int t)]) hx hb dX2_toldAt_11 rfl hl (by decide) rfl (fun ls hl => ?_)
  refine lv_aload_n hx hb dX2_toldAt_12 rfl (lv_at hl 2 rfl) ?_
  refine w_get hx hb hts (by decide +kernel) hown hC hP (cW_2 hk) rfl 3 (by decide) (hts (.fieldLink RX2 26 "BuildingPoints$Schedule" "singleDays" "LBuildingPoints$Entries;") (by decide +kernel)) rfl dX2_toldAt_13 ?_
  refine lv_iload_n hx hb dX2_toldAt_16 rfl (lv_at hl 1 rfl) ?_
  refine w_calli (va_runV (As := [.int (t / 1440)]) (rest := []) ⟨hx, hb, hml, hown, hts⟩ (c_X0_hasDay l D B ad g σ T o (2 * k + 1) n2 (by omega) hn2 h2 (t / 1440)) (cwV 1 hts gX2_toldAt_X0_hasDay rfl rfl rfl (by decide +kernel) ⟨Nat.le_of_ble_eq_true rfl, Nat.le_of_ble_eq_true rfl⟩) (w_preV hC hP hS (cW_0 (by omega)) rfl) rfl rfl hl.1 rfl (lv_room (Nat.le_of_ble_eq_true rfl)) dX2_toldAt_17 ⟨Nat.le_of_ble_eq_true rfl, Nat.le_of_ble_eq_true rfl⟩) hS (fun r_1 ad1 w1 H locs hq hP hS => ?_)
  obtain ⟨h91, h92⟩ := hq
  cases h91
  subst h92
  refine lv_if_eq (tgt := 33) hx hb dX2_toldAt_20 (by decide) (fun c_20 => ?_) (fun c_20 => ?_)
  · refine lv_aload_n hx hb dX2_toldAt_33 rfl (lv_at hl 2 rfl) ?_
    refine w_get hx hb hts (by decide +kernel) hown hC hP (cW_2 hk) rfl 2 (by decide) (hts (.fieldLink RX2 22 "BuildingPoints$Schedule" "weekdays" "LBuildingPoints$Entries;") (by decide +kernel)) rfl dX2_toldAt_34 ?_
    refine lv_iload_n hx hb dX2_toldAt_37 rfl (lv_at hl 1 rfl) ?_
    refine lv_bipush (v := (7)) hx hb dX2_toldAt_38 (by decide) ?_
    refine lv_irem hx hb dX2_toldAt_40 (by decide) ?_
    refine w_top (v := remF (t / 1440) 7) rfl ?_
    refine lv_iload_n hx hb dX2_toldAt_41 rfl (lv_at hl 0 rfl) ?_
    refine w_calli (va_runV (As := [.int (remF (t / 1440) 7), .int (remF t 1440)]) (rest := []) ⟨hx, hb, hml, hown, hts⟩ (c_X0_latest l D B ad g σ T o (2 * k) n1 (by omega) hn1 h1 (remF (t / 1440) 7) (remF t 1440)) (cwV 2 hts gX2_toldAt_X0_latest rfl rfl rfl (by decide +kernel) ⟨Nat.le_of_ble_eq_true rfl, Nat.le_of_ble_eq_true rfl⟩) (w_preV hC hP hS (cW_0 (by omega)) rfl) rfl rfl hl.1 rfl (lv_room (Nat.le_of_ble_eq_true rfl)) dX2_toldAt_42 ⟨Nat.le_of_ble_eq_true rfl, Nat.le_of_ble_eq_true rfl⟩) hS (fun r_2 ad1 w1 H locs hq hP hS => ?_)
    obtain ⟨h91, h92⟩ := hq
    cases h91
    subst h92
    exact W.iret (v := ((latF (σ 22 (2 * k)) (σ 23 (2 * k)) (σ 24 (2 * k)) (remF (t / 1440) 7) (remF t 1440) n1).2)) hx hb hr (fun t ht hW => Qi_of ⟨rfl, by unfold tolC; rw [if_neg (bI_0.mp c_20)]⟩ hP hS ht) hS.2.2 dX2_toldAt_45
  · refine lv_aload_n hx hb dX2_toldAt_23 rfl (lv_at hl 2 rfl) ?_
    refine w_get hx hb hts (by decide +kernel) hown hC hP (cW_2 hk) rfl 3 (by decide) (hts (.fieldLink RX2 26 "BuildingPoints$Schedule" "singleDays" "LBuildingPoints$Entries;") (by decide +kernel)) rfl dX2_toldAt_24 ?_
    refine lv_iload_n hx hb dX2_toldAt_27 rfl (lv_at hl 1 rfl) ?_
    refine lv_iload_n hx hb dX2_toldAt_28 rfl (lv_at hl 0 rfl) ?_
    refine w_calli (va_runV (As := [.int (t / 1440), .int (remF t 1440)]) (rest := []) ⟨hx, hb, hml, hown, hts⟩ (c_X0_latest l D B ad g σ T o (2 * k + 1) n2 (by omega) hn2 h2 (t / 1440) (remF t 1440)) (cwV 2 hts gX2_toldAt_X0_latest rfl rfl rfl (by decide +kernel) ⟨Nat.le_of_ble_eq_true rfl, Nat.le_of_ble_eq_true rfl⟩) (w_preV hC hP hS (cW_0 (by omega)) rfl) rfl rfl hl.1 rfl (lv_room (Nat.le_of_ble_eq_true rfl)) dX2_toldAt_29 ⟨Nat.le_of_ble_eq_true rfl, Nat.le_of_ble_eq_true rfl⟩) hS (fun r_3 ad1 w1 H locs hq hP hS => ?_)
    obtain ⟨h91, h92⟩ := hq
    cases h91
    subst h92
    exact W.iret (v := ((latF (σ 22 (2 * k + 1)) (σ 23 (2 * k + 1)) (σ 24 (2 * k + 1)) (t / 1440) (remF t 1440) n2).2)) hx hb hr (fun t ht hW => Qi_of ⟨rfl, by unfold tolC; rw [if_pos (Classical.not_not.mp (fun z => c_20 (bI_0.mpr z)))]⟩ hP hS ht) hS.2.2 dX2_toldAt_32
