/-! the law's calls of the class -/
theorem exA_1 {a E : String} {k : Nat} (h : exA [a] k E) : k = 1 ∧ E = a := by
  obtain ⟨h0, h1⟩ := h
  match k, h0, h1 with
  | 1, _, h1 => exact ⟨rfl, (Option.some.inj h1).symm⟩
  | k + 2, _, h1 => simp at h1
theorem exA_2 {a b E : String} {k : Nat} (h : exA [a, b] k E) : (k = 1 ∧ E = a) ∨ (k = 2 ∧ E = b) := by
  obtain ⟨h0, h1⟩ := h
  match k, h0, h1 with
  | 1, _, h1 => exact Or.inl ⟨rfl, (Option.some.inj h1).symm⟩
  | 2, _, h1 => exact Or.inr ⟨rfl, (Option.some.inj h1).symm⟩
  | k + 3, _, h1 => simp at h1
theorem exA_3 {a b c E : String} {k : Nat} (h : exA [a, b, c] k E) : (k = 1 ∧ E = a) ∨ (k = 2 ∧ E = b) ∨ (k = 3 ∧ E = c) := by
  obtain ⟨h0, h1⟩ := h
  match k, h0, h1 with
  | 1, _, h1 => exact Or.inl ⟨rfl, (Option.some.inj h1).symm⟩
  | 2, _, h1 => exact Or.inr (Or.inl ⟨rfl, (Option.some.inj h1).symm⟩)
  | 3, _, h1 => exact Or.inr (Or.inr ⟨rfl, (Option.some.inj h1).symm⟩)
  | k + 4, _, h1 => simp at h1
set_option maxHeartbeats 4000000 in
set_option maxRecDepth 100000 in
theorem c_L_value (l : Launch) (hns : l.stackTraces = false) (D : va_G) (B : Nat) (ad : Ad) (g : GC) (σ : Me) (T : GC × Me × Int32) (o : Int64) (hI : Ib g σ) (x0 : Int32) : Met l yL_value wsL_value ({ frames := 8, cells := 1, slots := 6, locals := 132 }) (Pre D B ad (cW D ad (g, σ) T o) [.ref (ad 4 0), .int x0, .ref (ad 6 0)]) (Qi D B (fun r u => (cdPt g.1 x0 = 0 → u = (ad, cW D ad (g, σ) T (vaO σ (nOf x0)).toInt64) ∧ r = 0) ∧ (¬ cdPt g.1 x0 = 0 → u = (ad, cW D ad (g, σ) T o) ∧ r = nI (cdPt g.1 x0)))) 1 6 (ab B) := by
  refine y_ofWH (cc := cL_value) (maxL := 4) (ret := (some .int)) (by decide) rfl ?_
  intro p e s m args below meth c s₁ Bd hml htb hv
  obtain ⟨rfl, hC, hP⟩ := hv
  have hx := Bd.exec
  have hb := Bd.bytes
  have hr := Bd.returns
  have hts := atoms_spec (ws := wsL_value) Bd.pre
  have hown : s.vm.findClass RL = some m.cls := findClass_of_methodNamed Bd.named
  have hlocks := Bd.notSynchronized
  have hS : va_S (ab B) s.heap s.heap [] := va_S.rf
  have hl := lv_entry ([.ref (ad 4 0), .int x0, .ref (ad 6 0)]) (n := 4) (Nat.le_of_ble_eq_true rfl)
  rw [lg_entry_eq]
  generalize (lg_sl ([.ref (ad 4 0), .int x0, .ref (ad 6 0)]) ++ List.replicate (4 - (lg_sl ([.ref (ad 4 0), .int x0, .ref (ad 6 0)])).length) Slot.unset).toArray = ls at hl ⊢
  have hl : lv_has ls 4 [(0, .ref (ad 4 0)), (1, .int x0), (2, .ref (ad 6 0))] := hl
  refine lv_aload_n hx hb dL_value_0 rfl (lv_at hl 2 rfl) ?_
  refine lv_iconst (v := 0) hx hb dL_value_1 (by decide) ?_
  refine lv_aload_n hx hb dL_value_2 rfl (lv_at hl 0 rfl) ?_
  refine lv_iload_n hx hb dL_value_3 rfl (lv_at hl 1 rfl) ?_
  refine y_calli (vx_runV (As := [.int x0]) (rest := [.int 0, .ref (ad 6 0)]) ⟨hx, hb, hml, hown, hts⟩ (c_X4_value l hns D B ad g σ T o hI x0) (cwV 1 hts gL_value_X4_value rfl rfl rfl (by decide +kernel) ⟨Nat.le_of_ble_eq_true rfl, Nat.le_of_ble_eq_true rfl⟩) (w_preV hC hP hS cW_4 rfl) rfl rfl hl.1 rfl (lv_room (Nat.le_of_ble_eq_true rfl)) dL_value_4 ⟨Nat.le_of_ble_eq_true rfl, Nat.le_of_ble_eq_true rfl⟩) hS (fun E9 ce9 q9 ad1 w1 H locs hq hP hS h91 h92 h93 => ?_) (fun r_1 ad1 w1 H locs hq hP hS => ?_)
  · obtain ⟨h84, h85⟩ := hq
    cases h84
    rcases exA_1 h85 with ⟨h86, rfl⟩
    · refine vx_catch (name := exIO) hown [] (⟨0, 9, 12, 25⟩ : ExceptionTableEntry) [] (htb.trans rfl) (fun z hz => absurd hz List.not_mem_nil) (by decide) (by decide) (hts (.classLink RL 25 exIO) (by decide +kernel)) ((hC.2.2.2.2.2.1 exIO (by decide)).use rfl) h91 h92 h93 ?_
      refine lv_astore_n (lv' := [(3, .ref q9), (0, .ref (ad 4 0)), (1, .int x0), (2, .ref (ad 6 0))]) hx hb dL_value_12 rfl hl (by decide) rfl (fun ls hl => ?_)
      refine lv_iconst (v := 1) hx hb dL_value_13 (by decide) ?_
      exact W.iret (v := 1) hx hb hr (fun t ht hW => Qi_of ⟨fun z => absurd (z.symm.trans h86) (by decide), fun _ => ⟨rfl, by rw [h86]; rfl⟩⟩ hP hS ht) hS.2.2 dL_value_14
  · obtain ⟨h81, h82, h83⟩ := hq
    cases h81
    subst h82
    refine lv_i2l (v := (vaO σ (nOf x0)).toInt64) hx hb dL_value_7 rfl ?_
    refine w_last hx hb hC hP hS cW_6 (i := 0) (by unfold vp_in; decide) dL_value_8 (fun H locs hP hS => ?_)
    have hP := hw_eq hP (pO _)
    refine lv_goto (tgt := 15) hx hb dL_value_9 (by decide) ?_
    refine lv_iconst (v := 0) hx hb dL_value_15 (by decide) ?_
    exact W.iret (v := 0) hx hb hr (fun t ht hW => Qi_of ⟨fun _ => ⟨rfl, rfl⟩, fun z => absurd h83 z⟩ hP hS ht) hS.2.2 dL_value_16
set_option maxHeartbeats 4000000 in
set_option maxRecDepth 100000 in
theorem c_L_standing (l : Launch) (hns : l.stackTraces = false) (D : va_G) (B : Nat) (ad : Ad) (g : GC) (σ : Me) (T : GC × Me × Int32) (o : Int64) (hI : Ib g σ) (x0 : Int32) : Met l yL_standing wsL_standing ({ frames := 8, cells := 1, slots := 6, locals := 132 }) (Pre D B ad (cW D ad (g, σ) T o) [.ref (ad 4 0), .int x0, .ref (ad 6 0)]) (Qi D B (fun r u => (cdPt g.1 x0 = 0 → u = (ad, cW D ad (g, σ) T (nI (stO σ (nOf x0))).toInt64) ∧ r = 0) ∧ (¬ cdPt g.1 x0 = 0 → u = (ad, cW D ad (g, σ) T o) ∧ r = nI (cdPt g.1 x0)))) 1 6 (ab B) := by
  refine y_ofWH (cc := cL_standing) (maxL := 4) (ret := (some .int)) (by decide) rfl ?_
  intro p e s m args below meth c s₁ Bd hml htb hv
  obtain ⟨rfl, hC, hP⟩ := hv
  have hx := Bd.exec
  have hb := Bd.bytes
  have hr := Bd.returns
  have hts := atoms_spec (ws := wsL_standing) Bd.pre
  have hown : s.vm.findClass RL = some m.cls := findClass_of_methodNamed Bd.named
  have hlocks := Bd.notSynchronized
  have hS : va_S (ab B) s.heap s.heap [] := va_S.rf
  have hl := lv_entry ([.ref (ad 4 0), .int x0, .ref (ad 6 0)]) (n := 4) (Nat.le_of_ble_eq_true rfl)
  rw [lg_entry_eq]
  generalize (lg_sl ([.ref (ad 4 0), .int x0, .ref (ad 6 0)]) ++ List.replicate (4 - (lg_sl ([.ref (ad 4 0), .int x0, .ref (ad 6 0)])).length) Slot.unset).toArray = ls at hl ⊢
  have hl : lv_has ls 4 [(0, .ref (ad 4 0)), (1, .int x0), (2, .ref (ad 6 0))] := hl
  refine lv_aload_n hx hb dL_standing_0 rfl (lv_at hl 2 rfl) ?_
  refine lv_iconst (v := 0) hx hb dL_standing_1 (by decide) ?_
  refine lv_aload_n hx hb dL_standing_2 rfl (lv_at hl 0 rfl) ?_
  refine lv_iload_n hx hb dL_standing_3 rfl (lv_at hl 1 rfl) ?_
  refine y_calli (vx_runV (As := [.int x0]) (rest := [.int 0, .ref (ad 6 0)]) ⟨hx, hb, hml, hown, hts⟩ (c_X4_standing l hns D B ad g σ T o hI x0) (cwV 1 hts gL_standing_X4_standing rfl rfl rfl (by decide +kernel) ⟨Nat.le_of_ble_eq_true rfl, Nat.le_of_ble_eq_true rfl⟩) (w_preV hC hP hS cW_4 rfl) rfl rfl hl.1 rfl (lv_room (Nat.le_of_ble_eq_true rfl)) dL_standing_4 ⟨Nat.le_of_ble_eq_true rfl, Nat.le_of_ble_eq_true rfl⟩) hS (fun E9 ce9 q9 ad1 w1 H locs hq hP hS h91 h92 h93 => ?_) (fun r_1 ad1 w1 H locs hq hP hS => ?_)
  · obtain ⟨h84, h85⟩ := hq
    cases h84
    rcases exA_1 h85 with ⟨h86, rfl⟩
    · refine vx_catch (name := exIO) hown [] (⟨0, 9, 12, 25⟩ : ExceptionTableEntry) [] (htb.trans rfl) (fun z hz => absurd hz List.not_mem_nil) (by decide) (by decide) (hts (.classLink RL 25 exIO) (by decide +kernel)) ((hC.2.2.2.2.2.1 exIO (by decide)).use rfl) h91 h92 h93 ?_
      refine lv_astore_n (lv' := [(3, .ref q9), (0, .ref (ad 4 0)), (1, .int x0), (2, .ref (ad 6 0))]) hx hb dL_standing_12 rfl hl (by decide) rfl (fun ls hl => ?_)
      refine lv_iconst (v := 1) hx hb dL_standing_13 (by decide) ?_
      exact W.iret (v := 1) hx hb hr (fun t ht hW => Qi_of ⟨fun z => absurd (z.symm.trans h86) (by decide), fun _ => ⟨rfl, by rw [h86]; rfl⟩⟩ hP hS ht) hS.2.2 dL_standing_14
  · obtain ⟨h81, h82, h83⟩ := hq
    cases h81
    subst h82
    refine lv_i2l (v := (nI (stO σ (nOf x0))).toInt64) hx hb dL_standing_7 rfl ?_
    refine w_last hx hb hC hP hS cW_6 (i := 0) (by unfold vp_in; decide) dL_standing_8 (fun H locs hP hS => ?_)
    have hP := hw_eq hP (pO _)
    refine lv_goto (tgt := 15) hx hb dL_standing_9 (by decide) ?_
    refine lv_iconst (v := 0) hx hb dL_standing_15 (by decide) ?_
    exact W.iret (v := 0) hx hb hr (fun t ht hW => Qi_of ⟨fun _ => ⟨rfl, rfl⟩, fun z => absurd h83 z⟩ hP hS ht) hS.2.2 dL_standing_16
set_option maxHeartbeats 4000000 in
set_option maxRecDepth 100000 in
theorem c_L_changes (l : Launch) (hns : l.stackTraces = false) (D : va_G) (B : Nat) (ad : Ad) (g : GC) (σ : Me) (T : GC × Me × Int32) (o : Int64) (hI : Ib g σ) (x0 : Int32) : Met l yL_changes wsL_changes ({ frames := 8, cells := 1, slots := 6, locals := 132 }) (Pre D B ad (cW D ad (g, σ) T o) [.ref (ad 4 0), .int x0, .ref (ad 6 0)]) (Qi D B (fun r u => (cdPt g.1 x0 = 0 → u = (ad, cW D ad (g, σ) T (σ 5 (nOf x0) 0).toInt64) ∧ r = 0) ∧ (¬ cdPt g.1 x0 = 0 → u = (ad, cW D ad (g, σ) T o) ∧ r = nI (cdPt g.1 x0)))) 1 6 (ab B) := by
  refine y_ofWH (cc := cL_changes) (maxL := 4) (ret := (some .int)) (by decide) rfl ?_
  intro p e s m args below meth c s₁ Bd hml htb hv
  obtain ⟨rfl, hC, hP⟩ := hv
  have hx := Bd.exec
  have hb := Bd.bytes
  have hr := Bd.returns
  have hts := atoms_spec (ws := wsL_changes) Bd.pre
  have hown : s.vm.findClass RL = some m.cls := findClass_of_methodNamed Bd.named
  have hlocks := Bd.notSynchronized
  have hS : va_S (ab B) s.heap s.heap [] := va_S.rf
  have hl := lv_entry ([.ref (ad 4 0), .int x0, .ref (ad 6 0)]) (n := 4) (Nat.le_of_ble_eq_true rfl)
  rw [lg_entry_eq]
  generalize (lg_sl ([.ref (ad 4 0), .int x0, .ref (ad 6 0)]) ++ List.replicate (4 - (lg_sl ([.ref (ad 4 0), .int x0, .ref (ad 6 0)])).length) Slot.unset).toArray = ls at hl ⊢
  have hl : lv_has ls 4 [(0, .ref (ad 4 0)), (1, .int x0), (2, .ref (ad 6 0))] := hl
  refine lv_aload_n hx hb dL_changes_0 rfl (lv_at hl 2 rfl) ?_
  refine lv_iconst (v := 0) hx hb dL_changes_1 (by decide) ?_
  refine lv_aload_n hx hb dL_changes_2 rfl (lv_at hl 0 rfl) ?_
  refine lv_iload_n hx hb dL_changes_3 rfl (lv_at hl 1 rfl) ?_
  refine y_calli (vx_runV (As := [.int x0]) (rest := [.int 0, .ref (ad 6 0)]) ⟨hx, hb, hml, hown, hts⟩ (c_X4_changes l hns D B ad g σ T o hI x0) (cwV 1 hts gL_changes_X4_changes rfl rfl rfl (by decide +kernel) ⟨Nat.le_of_ble_eq_true rfl, Nat.le_of_ble_eq_true rfl⟩) (w_preV hC hP hS cW_4 rfl) rfl rfl hl.1 rfl (lv_room (Nat.le_of_ble_eq_true rfl)) dL_changes_4 ⟨Nat.le_of_ble_eq_true rfl, Nat.le_of_ble_eq_true rfl⟩) hS (fun E9 ce9 q9 ad1 w1 H locs hq hP hS h91 h92 h93 => ?_) (fun r_1 ad1 w1 H locs hq hP hS => ?_)
  · obtain ⟨h84, h85⟩ := hq
    cases h84
    rcases exA_1 h85 with ⟨h86, rfl⟩
    · refine vx_catch (name := exIO) hown [] (⟨0, 9, 12, 25⟩ : ExceptionTableEntry) [] (htb.trans rfl) (fun z hz => absurd hz List.not_mem_nil) (by decide) (by decide) (hts (.classLink RL 25 exIO) (by decide +kernel)) ((hC.2.2.2.2.2.1 exIO (by decide)).use rfl) h91 h92 h93 ?_
      refine lv_astore_n (lv' := [(3, .ref q9), (0, .ref (ad 4 0)), (1, .int x0), (2, .ref (ad 6 0))]) hx hb dL_changes_12 rfl hl (by decide) rfl (fun ls hl => ?_)
      refine lv_iconst (v := 1) hx hb dL_changes_13 (by decide) ?_
      exact W.iret (v := 1) hx hb hr (fun t ht hW => Qi_of ⟨fun z => absurd (z.symm.trans h86) (by decide), fun _ => ⟨rfl, by rw [h86]; rfl⟩⟩ hP hS ht) hS.2.2 dL_changes_14
  · obtain ⟨h81, h82, h83⟩ := hq
    cases h81
    subst h82
    refine lv_i2l (v := (σ 5 (nOf x0) 0).toInt64) hx hb dL_changes_7 rfl ?_
    refine w_last hx hb hC hP hS cW_6 (i := 0) (by unfold vp_in; decide) dL_changes_8 (fun H locs hP hS => ?_)
    have hP := hw_eq hP (pO _)
    refine lv_goto (tgt := 15) hx hb dL_changes_9 (by decide) ?_
    refine lv_iconst (v := 0) hx hb dL_changes_15 (by decide) ?_
    exact W.iret (v := 0) hx hb hr (fun t ht hW => Qi_of ⟨fun _ => ⟨rfl, rfl⟩, fun z => absurd h83 z⟩ hP hS ht) hS.2.2 dL_changes_16
set_option maxHeartbeats 4000000 in
set_option maxRecDepth 100000 in
theorem c_L_reports (l : Launch) (hns : l.stackTraces = false) (D : va_G) (B : Nat) (ad : Ad) (g : GC) (σ : Me) (T : GC × Me × Int32) (o : Int64) (hI : Ib g σ) (x0 : Int32) : Met l yL_reports wsL_reports ({ frames := 8, cells := 1, slots := 6, locals := 132 }) (Pre D B ad (cW D ad (g, σ) T o) [.ref (ad 4 0), .int x0, .ref (ad 6 0)]) (Qi D B (fun r u => (cdPt g.2.1 x0 = 0 → u = (ad, cW D ad (g, σ) T (σ 12 (nOf x0) 0).toInt64) ∧ r = 0) ∧ (¬ cdPt g.2.1 x0 = 0 → u = (ad, cW D ad (g, σ) T o) ∧ r = nI (cdPt g.2.1 x0)))) 1 6 (ab B) := by
  refine y_ofWH (cc := cL_reports) (maxL := 4) (ret := (some .int)) (by decide) rfl ?_
  intro p e s m args below meth c s₁ Bd hml htb hv
  obtain ⟨rfl, hC, hP⟩ := hv
  have hx := Bd.exec
  have hb := Bd.bytes
  have hr := Bd.returns
  have hts := atoms_spec (ws := wsL_reports) Bd.pre
  have hown : s.vm.findClass RL = some m.cls := findClass_of_methodNamed Bd.named
  have hlocks := Bd.notSynchronized
  have hS : va_S (ab B) s.heap s.heap [] := va_S.rf
  have hl := lv_entry ([.ref (ad 4 0), .int x0, .ref (ad 6 0)]) (n := 4) (Nat.le_of_ble_eq_true rfl)
  rw [lg_entry_eq]
  generalize (lg_sl ([.ref (ad 4 0), .int x0, .ref (ad 6 0)]) ++ List.replicate (4 - (lg_sl ([.ref (ad 4 0), .int x0, .ref (ad 6 0)])).length) Slot.unset).toArray = ls at hl ⊢
  have hl : lv_has ls 4 [(0, .ref (ad 4 0)), (1, .int x0), (2, .ref (ad 6 0))] := hl
  refine lv_aload_n hx hb dL_reports_0 rfl (lv_at hl 2 rfl) ?_
  refine lv_iconst (v := 0) hx hb dL_reports_1 (by decide) ?_
  refine lv_aload_n hx hb dL_reports_2 rfl (lv_at hl 0 rfl) ?_
  refine lv_iload_n hx hb dL_reports_3 rfl (lv_at hl 1 rfl) ?_
  refine y_calli (vx_runV (As := [.int x0]) (rest := [.int 0, .ref (ad 6 0)]) ⟨hx, hb, hml, hown, hts⟩ (c_X4_reports l hns D B ad g σ T o hI x0) (cwV 1 hts gL_reports_X4_reports rfl rfl rfl (by decide +kernel) ⟨Nat.le_of_ble_eq_true rfl, Nat.le_of_ble_eq_true rfl⟩) (w_preV hC hP hS cW_4 rfl) rfl rfl hl.1 rfl (lv_room (Nat.le_of_ble_eq_true rfl)) dL_reports_4 ⟨Nat.le_of_ble_eq_true rfl, Nat.le_of_ble_eq_true rfl⟩) hS (fun E9 ce9 q9 ad1 w1 H locs hq hP hS h91 h92 h93 => ?_) (fun r_1 ad1 w1 H locs hq hP hS => ?_)
  · obtain ⟨h84, h85⟩ := hq
    cases h84
    rcases exA_1 h85 with ⟨h86, rfl⟩
    · refine vx_catch (name := exIO) hown [] (⟨0, 9, 12, 25⟩ : ExceptionTableEntry) [] (htb.trans rfl) (fun z hz => absurd hz List.not_mem_nil) (by decide) (by decide) (hts (.classLink RL 25 exIO) (by decide +kernel)) ((hC.2.2.2.2.2.1 exIO (by decide)).use rfl) h91 h92 h93 ?_
      refine lv_astore_n (lv' := [(3, .ref q9), (0, .ref (ad 4 0)), (1, .int x0), (2, .ref (ad 6 0))]) hx hb dL_reports_12 rfl hl (by decide) rfl (fun ls hl => ?_)
      refine lv_iconst (v := 1) hx hb dL_reports_13 (by decide) ?_
      exact W.iret (v := 1) hx hb hr (fun t ht hW => Qi_of ⟨fun z => absurd (z.symm.trans h86) (by decide), fun _ => ⟨rfl, by rw [h86]; rfl⟩⟩ hP hS ht) hS.2.2 dL_reports_14
  · obtain ⟨h81, h82, h83⟩ := hq
    cases h81
    subst h82
    refine lv_i2l (v := (σ 12 (nOf x0) 0).toInt64) hx hb dL_reports_7 rfl ?_
    refine w_last hx hb hC hP hS cW_6 (i := 0) (by unfold vp_in; decide) dL_reports_8 (fun H locs hP hS => ?_)
    have hP := hw_eq hP (pO _)
    refine lv_goto (tgt := 15) hx hb dL_reports_9 (by decide) ?_
    refine lv_iconst (v := 0) hx hb dL_reports_15 (by decide) ?_
    exact W.iret (v := 0) hx hb hr (fun t ht hW => Qi_of ⟨fun _ => ⟨rfl, rfl⟩, fun z => absurd h83 z⟩ hP hS ht) hS.2.2 dL_reports_16
set_option maxHeartbeats 4000000 in
set_option maxRecDepth 100000 in
theorem c_L_reported (l : Launch) (hns : l.stackTraces = false) (D : va_G) (B : Nat) (ad : Ad) (g : GC) (σ : Me) (T : GC × Me × Int32) (o : Int64) (hI : Ib g σ) (x0 : Int32) : Met l yL_reported wsL_reported ({ frames := 8, cells := 1, slots := 6, locals := 132 }) (Pre D B ad (cW D ad (g, σ) T o) [.ref (ad 4 0), .int x0, .ref (ad 6 0)]) (Qi D B (fun r u => (cdPt g.2.1 x0 = 0 → u = (ad, cW D ad (g, σ) T (σ 13 (nOf x0) 0).toInt64) ∧ r = 0) ∧ (¬ cdPt g.2.1 x0 = 0 → u = (ad, cW D ad (g, σ) T o) ∧ r = nI (cdPt g.2.1 x0)))) 1 6 (ab B) := by
  refine y_ofWH (cc := cL_reported) (maxL := 4) (ret := (some .int)) (by decide) rfl ?_
  intro p e s m args below meth c s₁ Bd hml htb hv
  obtain ⟨rfl, hC, hP⟩ := hv
  have hx := Bd.exec
  have hb := Bd.bytes
  have hr := Bd.returns
  have hts := atoms_spec (ws := wsL_reported) Bd.pre
  have hown : s.vm.findClass RL = some m.cls := findClass_of_methodNamed Bd.named
  have hlocks := Bd.notSynchronized
  have hS : va_S (ab B) s.heap s.heap [] := va_S.rf
  have hl := lv_entry ([.ref (ad 4 0), .int x0, .ref (ad 6 0)]) (n := 4) (Nat.le_of_ble_eq_true rfl)
  rw [lg_entry_eq]
  generalize (lg_sl ([.ref (ad 4 0), .int x0, .ref (ad 6 0)]) ++ List.replicate (4 - (lg_sl ([.ref (ad 4 0), .int x0, .ref (ad 6 0)])).length) Slot.unset).toArray = ls at hl ⊢
  have hl : lv_has ls 4 [(0, .ref (ad 4 0)), (1, .int x0), (2, .ref (ad 6 0))] := hl
  refine lv_aload_n hx hb dL_reported_0 rfl (lv_at hl 2 rfl) ?_
  refine lv_iconst (v := 0) hx hb dL_reported_1 (by decide) ?_
  refine lv_aload_n hx hb dL_reported_2 rfl (lv_at hl 0 rfl) ?_
  refine lv_iload_n hx hb dL_reported_3 rfl (lv_at hl 1 rfl) ?_
  refine y_calli (vx_runV (As := [.int x0]) (rest := [.int 0, .ref (ad 6 0)]) ⟨hx, hb, hml, hown, hts⟩ (c_X4_reported l hns D B ad g σ T o hI x0) (cwV 1 hts gL_reported_X4_reported rfl rfl rfl (by decide +kernel) ⟨Nat.le_of_ble_eq_true rfl, Nat.le_of_ble_eq_true rfl⟩) (w_preV hC hP hS cW_4 rfl) rfl rfl hl.1 rfl (lv_room (Nat.le_of_ble_eq_true rfl)) dL_reported_4 ⟨Nat.le_of_ble_eq_true rfl, Nat.le_of_ble_eq_true rfl⟩) hS (fun E9 ce9 q9 ad1 w1 H locs hq hP hS h91 h92 h93 => ?_) (fun r_1 ad1 w1 H locs hq hP hS => ?_)
  · obtain ⟨h84, h85⟩ := hq
    cases h84
    rcases exA_1 h85 with ⟨h86, rfl⟩
    · refine vx_catch (name := exIO) hown [] (⟨0, 9, 12, 25⟩ : ExceptionTableEntry) [] (htb.trans rfl) (fun z hz => absurd hz List.not_mem_nil) (by decide) (by decide) (hts (.classLink RL 25 exIO) (by decide +kernel)) ((hC.2.2.2.2.2.1 exIO (by decide)).use rfl) h91 h92 h93 ?_
      refine lv_astore_n (lv' := [(3, .ref q9), (0, .ref (ad 4 0)), (1, .int x0), (2, .ref (ad 6 0))]) hx hb dL_reported_12 rfl hl (by decide) rfl (fun ls hl => ?_)
      refine lv_iconst (v := 1) hx hb dL_reported_13 (by decide) ?_
      exact W.iret (v := 1) hx hb hr (fun t ht hW => Qi_of ⟨fun z => absurd (z.symm.trans h86) (by decide), fun _ => ⟨rfl, by rw [h86]; rfl⟩⟩ hP hS ht) hS.2.2 dL_reported_14
  · obtain ⟨h81, h82, h83⟩ := hq
    cases h81
    subst h82
    refine lv_i2l (v := (σ 13 (nOf x0) 0).toInt64) hx hb dL_reported_7 rfl ?_
    refine w_last hx hb hC hP hS cW_6 (i := 0) (by unfold vp_in; decide) dL_reported_8 (fun H locs hP hS => ?_)
    have hP := hw_eq hP (pO _)
    refine lv_goto (tgt := 15) hx hb dL_reported_9 (by decide) ?_
    refine lv_iconst (v := 0) hx hb dL_reported_15 (by decide) ?_
    exact W.iret (v := 0) hx hb hr (fun t ht hW => Qi_of ⟨fun _ => ⟨rfl, rfl⟩, fun z => absurd h83 z⟩ hP hS ht) hS.2.2 dL_reported_16
set_option maxHeartbeats 4000000 in
set_option maxRecDepth 100000 in
theorem c_L_held (l : Launch) (hns : l.stackTraces = false) (D : va_G) (B : Nat) (ad : Ad) (g : GC) (σ : Me) (T : GC × Me × Int32) (o : Int64) (hI : Ib g σ) (x0 : Int32) : Met l yL_held wsL_held ({ frames := 8, cells := 1, slots := 6, locals := 133 }) (Pre D B ad (cW D ad (g, σ) T o) [.ref (ad 4 0), .int x0, .ref (ad 6 0)]) (Qi D B (fun r u => (cdPt g.1 x0 = 0 → u = (ad, cW D ad (g, σ) T ((if σ 4 (nOf x0) 0 = 0 then 0 else σ 4 (nOf x0) 0 - σ 25 0 0)).toInt64) ∧ r = 0) ∧ (¬ cdPt g.1 x0 = 0 → u = (ad, cW D ad (g, σ) T o) ∧ r = nI (cdPt g.1 x0)))) 1 6 (ab B) := by
  refine y_ofWH (cc := cL_held) (maxL := 4) (ret := (some .int)) (by decide) rfl ?_
  intro p e s m args below meth c s₁ Bd hml htb hv
  obtain ⟨rfl, hC, hP⟩ := hv
  have hx := Bd.exec
  have hb := Bd.bytes
  have hr := Bd.returns
  have hts := atoms_spec (ws := wsL_held) Bd.pre
  have hown : s.vm.findClass RL = some m.cls := findClass_of_methodNamed Bd.named
  have hlocks := Bd.notSynchronized
  have hS : va_S (ab B) s.heap s.heap [] := va_S.rf
  have hl := lv_entry ([.ref (ad 4 0), .int x0, .ref (ad 6 0)]) (n := 4) (Nat.le_of_ble_eq_true rfl)
  rw [lg_entry_eq]
  generalize (lg_sl ([.ref (ad 4 0), .int x0, .ref (ad 6 0)]) ++ List.replicate (4 - (lg_sl ([.ref (ad 4 0), .int x0, .ref (ad 6 0)])).length) Slot.unset).toArray = ls at hl ⊢
  have hl : lv_has ls 4 [(0, .ref (ad 4 0)), (1, .int x0), (2, .ref (ad 6 0))] := hl
  refine lv_aload_n hx hb dL_held_0 rfl (lv_at hl 2 rfl) ?_
  refine lv_iconst (v := 0) hx hb dL_held_1 (by decide) ?_
  refine lv_aload_n hx hb dL_held_2 rfl (lv_at hl 0 rfl) ?_
  refine lv_iload_n hx hb dL_held_3 rfl (lv_at hl 1 rfl) ?_
  refine y_calli (vx_runV (As := [.int x0]) (rest := [.int 0, .ref (ad 6 0)]) ⟨hx, hb, hml, hown, hts⟩ (c_X4_held l hns D B ad g σ T o hI x0) (cwV 1 hts gL_held_X4_held rfl rfl rfl (by decide +kernel) ⟨Nat.le_of_ble_eq_true rfl, Nat.le_of_ble_eq_true rfl⟩) (w_preV hC hP hS cW_4 rfl) rfl rfl hl.1 rfl (lv_room (Nat.le_of_ble_eq_true rfl)) dL_held_4 ⟨Nat.le_of_ble_eq_true rfl, Nat.le_of_ble_eq_true rfl⟩) hS (fun E9 ce9 q9 ad1 w1 H locs hq hP hS h91 h92 h93 => ?_) (fun r_1 ad1 w1 H locs hq hP hS => ?_)
  · obtain ⟨h84, h85⟩ := hq
    cases h84
    rcases exA_1 h85 with ⟨h86, rfl⟩
    · refine vx_catch (name := exIO) hown [] (⟨0, 9, 12, 25⟩ : ExceptionTableEntry) [] (htb.trans rfl) (fun z hz => absurd hz List.not_mem_nil) (by decide) (by decide) (hts (.classLink RL 25 exIO) (by decide +kernel)) ((hC.2.2.2.2.2.1 exIO (by decide)).use rfl) h91 h92 h93 ?_
      refine lv_astore_n (lv' := [(3, .ref q9), (0, .ref (ad 4 0)), (1, .int x0), (2, .ref (ad 6 0))]) hx hb dL_held_12 rfl hl (by decide) rfl (fun ls hl => ?_)
      refine lv_iconst (v := 1) hx hb dL_held_13 (by decide) ?_
      exact W.iret (v := 1) hx hb hr (fun t ht hW => Qi_of ⟨fun z => absurd (z.symm.trans h86) (by decide), fun _ => ⟨rfl, by rw [h86]; rfl⟩⟩ hP hS ht) hS.2.2 dL_held_14
  · obtain ⟨h81, h82, h83⟩ := hq
    cases h81
    subst h82
    refine lv_i2l (v := (if σ 4 (nOf x0) 0 = 0 then 0 else σ 4 (nOf x0) 0 - σ 25 0 0).toInt64) hx hb dL_held_7 rfl ?_
    refine w_last hx hb hC hP hS cW_6 (i := 0) (by unfold vp_in; decide) dL_held_8 (fun H locs hP hS => ?_)
    have hP := hw_eq hP (pO _)
    refine lv_goto (tgt := 15) hx hb dL_held_9 (by decide) ?_
    refine lv_iconst (v := 0) hx hb dL_held_15 (by decide) ?_
    exact W.iret (v := 0) hx hb hr (fun t ht hW => Qi_of ⟨fun _ => ⟨rfl, rfl⟩, fun z => absurd h83 z⟩ hP hS ht) hS.2.2 dL_held_16
set_option maxHeartbeats 4000000 in
set_option maxRecDepth 100000 in
theorem c_L_command (l : Launch) (hns : l.stackTraces = false) (D : va_G) (B : Nat) (ad : Ad) (g : GC) (σ : Me) (T : GC × Me × Int32) (o : Int64) (hI : Ib g σ) (x0 : Int32) (x1 : Int32) : Met l yL_command wsL_command ({ frames := 8, cells := 2, slots := 12, locals := 135 }) (Pre D B ad (cW D ad (g, σ) T o) [.ref (ad 4 0), .int x0, .int x1, .ref (ad 6 0)]) (Qi D B (fun r u => (cdCom g x0 x1 = 0 → u = (ad, cW D ad (g, σ) T (σ 6 (nOf x0) (nOf x1)).toInt64) ∧ r = 0) ∧ (¬ cdCom g x0 x1 = 0 → u = (ad, cW D ad (g, σ) T o) ∧ r = nI (cdCom g x0 x1)))) 2 12 (ab B) := by
  refine y_ofWH (cc := cL_command) (maxL := 5) (ret := (some .int)) (by decide) rfl ?_
  intro p e s m args below meth c s₁ Bd hml htb hv
  obtain ⟨rfl, hC, hP⟩ := hv
  have hx := Bd.exec
  have hb := Bd.bytes
  have hr := Bd.returns
  have hts := atoms_spec (ws := wsL_command) Bd.pre
  have hown : s.vm.findClass RL = some m.cls := findClass_of_methodNamed Bd.named
  have hlocks := Bd.notSynchronized
  have hS : va_S (ab B) s.heap s.heap [] := va_S.rf
  have hl := lv_entry ([.ref (ad 4 0), .int x0, .int x1, .ref (ad 6 0)]) (n := 5) (Nat.le_of_ble_eq_true rfl)
  rw [lg_entry_eq]
  generalize (lg_sl ([.ref (ad 4 0), .int x0, .int x1, .ref (ad 6 0)]) ++ List.replicate (5 - (lg_sl ([.ref (ad 4 0), .int x0, .int x1, .ref (ad 6 0)])).length) Slot.unset).toArray = ls at hl ⊢
  have hl : lv_has ls 5 [(0, .ref (ad 4 0)), (1, .int x0), (2, .int x1), (3, .ref (ad 6 0))] := hl
  refine lv_aload_n hx hb dL_command_0 rfl (lv_at hl 3 rfl) ?_
  refine lv_iconst (v := 0) hx hb dL_command_1 (by decide) ?_
  refine lv_aload_n hx hb dL_command_2 rfl (lv_at hl 0 rfl) ?_
  refine lv_iload_n hx hb dL_command_3 rfl (lv_at hl 1 rfl) ?_
  refine lv_iload_n hx hb dL_command_4 rfl (lv_at hl 2 rfl) ?_
  refine y_calli (vx_runV (As := [.int x0, .int x1]) (rest := [.int 0, .ref (ad 6 0)]) ⟨hx, hb, hml, hown, hts⟩ (c_X4_command l hns D B ad g σ T o hI x0 x1) (cwV 2 hts gL_command_X4_command rfl rfl rfl (by decide +kernel) ⟨Nat.le_of_ble_eq_true rfl, Nat.le_of_ble_eq_true rfl⟩) (w_preV hC hP hS cW_4 rfl) rfl rfl hl.1 rfl (lv_room (Nat.le_of_ble_eq_true rfl)) dL_command_5 ⟨Nat.le_of_ble_eq_true rfl, Nat.le_of_ble_eq_true rfl⟩) hS (fun E9 ce9 q9 ad1 w1 H locs hq hP hS h91 h92 h93 => ?_) (fun r_1 ad1 w1 H locs hq hP hS => ?_)
  · obtain ⟨h84, h85⟩ := hq
    cases h84
    rcases exA_2 h85 with ⟨h86, rfl⟩ | ⟨h86, rfl⟩
    · refine vx_catch (name := exIO) hown [] (⟨0, 10, 13, 25⟩ : ExceptionTableEntry) [(⟨0, 10, 17, 13⟩ : ExceptionTableEntry)] (htb.trans rfl) (fun z hz => absurd hz List.not_mem_nil) (by decide) (by decide) (hts (.classLink RL 25 exIO) (by decide +kernel)) ((hC.2.2.2.2.2.1 exIO (by decide)).use rfl) h91 h92 h93 ?_
      refine lv_astore (lv' := [(4, .ref q9), (0, .ref (ad 4 0)), (1, .int x0), (2, .int x1), (3, .ref (ad 6 0))]) hx hb dL_command_13 hl (by decide) rfl (fun ls hl => ?_)
      refine lv_iconst (v := 1) hx hb dL_command_15 (by decide) ?_
      exact W.iret (v := 1) hx hb hr (fun t ht hW => Qi_of ⟨fun z => absurd (z.symm.trans h86) (by decide), fun _ => ⟨rfl, by rw [h86]; rfl⟩⟩ hP hS ht) hS.2.2 dL_command_16
    · refine vx_catch (name := exIA) hown [(⟨0, 10, 13, 25⟩ : ExceptionTableEntry)] (⟨0, 10, 17, 13⟩ : ExceptionTableEntry) [] (htb.trans rfl) (fun z hz => by simp only [List.mem_cons, List.not_mem_nil, or_false] at hz; rcases hz with rfl; exact Or.inr ⟨by decide, exIO, hts (.classLink RL 25 exIO) (by decide +kernel), hC.2.2.2.2.2.2.1 exIA (by decide) exIO (by decide) (by decide)⟩) (by decide) (by decide) (hts (.classLink RL 13 exIA) (by decide +kernel)) ((hC.2.2.2.2.2.1 exIA (by decide)).use rfl) h91 h92 h93 ?_
      refine lv_astore (lv' := [(4, .ref q9), (0, .ref (ad 4 0)), (1, .int x0), (2, .int x1), (3, .ref (ad 6 0))]) hx hb dL_command_17 hl (by decide) rfl (fun ls hl => ?_)
      refine lv_iconst (v := 2) hx hb dL_command_19 (by decide) ?_
      exact W.iret (v := 2) hx hb hr (fun t ht hW => Qi_of ⟨fun z => absurd (z.symm.trans h86) (by decide), fun _ => ⟨rfl, by rw [h86]; rfl⟩⟩ hP hS ht) hS.2.2 dL_command_20
  · obtain ⟨h81, h82, h83⟩ := hq
    cases h81
    subst h82
    refine lv_i2l (v := (σ 6 (nOf x0) (nOf x1)).toInt64) hx hb dL_command_8 rfl ?_
    refine w_last hx hb hC hP hS cW_6 (i := 0) (by unfold vp_in; decide) dL_command_9 (fun H locs hP hS => ?_)
    have hP := hw_eq hP (pO _)
    refine lv_goto (tgt := 21) hx hb dL_command_10 (by decide) ?_
    refine lv_iconst (v := 0) hx hb dL_command_21 (by decide) ?_
    exact W.iret (v := 0) hx hb hr (fun t ht hW => Qi_of ⟨fun _ => ⟨rfl, rfl⟩, fun z => absurd h83 z⟩ hP hS ht) hS.2.2 dL_command_22
set_option maxHeartbeats 4000000 in
set_option maxRecDepth 100000 in
theorem c_L_write (l : Launch) (hns : l.stackTraces = false) (D : va_G) (B : Nat) (ad : Ad) (g : GC) (σ : Me) (T : GC × Me × Int32) (o : Int64) (hI : Ib g σ) (x0 : Int32) (x1 : Int32) (x2 : Int32) : Met l yL_write wsL_write ({ frames := 8, cells := 4, slots := 24, locals := 136 }) (Pre D B ad (cW D ad (g, σ) T o) [.ref (ad 4 0), .int x0, .int x1, .int x2, .ref (ad 6 0)]) (Qi D B (fun r u => (cdWri g σ x0 x1 x2 = 0 → u = (ad, cW D ad (g, setF g.2.1 (nOf x0) (nOf x1) x2 σ) T (vaO (setF g.2.1 (nOf x0) (nOf x1) x2 σ) (nOf x0)).toInt64) ∧ r = 0) ∧ (¬ cdWri g σ x0 x1 x2 = 0 → u = (ad, cW D ad (g, σ) T o) ∧ r = nI (cdWri g σ x0 x1 x2)))) 4 24 (ab B) := by
  refine y_ofWH (cc := cL_write) (maxL := 6) (ret := (some .int)) (by decide) rfl ?_
  intro p e s m args below meth c s₁ Bd hml htb hv
  obtain ⟨rfl, hC, hP⟩ := hv
  have hx := Bd.exec
  have hb := Bd.bytes
  have hr := Bd.returns
  have hts := atoms_spec (ws := wsL_write) Bd.pre
  have hown : s.vm.findClass RL = some m.cls := findClass_of_methodNamed Bd.named
  have hlocks := Bd.notSynchronized
  have hS : va_S (ab B) s.heap s.heap [] := va_S.rf
  have hl := lv_entry ([.ref (ad 4 0), .int x0, .int x1, .int x2, .ref (ad 6 0)]) (n := 6) (Nat.le_of_ble_eq_true rfl)
  rw [lg_entry_eq]
  generalize (lg_sl ([.ref (ad 4 0), .int x0, .int x1, .int x2, .ref (ad 6 0)]) ++ List.replicate (6 - (lg_sl ([.ref (ad 4 0), .int x0, .int x1, .int x2, .ref (ad 6 0)])).length) Slot.unset).toArray = ls at hl ⊢
  have hl : lv_has ls 6 [(0, .ref (ad 4 0)), (1, .int x0), (2, .int x1), (3, .int x2), (4, .ref (ad 6 0))] := hl
  refine lv_aload hx hb dL_write_0 (lv_at hl 4 rfl) ?_
  refine lv_iconst (v := 0) hx hb dL_write_2 (by decide) ?_
  refine lv_aload_n hx hb dL_write_3 rfl (lv_at hl 0 rfl) ?_
  refine lv_iload_n hx hb dL_write_4 rfl (lv_at hl 1 rfl) ?_
  refine lv_iload_n hx hb dL_write_5 rfl (lv_at hl 2 rfl) ?_
  refine lv_iload_n hx hb dL_write_6 rfl (lv_at hl 3 rfl) ?_
  refine y_calli (vx_runV (As := [.int x0, .int x1, .int x2]) (rest := [.int 0, .ref (ad 6 0)]) ⟨hx, hb, hml, hown, hts⟩ (c_X4_write l hns D B ad g σ T o hI x0 x1 x2) (cwV 3 hts gL_write_X4_write rfl rfl rfl (by decide +kernel) ⟨Nat.le_of_ble_eq_true rfl, Nat.le_of_ble_eq_true rfl⟩) (w_preV hC hP hS cW_4 rfl) rfl rfl hl.1 rfl (lv_room (Nat.le_of_ble_eq_true rfl)) dL_write_7 ⟨Nat.le_of_ble_eq_true rfl, Nat.le_of_ble_eq_true rfl⟩) hS (fun E9 ce9 q9 ad1 w1 H locs hq hP hS h91 h92 h93 => ?_) (fun r_1 ad1 w1 H locs hq hP hS => ?_)
  · obtain ⟨h84, h85⟩ := hq
    cases h84
    rcases exA_3 h85 with ⟨h86, rfl⟩ | ⟨h86, rfl⟩ | ⟨h86, rfl⟩
    · refine vx_catch (name := exIO) hown [] (⟨0, 12, 15, 25⟩ : ExceptionTableEntry) [(⟨0, 12, 19, 13⟩ : ExceptionTableEntry), (⟨0, 12, 23, 15⟩ : ExceptionTableEntry)] (htb.trans rfl) (fun z hz => absurd hz List.not_mem_nil) (by decide) (by decide) (hts (.classLink RL 25 exIO) (by decide +kernel)) ((hC.2.2.2.2.2.1 exIO (by decide)).use rfl) h91 h92 h93 ?_
      refine lv_astore (lv' := [(5, .ref q9), (0, .ref (ad 4 0)), (1, .int x0), (2, .int x1), (3, .int x2), (4, .ref (ad 6 0))]) hx hb dL_write_15 hl (by decide) rfl (fun ls hl => ?_)
      refine lv_iconst (v := 1) hx hb dL_write_17 (by decide) ?_
      exact W.iret (v := 1) hx hb hr (fun t ht hW => Qi_of ⟨fun z => absurd (z.symm.trans h86) (by decide), fun _ => ⟨rfl, by rw [h86]; rfl⟩⟩ hP hS ht) hS.2.2 dL_write_18
    · refine vx_catch (name := exIA) hown [(⟨0, 12, 15, 25⟩ : ExceptionTableEntry)] (⟨0, 12, 19, 13⟩ : ExceptionTableEntry) [(⟨0, 12, 23, 15⟩ : ExceptionTableEntry)] (htb.trans rfl) (fun z hz => by simp only [List.mem_cons, List.not_mem_nil, or_false] at hz; rcases hz with rfl; exact Or.inr ⟨by decide, exIO, hts (.classLink RL 25 exIO) (by decide +kernel), hC.2.2.2.2.2.2.1 exIA (by decide) exIO (by decide) (by decide)⟩) (by decide) (by decide) (hts (.classLink RL 13 exIA) (by decide +kernel)) ((hC.2.2.2.2.2.1 exIA (by decide)).use rfl) h91 h92 h93 ?_
      refine lv_astore (lv' := [(5, .ref q9), (0, .ref (ad 4 0)), (1, .int x0), (2, .int x1), (3, .int x2), (4, .ref (ad 6 0))]) hx hb dL_write_19 hl (by decide) rfl (fun ls hl => ?_)
      refine lv_iconst (v := 2) hx hb dL_write_21 (by decide) ?_
      exact W.iret (v := 2) hx hb hr (fun t ht hW => Qi_of ⟨fun z => absurd (z.symm.trans h86) (by decide), fun _ => ⟨rfl, by rw [h86]; rfl⟩⟩ hP hS ht) hS.2.2 dL_write_22
    · refine vx_catch (name := exIS) hown [(⟨0, 12, 15, 25⟩ : ExceptionTableEntry), (⟨0, 12, 19, 13⟩ : ExceptionTableEntry)] (⟨0, 12, 23, 15⟩ : ExceptionTableEntry) [] (htb.trans rfl) (fun z hz => by simp only [List.mem_cons, List.not_mem_nil, or_false] at hz; rcases hz with rfl | rfl; exact Or.inr ⟨by decide, exIO, hts (.classLink RL 25 exIO) (by decide +kernel), hC.2.2.2.2.2.2.1 exIS (by decide) exIO (by decide) (by decide)⟩; exact Or.inr ⟨by decide, exIA, hts (.classLink RL 13 exIA) (by decide +kernel), hC.2.2.2.2.2.2.1 exIS (by decide) exIA (by decide) (by decide)⟩) (by decide) (by decide) (hts (.classLink RL 15 exIS) (by decide +kernel)) ((hC.2.2.2.2.2.1 exIS (by decide)).use rfl) h91 h92 h93 ?_
      refine lv_astore (lv' := [(5, .ref q9), (0, .ref (ad 4 0)), (1, .int x0), (2, .int x1), (3, .int x2), (4, .ref (ad 6 0))]) hx hb dL_write_23 hl (by decide) rfl (fun ls hl => ?_)
      refine lv_iconst (v := 3) hx hb dL_write_25 (by decide) ?_
      exact W.iret (v := 3) hx hb hr (fun t ht hW => Qi_of ⟨fun z => absurd (z.symm.trans h86) (by decide), fun _ => ⟨rfl, by rw [h86]; rfl⟩⟩ hP hS ht) hS.2.2 dL_write_26
  · obtain ⟨h81, h82, h83⟩ := hq
    cases h81
    subst h82
    refine lv_i2l (v := (vaO (setF g.2.1 (nOf x0) (nOf x1) x2 σ) (nOf x0)).toInt64) hx hb dL_write_10 rfl ?_
    refine w_last hx hb hC hP hS cW_6 (i := 0) (by unfold vp_in; decide) dL_write_11 (fun H locs hP hS => ?_)
    have hP := hw_eq hP (pO _)
    refine lv_goto (tgt := 27) hx hb dL_write_12 (by decide) ?_
    refine lv_iconst (v := 0) hx hb dL_write_27 (by decide) ?_
    exact W.iret (v := 0) hx hb hr (fun t ht hW => Qi_of ⟨fun _ => ⟨rfl, rfl⟩, fun z => absurd h83 z⟩ hP hS ht) hS.2.2 dL_write_28
set_option maxHeartbeats 4000000 in
set_option maxRecDepth 100000 in
theorem c_L_weekly (l : Launch) (hns : l.stackTraces = false) (D : va_G) (B : Nat) (ad : Ad) (g : GC) (σ : Me) (T : GC × Me × Int32) (o : Int64) (hI : Ib g σ) (t : Nat) (ht : σ 25 0 0 = nI t) (ht2 : t ≤ 1000000) (x0 : Int32) (x1 : Int32) (x2 : Int32) (x3 : Int32) : Met l yL_weekly wsL_weekly ({ frames := 9, cells := 5, slots := 30, locals := 159 }) (Pre D B ad (cW D ad (g, σ) T o) [.ref (ad 4 0), .int x0, .int x1, .int x2, .int x3, .ref (ad 6 0)]) (Qi D B (fun r u => (cdEnt g σ 6 x0 x1 x2 x3 = 0 → u = (ad, cW D ad (g, obeF g.2.1 (nOf x0) (entM (nOf x0) x1 x2 x3 (entC (2 * nOf x0) x1 x2 x3 σ))) T (obeF g.2.1 (nOf x0) (entM (nOf x0) x1 x2 x3 (entC (2 * nOf x0) x1 x2 x3 σ)) 16 (nOf x0) 0).toInt64) ∧ r = 0) ∧ (¬ cdEnt g σ 6 x0 x1 x2 x3 = 0 → u = (ad, cW D ad (g, σ) T o) ∧ r = nI (cdEnt g σ 6 x0 x1 x2 x3)))) 5 30 (ab B) := by
  refine y_ofWH (cc := cL_weekly) (maxL := 7) (ret := (some .int)) (by decide) rfl ?_
  intro p e s m args below meth c s₁ Bd hml htb hv
  obtain ⟨rfl, hC, hP⟩ := hv
  have hx := Bd.exec
  have hb := Bd.bytes
  have hr := Bd.returns
  have hts := atoms_spec (ws := wsL_weekly) Bd.pre
  have hown : s.vm.findClass RL = some m.cls := findClass_of_methodNamed Bd.named
  have hlocks := Bd.notSynchronized
  have hS : va_S (ab B) s.heap s.heap [] := va_S.rf
  have hl := lv_entry ([.ref (ad 4 0), .int x0, .int x1, .int x2, .int x3, .ref (ad 6 0)]) (n := 7) (Nat.le_of_ble_eq_true rfl)
  rw [lg_entry_eq]
  generalize (lg_sl ([.ref (ad 4 0), .int x0, .int x1, .int x2, .int x3, .ref (ad 6 0)]) ++ List.replicate (7 - (lg_sl ([.ref (ad 4 0), .int x0, .int x1, .int x2, .int x3, .ref (ad 6 0)])).length) Slot.unset).toArray = ls at hl ⊢
  have hl : lv_has ls 7 [(0, .ref (ad 4 0)), (1, .int x0), (2, .int x1), (3, .int x2), (4, .int x3), (5, .ref (ad 6 0))] := hl
  refine lv_aload hx hb dL_weekly_0 (lv_at hl 5 rfl) ?_
  refine lv_iconst (v := 0) hx hb dL_weekly_2 (by decide) ?_
  refine lv_aload_n hx hb dL_weekly_3 rfl (lv_at hl 0 rfl) ?_
  refine lv_iload_n hx hb dL_weekly_4 rfl (lv_at hl 1 rfl) ?_
  refine lv_iload_n hx hb dL_weekly_5 rfl (lv_at hl 2 rfl) ?_
  refine lv_iload_n hx hb dL_weekly_6 rfl (lv_at hl 3 rfl) ?_
  refine lv_iload hx hb dL_weekly_7 (lv_at hl 4 rfl) ?_
  refine y_calli (vx_runV (As := [.int x0, .int x1, .int x2, .int x3]) (rest := [.int 0, .ref (ad 6 0)]) ⟨hx, hb, hml, hown, hts⟩ (c_X4_weekly l hns D B ad g σ T o hI t ht ht2 x0 x1 x2 x3) (cwV 4 hts gL_weekly_X4_weekly rfl rfl rfl (by decide +kernel) ⟨Nat.le_of_ble_eq_true rfl, Nat.le_of_ble_eq_true rfl⟩) (w_preV hC hP hS cW_4 rfl) rfl rfl hl.1 rfl (lv_room (Nat.le_of_ble_eq_true rfl)) dL_weekly_9 ⟨Nat.le_of_ble_eq_true rfl, Nat.le_of_ble_eq_true rfl⟩) hS (fun E9 ce9 q9 ad1 w1 H locs hq hP hS h91 h92 h93 => ?_) (fun r_1 ad1 w1 H locs hq hP hS => ?_)
  · obtain ⟨h84, h85⟩ := hq
    cases h84
    rcases exA_3 h85 with ⟨h86, rfl⟩ | ⟨h86, rfl⟩ | ⟨h86, rfl⟩
    · refine vx_catch (name := exIO) hown [] (⟨0, 14, 17, 25⟩ : ExceptionTableEntry) [(⟨0, 14, 21, 13⟩ : ExceptionTableEntry), (⟨0, 14, 25, 15⟩ : ExceptionTableEntry)] (htb.trans rfl) (fun z hz => absurd hz List.not_mem_nil) (by decide) (by decide) (hts (.classLink RL 25 exIO) (by decide +kernel)) ((hC.2.2.2.2.2.1 exIO (by decide)).use rfl) h91 h92 h93 ?_
      refine lv_astore (lv' := [(6, .ref q9), (0, .ref (ad 4 0)), (1, .int x0), (2, .int x1), (3, .int x2), (4, .int x3), (5, .ref (ad 6 0))]) hx hb dL_weekly_17 hl (by decide) rfl (fun ls hl => ?_)
      refine lv_iconst (v := 1) hx hb dL_weekly_19 (by decide) ?_
      exact W.iret (v := 1) hx hb hr (fun t ht hW => Qi_of ⟨fun z => absurd (z.symm.trans h86) (by decide), fun _ => ⟨rfl, by rw [h86]; rfl⟩⟩ hP hS ht) hS.2.2 dL_weekly_20
    · refine vx_catch (name := exIA) hown [(⟨0, 14, 17, 25⟩ : ExceptionTableEntry)] (⟨0, 14, 21, 13⟩ : ExceptionTableEntry) [(⟨0, 14, 25, 15⟩ : ExceptionTableEntry)] (htb.trans rfl) (fun z hz => by simp only [List.mem_cons, List.not_mem_nil, or_false] at hz; rcases hz with rfl; exact Or.inr ⟨by decide, exIO, hts (.classLink RL 25 exIO) (by decide +kernel), hC.2.2.2.2.2.2.1 exIA (by decide) exIO (by decide) (by decide)⟩) (by decide) (by decide) (hts (.classLink RL 13 exIA) (by decide +kernel)) ((hC.2.2.2.2.2.1 exIA (by decide)).use rfl) h91 h92 h93 ?_
      refine lv_astore (lv' := [(6, .ref q9), (0, .ref (ad 4 0)), (1, .int x0), (2, .int x1), (3, .int x2), (4, .int x3), (5, .ref (ad 6 0))]) hx hb dL_weekly_21 hl (by decide) rfl (fun ls hl => ?_)
      refine lv_iconst (v := 2) hx hb dL_weekly_23 (by decide) ?_
      exact W.iret (v := 2) hx hb hr (fun t ht hW => Qi_of ⟨fun z => absurd (z.symm.trans h86) (by decide), fun _ => ⟨rfl, by rw [h86]; rfl⟩⟩ hP hS ht) hS.2.2 dL_weekly_24
    · refine vx_catch (name := exIS) hown [(⟨0, 14, 17, 25⟩ : ExceptionTableEntry), (⟨0, 14, 21, 13⟩ : ExceptionTableEntry)] (⟨0, 14, 25, 15⟩ : ExceptionTableEntry) [] (htb.trans rfl) (fun z hz => by simp only [List.mem_cons, List.not_mem_nil, or_false] at hz; rcases hz with rfl | rfl; exact Or.inr ⟨by decide, exIO, hts (.classLink RL 25 exIO) (by decide +kernel), hC.2.2.2.2.2.2.1 exIS (by decide) exIO (by decide) (by decide)⟩; exact Or.inr ⟨by decide, exIA, hts (.classLink RL 13 exIA) (by decide +kernel), hC.2.2.2.2.2.2.1 exIS (by decide) exIA (by decide) (by decide)⟩) (by decide) (by decide) (hts (.classLink RL 15 exIS) (by decide +kernel)) ((hC.2.2.2.2.2.1 exIS (by decide)).use rfl) h91 h92 h93 ?_
      refine lv_astore (lv' := [(6, .ref q9), (0, .ref (ad 4 0)), (1, .int x0), (2, .int x1), (3, .int x2), (4, .int x3), (5, .ref (ad 6 0))]) hx hb dL_weekly_25 hl (by decide) rfl (fun ls hl => ?_)
      refine lv_iconst (v := 3) hx hb dL_weekly_27 (by decide) ?_
      exact W.iret (v := 3) hx hb hr (fun t ht hW => Qi_of ⟨fun z => absurd (z.symm.trans h86) (by decide), fun _ => ⟨rfl, by rw [h86]; rfl⟩⟩ hP hS ht) hS.2.2 dL_weekly_28
  · obtain ⟨h81, h82, h83⟩ := hq
    cases h81
    subst h82
    refine lv_i2l (v := (obeF g.2.1 (nOf x0) (entM (nOf x0) x1 x2 x3 (entC (2 * nOf x0) x1 x2 x3 σ)) 16 (nOf x0) 0).toInt64) hx hb dL_weekly_12 rfl ?_
    refine w_last hx hb hC hP hS cW_6 (i := 0) (by unfold vp_in; decide) dL_weekly_13 (fun H locs hP hS => ?_)
    have hP := hw_eq hP (pO _)
    refine lv_goto (tgt := 29) hx hb dL_weekly_14 (by decide) ?_
    refine lv_iconst (v := 0) hx hb dL_weekly_29 (by decide) ?_
    exact W.iret (v := 0) hx hb hr (fun t ht hW => Qi_of ⟨fun _ => ⟨rfl, rfl⟩, fun z => absurd h83 z⟩ hP hS ht) hS.2.2 dL_weekly_30
set_option maxHeartbeats 4000000 in
set_option maxRecDepth 100000 in
theorem c_L_once (l : Launch) (hns : l.stackTraces = false) (D : va_G) (B : Nat) (ad : Ad) (g : GC) (σ : Me) (T : GC × Me × Int32) (o : Int64) (hI : Ib g σ) (t : Nat) (ht : σ 25 0 0 = nI t) (ht2 : t ≤ 1000000) (x0 : Int32) (x1 : Int32) (x2 : Int32) (x3 : Int32) : Met l yL_once wsL_once ({ frames := 9, cells := 5, slots := 30, locals := 159 }) (Pre D B ad (cW D ad (g, σ) T o) [.ref (ad 4 0), .int x0, .int x1, .int x2, .int x3, .ref (ad 6 0)]) (Qi D B (fun r u => (cdEnt g σ 700 x0 x1 x2 x3 = 0 → u = (ad, cW D ad (g, obeF g.2.1 (nOf x0) (entM (nOf x0) (10 + x1) x2 x3 (entC (2 * nOf x0 + 1) x1 x2 x3 σ))) T (obeF g.2.1 (nOf x0) (entM (nOf x0) (10 + x1) x2 x3 (entC (2 * nOf x0 + 1) x1 x2 x3 σ)) 16 (nOf x0) 0).toInt64) ∧ r = 0) ∧ (¬ cdEnt g σ 700 x0 x1 x2 x3 = 0 → u = (ad, cW D ad (g, σ) T o) ∧ r = nI (cdEnt g σ 700 x0 x1 x2 x3)))) 5 30 (ab B) := by
  refine y_ofWH (cc := cL_once) (maxL := 7) (ret := (some .int)) (by decide) rfl ?_
  intro p e s m args below meth c s₁ Bd hml htb hv
  obtain ⟨rfl, hC, hP⟩ := hv
  have hx := Bd.exec
  have hb := Bd.bytes
  have hr := Bd.returns
  have hts := atoms_spec (ws := wsL_once) Bd.pre
  have hown : s.vm.findClass RL = some m.cls := findClass_of_methodNamed Bd.named
  have hlocks := Bd.notSynchronized
  have hS : va_S (ab B) s.heap s.heap [] := va_S.rf
  have hl := lv_entry ([.ref (ad 4 0), .int x0, .int x1, .int x2, .int x3, .ref (ad 6 0)]) (n := 7) (Nat.le_of_ble_eq_true rfl)
  rw [lg_entry_eq]
  generalize (lg_sl ([.ref (ad 4 0), .int x0, .int x1, .int x2, .int x3, .ref (ad 6 0)]) ++ List.replicate (7 - (lg_sl ([.ref (ad 4 0), .int x0, .int x1, .int x2, .int x3, .ref (ad 6 0)])).length) Slot.unset).toArray = ls at hl ⊢
  have hl : lv_has ls 7 [(0, .ref (ad 4 0)), (1, .int x0), (2, .int x1), (3, .int x2), (4, .int x3), (5, .ref (ad 6 0))] := hl
  refine lv_aload hx hb dL_once_0 (lv_at hl 5 rfl) ?_
  refine lv_iconst (v := 0) hx hb dL_once_2 (by decide) ?_
  refine lv_aload_n hx hb dL_once_3 rfl (lv_at hl 0 rfl) ?_
  refine lv_iload_n hx hb dL_once_4 rfl (lv_at hl 1 rfl) ?_
  refine lv_iload_n hx hb dL_once_5 rfl (lv_at hl 2 rfl) ?_
  refine lv_iload_n hx hb dL_once_6 rfl (lv_at hl 3 rfl) ?_
  refine lv_iload hx hb dL_once_7 (lv_at hl 4 rfl) ?_
  refine y_calli (vx_runV (As := [.int x0, .int x1, .int x2, .int x3]) (rest := [.int 0, .ref (ad 6 0)]) ⟨hx, hb, hml, hown, hts⟩ (c_X4_once l hns D B ad g σ T o hI t ht ht2 x0 x1 x2 x3) (cwV 4 hts gL_once_X4_once rfl rfl rfl (by decide +kernel) ⟨Nat.le_of_ble_eq_true rfl, Nat.le_of_ble_eq_true rfl⟩) (w_preV hC hP hS cW_4 rfl) rfl rfl hl.1 rfl (lv_room (Nat.le_of_ble_eq_true rfl)) dL_once_9 ⟨Nat.le_of_ble_eq_true rfl, Nat.le_of_ble_eq_true rfl⟩) hS (fun E9 ce9 q9 ad1 w1 H locs hq hP hS h91 h92 h93 => ?_) (fun r_1 ad1 w1 H locs hq hP hS => ?_)
  · obtain ⟨h84, h85⟩ := hq
    cases h84
    rcases exA_3 h85 with ⟨h86, rfl⟩ | ⟨h86, rfl⟩ | ⟨h86, rfl⟩
    · refine vx_catch (name := exIO) hown [] (⟨0, 14, 17, 25⟩ : ExceptionTableEntry) [(⟨0, 14, 21, 13⟩ : ExceptionTableEntry), (⟨0, 14, 25, 15⟩ : ExceptionTableEntry)] (htb.trans rfl) (fun z hz => absurd hz List.not_mem_nil) (by decide) (by decide) (hts (.classLink RL 25 exIO) (by decide +kernel)) ((hC.2.2.2.2.2.1 exIO (by decide)).use rfl) h91 h92 h93 ?_
      refine lv_astore (lv' := [(6, .ref q9), (0, .ref (ad 4 0)), (1, .int x0), (2, .int x1), (3, .int x2), (4, .int x3), (5, .ref (ad 6 0))]) hx hb dL_once_17 hl (by decide) rfl (fun ls hl => ?_)
      refine lv_iconst (v := 1) hx hb dL_once_19 (by decide) ?_
      exact W.iret (v := 1) hx hb hr (fun t ht hW => Qi_of ⟨fun z => absurd (z.symm.trans h86) (by decide), fun _ => ⟨rfl, by rw [h86]; rfl⟩⟩ hP hS ht) hS.2.2 dL_once_20
    · refine vx_catch (name := exIA) hown [(⟨0, 14, 17, 25⟩ : ExceptionTableEntry)] (⟨0, 14, 21, 13⟩ : ExceptionTableEntry) [(⟨0, 14, 25, 15⟩ : ExceptionTableEntry)] (htb.trans rfl) (fun z hz => by simp only [List.mem_cons, List.not_mem_nil, or_false] at hz; rcases hz with rfl; exact Or.inr ⟨by decide, exIO, hts (.classLink RL 25 exIO) (by decide +kernel), hC.2.2.2.2.2.2.1 exIA (by decide) exIO (by decide) (by decide)⟩) (by decide) (by decide) (hts (.classLink RL 13 exIA) (by decide +kernel)) ((hC.2.2.2.2.2.1 exIA (by decide)).use rfl) h91 h92 h93 ?_
      refine lv_astore (lv' := [(6, .ref q9), (0, .ref (ad 4 0)), (1, .int x0), (2, .int x1), (3, .int x2), (4, .int x3), (5, .ref (ad 6 0))]) hx hb dL_once_21 hl (by decide) rfl (fun ls hl => ?_)
      refine lv_iconst (v := 2) hx hb dL_once_23 (by decide) ?_
      exact W.iret (v := 2) hx hb hr (fun t ht hW => Qi_of ⟨fun z => absurd (z.symm.trans h86) (by decide), fun _ => ⟨rfl, by rw [h86]; rfl⟩⟩ hP hS ht) hS.2.2 dL_once_24
    · refine vx_catch (name := exIS) hown [(⟨0, 14, 17, 25⟩ : ExceptionTableEntry), (⟨0, 14, 21, 13⟩ : ExceptionTableEntry)] (⟨0, 14, 25, 15⟩ : ExceptionTableEntry) [] (htb.trans rfl) (fun z hz => by simp only [List.mem_cons, List.not_mem_nil, or_false] at hz; rcases hz with rfl | rfl; exact Or.inr ⟨by decide, exIO, hts (.classLink RL 25 exIO) (by decide +kernel), hC.2.2.2.2.2.2.1 exIS (by decide) exIO (by decide) (by decide)⟩; exact Or.inr ⟨by decide, exIA, hts (.classLink RL 13 exIA) (by decide +kernel), hC.2.2.2.2.2.2.1 exIS (by decide) exIA (by decide) (by decide)⟩) (by decide) (by decide) (hts (.classLink RL 15 exIS) (by decide +kernel)) ((hC.2.2.2.2.2.1 exIS (by decide)).use rfl) h91 h92 h93 ?_
      refine lv_astore (lv' := [(6, .ref q9), (0, .ref (ad 4 0)), (1, .int x0), (2, .int x1), (3, .int x2), (4, .int x3), (5, .ref (ad 6 0))]) hx hb dL_once_25 hl (by decide) rfl (fun ls hl => ?_)
      refine lv_iconst (v := 3) hx hb dL_once_27 (by decide) ?_
      exact W.iret (v := 3) hx hb hr (fun t ht hW => Qi_of ⟨fun z => absurd (z.symm.trans h86) (by decide), fun _ => ⟨rfl, by rw [h86]; rfl⟩⟩ hP hS ht) hS.2.2 dL_once_28
  · obtain ⟨h81, h82, h83⟩ := hq
    cases h81
    subst h82
    refine lv_i2l (v := (obeF g.2.1 (nOf x0) (entM (nOf x0) (10 + x1) x2 x3 (entC (2 * nOf x0 + 1) x1 x2 x3 σ)) 16 (nOf x0) 0).toInt64) hx hb dL_once_12 rfl ?_
    refine w_last hx hb hC hP hS cW_6 (i := 0) (by unfold vp_in; decide) dL_once_13 (fun H locs hP hS => ?_)
    have hP := hw_eq hP (pO _)
    refine lv_goto (tgt := 29) hx hb dL_once_14 (by decide) ?_
    refine lv_iconst (v := 0) hx hb dL_once_29 (by decide) ?_
    exact W.iret (v := 0) hx hb hr (fun t ht hW => Qi_of ⟨fun _ => ⟨rfl, rfl⟩, fun z => absurd h83 z⟩ hP hS ht) hS.2.2 dL_once_30
set_option maxHeartbeats 4000000 in
set_option maxRecDepth 100000 in
theorem c_L_tells (l : Launch) (hns : l.stackTraces = false) (D : va_G) (B : Nat) (ad : Ad) (g : GC) (σ : Me) (T : GC × Me × Int32) (o : Int64) (hI : Ib g σ) (x0 : Int32) (x1 : Int32) : Met l yL_tells wsL_tells ({ frames := 8, cells := 2, slots := 12, locals := 135 }) (Pre D B ad (cW D ad (g, σ) T o) [.ref (ad 4 0), .int x0, .int x1, .ref (ad 6 0)]) (Qi D B (fun r u => (cdTel g x0 x1 = 0 → u = (ad, cW D ad (g, σ) T (tolO σ (nOf x0) x1).toInt64) ∧ r = 0) ∧ (¬ cdTel g x0 x1 = 0 → u = (ad, cW D ad (g, σ) T o) ∧ r = nI (cdTel g x0 x1)))) 2 12 (ab B) := by
  refine y_ofWH (cc := cL_tells) (maxL := 5) (ret := (some .int)) (by decide) rfl ?_
  intro p e s m args below meth c s₁ Bd hml htb hv
  obtain ⟨rfl, hC, hP⟩ := hv
  have hx := Bd.exec
  have hb := Bd.bytes
  have hr := Bd.returns
  have hts := atoms_spec (ws := wsL_tells) Bd.pre
  have hown : s.vm.findClass RL = some m.cls := findClass_of_methodNamed Bd.named
  have hlocks := Bd.notSynchronized
  have hS : va_S (ab B) s.heap s.heap [] := va_S.rf
  have hl := lv_entry ([.ref (ad 4 0), .int x0, .int x1, .ref (ad 6 0)]) (n := 5) (Nat.le_of_ble_eq_true rfl)
  rw [lg_entry_eq]
  generalize (lg_sl ([.ref (ad 4 0), .int x0, .int x1, .ref (ad 6 0)]) ++ List.replicate (5 - (lg_sl ([.ref (ad 4 0), .int x0, .int x1, .ref (ad 6 0)])).length) Slot.unset).toArray = ls at hl ⊢
  have hl : lv_has ls 5 [(0, .ref (ad 4 0)), (1, .int x0), (2, .int x1), (3, .ref (ad 6 0))] := hl
  refine lv_aload_n hx hb dL_tells_0 rfl (lv_at hl 3 rfl) ?_
  refine lv_iconst (v := 0) hx hb dL_tells_1 (by decide) ?_
  refine lv_aload_n hx hb dL_tells_2 rfl (lv_at hl 0 rfl) ?_
  refine lv_iload_n hx hb dL_tells_3 rfl (lv_at hl 1 rfl) ?_
  refine lv_iload_n hx hb dL_tells_4 rfl (lv_at hl 2 rfl) ?_
  refine y_calli (vx_runV (As := [.int x0, .int x1]) (rest := [.int 0, .ref (ad 6 0)]) ⟨hx, hb, hml, hown, hts⟩ (c_X4_tells l hns D B ad g σ T o hI x0 x1) (cwV 2 hts gL_tells_X4_tells rfl rfl rfl (by decide +kernel) ⟨Nat.le_of_ble_eq_true rfl, Nat.le_of_ble_eq_true rfl⟩) (w_preV hC hP hS cW_4 rfl) rfl rfl hl.1 rfl (lv_room (Nat.le_of_ble_eq_true rfl)) dL_tells_5 ⟨Nat.le_of_ble_eq_true rfl, Nat.le_of_ble_eq_true rfl⟩) hS (fun E9 ce9 q9 ad1 w1 H locs hq hP hS h91 h92 h93 => ?_) (fun r_1 ad1 w1 H locs hq hP hS => ?_)
  · obtain ⟨h84, h85⟩ := hq
    cases h84
    rcases exA_2 h85 with ⟨h86, rfl⟩ | ⟨h86, rfl⟩
    · refine vx_catch (name := exIO) hown [] (⟨0, 10, 13, 25⟩ : ExceptionTableEntry) [(⟨0, 10, 17, 13⟩ : ExceptionTableEntry)] (htb.trans rfl) (fun z hz => absurd hz List.not_mem_nil) (by decide) (by decide) (hts (.classLink RL 25 exIO) (by decide +kernel)) ((hC.2.2.2.2.2.1 exIO (by decide)).use rfl) h91 h92 h93 ?_
      refine lv_astore (lv' := [(4, .ref q9), (0, .ref (ad 4 0)), (1, .int x0), (2, .int x1), (3, .ref (ad 6 0))]) hx hb dL_tells_13 hl (by decide) rfl (fun ls hl => ?_)
      refine lv_iconst (v := 1) hx hb dL_tells_15 (by decide) ?_
      exact W.iret (v := 1) hx hb hr (fun t ht hW => Qi_of ⟨fun z => absurd (z.symm.trans h86) (by decide), fun _ => ⟨rfl, by rw [h86]; rfl⟩⟩ hP hS ht) hS.2.2 dL_tells_16
    · refine vx_catch (name := exIA) hown [(⟨0, 10, 13, 25⟩ : ExceptionTableEntry)] (⟨0, 10, 17, 13⟩ : ExceptionTableEntry) [] (htb.trans rfl) (fun z hz => by simp only [List.mem_cons, List.not_mem_nil, or_false] at hz; rcases hz with rfl; exact Or.inr ⟨by decide, exIO, hts (.classLink RL 25 exIO) (by decide +kernel), hC.2.2.2.2.2.2.1 exIA (by decide) exIO (by decide) (by decide)⟩) (by decide) (by decide) (hts (.classLink RL 13 exIA) (by decide +kernel)) ((hC.2.2.2.2.2.1 exIA (by decide)).use rfl) h91 h92 h93 ?_
      refine lv_astore (lv' := [(4, .ref q9), (0, .ref (ad 4 0)), (1, .int x0), (2, .int x1), (3, .ref (ad 6 0))]) hx hb dL_tells_17 hl (by decide) rfl (fun ls hl => ?_)
      refine lv_iconst (v := 2) hx hb dL_tells_19 (by decide) ?_
      exact W.iret (v := 2) hx hb hr (fun t ht hW => Qi_of ⟨fun z => absurd (z.symm.trans h86) (by decide), fun _ => ⟨rfl, by rw [h86]; rfl⟩⟩ hP hS ht) hS.2.2 dL_tells_20
  · obtain ⟨h81, h82, h83⟩ := hq
    cases h81
    subst h82
    refine lv_i2l (v := (tolO σ (nOf x0) x1).toInt64) hx hb dL_tells_8 rfl ?_
    refine w_last hx hb hC hP hS cW_6 (i := 0) (by unfold vp_in; decide) dL_tells_9 (fun H locs hP hS => ?_)
    have hP := hw_eq hP (pO _)
    refine lv_goto (tgt := 21) hx hb dL_tells_10 (by decide) ?_
    refine lv_iconst (v := 0) hx hb dL_tells_21 (by decide) ?_
    exact W.iret (v := 0) hx hb hr (fun t ht hW => Qi_of ⟨fun _ => ⟨rfl, rfl⟩, fun z => absurd h83 z⟩ hP hS ht) hS.2.2 dL_tells_22
set_option maxHeartbeats 4000000 in
set_option maxRecDepth 100000 in
theorem c_L_pass (l : Launch) (hns : l.stackTraces = false) (D : va_G) (B : Nat) (ad : Ad) (g : GC) (σ : Me) (T : GC × Me × Int32) (o : Int64) (hI : Ib g σ) (t : Nat) (hR : Rs g t σ) (x0 : Int32) : Met l yL_pass wsL_pass ({ frames := 8, cells := 2, slots := 12, locals := 183 }) (Pre D B ad (cW D ad (g, σ) T o) [.ref (ad 4 0), .int x0, .ref (ad 6 0)]) (Qi D B (fun r u => (cdPas σ x0 = 0 → u = (ad, cW D ad (g, pasF g (nOf x0) σ) T (pasF g (nOf x0) σ 26 0 0 - σ 26 0 0).toInt64) ∧ r = 0) ∧ (¬ cdPas σ x0 = 0 → u = (ad, cW D ad (g, σ) T o) ∧ r = nI (cdPas σ x0)))) 2 12 (ab B) := by
  refine y_ofWH (cc := cL_pass) (maxL := 4) (ret := (some .int)) (by decide) rfl ?_
  intro p e s m args below meth c s₁ Bd hml htb hv
  obtain ⟨rfl, hC, hP⟩ := hv
  have hx := Bd.exec
  have hb := Bd.bytes
  have hr := Bd.returns
  have hts := atoms_spec (ws := wsL_pass) Bd.pre
  have hown : s.vm.findClass RL = some m.cls := findClass_of_methodNamed Bd.named
  have hlocks := Bd.notSynchronized
  have hS : va_S (ab B) s.heap s.heap [] := va_S.rf
  have hl := lv_entry ([.ref (ad 4 0), .int x0, .ref (ad 6 0)]) (n := 4) (Nat.le_of_ble_eq_true rfl)
  rw [lg_entry_eq]
  generalize (lg_sl ([.ref (ad 4 0), .int x0, .ref (ad 6 0)]) ++ List.replicate (4 - (lg_sl ([.ref (ad 4 0), .int x0, .ref (ad 6 0)])).length) Slot.unset).toArray = ls at hl ⊢
  have hl : lv_has ls 4 [(0, .ref (ad 4 0)), (1, .int x0), (2, .ref (ad 6 0))] := hl
  refine lv_aload_n hx hb dL_pass_0 rfl (lv_at hl 2 rfl) ?_
  refine lv_iconst (v := 0) hx hb dL_pass_1 (by decide) ?_
  refine lv_aload_n hx hb dL_pass_2 rfl (lv_at hl 0 rfl) ?_
  refine lv_iload_n hx hb dL_pass_3 rfl (lv_at hl 1 rfl) ?_
  refine y_calli (vx_runV (As := [.int x0]) (rest := [.int 0, .ref (ad 6 0)]) ⟨hx, hb, hml, hown, hts⟩ (c_X4_pass l hns D B ad g σ T o hI t hR x0) (cwV 1 hts gL_pass_X4_pass rfl rfl rfl (by decide +kernel) ⟨Nat.le_of_ble_eq_true rfl, Nat.le_of_ble_eq_true rfl⟩) (w_preV hC hP hS cW_4 rfl) rfl rfl hl.1 rfl (lv_room (Nat.le_of_ble_eq_true rfl)) dL_pass_4 ⟨Nat.le_of_ble_eq_true rfl, Nat.le_of_ble_eq_true rfl⟩) hS (fun E9 ce9 q9 ad1 w1 H locs hq hP hS h91 h92 h93 => ?_) (fun r_1 ad1 w1 H locs hq hP hS => ?_)
  · obtain ⟨h84, h85⟩ := hq
    cases h84
    rcases exA_2 h85 with ⟨h86, rfl⟩ | ⟨h86, rfl⟩
    · refine vx_catch (name := exIA) hown [] (⟨0, 9, 12, 13⟩ : ExceptionTableEntry) [(⟨0, 9, 15, 15⟩ : ExceptionTableEntry)] (htb.trans rfl) (fun z hz => absurd hz List.not_mem_nil) (by decide) (by decide) (hts (.classLink RL 13 exIA) (by decide +kernel)) ((hC.2.2.2.2.2.1 exIA (by decide)).use rfl) h91 h92 h93 ?_
      refine lv_astore_n (lv' := [(3, .ref q9), (0, .ref (ad 4 0)), (1, .int x0), (2, .ref (ad 6 0))]) hx hb dL_pass_12 rfl hl (by decide) rfl (fun ls hl => ?_)
      refine lv_iconst (v := 1) hx hb dL_pass_13 (by decide) ?_
      exact W.iret (v := 1) hx hb hr (fun t ht hW => Qi_of ⟨fun z => absurd (z.symm.trans h86) (by decide), fun _ => ⟨rfl, by rw [h86]; rfl⟩⟩ hP hS ht) hS.2.2 dL_pass_14
    · refine vx_catch (name := exIS) hown [(⟨0, 9, 12, 13⟩ : ExceptionTableEntry)] (⟨0, 9, 15, 15⟩ : ExceptionTableEntry) [] (htb.trans rfl) (fun z hz => by simp only [List.mem_cons, List.not_mem_nil, or_false] at hz; rcases hz with rfl; exact Or.inr ⟨by decide, exIA, hts (.classLink RL 13 exIA) (by decide +kernel), hC.2.2.2.2.2.2.1 exIS (by decide) exIA (by decide) (by decide)⟩) (by decide) (by decide) (hts (.classLink RL 15 exIS) (by decide +kernel)) ((hC.2.2.2.2.2.1 exIS (by decide)).use rfl) h91 h92 h93 ?_
      refine lv_astore_n (lv' := [(3, .ref q9), (0, .ref (ad 4 0)), (1, .int x0), (2, .ref (ad 6 0))]) hx hb dL_pass_15 rfl hl (by decide) rfl (fun ls hl => ?_)
      refine lv_iconst (v := 2) hx hb dL_pass_16 (by decide) ?_
      exact W.iret (v := 2) hx hb hr (fun t ht hW => Qi_of ⟨fun z => absurd (z.symm.trans h86) (by decide), fun _ => ⟨rfl, by rw [h86]; rfl⟩⟩ hP hS ht) hS.2.2 dL_pass_17
  · obtain ⟨h81, h82, h83⟩ := hq
    cases h81
    subst h82
    refine lv_i2l (v := (pasF g (nOf x0) σ 26 0 0 - σ 26 0 0).toInt64) hx hb dL_pass_7 rfl ?_
    refine w_last hx hb hC hP hS cW_6 (i := 0) (by unfold vp_in; decide) dL_pass_8 (fun H locs hP hS => ?_)
    have hP := hw_eq hP (pO _)
    refine lv_goto (tgt := 18) hx hb dL_pass_9 (by decide) ?_
    refine lv_iconst (v := 0) hx hb dL_pass_18 (by decide) ?_
    exact W.iret (v := 0) hx hb hr (fun t ht hW => Qi_of ⟨fun _ => ⟨rfl, rfl⟩, fun z => absurd h83 z⟩ hP hS ht) hS.2.2 dL_pass_19
