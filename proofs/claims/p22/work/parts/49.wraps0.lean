/-! the law's calls of the class, where they do not throw -/
set_option maxHeartbeats 4000000 in
set_option maxRecDepth 100000 in
theorem c0_L_value (l : Launch) (hns : l.stackTraces = false) (D : va_G) (B : Nat) (ad : Ad) (g : GC) (σ : Me) (T : Wd) (o : Int64) (hI : Ib g σ) (i : Nat) (hi : i < g.1) : Met l yL_value wsL_value ({ frames := 2, cells := 0, slots := 0, locals := 42 }) (Pre D B ad (cW D ad (g, σ) T o) [.ref (ad 4 0), .int (nI i)]) (Qi D B (fun r u => ∃ S2 : SM, u = (ad, cW D ad S2 T o) ∧ S2 = (g, σ) ∧ r = vaO σ i)) 0 0 (ab B) := by
  refine y_ofWH (cc := cL_value) (maxL := 3) (ret := (some .int)) (by decide) rfl ?_
  intro p e s m args below meth c s₁ Bd hml htb hv
  obtain ⟨rfl, hC, hP⟩ := hv
  have hx := Bd.exec
  have hb := Bd.bytes
  have hr := Bd.returns
  have hts := atoms_spec (ws := wsL_value) Bd.pre
  have hown : s.vm.findClass RL = some m.cls := findClass_of_methodNamed Bd.named
  have hlocks := Bd.notSynchronized
  have hS : va_S (ab B) s.heap s.heap [] := va_S.rf
  have hl := lv_entry ([.ref (ad 4 0), .int (nI i)]) (n := 3) (Nat.le_of_ble_eq_true rfl)
  rw [lg_entry_eq]
  generalize (lg_sl ([.ref (ad 4 0), .int (nI i)]) ++ List.replicate (3 - (lg_sl ([.ref (ad 4 0), .int (nI i)])).length) Slot.unset).toArray = ls at hl ⊢
  have hl : lv_has ls 3 [(0, .ref (ad 4 0)), (1, .int (nI i))] := hl
  refine lv_aload_n hx hb dL_value_0 rfl (lv_at hl 0 rfl) ?_
  refine lv_iload_n hx hb dL_value_1 rfl (lv_at hl 1 rfl) ?_
  refine y_calli (vx_runV (As := [.int (nI i)]) (rest := []) ⟨hx, hb, hml, hown, hts⟩ (c0_X4_value l hns D B ad g σ T o hI i hi) (cwV 1 hts gL_value_X4_value rfl rfl rfl (by decide +kernel) ⟨Nat.le_of_ble_eq_true rfl, Nat.le_of_ble_eq_true rfl⟩) (w_preV hC hP hS cW_4 rfl) rfl rfl hl.1 rfl (lv_room (Nat.le_of_ble_eq_true rfl)) dL_value_2 ⟨Nat.le_of_ble_eq_true rfl, Nat.le_of_ble_eq_true rfl⟩) hS (fun E9 ce9 q9 ad1 w1 H locs hq hP hS h91 h92 h93 => ?_) (fun r_1 ad1 w1 H locs hq hP hS => ?_)
  · exact hq.elim
  · obtain ⟨h81, h82⟩ := hq
    cases h81
    subst h82
    exact W.iret (v := (vaO σ i)) hx hb hr (fun t ht hW => Qi_of ⟨_, rfl, rfl, rfl⟩ hP hS ht) hS.2.2 dL_value_5
theorem t0_L_value (l : Launch) (hns : l.stackTraces = false) (D : va_G) (B : Nat) (ad : Ad) (g : GC) (σ : Me) (S : SM) (L : Wd) (hI : Ib g σ) (i : Nat) (hi : i < g.1) : Met l yL_value wsL_value ({ frames := 2, cells := 0, slots := 0, locals := 42 }) (Pre D B ad (eW D ad S (g, σ) L) [.ref (ad 17 0), .int (nI i)]) (Qi D B (fun r u => ∃ S2 : SM, u = (ad, eW D ad S S2 L) ∧ S2 = (g, σ) ∧ r = vaO σ i)) 0 0 (ab B) :=
  met_swi (X := fun r S2 => S2 = (g, σ) ∧ r = vaO σ i) (c0_L_value l hns D B (sA ad) g σ (tW D (sA ad) S L) 0 hI i hi)
set_option maxHeartbeats 4000000 in
set_option maxRecDepth 100000 in
theorem c0_L_standing (l : Launch) (hns : l.stackTraces = false) (D : va_G) (B : Nat) (ad : Ad) (g : GC) (σ : Me) (T : Wd) (o : Int64) (hI : Ib g σ) (i : Nat) (hi : i < g.1) : Met l yL_standing wsL_standing ({ frames := 2, cells := 0, slots := 0, locals := 42 }) (Pre D B ad (cW D ad (g, σ) T o) [.ref (ad 4 0), .int (nI i)]) (Qi D B (fun r u => ∃ S2 : SM, u = (ad, cW D ad S2 T o) ∧ S2 = (g, σ) ∧ r = nI (stO σ i))) 0 0 (ab B) := by
  refine y_ofWH (cc := cL_standing) (maxL := 3) (ret := (some .int)) (by decide) rfl ?_
  intro p e s m args below meth c s₁ Bd hml htb hv
  obtain ⟨rfl, hC, hP⟩ := hv
  have hx := Bd.exec
  have hb := Bd.bytes
  have hr := Bd.returns
  have hts := atoms_spec (ws := wsL_standing) Bd.pre
  have hown : s.vm.findClass RL = some m.cls := findClass_of_methodNamed Bd.named
  have hlocks := Bd.notSynchronized
  have hS : va_S (ab B) s.heap s.heap [] := va_S.rf
  have hl := lv_entry ([.ref (ad 4 0), .int (nI i)]) (n := 3) (Nat.le_of_ble_eq_true rfl)
  rw [lg_entry_eq]
  generalize (lg_sl ([.ref (ad 4 0), .int (nI i)]) ++ List.replicate (3 - (lg_sl ([.ref (ad 4 0), .int (nI i)])).length) Slot.unset).toArray = ls at hl ⊢
  have hl : lv_has ls 3 [(0, .ref (ad 4 0)), (1, .int (nI i))] := hl
  refine lv_aload_n hx hb dL_standing_0 rfl (lv_at hl 0 rfl) ?_
  refine lv_iload_n hx hb dL_standing_1 rfl (lv_at hl 1 rfl) ?_
  refine y_calli (vx_runV (As := [.int (nI i)]) (rest := []) ⟨hx, hb, hml, hown, hts⟩ (c0_X4_standing l hns D B ad g σ T o hI i hi) (cwV 1 hts gL_standing_X4_standing rfl rfl rfl (by decide +kernel) ⟨Nat.le_of_ble_eq_true rfl, Nat.le_of_ble_eq_true rfl⟩) (w_preV hC hP hS cW_4 rfl) rfl rfl hl.1 rfl (lv_room (Nat.le_of_ble_eq_true rfl)) dL_standing_2 ⟨Nat.le_of_ble_eq_true rfl, Nat.le_of_ble_eq_true rfl⟩) hS (fun E9 ce9 q9 ad1 w1 H locs hq hP hS h91 h92 h93 => ?_) (fun r_1 ad1 w1 H locs hq hP hS => ?_)
  · exact hq.elim
  · obtain ⟨h81, h82⟩ := hq
    cases h81
    subst h82
    exact W.iret (v := (nI (stO σ i))) hx hb hr (fun t ht hW => Qi_of ⟨_, rfl, rfl, rfl⟩ hP hS ht) hS.2.2 dL_standing_5
theorem t0_L_standing (l : Launch) (hns : l.stackTraces = false) (D : va_G) (B : Nat) (ad : Ad) (g : GC) (σ : Me) (S : SM) (L : Wd) (hI : Ib g σ) (i : Nat) (hi : i < g.1) : Met l yL_standing wsL_standing ({ frames := 2, cells := 0, slots := 0, locals := 42 }) (Pre D B ad (eW D ad S (g, σ) L) [.ref (ad 17 0), .int (nI i)]) (Qi D B (fun r u => ∃ S2 : SM, u = (ad, eW D ad S S2 L) ∧ S2 = (g, σ) ∧ r = nI (stO σ i))) 0 0 (ab B) :=
  met_swi (X := fun r S2 => S2 = (g, σ) ∧ r = nI (stO σ i)) (c0_L_standing l hns D B (sA ad) g σ (tW D (sA ad) S L) 0 hI i hi)
set_option maxHeartbeats 4000000 in
set_option maxRecDepth 100000 in
theorem c0_L_changes (l : Launch) (hns : l.stackTraces = false) (D : va_G) (B : Nat) (ad : Ad) (g : GC) (σ : Me) (T : Wd) (o : Int64) (hI : Ib g σ) (i : Nat) (hi : i < g.1) : Met l yL_changes wsL_changes ({ frames := 2, cells := 0, slots := 0, locals := 42 }) (Pre D B ad (cW D ad (g, σ) T o) [.ref (ad 4 0), .int (nI i)]) (Qi D B (fun r u => ∃ S2 : SM, u = (ad, cW D ad S2 T o) ∧ S2 = (g, σ) ∧ r = σ 5 i 0)) 0 0 (ab B) := by
  refine y_ofWH (cc := cL_changes) (maxL := 3) (ret := (some .int)) (by decide) rfl ?_
  intro p e s m args below meth c s₁ Bd hml htb hv
  obtain ⟨rfl, hC, hP⟩ := hv
  have hx := Bd.exec
  have hb := Bd.bytes
  have hr := Bd.returns
  have hts := atoms_spec (ws := wsL_changes) Bd.pre
  have hown : s.vm.findClass RL = some m.cls := findClass_of_methodNamed Bd.named
  have hlocks := Bd.notSynchronized
  have hS : va_S (ab B) s.heap s.heap [] := va_S.rf
  have hl := lv_entry ([.ref (ad 4 0), .int (nI i)]) (n := 3) (Nat.le_of_ble_eq_true rfl)
  rw [lg_entry_eq]
  generalize (lg_sl ([.ref (ad 4 0), .int (nI i)]) ++ List.replicate (3 - (lg_sl ([.ref (ad 4 0), .int (nI i)])).length) Slot.unset).toArray = ls at hl ⊢
  have hl : lv_has ls 3 [(0, .ref (ad 4 0)), (1, .int (nI i))] := hl
  refine lv_aload_n hx hb dL_changes_0 rfl (lv_at hl 0 rfl) ?_
  refine lv_iload_n hx hb dL_changes_1 rfl (lv_at hl 1 rfl) ?_
  refine y_calli (vx_runV (As := [.int (nI i)]) (rest := []) ⟨hx, hb, hml, hown, hts⟩ (c0_X4_changes l hns D B ad g σ T o hI i hi) (cwV 1 hts gL_changes_X4_changes rfl rfl rfl (by decide +kernel) ⟨Nat.le_of_ble_eq_true rfl, Nat.le_of_ble_eq_true rfl⟩) (w_preV hC hP hS cW_4 rfl) rfl rfl hl.1 rfl (lv_room (Nat.le_of_ble_eq_true rfl)) dL_changes_2 ⟨Nat.le_of_ble_eq_true rfl, Nat.le_of_ble_eq_true rfl⟩) hS (fun E9 ce9 q9 ad1 w1 H locs hq hP hS h91 h92 h93 => ?_) (fun r_1 ad1 w1 H locs hq hP hS => ?_)
  · exact hq.elim
  · obtain ⟨h81, h82⟩ := hq
    cases h81
    subst h82
    exact W.iret (v := (σ 5 i 0)) hx hb hr (fun t ht hW => Qi_of ⟨_, rfl, rfl, rfl⟩ hP hS ht) hS.2.2 dL_changes_5
theorem t0_L_changes (l : Launch) (hns : l.stackTraces = false) (D : va_G) (B : Nat) (ad : Ad) (g : GC) (σ : Me) (S : SM) (L : Wd) (hI : Ib g σ) (i : Nat) (hi : i < g.1) : Met l yL_changes wsL_changes ({ frames := 2, cells := 0, slots := 0, locals := 42 }) (Pre D B ad (eW D ad S (g, σ) L) [.ref (ad 17 0), .int (nI i)]) (Qi D B (fun r u => ∃ S2 : SM, u = (ad, eW D ad S S2 L) ∧ S2 = (g, σ) ∧ r = σ 5 i 0)) 0 0 (ab B) :=
  met_swi (X := fun r S2 => S2 = (g, σ) ∧ r = σ 5 i 0) (c0_L_changes l hns D B (sA ad) g σ (tW D (sA ad) S L) 0 hI i hi)
set_option maxHeartbeats 4000000 in
set_option maxRecDepth 100000 in
theorem c0_L_reports (l : Launch) (hns : l.stackTraces = false) (D : va_G) (B : Nat) (ad : Ad) (g : GC) (σ : Me) (T : Wd) (o : Int64) (hI : Ib g σ) (i : Nat) (hi : i < g.2.1) : Met l yL_reports wsL_reports ({ frames := 2, cells := 0, slots := 0, locals := 42 }) (Pre D B ad (cW D ad (g, σ) T o) [.ref (ad 4 0), .int (nI i)]) (Qi D B (fun r u => ∃ S2 : SM, u = (ad, cW D ad S2 T o) ∧ S2 = (g, σ) ∧ r = σ 12 i 0)) 0 0 (ab B) := by
  refine y_ofWH (cc := cL_reports) (maxL := 3) (ret := (some .int)) (by decide) rfl ?_
  intro p e s m args below meth c s₁ Bd hml htb hv
  obtain ⟨rfl, hC, hP⟩ := hv
  have hx := Bd.exec
  have hb := Bd.bytes
  have hr := Bd.returns
  have hts := atoms_spec (ws := wsL_reports) Bd.pre
  have hown : s.vm.findClass RL = some m.cls := findClass_of_methodNamed Bd.named
  have hlocks := Bd.notSynchronized
  have hS : va_S (ab B) s.heap s.heap [] := va_S.rf
  have hl := lv_entry ([.ref (ad 4 0), .int (nI i)]) (n := 3) (Nat.le_of_ble_eq_true rfl)
  rw [lg_entry_eq]
  generalize (lg_sl ([.ref (ad 4 0), .int (nI i)]) ++ List.replicate (3 - (lg_sl ([.ref (ad 4 0), .int (nI i)])).length) Slot.unset).toArray = ls at hl ⊢
  have hl : lv_has ls 3 [(0, .ref (ad 4 0)), (1, .int (nI i))] := hl
  refine lv_aload_n hx hb dL_reports_0 rfl (lv_at hl 0 rfl) ?_
  refine lv_iload_n hx hb dL_reports_1 rfl (lv_at hl 1 rfl) ?_
  refine y_calli (vx_runV (As := [.int (nI i)]) (rest := []) ⟨hx, hb, hml, hown, hts⟩ (c0_X4_reports l hns D B ad g σ T o hI i hi) (cwV 1 hts gL_reports_X4_reports rfl rfl rfl (by decide +kernel) ⟨Nat.le_of_ble_eq_true rfl, Nat.le_of_ble_eq_true rfl⟩) (w_preV hC hP hS cW_4 rfl) rfl rfl hl.1 rfl (lv_room (Nat.le_of_ble_eq_true rfl)) dL_reports_2 ⟨Nat.le_of_ble_eq_true rfl, Nat.le_of_ble_eq_true rfl⟩) hS (fun E9 ce9 q9 ad1 w1 H locs hq hP hS h91 h92 h93 => ?_) (fun r_1 ad1 w1 H locs hq hP hS => ?_)
  · exact hq.elim
  · obtain ⟨h81, h82⟩ := hq
    cases h81
    subst h82
    exact W.iret (v := (σ 12 i 0)) hx hb hr (fun t ht hW => Qi_of ⟨_, rfl, rfl, rfl⟩ hP hS ht) hS.2.2 dL_reports_5
theorem t0_L_reports (l : Launch) (hns : l.stackTraces = false) (D : va_G) (B : Nat) (ad : Ad) (g : GC) (σ : Me) (S : SM) (L : Wd) (hI : Ib g σ) (i : Nat) (hi : i < g.2.1) : Met l yL_reports wsL_reports ({ frames := 2, cells := 0, slots := 0, locals := 42 }) (Pre D B ad (eW D ad S (g, σ) L) [.ref (ad 17 0), .int (nI i)]) (Qi D B (fun r u => ∃ S2 : SM, u = (ad, eW D ad S S2 L) ∧ S2 = (g, σ) ∧ r = σ 12 i 0)) 0 0 (ab B) :=
  met_swi (X := fun r S2 => S2 = (g, σ) ∧ r = σ 12 i 0) (c0_L_reports l hns D B (sA ad) g σ (tW D (sA ad) S L) 0 hI i hi)
set_option maxHeartbeats 4000000 in
set_option maxRecDepth 100000 in
theorem c0_L_reported (l : Launch) (hns : l.stackTraces = false) (D : va_G) (B : Nat) (ad : Ad) (g : GC) (σ : Me) (T : Wd) (o : Int64) (hI : Ib g σ) (i : Nat) (hi : i < g.2.1) : Met l yL_reported wsL_reported ({ frames := 2, cells := 0, slots := 0, locals := 42 }) (Pre D B ad (cW D ad (g, σ) T o) [.ref (ad 4 0), .int (nI i)]) (Qi D B (fun r u => ∃ S2 : SM, u = (ad, cW D ad S2 T o) ∧ S2 = (g, σ) ∧ r = σ 13 i 0)) 0 0 (ab B) := by
  refine y_ofWH (cc := cL_reported) (maxL := 3) (ret := (some .int)) (by decide) rfl ?_
  intro p e s m args below meth c s₁ Bd hml htb hv
  obtain ⟨rfl, hC, hP⟩ := hv
  have hx := Bd.exec
  have hb := Bd.bytes
  have hr := Bd.returns
  have hts := atoms_spec (ws := wsL_reported) Bd.pre
  have hown : s.vm.findClass RL = some m.cls := findClass_of_methodNamed Bd.named
  have hlocks := Bd.notSynchronized
  have hS : va_S (ab B) s.heap s.heap [] := va_S.rf
  have hl := lv_entry ([.ref (ad 4 0), .int (nI i)]) (n := 3) (Nat.le_of_ble_eq_true rfl)
  rw [lg_entry_eq]
  generalize (lg_sl ([.ref (ad 4 0), .int (nI i)]) ++ List.replicate (3 - (lg_sl ([.ref (ad 4 0), .int (nI i)])).length) Slot.unset).toArray = ls at hl ⊢
  have hl : lv_has ls 3 [(0, .ref (ad 4 0)), (1, .int (nI i))] := hl
  refine lv_aload_n hx hb dL_reported_0 rfl (lv_at hl 0 rfl) ?_
  refine lv_iload_n hx hb dL_reported_1 rfl (lv_at hl 1 rfl) ?_
  refine y_calli (vx_runV (As := [.int (nI i)]) (rest := []) ⟨hx, hb, hml, hown, hts⟩ (c0_X4_reported l hns D B ad g σ T o hI i hi) (cwV 1 hts gL_reported_X4_reported rfl rfl rfl (by decide +kernel) ⟨Nat.le_of_ble_eq_true rfl, Nat.le_of_ble_eq_true rfl⟩) (w_preV hC hP hS cW_4 rfl) rfl rfl hl.1 rfl (lv_room (Nat.le_of_ble_eq_true rfl)) dL_reported_2 ⟨Nat.le_of_ble_eq_true rfl, Nat.le_of_ble_eq_true rfl⟩) hS (fun E9 ce9 q9 ad1 w1 H locs hq hP hS h91 h92 h93 => ?_) (fun r_1 ad1 w1 H locs hq hP hS => ?_)
  · exact hq.elim
  · obtain ⟨h81, h82⟩ := hq
    cases h81
    subst h82
    exact W.iret (v := (σ 13 i 0)) hx hb hr (fun t ht hW => Qi_of ⟨_, rfl, rfl, rfl⟩ hP hS ht) hS.2.2 dL_reported_5
theorem t0_L_reported (l : Launch) (hns : l.stackTraces = false) (D : va_G) (B : Nat) (ad : Ad) (g : GC) (σ : Me) (S : SM) (L : Wd) (hI : Ib g σ) (i : Nat) (hi : i < g.2.1) : Met l yL_reported wsL_reported ({ frames := 2, cells := 0, slots := 0, locals := 42 }) (Pre D B ad (eW D ad S (g, σ) L) [.ref (ad 17 0), .int (nI i)]) (Qi D B (fun r u => ∃ S2 : SM, u = (ad, eW D ad S S2 L) ∧ S2 = (g, σ) ∧ r = σ 13 i 0)) 0 0 (ab B) :=
  met_swi (X := fun r S2 => S2 = (g, σ) ∧ r = σ 13 i 0) (c0_L_reported l hns D B (sA ad) g σ (tW D (sA ad) S L) 0 hI i hi)
set_option maxHeartbeats 4000000 in
set_option maxRecDepth 100000 in
theorem c0_L_held (l : Launch) (hns : l.stackTraces = false) (D : va_G) (B : Nat) (ad : Ad) (g : GC) (σ : Me) (T : Wd) (o : Int64) (hI : Ib g σ) (i : Nat) (hi : i < g.1) : Met l yL_held wsL_held ({ frames := 2, cells := 0, slots := 0, locals := 43 }) (Pre D B ad (cW D ad (g, σ) T o) [.ref (ad 4 0), .int (nI i)]) (Qi D B (fun r u => ∃ S2 : SM, u = (ad, cW D ad S2 T o) ∧ S2 = (g, σ) ∧ r = (if σ 4 i 0 = 0 then 0 else σ 4 i 0 - σ 25 0 0))) 0 0 (ab B) := by
  refine y_ofWH (cc := cL_held) (maxL := 3) (ret := (some .int)) (by decide) rfl ?_
  intro p e s m args below meth c s₁ Bd hml htb hv
  obtain ⟨rfl, hC, hP⟩ := hv
  have hx := Bd.exec
  have hb := Bd.bytes
  have hr := Bd.returns
  have hts := atoms_spec (ws := wsL_held) Bd.pre
  have hown : s.vm.findClass RL = some m.cls := findClass_of_methodNamed Bd.named
  have hlocks := Bd.notSynchronized
  have hS : va_S (ab B) s.heap s.heap [] := va_S.rf
  have hl := lv_entry ([.ref (ad 4 0), .int (nI i)]) (n := 3) (Nat.le_of_ble_eq_true rfl)
  rw [lg_entry_eq]
  generalize (lg_sl ([.ref (ad 4 0), .int (nI i)]) ++ List.replicate (3 - (lg_sl ([.ref (ad 4 0), .int (nI i)])).length) Slot.unset).toArray = ls at hl ⊢
  have hl : lv_has ls 3 [(0, .ref (ad 4 0)), (1, .int (nI i))] := hl
  refine lv_aload_n hx hb dL_held_0 rfl (lv_at hl 0 rfl) ?_
  refine lv_iload_n hx hb dL_held_1 rfl (lv_at hl 1 rfl) ?_
  refine y_calli (vx_runV (As := [.int (nI i)]) (rest := []) ⟨hx, hb, hml, hown, hts⟩ (c0_X4_held l hns D B ad g σ T o hI i hi) (cwV 1 hts gL_held_X4_held rfl rfl rfl (by decide +kernel) ⟨Nat.le_of_ble_eq_true rfl, Nat.le_of_ble_eq_true rfl⟩) (w_preV hC hP hS cW_4 rfl) rfl rfl hl.1 rfl (lv_room (Nat.le_of_ble_eq_true rfl)) dL_held_2 ⟨Nat.le_of_ble_eq_true rfl, Nat.le_of_ble_eq_true rfl⟩) hS (fun E9 ce9 q9 ad1 w1 H locs hq hP hS h91 h92 h93 => ?_) (fun r_1 ad1 w1 H locs hq hP hS => ?_)
  · exact hq.elim
  · obtain ⟨h81, h82⟩ := hq
    cases h81
    subst h82
    exact W.iret (v := (if σ 4 i 0 = 0 then 0 else σ 4 i 0 - σ 25 0 0)) hx hb hr (fun t ht hW => Qi_of ⟨_, rfl, rfl, rfl⟩ hP hS ht) hS.2.2 dL_held_5
theorem t0_L_held (l : Launch) (hns : l.stackTraces = false) (D : va_G) (B : Nat) (ad : Ad) (g : GC) (σ : Me) (S : SM) (L : Wd) (hI : Ib g σ) (i : Nat) (hi : i < g.1) : Met l yL_held wsL_held ({ frames := 2, cells := 0, slots := 0, locals := 43 }) (Pre D B ad (eW D ad S (g, σ) L) [.ref (ad 17 0), .int (nI i)]) (Qi D B (fun r u => ∃ S2 : SM, u = (ad, eW D ad S S2 L) ∧ S2 = (g, σ) ∧ r = (if σ 4 i 0 = 0 then 0 else σ 4 i 0 - σ 25 0 0))) 0 0 (ab B) :=
  met_swi (X := fun r S2 => S2 = (g, σ) ∧ r = (if σ 4 i 0 = 0 then 0 else σ 4 i 0 - σ 25 0 0)) (c0_L_held l hns D B (sA ad) g σ (tW D (sA ad) S L) 0 hI i hi)
set_option maxHeartbeats 4000000 in
set_option maxRecDepth 100000 in
theorem c0_L_command (l : Launch) (hns : l.stackTraces = false) (D : va_G) (B : Nat) (ad : Ad) (g : GC) (σ : Me) (T : Wd) (o : Int64) (hI : Ib g σ) (i : Nat) (hi : i < g.1) (j : Nat) (hj1 : 1 ≤ j) (hj2 : j ≤ 16) : Met l yL_command wsL_command ({ frames := 2, cells := 0, slots := 0, locals := 45 }) (Pre D B ad (cW D ad (g, σ) T o) [.ref (ad 4 0), .int (nI i), .int (nI j)]) (Qi D B (fun r u => ∃ S2 : SM, u = (ad, cW D ad S2 T o) ∧ S2 = (g, σ) ∧ r = σ 6 i j)) 0 0 (ab B) := by
  refine y_ofWH (cc := cL_command) (maxL := 4) (ret := (some .int)) (by decide) rfl ?_
  intro p e s m args below meth c s₁ Bd hml htb hv
  obtain ⟨rfl, hC, hP⟩ := hv
  have hx := Bd.exec
  have hb := Bd.bytes
  have hr := Bd.returns
  have hts := atoms_spec (ws := wsL_command) Bd.pre
  have hown : s.vm.findClass RL = some m.cls := findClass_of_methodNamed Bd.named
  have hlocks := Bd.notSynchronized
  have hS : va_S (ab B) s.heap s.heap [] := va_S.rf
  have hl := lv_entry ([.ref (ad 4 0), .int (nI i), .int (nI j)]) (n := 4) (Nat.le_of_ble_eq_true rfl)
  rw [lg_entry_eq]
  generalize (lg_sl ([.ref (ad 4 0), .int (nI i), .int (nI j)]) ++ List.replicate (4 - (lg_sl ([.ref (ad 4 0), .int (nI i), .int (nI j)])).length) Slot.unset).toArray = ls at hl ⊢
  have hl : lv_has ls 4 [(0, .ref (ad 4 0)), (1, .int (nI i)), (2, .int (nI j))] := hl
  refine lv_aload_n hx hb dL_command_0 rfl (lv_at hl 0 rfl) ?_
  refine lv_iload_n hx hb dL_command_1 rfl (lv_at hl 1 rfl) ?_
  refine lv_iload_n hx hb dL_command_2 rfl (lv_at hl 2 rfl) ?_
  refine y_calli (vx_runV (As := [.int (nI i), .int (nI j)]) (rest := []) ⟨hx, hb, hml, hown, hts⟩ (c0_X4_command l hns D B ad g σ T o hI i hi j hj1 hj2) (cwV 2 hts gL_command_X4_command rfl rfl rfl (by decide +kernel) ⟨Nat.le_of_ble_eq_true rfl, Nat.le_of_ble_eq_true rfl⟩) (w_preV hC hP hS cW_4 rfl) rfl rfl hl.1 rfl (lv_room (Nat.le_of_ble_eq_true rfl)) dL_command_3 ⟨Nat.le_of_ble_eq_true rfl, Nat.le_of_ble_eq_true rfl⟩) hS (fun E9 ce9 q9 ad1 w1 H locs hq hP hS h91 h92 h93 => ?_) (fun r_1 ad1 w1 H locs hq hP hS => ?_)
  · exact hq.elim
  · obtain ⟨h81, h82⟩ := hq
    cases h81
    subst h82
    exact W.iret (v := (σ 6 i j)) hx hb hr (fun t ht hW => Qi_of ⟨_, rfl, rfl, rfl⟩ hP hS ht) hS.2.2 dL_command_6
theorem t0_L_command (l : Launch) (hns : l.stackTraces = false) (D : va_G) (B : Nat) (ad : Ad) (g : GC) (σ : Me) (S : SM) (L : Wd) (hI : Ib g σ) (i : Nat) (hi : i < g.1) (j : Nat) (hj1 : 1 ≤ j) (hj2 : j ≤ 16) : Met l yL_command wsL_command ({ frames := 2, cells := 0, slots := 0, locals := 45 }) (Pre D B ad (eW D ad S (g, σ) L) [.ref (ad 17 0), .int (nI i), .int (nI j)]) (Qi D B (fun r u => ∃ S2 : SM, u = (ad, eW D ad S S2 L) ∧ S2 = (g, σ) ∧ r = σ 6 i j)) 0 0 (ab B) :=
  met_swi (X := fun r S2 => S2 = (g, σ) ∧ r = σ 6 i j) (c0_L_command l hns D B (sA ad) g σ (tW D (sA ad) S L) 0 hI i hi j hj1 hj2)
set_option maxHeartbeats 4000000 in
set_option maxRecDepth 100000 in
theorem c0_L_tells (l : Launch) (hns : l.stackTraces = false) (D : va_G) (B : Nat) (ad : Ad) (g : GC) (σ : Me) (T : Wd) (o : Int64) (hI : Ib g σ) (i : Nat) (hi : i < g.2.2) (j : Nat) (hj2 : j ≤ 1000000) : Met l yL_tells wsL_tells ({ frames := 3, cells := 0, slots := 0, locals := 71 }) (Pre D B ad (cW D ad (g, σ) T o) [.ref (ad 4 0), .int (nI i), .int (nI j)]) (Qi D B (fun r u => ∃ S2 : SM, u = (ad, cW D ad S2 T o) ∧ S2 = (g, σ) ∧ r = tolO σ i (nI j))) 0 0 (ab B) := by
  refine y_ofWH (cc := cL_tells) (maxL := 4) (ret := (some .int)) (by decide) rfl ?_
  intro p e s m args below meth c s₁ Bd hml htb hv
  obtain ⟨rfl, hC, hP⟩ := hv
  have hx := Bd.exec
  have hb := Bd.bytes
  have hr := Bd.returns
  have hts := atoms_spec (ws := wsL_tells) Bd.pre
  have hown : s.vm.findClass RL = some m.cls := findClass_of_methodNamed Bd.named
  have hlocks := Bd.notSynchronized
  have hS : va_S (ab B) s.heap s.heap [] := va_S.rf
  have hl := lv_entry ([.ref (ad 4 0), .int (nI i), .int (nI j)]) (n := 4) (Nat.le_of_ble_eq_true rfl)
  rw [lg_entry_eq]
  generalize (lg_sl ([.ref (ad 4 0), .int (nI i), .int (nI j)]) ++ List.replicate (4 - (lg_sl ([.ref (ad 4 0), .int (nI i), .int (nI j)])).length) Slot.unset).toArray = ls at hl ⊢
  have hl : lv_has ls 4 [(0, .ref (ad 4 0)), (1, .int (nI i)), (2, .int (nI j))] := hl
  refine lv_aload_n hx hb dL_tells_0 rfl (lv_at hl 0 rfl) ?_
  refine lv_iload_n hx hb dL_tells_1 rfl (lv_at hl 1 rfl) ?_
  refine lv_iload_n hx hb dL_tells_2 rfl (lv_at hl 2 rfl) ?_
  refine y_calli (vx_runV (As := [.int (nI i), .int (nI j)]) (rest := []) ⟨hx, hb, hml, hown, hts⟩ (c0_X4_tells l hns D B ad g σ T o hI i hi j hj2) (cwV 2 hts gL_tells_X4_tells rfl rfl rfl (by decide +kernel) ⟨Nat.le_of_ble_eq_true rfl, Nat.le_of_ble_eq_true rfl⟩) (w_preV hC hP hS cW_4 rfl) rfl rfl hl.1 rfl (lv_room (Nat.le_of_ble_eq_true rfl)) dL_tells_3 ⟨Nat.le_of_ble_eq_true rfl, Nat.le_of_ble_eq_true rfl⟩) hS (fun E9 ce9 q9 ad1 w1 H locs hq hP hS h91 h92 h93 => ?_) (fun r_1 ad1 w1 H locs hq hP hS => ?_)
  · exact hq.elim
  · obtain ⟨h81, h82⟩ := hq
    cases h81
    subst h82
    exact W.iret (v := (tolO σ i (nI j))) hx hb hr (fun t ht hW => Qi_of ⟨_, rfl, rfl, rfl⟩ hP hS ht) hS.2.2 dL_tells_6
theorem t0_L_tells (l : Launch) (hns : l.stackTraces = false) (D : va_G) (B : Nat) (ad : Ad) (g : GC) (σ : Me) (S : SM) (L : Wd) (hI : Ib g σ) (i : Nat) (hi : i < g.2.2) (j : Nat) (hj2 : j ≤ 1000000) : Met l yL_tells wsL_tells ({ frames := 3, cells := 0, slots := 0, locals := 71 }) (Pre D B ad (eW D ad S (g, σ) L) [.ref (ad 17 0), .int (nI i), .int (nI j)]) (Qi D B (fun r u => ∃ S2 : SM, u = (ad, eW D ad S S2 L) ∧ S2 = (g, σ) ∧ r = tolO σ i (nI j))) 0 0 (ab B) :=
  met_swi (X := fun r S2 => S2 = (g, σ) ∧ r = tolO σ i (nI j)) (c0_L_tells l hns D B (sA ad) g σ (tW D (sA ad) S L) 0 hI i hi j hj2)
set_option maxHeartbeats 4000000 in
set_option maxRecDepth 100000 in
theorem c0_L_goesOn (l : Launch) (hns : l.stackTraces = false) (D : va_G) (B : Nat) (ad : Ad) (g : GC) (σ : Me) (T : Wd) (o : Int64) (hI : Ib g σ) (i : Nat) (hi : i < g.2.1) : Met l yL_goesOn wsL_goesOn ({ frames := 2, cells := 0, slots := 0, locals := 42 }) (Pre D B ad (cW D ad (g, σ) T o) [.ref (ad 4 0), .int (nI i)]) (Qi D B (fun r u => ∃ S2 : SM, u = (ad, cW D ad S2 T o) ∧ S2 = (g, σ) ∧ r = 1 - σ 11 i 0)) 0 0 (ab B) := by
  refine y_ofWH (cc := cL_goesOn) (maxL := 3) (ret := (some .int)) (by decide) rfl ?_
  intro p e s m args below meth c s₁ Bd hml htb hv
  obtain ⟨rfl, hC, hP⟩ := hv
  have hx := Bd.exec
  have hb := Bd.bytes
  have hr := Bd.returns
  have hts := atoms_spec (ws := wsL_goesOn) Bd.pre
  have hown : s.vm.findClass RL = some m.cls := findClass_of_methodNamed Bd.named
  have hlocks := Bd.notSynchronized
  have hS : va_S (ab B) s.heap s.heap [] := va_S.rf
  have hl := lv_entry ([.ref (ad 4 0), .int (nI i)]) (n := 3) (Nat.le_of_ble_eq_true rfl)
  rw [lg_entry_eq]
  generalize (lg_sl ([.ref (ad 4 0), .int (nI i)]) ++ List.replicate (3 - (lg_sl ([.ref (ad 4 0), .int (nI i)])).length) Slot.unset).toArray = ls at hl ⊢
  have hl : lv_has ls 3 [(0, .ref (ad 4 0)), (1, .int (nI i))] := hl
  refine lv_aload_n hx hb dL_goesOn_0 rfl (lv_at hl 0 rfl) ?_
  refine lv_iload_n hx hb dL_goesOn_1 rfl (lv_at hl 1 rfl) ?_
  refine y_calli (vx_runV (As := [.int (nI i)]) (rest := []) ⟨hx, hb, hml, hown, hts⟩ (c0_X4_goesOn l hns D B ad g σ T o hI i hi) (cwV 1 hts gL_goesOn_X4_goesOn rfl rfl rfl (by decide +kernel) ⟨Nat.le_of_ble_eq_true rfl, Nat.le_of_ble_eq_true rfl⟩) (w_preV hC hP hS cW_4 rfl) rfl rfl hl.1 rfl (lv_room (Nat.le_of_ble_eq_true rfl)) dL_goesOn_2 ⟨Nat.le_of_ble_eq_true rfl, Nat.le_of_ble_eq_true rfl⟩) hS (fun E9 ce9 q9 ad1 w1 H locs hq hP hS h91 h92 h93 => ?_) (fun r_1 ad1 w1 H locs hq hP hS => ?_)
  · exact hq.elim
  · obtain ⟨h81, h82⟩ := hq
    cases h81
    subst h82
    refine lv_if_eq (tgt := 12) hx hb dL_goesOn_5 (by decide) (fun c_5 => ?_) (fun c_5 => ?_)
    · refine lv_iconst (v := 0) hx hb dL_goesOn_12 (by decide) ?_
      exact W.iret (v := 0) hx hb hr (fun t ht hW => Qi_of ⟨_, rfl, rfl, c_5.symm⟩ hP hS ht) hS.2.2 dL_goesOn_13
    · have e1 : 1 - σ 11 i 0 = 1 := by
        rcases (hI.2.2.2.2.1 i hi).1 with z | z
        · rw [z]; decide
        · rw [z] at c_5; exact absurd (by decide) c_5
      refine lv_iconst (v := 1) hx hb dL_goesOn_8 (by decide) ?_
      refine lv_goto (tgt := 13) hx hb dL_goesOn_9 (by decide) ?_
      exact W.iret (v := 1) hx hb hr (fun t ht hW => Qi_of ⟨_, rfl, rfl, e1.symm⟩ hP hS ht) hS.2.2 dL_goesOn_13
theorem t0_L_goesOn (l : Launch) (hns : l.stackTraces = false) (D : va_G) (B : Nat) (ad : Ad) (g : GC) (σ : Me) (S : SM) (L : Wd) (hI : Ib g σ) (i : Nat) (hi : i < g.2.1) : Met l yL_goesOn wsL_goesOn ({ frames := 2, cells := 0, slots := 0, locals := 42 }) (Pre D B ad (eW D ad S (g, σ) L) [.ref (ad 17 0), .int (nI i)]) (Qi D B (fun r u => ∃ S2 : SM, u = (ad, eW D ad S S2 L) ∧ S2 = (g, σ) ∧ r = 1 - σ 11 i 0)) 0 0 (ab B) :=
  met_swi (X := fun r S2 => S2 = (g, σ) ∧ r = 1 - σ 11 i 0) (c0_L_goesOn l hns D B (sA ad) g σ (tW D (sA ad) S L) 0 hI i hi)
set_option maxHeartbeats 4000000 in
set_option maxRecDepth 100000 in
theorem c0_L_pass (l : Launch) (hns : l.stackTraces = false) (D : va_G) (B : Nat) (ad : Ad) (g : GC) (σ : Me) (T : Wd) (o : Int64) (hI : Ib g σ) (t : Nat) (hR : Rs g t σ) (pm : Nat) (hpm : 1 ≤ pm) (hpm2 : pm ≤ 5000) (htm : t + pm ≤ 1000000) : Met l yL_pass wsL_pass ({ frames := 8, cells := 0, slots := 0, locals := 183 }) (Pre D B ad (cW D ad (g, σ) T o) [.ref (ad 4 0), .int (nI pm)]) (Qi D B (fun r u => ∃ S2 : SM, u = (ad, cW D ad S2 T o) ∧ S2 = (g, pasF g pm σ) ∧ r = pasF g pm σ 26 0 0 - σ 26 0 0)) 0 0 (ab B) := by
  refine y_ofWH (cc := cL_pass) (maxL := 3) (ret := (some .int)) (by decide) rfl ?_
  intro p e s m args below meth c s₁ Bd hml htb hv
  obtain ⟨rfl, hC, hP⟩ := hv
  have hx := Bd.exec
  have hb := Bd.bytes
  have hr := Bd.returns
  have hts := atoms_spec (ws := wsL_pass) Bd.pre
  have hown : s.vm.findClass RL = some m.cls := findClass_of_methodNamed Bd.named
  have hlocks := Bd.notSynchronized
  have hS : va_S (ab B) s.heap s.heap [] := va_S.rf
  have hl := lv_entry ([.ref (ad 4 0), .int (nI pm)]) (n := 3) (Nat.le_of_ble_eq_true rfl)
  rw [lg_entry_eq]
  generalize (lg_sl ([.ref (ad 4 0), .int (nI pm)]) ++ List.replicate (3 - (lg_sl ([.ref (ad 4 0), .int (nI pm)])).length) Slot.unset).toArray = ls at hl ⊢
  have hl : lv_has ls 3 [(0, .ref (ad 4 0)), (1, .int (nI pm))] := hl
  refine lv_aload_n hx hb dL_pass_0 rfl (lv_at hl 0 rfl) ?_
  refine lv_iload_n hx hb dL_pass_1 rfl (lv_at hl 1 rfl) ?_
  refine y_calli (vx_runV (As := [.int (nI pm)]) (rest := []) ⟨hx, hb, hml, hown, hts⟩ (c0_X4_pass l hns D B ad g σ T o hI t hR pm hpm hpm2 htm) (cwV 1 hts gL_pass_X4_pass rfl rfl rfl (by decide +kernel) ⟨Nat.le_of_ble_eq_true rfl, Nat.le_of_ble_eq_true rfl⟩) (w_preV hC hP hS cW_4 rfl) rfl rfl hl.1 rfl (lv_room (Nat.le_of_ble_eq_true rfl)) dL_pass_2 ⟨Nat.le_of_ble_eq_true rfl, Nat.le_of_ble_eq_true rfl⟩) hS (fun E9 ce9 q9 ad1 w1 H locs hq hP hS h91 h92 h93 => ?_) (fun r_1 ad1 w1 H locs hq hP hS => ?_)
  · exact hq.elim
  · obtain ⟨h81, h82⟩ := hq
    cases h81
    subst h82
    exact W.iret (v := (pasF g pm σ 26 0 0 - σ 26 0 0)) hx hb hr (fun t ht hW => Qi_of ⟨_, rfl, rfl, rfl⟩ hP hS ht) hS.2.2 dL_pass_5
theorem t0_L_pass (l : Launch) (hns : l.stackTraces = false) (D : va_G) (B : Nat) (ad : Ad) (g : GC) (σ : Me) (S : SM) (L : Wd) (hI : Ib g σ) (t : Nat) (hR : Rs g t σ) (pm : Nat) (hpm : 1 ≤ pm) (hpm2 : pm ≤ 5000) (htm : t + pm ≤ 1000000) : Met l yL_pass wsL_pass ({ frames := 8, cells := 0, slots := 0, locals := 183 }) (Pre D B ad (eW D ad S (g, σ) L) [.ref (ad 17 0), .int (nI pm)]) (Qi D B (fun r u => ∃ S2 : SM, u = (ad, eW D ad S S2 L) ∧ S2 = (g, pasF g pm σ) ∧ r = pasF g pm σ 26 0 0 - σ 26 0 0)) 0 0 (ab B) :=
  met_swi (X := fun r S2 => S2 = (g, pasF g pm σ) ∧ r = pasF g pm σ 26 0 0 - σ 26 0 0) (c0_L_pass l hns D B (sA ad) g σ (tW D (sA ad) S L) 0 hI t hR pm hpm hpm2 htm)
