/-! the law's calls of the class: what they answer -/
def an (c : Nat) (l : List Int32) (v : Int32) : Int32 := if c = 0 then v else l.getD (c - 1) 0
theorem an_0 {c : Nat} {l : List Int32} {v : Int32} (h : c = 0) : an c l v = v := if_pos h
theorem exA_1 {a E : String} {k : Nat} (h : exA [a] k E) : k = 1 ∧ E = a := by
  obtain ⟨h0, h1⟩ := h
  match k, h0, h1 with
  | 1, _, h1 => exact ⟨rfl, (Option.some.inj h1).symm⟩
  | k + 2, _, h1 => simp at h1
theorem exA_2 {a b E : String} {k : Nat} (h : exA [a, b] k E) : (k = 1 ∧ E = a) ∨ (k = 2 ∧ E = b) := by
  obtain ⟨h0, h1⟩ := h
  match k, h0, h1 with
  | 1, _, h1 => exact Or.inl ⟨rfl, (Option.some.inj h1).symm⟩
  | 2, _, h1 => exact Or.inr ⟨rfl, (Option.some.inj h1).symm⟩
  | k + 3, _, h1 => simp at h1
theorem exA_3 {a b c E : String} {k : Nat} (h : exA [a, b, c] k E) : (k = 1 ∧ E = a) ∨ (k = 2 ∧ E = b) ∨ (k = 3 ∧ E = c) := by
  obtain ⟨h0, h1⟩ := h
  match k, h0, h1 with
  | 1, _, h1 => exact Or.inl ⟨rfl, (Option.some.inj h1).symm⟩
  | 2, _, h1 => exact Or.inr (Or.inl ⟨rfl, (Option.some.inj h1).symm⟩)
  | 3, _, h1 => exact Or.inr (Or.inr ⟨rfl, (Option.some.inj h1).symm⟩)
  | k + 4, _, h1 => simp at h1
set_option maxHeartbeats 4000000 in
set_option maxRecDepth 100000 in
theorem c_L_value (l : Launch) (hns : l.stackTraces = false) (D : va_G) (B : Nat) (ad : Ad) (g : GC) (σ : Me) (T : Wd) (o : Int64) (hI : Ib g σ) (x0 : Int32) : Met l yL_value wsL_value ({ frames := 8, cells := 1, slots := 6, locals := 132 }) (Pre D B ad (cW D ad (g, σ) T o) [.ref (ad 4 0), .int x0]) (Qi D B (fun r u => ∃ S2 : SM, u = (ad, cW D ad S2 T o) ∧ S2 = (g, σ) ∧ r = an (cdPt g.1 x0) [-1000001] (vaO σ (nOf x0)))) 1 6 (ab B) := by
  refine y_ofWH (cc := cL_value) (maxL := 3) (ret := (some .int)) (by decide) rfl ?_
  intro p e s m args below meth c s₁ Bd hml htb hv
  obtain ⟨rfl, hC, hP⟩ := hv
  have hx := Bd.exec
  have hb := Bd.bytes
  have hr := Bd.returns
  have hts := atoms_spec (ws := wsL_value) Bd.pre
  have hown : s.vm.findClass RL = some m.cls := findClass_of_methodNamed Bd.named
  have hlocks := Bd.notSynchronized
  have hS : va_S (ab B) s.heap s.heap [] := va_S.rf
  have hl := lv_entry ([.ref (ad 4 0), .int x0]) (n := 3) (Nat.le_of_ble_eq_true rfl)
  rw [lg_entry_eq]
  generalize (lg_sl ([.ref (ad 4 0), .int x0]) ++ List.replicate (3 - (lg_sl ([.ref (ad 4 0), .int x0])).length) Slot.unset).toArray = ls at hl ⊢
  have hl : lv_has ls 3 [(0, .ref (ad 4 0)), (1, .int x0)] := hl
  refine lv_aload_n hx hb dL_value_0 rfl (lv_at hl 0 rfl) ?_
  refine lv_iload_n hx hb dL_value_1 rfl (lv_at hl 1 rfl) ?_
  refine y_calli (vx_runV (As := [.int x0]) (rest := []) ⟨hx, hb, hml, hown, hts⟩ (c_X4_value l hns D B ad g σ T o hI x0) (cwV 1 hts gL_value_X4_value rfl rfl rfl (by decide +kernel) ⟨Nat.le_of_ble_eq_true rfl, Nat.le_of_ble_eq_true rfl⟩) (w_preV hC hP hS cW_4 rfl) rfl rfl hl.1 rfl (lv_room (Nat.le_of_ble_eq_true rfl)) dL_value_2 ⟨Nat.le_of_ble_eq_true rfl, Nat.le_of_ble_eq_true rfl⟩) hS (fun E9 ce9 q9 ad1 w1 H locs hq hP hS h91 h92 h93 => ?_) (fun r_1 ad1 w1 H locs hq hP hS => ?_)
  · obtain ⟨h84, h85⟩ := hq
    cases h84
    rcases exA_1 h85 with ⟨h86, rfl⟩
    · refine vx_catch (name := exIO) hown [] (⟨0, 5, 6, 30⟩ : ExceptionTableEntry) [] (htb.trans rfl) (fun z hz => absurd hz List.not_mem_nil) (by decide) (by decide) (hts (.classLink RL 30 exIO) (by decide +kernel)) ((hC.2.2.2.2.2.1 exIO (by decide)).use rfl) h91 h92 h93 ?_
      refine lv_astore_n (lv' := [(2, .ref q9), (0, .ref (ad 4 0)), (1, .int x0)]) hx hb dL_value_6 rfl hl (by decide) rfl (fun ls hl => ?_)
      refine lv_ldc (v := (-1000001)) hx hb hown (hts (.constant RL 32 (-1000001)) (by decide +kernel)) dL_value_7 ?_
      exact W.iret (v := (-1000001)) hx hb hr (fun t ht hW => Qi_of ⟨_, rfl, rfl, by rw [h86]; rfl⟩ hP hS ht) hS.2.2 dL_value_9
  · obtain ⟨h81, h82, h83⟩ := hq
    cases h81
    subst h82
    exact W.iret (v := (vaO σ (nOf x0))) hx hb hr (fun t ht hW => Qi_of ⟨_, rfl, rfl, (an_0 h83).symm⟩ hP hS ht) hS.2.2 dL_value_5
theorem t_L_value (l : Launch) (hns : l.stackTraces = false) (D : va_G) (B : Nat) (ad : Ad) (g : GC) (σ : Me) (S : SM) (L : Wd) (hI : Ib g σ) (x0 : Int32) : Met l yL_value wsL_value ({ frames := 8, cells := 1, slots := 6, locals := 132 }) (Pre D B ad (eW D ad S (g, σ) L) [.ref (ad 17 0), .int x0]) (Qi D B (fun r u => ∃ S2 : SM, u = (ad, eW D ad S S2 L) ∧ S2 = (g, σ) ∧ r = an (cdPt g.1 x0) [-1000001] (vaO σ (nOf x0)))) 1 6 (ab B) :=
  met_swi (X := fun r S2 => S2 = (g, σ) ∧ r = an (cdPt g.1 x0) [-1000001] (vaO σ (nOf x0))) (c_L_value l hns D B (sA ad) g σ (tW D (sA ad) S L) 0 hI x0)
set_option maxHeartbeats 4000000 in
set_option maxRecDepth 100000 in
theorem c_L_standing (l : Launch) (hns : l.stackTraces = false) (D : va_G) (B : Nat) (ad : Ad) (g : GC) (σ : Me) (T : Wd) (o : Int64) (hI : Ib g σ) (x0 : Int32) : Met l yL_standing wsL_standing ({ frames := 8, cells := 1, slots := 6, locals := 132 }) (Pre D B ad (cW D ad (g, σ) T o) [.ref (ad 4 0), .int x0]) (Qi D B (fun r u => ∃ S2 : SM, u = (ad, cW D ad S2 T o) ∧ S2 = (g, σ) ∧ r = an (cdPt g.1 x0) [-1000001] (nI (stO σ (nOf x0))))) 1 6 (ab B) := by
  refine y_ofWH (cc := cL_standing) (maxL := 3) (ret := (some .int)) (by decide) rfl ?_
  intro p e s m args below meth c s₁ Bd hml htb hv
  obtain ⟨rfl, hC, hP⟩ := hv
  have hx := Bd.exec
  have hb := Bd.bytes
  have hr := Bd.returns
  have hts := atoms_spec (ws := wsL_standing) Bd.pre
  have hown : s.vm.findClass RL = some m.cls := findClass_of_methodNamed Bd.named
  have hlocks := Bd.notSynchronized
  have hS : va_S (ab B) s.heap s.heap [] := va_S.rf
  have hl := lv_entry ([.ref (ad 4 0), .int x0]) (n := 3) (Nat.le_of_ble_eq_true rfl)
  rw [lg_entry_eq]
  generalize (lg_sl ([.ref (ad 4 0), .int x0]) ++ List.replicate (3 - (lg_sl ([.ref (ad 4 0), .int x0])).length) Slot.unset).toArray = ls at hl ⊢
  have hl : lv_has ls 3 [(0, .ref (ad 4 0)), (1, .int x0)] := hl
  refine lv_aload_n hx hb dL_standing_0 rfl (lv_at hl 0 rfl) ?_
  refine lv_iload_n hx hb dL_standing_1 rfl (lv_at hl 1 rfl) ?_
  refine y_calli (vx_runV (As := [.int x0]) (rest := []) ⟨hx, hb, hml, hown, hts⟩ (c_X4_standing l hns D B ad g σ T o hI x0) (cwV 1 hts gL_standing_X4_standing rfl rfl rfl (by decide +kernel) ⟨Nat.le_of_ble_eq_true rfl, Nat.le_of_ble_eq_true rfl⟩) (w_preV hC hP hS cW_4 rfl) rfl rfl hl.1 rfl (lv_room (Nat.le_of_ble_eq_true rfl)) dL_standing_2 ⟨Nat.le_of_ble_eq_true rfl, Nat.le_of_ble_eq_true rfl⟩) hS (fun E9 ce9 q9 ad1 w1 H locs hq hP hS h91 h92 h93 => ?_) (fun r_1 ad1 w1 H locs hq hP hS => ?_)
  · obtain ⟨h84, h85⟩ := hq
    cases h84
    rcases exA_1 h85 with ⟨h86, rfl⟩
    · refine vx_catch (name := exIO) hown [] (⟨0, 5, 6, 30⟩ : ExceptionTableEntry) [] (htb.trans rfl) (fun z hz => absurd hz List.not_mem_nil) (by decide) (by decide) (hts (.classLink RL 30 exIO) (by decide +kernel)) ((hC.2.2.2.2.2.1 exIO (by decide)).use rfl) h91 h92 h93 ?_
      refine lv_astore_n (lv' := [(2, .ref q9), (0, .ref (ad 4 0)), (1, .int x0)]) hx hb dL_standing_6 rfl hl (by decide) rfl (fun ls hl => ?_)
      refine lv_ldc (v := (-1000001)) hx hb hown (hts (.constant RL 32 (-1000001)) (by decide +kernel)) dL_standing_7 ?_
      exact W.iret (v := (-1000001)) hx hb hr (fun t ht hW => Qi_of ⟨_, rfl, rfl, by rw [h86]; rfl⟩ hP hS ht) hS.2.2 dL_standing_9
  · obtain ⟨h81, h82, h83⟩ := hq
    cases h81
    subst h82
    exact W.iret (v := (nI (stO σ (nOf x0)))) hx hb hr (fun t ht hW => Qi_of ⟨_, rfl, rfl, (an_0 h83).symm⟩ hP hS ht) hS.2.2 dL_standing_5
theorem t_L_standing (l : Launch) (hns : l.stackTraces = false) (D : va_G) (B : Nat) (ad : Ad) (g : GC) (σ : Me) (S : SM) (L : Wd) (hI : Ib g σ) (x0 : Int32) : Met l yL_standing wsL_standing ({ frames := 8, cells := 1, slots := 6, locals := 132 }) (Pre D B ad (eW D ad S (g, σ) L) [.ref (ad 17 0), .int x0]) (Qi D B (fun r u => ∃ S2 : SM, u = (ad, eW D ad S S2 L) ∧ S2 = (g, σ) ∧ r = an (cdPt g.1 x0) [-1000001] (nI (stO σ (nOf x0))))) 1 6 (ab B) :=
  met_swi (X := fun r S2 => S2 = (g, σ) ∧ r = an (cdPt g.1 x0) [-1000001] (nI (stO σ (nOf x0)))) (c_L_standing l hns D B (sA ad) g σ (tW D (sA ad) S L) 0 hI x0)
set_option maxHeartbeats 4000000 in
set_option maxRecDepth 100000 in
theorem c_L_changes (l : Launch) (hns : l.stackTraces = false) (D : va_G) (B : Nat) (ad : Ad) (g : GC) (σ : Me) (T : Wd) (o : Int64) (hI : Ib g σ) (x0 : Int32) : Met l yL_changes wsL_changes ({ frames := 8, cells := 1, slots := 6, locals := 132 }) (Pre D B ad (cW D ad (g, σ) T o) [.ref (ad 4 0), .int x0]) (Qi D B (fun r u => ∃ S2 : SM, u = (ad, cW D ad S2 T o) ∧ S2 = (g, σ) ∧ r = an (cdPt g.1 x0) [-1000001] (σ 5 (nOf x0) 0))) 1 6 (ab B) := by
  refine y_ofWH (cc := cL_changes) (maxL := 3) (ret := (some .int)) (by decide) rfl ?_
  intro p e s m args below meth c s₁ Bd hml htb hv
  obtain ⟨rfl, hC, hP⟩ := hv
  have hx := Bd.exec
  have hb := Bd.bytes
  have hr := Bd.returns
  have hts := atoms_spec (ws := wsL_changes) Bd.pre
  have hown : s.vm.findClass RL = some m.cls := findClass_of_methodNamed Bd.named
  have hlocks := Bd.notSynchronized
  have hS : va_S (ab B) s.heap s.heap [] := va_S.rf
  have hl := lv_entry ([.ref (ad 4 0), .int x0]) (n := 3) (Nat.le_of_ble_eq_true rfl)
  rw [lg_entry_eq]
  generalize (lg_sl ([.ref (ad 4 0), .int x0]) ++ List.replicate (3 - (lg_sl ([.ref (ad 4 0), .int x0])).length) Slot.unset).toArray = ls at hl ⊢
  have hl : lv_has ls 3 [(0, .ref (ad 4 0)), (1, .int x0)] := hl
  refine lv_aload_n hx hb dL_changes_0 rfl (lv_at hl 0 rfl) ?_
  refine lv_iload_n hx hb dL_changes_1 rfl (lv_at hl 1 rfl) ?_
  refine y_calli (vx_runV (As := [.int x0]) (rest := []) ⟨hx, hb, hml, hown, hts⟩ (c_X4_changes l hns D B ad g σ T o hI x0) (cwV 1 hts gL_changes_X4_changes rfl rfl rfl (by decide +kernel) ⟨Nat.le_of_ble_eq_true rfl, Nat.le_of_ble_eq_true rfl⟩) (w_preV hC hP hS cW_4 rfl) rfl rfl hl.1 rfl (lv_room (Nat.le_of_ble_eq_true rfl)) dL_changes_2 ⟨Nat.le_of_ble_eq_true rfl, Nat.le_of_ble_eq_true rfl⟩) hS (fun E9 ce9 q9 ad1 w1 H locs hq hP hS h91 h92 h93 => ?_) (fun r_1 ad1 w1 H locs hq hP hS => ?_)
  · obtain ⟨h84, h85⟩ := hq
    cases h84
    rcases exA_1 h85 with ⟨h86, rfl⟩
    · refine vx_catch (name := exIO) hown [] (⟨0, 5, 6, 30⟩ : ExceptionTableEntry) [] (htb.trans rfl) (fun z hz => absurd hz List.not_mem_nil) (by decide) (by decide) (hts (.classLink RL 30 exIO) (by decide +kernel)) ((hC.2.2.2.2.2.1 exIO (by decide)).use rfl) h91 h92 h93 ?_
      refine lv_astore_n (lv' := [(2, .ref q9), (0, .ref (ad 4 0)), (1, .int x0)]) hx hb dL_changes_6 rfl hl (by decide) rfl (fun ls hl => ?_)
      refine lv_ldc (v := (-1000001)) hx hb hown (hts (.constant RL 32 (-1000001)) (by decide +kernel)) dL_changes_7 ?_
      exact W.iret (v := (-1000001)) hx hb hr (fun t ht hW => Qi_of ⟨_, rfl, rfl, by rw [h86]; rfl⟩ hP hS ht) hS.2.2 dL_changes_9
  · obtain ⟨h81, h82, h83⟩ := hq
    cases h81
    subst h82
    exact W.iret (v := (σ 5 (nOf x0) 0)) hx hb hr (fun t ht hW => Qi_of ⟨_, rfl, rfl, (an_0 h83).symm⟩ hP hS ht) hS.2.2 dL_changes_5
theorem t_L_changes (l : Launch) (hns : l.stackTraces = false) (D : va_G) (B : Nat) (ad : Ad) (g : GC) (σ : Me) (S : SM) (L : Wd) (hI : Ib g σ) (x0 : Int32) : Met l yL_changes wsL_changes ({ frames := 8, cells := 1, slots := 6, locals := 132 }) (Pre D B ad (eW D ad S (g, σ) L) [.ref (ad 17 0), .int x0]) (Qi D B (fun r u => ∃ S2 : SM, u = (ad, eW D ad S S2 L) ∧ S2 = (g, σ) ∧ r = an (cdPt g.1 x0) [-1000001] (σ 5 (nOf x0) 0))) 1 6 (ab B) :=
  met_swi (X := fun r S2 => S2 = (g, σ) ∧ r = an (cdPt g.1 x0) [-1000001] (σ 5 (nOf x0) 0)) (c_L_changes l hns D B (sA ad) g σ (tW D (sA ad) S L) 0 hI x0)
set_option maxHeartbeats 4000000 in
set_option maxRecDepth 100000 in
theorem c_L_reports (l : Launch) (hns : l.stackTraces = false) (D : va_G) (B : Nat) (ad : Ad) (g : GC) (σ : Me) (T : Wd) (o : Int64) (hI : Ib g σ) (x0 : Int32) : Met l yL_reports wsL_reports ({ frames := 8, cells := 1, slots := 6, locals := 132 }) (Pre D B ad (cW D ad (g, σ) T o) [.ref (ad 4 0), .int x0]) (Qi D B (fun r u => ∃ S2 : SM, u = (ad, cW D ad S2 T o) ∧ S2 = (g, σ) ∧ r = an (cdPt g.2.1 x0) [-1000001] (σ 12 (nOf x0) 0))) 1 6 (ab B) := by
  refine y_ofWH (cc := cL_reports) (maxL := 3) (ret := (some .int)) (by decide) rfl ?_
  intro p e s m args below meth c s₁ Bd hml htb hv
  obtain ⟨rfl, hC, hP⟩ := hv
  have hx := Bd.exec
  have hb := Bd.bytes
  have hr := Bd.returns
  have hts := atoms_spec (ws := wsL_reports) Bd.pre
  have hown : s.vm.findClass RL = some m.cls := findClass_of_methodNamed Bd.named
  have hlocks := Bd.notSynchronized
  have hS : va_S (ab B) s.heap s.heap [] := va_S.rf
  have hl := lv_entry ([.ref (ad 4 0), .int x0]) (n := 3) (Nat.le_of_ble_eq_true rfl)
  rw [lg_entry_eq]
  generalize (lg_sl ([.ref (ad 4 0), .int x0]) ++ List.replicate (3 - (lg_sl ([.ref (ad 4 0), .int x0])).length) Slot.unset).toArray = ls at hl ⊢
  have hl : lv_has ls 3 [(0, .ref (ad 4 0)), (1, .int x0)] := hl
  refine lv_aload_n hx hb dL_reports_0 rfl (lv_at hl 0 rfl) ?_
  refine lv_iload_n hx hb dL_reports_1 rfl (lv_at hl 1 rfl) ?_
  refine y_calli (vx_runV (As := [.int x0]) (rest := []) ⟨hx, hb, hml, hown, hts⟩ (c_X4_reports l hns D B ad g σ T o hI x0) (cwV 1 hts gL_reports_X4_reports rfl rfl rfl (by decide +kernel) ⟨Nat.le_of_ble_eq_true rfl, Nat.le_of_ble_eq_true rfl⟩) (w_preV hC hP hS cW_4 rfl) rfl rfl hl.1 rfl (lv_room (Nat.le_of_ble_eq_true rfl)) dL_reports_2 ⟨Nat.le_of_ble_eq_true rfl, Nat.le_of_ble_eq_true rfl⟩) hS (fun E9 ce9 q9 ad1 w1 H locs hq hP hS h91 h92 h93 => ?_) (fun r_1 ad1 w1 H locs hq hP hS => ?_)
  · obtain ⟨h84, h85⟩ := hq
    cases h84
    rcases exA_1 h85 with ⟨h86, rfl⟩
    · refine vx_catch (name := exIO) hown [] (⟨0, 5, 6, 30⟩ : ExceptionTableEntry) [] (htb.trans rfl) (fun z hz => absurd hz List.not_mem_nil) (by decide) (by decide) (hts (.classLink RL 30 exIO) (by decide +kernel)) ((hC.2.2.2.2.2.1 exIO (by decide)).use rfl) h91 h92 h93 ?_
      refine lv_astore_n (lv' := [(2, .ref q9), (0, .ref (ad 4 0)), (1, .int x0)]) hx hb dL_reports_6 rfl hl (by decide) rfl (fun ls hl => ?_)
      refine lv_ldc (v := (-1000001)) hx hb hown (hts (.constant RL 32 (-1000001)) (by decide +kernel)) dL_reports_7 ?_
      exact W.iret (v := (-1000001)) hx hb hr (fun t ht hW => Qi_of ⟨_, rfl, rfl, by rw [h86]; rfl⟩ hP hS ht) hS.2.2 dL_reports_9
  · obtain ⟨h81, h82, h83⟩ := hq
    cases h81
    subst h82
    exact W.iret (v := (σ 12 (nOf x0) 0)) hx hb hr (fun t ht hW => Qi_of ⟨_, rfl, rfl, (an_0 h83).symm⟩ hP hS ht) hS.2.2 dL_reports_5
theorem t_L_reports (l : Launch) (hns : l.stackTraces = false) (D : va_G) (B : Nat) (ad : Ad) (g : GC) (σ : Me) (S : SM) (L : Wd) (hI : Ib g σ) (x0 : Int32) : Met l yL_reports wsL_reports ({ frames := 8, cells := 1, slots := 6, locals := 132 }) (Pre D B ad (eW D ad S (g, σ) L) [.ref (ad 17 0), .int x0]) (Qi D B (fun r u => ∃ S2 : SM, u = (ad, eW D ad S S2 L) ∧ S2 = (g, σ) ∧ r = an (cdPt g.2.1 x0) [-1000001] (σ 12 (nOf x0) 0))) 1 6 (ab B) :=
  met_swi (X := fun r S2 => S2 = (g, σ) ∧ r = an (cdPt g.2.1 x0) [-1000001] (σ 12 (nOf x0) 0)) (c_L_reports l hns D B (sA ad) g σ (tW D (sA ad) S L) 0 hI x0)
set_option maxHeartbeats 4000000 in
set_option maxRecDepth 100000 in
theorem c_L_reported (l : Launch) (hns : l.stackTraces = false) (D : va_G) (B : Nat) (ad : Ad) (g : GC) (σ : Me) (T : Wd) (o : Int64) (hI : Ib g σ) (x0 : Int32) : Met l yL_reported wsL_reported ({ frames := 8, cells := 1, slots := 6, locals := 132 }) (Pre D B ad (cW D ad (g, σ) T o) [.ref (ad 4 0), .int x0]) (Qi D B (fun r u => ∃ S2 : SM, u = (ad, cW D ad S2 T o) ∧ S2 = (g, σ) ∧ r = an (cdPt g.2.1 x0) [-1000001] (σ 13 (nOf x0) 0))) 1 6 (ab B) := by
  refine y_ofWH (cc := cL_reported) (maxL := 3) (ret := (some .int)) (by decide) rfl ?_
  intro p e s m args below meth c s₁ Bd hml htb hv
  obtain ⟨rfl, hC, hP⟩ := hv
  have hx := Bd.exec
  have hb := Bd.bytes
  have hr := Bd.returns
  have hts := atoms_spec (ws := wsL_reported) Bd.pre
  have hown : s.vm.findClass RL = some m.cls := findClass_of_methodNamed Bd.named
  have hlocks := Bd.notSynchronized
  have hS : va_S (ab B) s.heap s.heap [] := va_S.rf
  have hl := lv_entry ([.ref (ad 4 0), .int x0]) (n := 3) (Nat.le_of_ble_eq_true rfl)
  rw [lg_entry_eq]
  generalize (lg_sl ([.ref (ad 4 0), .int x0]) ++ List.replicate (3 - (lg_sl ([.ref (ad 4 0), .int x0])).length) Slot.unset).toArray = ls at hl ⊢
  have hl : lv_has ls 3 [(0, .ref (ad 4 0)), (1, .int x0)] := hl
  refine lv_aload_n hx hb dL_reported_0 rfl (lv_at hl 0 rfl) ?_
  refine lv_iload_n hx hb dL_reported_1 rfl (lv_at hl 1 rfl) ?_
  refine y_calli (vx_runV (As := [.int x0]) (rest := []) ⟨hx, hb, hml, hown, hts⟩ (c_X4_reported l hns D B ad g σ T o hI x0) (cwV 1 hts gL_reported_X4_reported rfl rfl rfl (by decide +kernel) ⟨Nat.le_of_ble_eq_true rfl, Nat.le_of_ble_eq_true rfl⟩) (w_preV hC hP hS cW_4 rfl) rfl rfl hl.1 rfl (lv_room (Nat.le_of_ble_eq_true rfl)) dL_reported_2 ⟨Nat.le_of_ble_eq_true rfl, Nat.le_of_ble_eq_true rfl⟩) hS (fun E9 ce9 q9 ad1 w1 H locs hq hP hS h91 h92 h93 => ?_) (fun r_1 ad1 w1 H locs hq hP hS => ?_)
  · obtain ⟨h84, h85⟩ := hq
    cases h84
    rcases exA_1 h85 with ⟨h86, rfl⟩
    · refine vx_catch (name := exIO) hown [] (⟨0, 5, 6, 30⟩ : ExceptionTableEntry) [] (htb.trans rfl) (fun z hz => absurd hz List.not_mem_nil) (by decide) (by decide) (hts (.classLink RL 30 exIO) (by decide +kernel)) ((hC.2.2.2.2.2.1 exIO (by decide)).use rfl) h91 h92 h93 ?_
      refine lv_astore_n (lv' := [(2, .ref q9), (0, .ref (ad 4 0)), (1, .int x0)]) hx hb dL_reported_6 rfl hl (by decide) rfl (fun ls hl => ?_)
      refine lv_ldc (v := (-1000001)) hx hb hown (hts (.constant RL 32 (-1000001)) (by decide +kernel)) dL_reported_7 ?_
      exact W.iret (v := (-1000001)) hx hb hr (fun t ht hW => Qi_of ⟨_, rfl, rfl, by rw [h86]; rfl⟩ hP hS ht) hS.2.2 dL_reported_9
  · obtain ⟨h81, h82, h83⟩ := hq
    cases h81
    subst h82
    exact W.iret (v := (σ 13 (nOf x0) 0)) hx hb hr (fun t ht hW => Qi_of ⟨_, rfl, rfl, (an_0 h83).symm⟩ hP hS ht) hS.2.2 dL_reported_5
theorem t_L_reported (l : Launch) (hns : l.stackTraces = false) (D : va_G) (B : Nat) (ad : Ad) (g : GC) (σ : Me) (S : SM) (L : Wd) (hI : Ib g σ) (x0 : Int32) : Met l yL_reported wsL_reported ({ frames := 8, cells := 1, slots := 6, locals := 132 }) (Pre D B ad (eW D ad S (g, σ) L) [.ref (ad 17 0), .int x0]) (Qi D B (fun r u => ∃ S2 : SM, u = (ad, eW D ad S S2 L) ∧ S2 = (g, σ) ∧ r = an (cdPt g.2.1 x0) [-1000001] (σ 13 (nOf x0) 0))) 1 6 (ab B) :=
  met_swi (X := fun r S2 => S2 = (g, σ) ∧ r = an (cdPt g.2.1 x0) [-1000001] (σ 13 (nOf x0) 0)) (c_L_reported l hns D B (sA ad) g σ (tW D (sA ad) S L) 0 hI x0)
set_option maxHeartbeats 4000000 in
set_option maxRecDepth 100000 in
theorem c_L_held (l : Launch) (hns : l.stackTraces = false) (D : va_G) (B : Nat) (ad : Ad) (g : GC) (σ : Me) (T : Wd) (o : Int64) (hI : Ib g σ) (x0 : Int32) : Met l yL_held wsL_held ({ frames := 8, cells := 1, slots := 6, locals := 133 }) (Pre D B ad (cW D ad (g, σ) T o) [.ref (ad 4 0), .int x0]) (Qi D B (fun r u => ∃ S2 : SM, u = (ad, cW D ad S2 T o) ∧ S2 = (g, σ) ∧ r = an (cdPt g.1 x0) [-1000001] ((if σ 4 (nOf x0) 0 = 0 then 0 else σ 4 (nOf x0) 0 - σ 25 0 0)))) 1 6 (ab B) := by
  refine y_ofWH (cc := cL_held) (maxL := 3) (ret := (some .int)) (by decide) rfl ?_
  intro p e s m args below meth c s₁ Bd hml htb hv
  obtain ⟨rfl, hC, hP⟩ := hv
  have hx := Bd.exec
  have hb := Bd.bytes
  have hr := Bd.returns
  have hts := atoms_spec (ws := wsL_held) Bd.pre
  have hown : s.vm.findClass RL = some m.cls := findClass_of_methodNamed Bd.named
  have hlocks := Bd.notSynchronized
  have hS : va_S (ab B) s.heap s.heap [] := va_S.rf
  have hl := lv_entry ([.ref (ad 4 0), .int x0]) (n := 3) (Nat.le_of_ble_eq_true rfl)
  rw [lg_entry_eq]
  generalize (lg_sl ([.ref (ad 4 0), .int x0]) ++ List.replicate (3 - (lg_sl ([.ref (ad 4 0), .int x0])).length) Slot.unset).toArray = ls at hl ⊢
  have hl : lv_has ls 3 [(0, .ref (ad 4 0)), (1, .int x0)] := hl
  refine lv_aload_n hx hb dL_held_0 rfl (lv_at hl 0 rfl) ?_
  refine lv_iload_n hx hb dL_held_1 rfl (lv_at hl 1 rfl) ?_
  refine y_calli (vx_runV (As := [.int x0]) (rest := []) ⟨hx, hb, hml, hown, hts⟩ (c_X4_held l hns D B ad g σ T o hI x0) (cwV 1 hts gL_held_X4_held rfl rfl rfl (by decide +kernel) ⟨Nat.le_of_ble_eq_true rfl, Nat.le_of_ble_eq_true rfl⟩) (w_preV hC hP hS cW_4 rfl) rfl rfl hl.1 rfl (lv_room (Nat.le_of_ble_eq_true rfl)) dL_held_2 ⟨Nat.le_of_ble_eq_true rfl, Nat.le_of_ble_eq_true rfl⟩) hS (fun E9 ce9 q9 ad1 w1 H locs hq hP hS h91 h92 h93 => ?_) (fun r_1 ad1 w1 H locs hq hP hS => ?_)
  · obtain ⟨h84, h85⟩ := hq
    cases h84
    rcases exA_1 h85 with ⟨h86, rfl⟩
    · refine vx_catch (name := exIO) hown [] (⟨0, 5, 6, 30⟩ : ExceptionTableEntry) [] (htb.trans rfl) (fun z hz => absurd hz List.not_mem_nil) (by decide) (by decide) (hts (.classLink RL 30 exIO) (by decide +kernel)) ((hC.2.2.2.2.2.1 exIO (by decide)).use rfl) h91 h92 h93 ?_
      refine lv_astore_n (lv' := [(2, .ref q9), (0, .ref (ad 4 0)), (1, .int x0)]) hx hb dL_held_6 rfl hl (by decide) rfl (fun ls hl => ?_)
      refine lv_ldc (v := (-1000001)) hx hb hown (hts (.constant RL 32 (-1000001)) (by decide +kernel)) dL_held_7 ?_
      exact W.iret (v := (-1000001)) hx hb hr (fun t ht hW => Qi_of ⟨_, rfl, rfl, by rw [h86]; rfl⟩ hP hS ht) hS.2.2 dL_held_9
  · obtain ⟨h81, h82, h83⟩ := hq
    cases h81
    subst h82
    exact W.iret (v := (if σ 4 (nOf x0) 0 = 0 then 0 else σ 4 (nOf x0) 0 - σ 25 0 0)) hx hb hr (fun t ht hW => Qi_of ⟨_, rfl, rfl, (an_0 h83).symm⟩ hP hS ht) hS.2.2 dL_held_5
theorem t_L_held (l : Launch) (hns : l.stackTraces = false) (D : va_G) (B : Nat) (ad : Ad) (g : GC) (σ : Me) (S : SM) (L : Wd) (hI : Ib g σ) (x0 : Int32) : Met l yL_held wsL_held ({ frames := 8, cells := 1, slots := 6, locals := 133 }) (Pre D B ad (eW D ad S (g, σ) L) [.ref (ad 17 0), .int x0]) (Qi D B (fun r u => ∃ S2 : SM, u = (ad, eW D ad S S2 L) ∧ S2 = (g, σ) ∧ r = an (cdPt g.1 x0) [-1000001] ((if σ 4 (nOf x0) 0 = 0 then 0 else σ 4 (nOf x0) 0 - σ 25 0 0)))) 1 6 (ab B) :=
  met_swi (X := fun r S2 => S2 = (g, σ) ∧ r = an (cdPt g.1 x0) [-1000001] ((if σ 4 (nOf x0) 0 = 0 then 0 else σ 4 (nOf x0) 0 - σ 25 0 0))) (c_L_held l hns D B (sA ad) g σ (tW D (sA ad) S L) 0 hI x0)
set_option maxHeartbeats 4000000 in
set_option maxRecDepth 100000 in
theorem c_L_command (l : Launch) (hns : l.stackTraces = false) (D : va_G) (B : Nat) (ad : Ad) (g : GC) (σ : Me) (T : Wd) (o : Int64) (hI : Ib g σ) (x0 : Int32) (x1 : Int32) : Met l yL_command wsL_command ({ frames := 8, cells := 2, slots := 12, locals := 135 }) (Pre D B ad (cW D ad (g, σ) T o) [.ref (ad 4 0), .int x0, .int x1]) (Qi D B (fun r u => ∃ S2 : SM, u = (ad, cW D ad S2 T o) ∧ S2 = (g, σ) ∧ r = an (cdCom g x0 x1) [-1000001, -1000002] (σ 6 (nOf x0) (nOf x1)))) 2 12 (ab B) := by
  refine y_ofWH (cc := cL_command) (maxL := 4) (ret := (some .int)) (by decide) rfl ?_
  intro p e s m args below meth c s₁ Bd hml htb hv
  obtain ⟨rfl, hC, hP⟩ := hv
  have hx := Bd.exec
  have hb := Bd.bytes
  have hr := Bd.returns
  have hts := atoms_spec (ws := wsL_command) Bd.pre
  have hown : s.vm.findClass RL = some m.cls := findClass_of_methodNamed Bd.named
  have hlocks := Bd.notSynchronized
  have hS : va_S (ab B) s.heap s.heap [] := va_S.rf
  have hl := lv_entry ([.ref (ad 4 0), .int x0, .int x1]) (n := 4) (Nat.le_of_ble_eq_true rfl)
  rw [lg_entry_eq]
  generalize (lg_sl ([.ref (ad 4 0), .int x0, .int x1]) ++ List.replicate (4 - (lg_sl ([.ref (ad 4 0), .int x0, .int x1])).length) Slot.unset).toArray = ls at hl ⊢
  have hl : lv_has ls 4 [(0, .ref (ad 4 0)), (1, .int x0), (2, .int x1)] := hl
  refine lv_aload_n hx hb dL_command_0 rfl (lv_at hl 0 rfl) ?_
  refine lv_iload_n hx hb dL_command_1 rfl (lv_at hl 1 rfl) ?_
  refine lv_iload_n hx hb dL_command_2 rfl (lv_at hl 2 rfl) ?_
  refine y_calli (vx_runV (As := [.int x0, .int x1]) (rest := []) ⟨hx, hb, hml, hown, hts⟩ (c_X4_command l hns D B ad g σ T o hI x0 x1) (cwV 2 hts gL_command_X4_command rfl rfl rfl (by decide +kernel) ⟨Nat.le_of_ble_eq_true rfl, Nat.le_of_ble_eq_true rfl⟩) (w_preV hC hP hS cW_4 rfl) rfl rfl hl.1 rfl (lv_room (Nat.le_of_ble_eq_true rfl)) dL_command_3 ⟨Nat.le_of_ble_eq_true rfl, Nat.le_of_ble_eq_true rfl⟩) hS (fun E9 ce9 q9 ad1 w1 H locs hq hP hS h91 h92 h93 => ?_) (fun r_1 ad1 w1 H locs hq hP hS => ?_)
  · obtain ⟨h84, h85⟩ := hq
    cases h84
    rcases exA_2 h85 with ⟨h86, rfl⟩ | ⟨h86, rfl⟩
    · refine vx_catch (name := exIO) hown [] (⟨0, 6, 7, 30⟩ : ExceptionTableEntry) [(⟨0, 6, 11, 16⟩ : ExceptionTableEntry)] (htb.trans rfl) (fun z hz => absurd hz List.not_mem_nil) (by decide) (by decide) (hts (.classLink RL 30 exIO) (by decide +kernel)) ((hC.2.2.2.2.2.1 exIO (by decide)).use rfl) h91 h92 h93 ?_
      refine lv_astore_n (lv' := [(3, .ref q9), (0, .ref (ad 4 0)), (1, .int x0), (2, .int x1)]) hx hb dL_command_7 rfl hl (by decide) rfl (fun ls hl => ?_)
      refine lv_ldc (v := (-1000001)) hx hb hown (hts (.constant RL 32 (-1000001)) (by decide +kernel)) dL_command_8 ?_
      exact W.iret (v := (-1000001)) hx hb hr (fun t ht hW => Qi_of ⟨_, rfl, rfl, by rw [h86]; rfl⟩ hP hS ht) hS.2.2 dL_command_10
    · refine vx_catch (name := exIA) hown [(⟨0, 6, 7, 30⟩ : ExceptionTableEntry)] (⟨0, 6, 11, 16⟩ : ExceptionTableEntry) [] (htb.trans rfl) (fun z hz => by simp only [List.mem_cons, List.not_mem_nil, or_false] at hz; rcases hz with rfl; exact Or.inr ⟨by decide, exIO, hts (.classLink RL 30 exIO) (by decide +kernel), hC.2.2.2.2.2.2.1 exIA (by decide) exIO (by decide) (by decide)⟩) (by decide) (by decide) (hts (.classLink RL 16 exIA) (by decide +kernel)) ((hC.2.2.2.2.2.1 exIA (by decide)).use rfl) h91 h92 h93 ?_
      refine lv_astore_n (lv' := [(3, .ref q9), (0, .ref (ad 4 0)), (1, .int x0), (2, .int x1)]) hx hb dL_command_11 rfl hl (by decide) rfl (fun ls hl => ?_)
      refine lv_ldc (v := (-1000002)) hx hb hown (hts (.constant RL 18 (-1000002)) (by decide +kernel)) dL_command_12 ?_
      exact W.iret (v := (-1000002)) hx hb hr (fun t ht hW => Qi_of ⟨_, rfl, rfl, by rw [h86]; rfl⟩ hP hS ht) hS.2.2 dL_command_14
  · obtain ⟨h81, h82, h83⟩ := hq
    cases h81
    subst h82
    exact W.iret (v := (σ 6 (nOf x0) (nOf x1))) hx hb hr (fun t ht hW => Qi_of ⟨_, rfl, rfl, (an_0 h83).symm⟩ hP hS ht) hS.2.2 dL_command_6
theorem t_L_command (l : Launch) (hns : l.stackTraces = false) (D : va_G) (B : Nat) (ad : Ad) (g : GC) (σ : Me) (S : SM) (L : Wd) (hI : Ib g σ) (x0 : Int32) (x1 : Int32) : Met l yL_command wsL_command ({ frames := 8, cells := 2, slots := 12, locals := 135 }) (Pre D B ad (eW D ad S (g, σ) L) [.ref (ad 17 0), .int x0, .int x1]) (Qi D B (fun r u => ∃ S2 : SM, u = (ad, eW D ad S S2 L) ∧ S2 = (g, σ) ∧ r = an (cdCom g x0 x1) [-1000001, -1000002] (σ 6 (nOf x0) (nOf x1)))) 2 12 (ab B) :=
  met_swi (X := fun r S2 => S2 = (g, σ) ∧ r = an (cdCom g x0 x1) [-1000001, -1000002] (σ 6 (nOf x0) (nOf x1))) (c_L_command l hns D B (sA ad) g σ (tW D (sA ad) S L) 0 hI x0 x1)
set_option maxHeartbeats 4000000 in
set_option maxRecDepth 100000 in
theorem c_L_tells (l : Launch) (hns : l.stackTraces = false) (D : va_G) (B : Nat) (ad : Ad) (g : GC) (σ : Me) (T : Wd) (o : Int64) (hI : Ib g σ) (x0 : Int32) (x1 : Int32) : Met l yL_tells wsL_tells ({ frames := 8, cells := 2, slots := 12, locals := 135 }) (Pre D B ad (cW D ad (g, σ) T o) [.ref (ad 4 0), .int x0, .int x1]) (Qi D B (fun r u => ∃ S2 : SM, u = (ad, cW D ad S2 T o) ∧ S2 = (g, σ) ∧ r = an (cdTel g x0 x1) [-1000001, -1000002] (tolO σ (nOf x0) x1))) 2 12 (ab B) := by
  refine y_ofWH (cc := cL_tells) (maxL := 4) (ret := (some .int)) (by decide) rfl ?_
  intro p e s m args below meth c s₁ Bd hml htb hv
  obtain ⟨rfl, hC, hP⟩ := hv
  have hx := Bd.exec
  have hb := Bd.bytes
  have hr := Bd.returns
  have hts := atoms_spec (ws := wsL_tells) Bd.pre
  have hown : s.vm.findClass RL = some m.cls := findClass_of_methodNamed Bd.named
  have hlocks := Bd.notSynchronized
  have hS : va_S (ab B) s.heap s.heap [] := va_S.rf
  have hl := lv_entry ([.ref (ad 4 0), .int x0, .int x1]) (n := 4) (Nat.le_of_ble_eq_true rfl)
  rw [lg_entry_eq]
  generalize (lg_sl ([.ref (ad 4 0), .int x0, .int x1]) ++ List.replicate (4 - (lg_sl ([.ref (ad 4 0), .int x0, .int x1])).length) Slot.unset).toArray = ls at hl ⊢
  have hl : lv_has ls 4 [(0, .ref (ad 4 0)), (1, .int x0), (2, .int x1)] := hl
  refine lv_aload_n hx hb dL_tells_0 rfl (lv_at hl 0 rfl) ?_
  refine lv_iload_n hx hb dL_tells_1 rfl (lv_at hl 1 rfl) ?_
  refine lv_iload_n hx hb dL_tells_2 rfl (lv_at hl 2 rfl) ?_
  refine y_calli (vx_runV (As := [.int x0, .int x1]) (rest := []) ⟨hx, hb, hml, hown, hts⟩ (c_X4_tells l hns D B ad g σ T o hI x0 x1) (cwV 2 hts gL_tells_X4_tells rfl rfl rfl (by decide +kernel) ⟨Nat.le_of_ble_eq_true rfl, Nat.le_of_ble_eq_true rfl⟩) (w_preV hC hP hS cW_4 rfl) rfl rfl hl.1 rfl (lv_room (Nat.le_of_ble_eq_true rfl)) dL_tells_3 ⟨Nat.le_of_ble_eq_true rfl, Nat.le_of_ble_eq_true rfl⟩) hS (fun E9 ce9 q9 ad1 w1 H locs hq hP hS h91 h92 h93 => ?_) (fun r_1 ad1 w1 H locs hq hP hS => ?_)
  · obtain ⟨h84, h85⟩ := hq
    cases h84
    rcases exA_2 h85 with ⟨h86, rfl⟩ | ⟨h86, rfl⟩
    · refine vx_catch (name := exIO) hown [] (⟨0, 6, 7, 30⟩ : ExceptionTableEntry) [(⟨0, 6, 11, 16⟩ : ExceptionTableEntry)] (htb.trans rfl) (fun z hz => absurd hz List.not_mem_nil) (by decide) (by decide) (hts (.classLink RL 30 exIO) (by decide +kernel)) ((hC.2.2.2.2.2.1 exIO (by decide)).use rfl) h91 h92 h93 ?_
      refine lv_astore_n (lv' := [(3, .ref q9), (0, .ref (ad 4 0)), (1, .int x0), (2, .int x1)]) hx hb dL_tells_7 rfl hl (by decide) rfl (fun ls hl => ?_)
      refine lv_ldc (v := (-1000001)) hx hb hown (hts (.constant RL 32 (-1000001)) (by decide +kernel)) dL_tells_8 ?_
      exact W.iret (v := (-1000001)) hx hb hr (fun t ht hW => Qi_of ⟨_, rfl, rfl, by rw [h86]; rfl⟩ hP hS ht) hS.2.2 dL_tells_10
    · refine vx_catch (name := exIA) hown [(⟨0, 6, 7, 30⟩ : ExceptionTableEntry)] (⟨0, 6, 11, 16⟩ : ExceptionTableEntry) [] (htb.trans rfl) (fun z hz => by simp only [List.mem_cons, List.not_mem_nil, or_false] at hz; rcases hz with rfl; exact Or.inr ⟨by decide, exIO, hts (.classLink RL 30 exIO) (by decide +kernel), hC.2.2.2.2.2.2.1 exIA (by decide) exIO (by decide) (by decide)⟩) (by decide) (by decide) (hts (.classLink RL 16 exIA) (by decide +kernel)) ((hC.2.2.2.2.2.1 exIA (by decide)).use rfl) h91 h92 h93 ?_
      refine lv_astore_n (lv' := [(3, .ref q9), (0, .ref (ad 4 0)), (1, .int x0), (2, .int x1)]) hx hb dL_tells_11 rfl hl (by decide) rfl (fun ls hl => ?_)
      refine lv_ldc (v := (-1000002)) hx hb hown (hts (.constant RL 18 (-1000002)) (by decide +kernel)) dL_tells_12 ?_
      exact W.iret (v := (-1000002)) hx hb hr (fun t ht hW => Qi_of ⟨_, rfl, rfl, by rw [h86]; rfl⟩ hP hS ht) hS.2.2 dL_tells_14
  · obtain ⟨h81, h82, h83⟩ := hq
    cases h81
    subst h82
    exact W.iret (v := (tolO σ (nOf x0) x1)) hx hb hr (fun t ht hW => Qi_of ⟨_, rfl, rfl, (an_0 h83).symm⟩ hP hS ht) hS.2.2 dL_tells_6
theorem t_L_tells (l : Launch) (hns : l.stackTraces = false) (D : va_G) (B : Nat) (ad : Ad) (g : GC) (σ : Me) (S : SM) (L : Wd) (hI : Ib g σ) (x0 : Int32) (x1 : Int32) : Met l yL_tells wsL_tells ({ frames := 8, cells := 2, slots := 12, locals := 135 }) (Pre D B ad (eW D ad S (g, σ) L) [.ref (ad 17 0), .int x0, .int x1]) (Qi D B (fun r u => ∃ S2 : SM, u = (ad, eW D ad S S2 L) ∧ S2 = (g, σ) ∧ r = an (cdTel g x0 x1) [-1000001, -1000002] (tolO σ (nOf x0) x1))) 2 12 (ab B) :=
  met_swi (X := fun r S2 => S2 = (g, σ) ∧ r = an (cdTel g x0 x1) [-1000001, -1000002] (tolO σ (nOf x0) x1)) (c_L_tells l hns D B (sA ad) g σ (tW D (sA ad) S L) 0 hI x0 x1)
set_option maxHeartbeats 4000000 in
set_option maxRecDepth 100000 in
theorem c_L_goesOn (l : Launch) (hns : l.stackTraces = false) (D : va_G) (B : Nat) (ad : Ad) (g : GC) (σ : Me) (T : Wd) (o : Int64) (hI : Ib g σ) (x0 : Int32) : Met l yL_goesOn wsL_goesOn ({ frames := 8, cells := 1, slots := 6, locals := 132 }) (Pre D B ad (cW D ad (g, σ) T o) [.ref (ad 4 0), .int x0]) (Qi D B (fun r u => ∃ S2 : SM, u = (ad, cW D ad S2 T o) ∧ S2 = (g, σ) ∧ r = an (cdPt g.2.1 x0) [-1000001] (1 - σ 11 (nOf x0) 0))) 1 6 (ab B) := by
  refine y_ofWH (cc := cL_goesOn) (maxL := 3) (ret := (some .int)) (by decide) rfl ?_
  intro p e s m args below meth c s₁ Bd hml htb hv
  obtain ⟨rfl, hC, hP⟩ := hv
  have hx := Bd.exec
  have hb := Bd.bytes
  have hr := Bd.returns
  have hts := atoms_spec (ws := wsL_goesOn) Bd.pre
  have hown : s.vm.findClass RL = some m.cls := findClass_of_methodNamed Bd.named
  have hlocks := Bd.notSynchronized
  have hS : va_S (ab B) s.heap s.heap [] := va_S.rf
  have hl := lv_entry ([.ref (ad 4 0), .int x0]) (n := 3) (Nat.le_of_ble_eq_true rfl)
  rw [lg_entry_eq]
  generalize (lg_sl ([.ref (ad 4 0), .int x0]) ++ List.replicate (3 - (lg_sl ([.ref (ad 4 0), .int x0])).length) Slot.unset).toArray = ls at hl ⊢
  have hl : lv_has ls 3 [(0, .ref (ad 4 0)), (1, .int x0)] := hl
  refine lv_aload_n hx hb dL_goesOn_0 rfl (lv_at hl 0 rfl) ?_
  refine lv_iload_n hx hb dL_goesOn_1 rfl (lv_at hl 1 rfl) ?_
  refine y_calli (vx_runV (As := [.int x0]) (rest := []) ⟨hx, hb, hml, hown, hts⟩ (c_X4_goesOn l hns D B ad g σ T o hI x0) (cwV 1 hts gL_goesOn_X4_goesOn rfl rfl rfl (by decide +kernel) ⟨Nat.le_of_ble_eq_true rfl, Nat.le_of_ble_eq_true rfl⟩) (w_preV hC hP hS cW_4 rfl) rfl rfl hl.1 rfl (lv_room (Nat.le_of_ble_eq_true rfl)) dL_goesOn_2 ⟨Nat.le_of_ble_eq_true rfl, Nat.le_of_ble_eq_true rfl⟩) hS (fun E9 ce9 q9 ad1 w1 H locs hq hP hS h91 h92 h93 => ?_) (fun r_1 ad1 w1 H locs hq hP hS => ?_)
  · obtain ⟨h84, h85⟩ := hq
    cases h84
    rcases exA_1 h85 with ⟨h86, rfl⟩
    · refine vx_catch (name := exIO) hown [] (⟨0, 13, 14, 30⟩ : ExceptionTableEntry) [] (htb.trans rfl) (fun z hz => absurd hz List.not_mem_nil) (by decide) (by decide) (hts (.classLink RL 30 exIO) (by decide +kernel)) ((hC.2.2.2.2.2.1 exIO (by decide)).use rfl) h91 h92 h93 ?_
      refine lv_astore_n (lv' := [(2, .ref q9), (0, .ref (ad 4 0)), (1, .int x0)]) hx hb dL_goesOn_14 rfl hl (by decide) rfl (fun ls hl => ?_)
      refine lv_ldc (v := (-1000001)) hx hb hown (hts (.constant RL 32 (-1000001)) (by decide +kernel)) dL_goesOn_15 ?_
      exact W.iret (v := (-1000001)) hx hb hr (fun t ht hW => Qi_of ⟨_, rfl, rfl, by rw [h86]; rfl⟩ hP hS ht) hS.2.2 dL_goesOn_17
  · obtain ⟨h81, h82, h83⟩ := hq
    cases h81
    subst h82
    refine lv_if_eq (tgt := 12) hx hb dL_goesOn_5 (by decide) (fun c_5 => ?_) (fun c_5 => ?_)
    · refine lv_iconst (v := 0) hx hb dL_goesOn_12 (by decide) ?_
      exact W.iret (v := 0) hx hb hr (fun t ht hW => Qi_of ⟨_, rfl, rfl, by rw [an_0 h83]; exact c_5.symm⟩ hP hS ht) hS.2.2 dL_goesOn_13
    · have e1 : 1 - σ 11 (nOf x0) 0 = 1 := by
        obtain ⟨pi, hpi, hx0⟩ := (cod3_z (show cod3 (isN g.2.1 x0) True True = 0 from h83)).1
        have hcl : nOf x0 = pi := by rw [hx0]; exact nI_clamp (by have := hI.2.1; omega)
        rw [hcl] at c_5 ⊢
        rcases (hI.2.2.2.2.1 pi hpi).1 with z | z
        · rw [z]; decide
        · rw [z] at c_5; exact absurd (by decide) c_5
      refine lv_iconst (v := 1) hx hb dL_goesOn_8 (by decide) ?_
      refine lv_goto (tgt := 13) hx hb dL_goesOn_9 (by decide) ?_
      exact W.iret (v := 1) hx hb hr (fun t ht hW => Qi_of ⟨_, rfl, rfl, by rw [an_0 h83]; exact e1.symm⟩ hP hS ht) hS.2.2 dL_goesOn_13
theorem t_L_goesOn (l : Launch) (hns : l.stackTraces = false) (D : va_G) (B : Nat) (ad : Ad) (g : GC) (σ : Me) (S : SM) (L : Wd) (hI : Ib g σ) (x0 : Int32) : Met l yL_goesOn wsL_goesOn ({ frames := 8, cells := 1, slots := 6, locals := 132 }) (Pre D B ad (eW D ad S (g, σ) L) [.ref (ad 17 0), .int x0]) (Qi D B (fun r u => ∃ S2 : SM, u = (ad, eW D ad S S2 L) ∧ S2 = (g, σ) ∧ r = an (cdPt g.2.1 x0) [-1000001] (1 - σ 11 (nOf x0) 0))) 1 6 (ab B) :=
  met_swi (X := fun r S2 => S2 = (g, σ) ∧ r = an (cdPt g.2.1 x0) [-1000001] (1 - σ 11 (nOf x0) 0)) (c_L_goesOn l hns D B (sA ad) g σ (tW D (sA ad) S L) 0 hI x0)
