/-! the law's calls that change -/
set_option maxHeartbeats 4000000 in
set_option maxRecDepth 100000 in
theorem c_L_write (l : Launch) (hns : l.stackTraces = false) (D : va_G) (B : Nat) (ad : Ad) (g : GC) (σ : Me) (T : Wd) (o : Int64) (hI : Ib g σ) (x0 : Int32) (x1 : Int32) (x2 : Int32) : Met l yL_write wsL_write ({ frames := 8, cells := 4, slots := 24, locals := 136 }) (Pre D B ad (cW D ad (g, σ) T o) [.ref (ad 4 0), .int x0, .int x1, .int x2]) (Qi D B (fun r u => ∃ S2 : SM, u = (ad, cW D ad S2 T o) ∧ ((cdWri g σ x0 x1 x2 = 0 → S2 = (g, setF g.2.1 (nOf x0) (nOf x1) x2 σ) ∧ r = vaO (setF g.2.1 (nOf x0) (nOf x1) x2 σ) (nOf x0)) ∧ (¬ cdWri g σ x0 x1 x2 = 0 → S2 = (g, σ) ∧ r = an (cdWri g σ x0 x1 x2) [-1000001, -1000002, -1000003] 0)))) 4 24 (ab B) := by
  refine y_ofWH (cc := cL_write) (maxL := 5) (ret := (some .int)) (by decide) rfl ?_
  intro p e s m args below meth c s₁ Bd hml htb hv
  obtain ⟨rfl, hC, hP⟩ := hv
  have hx := Bd.exec
  have hb := Bd.bytes
  have hr := Bd.returns
  have hts := atoms_spec (ws := wsL_write) Bd.pre
  have hown : s.vm.findClass RL = some m.cls := findClass_of_methodNamed Bd.named
  have hlocks := Bd.notSynchronized
  have hS : va_S (ab B) s.heap s.heap [] := va_S.rf
  have hl := lv_entry ([.ref (ad 4 0), .int x0, .int x1, .int x2]) (n := 5) (Nat.le_of_ble_eq_true rfl)
  rw [lg_entry_eq]
  generalize (lg_sl ([.ref (ad 4 0), .int x0, .int x1, .int x2]) ++ List.replicate (5 - (lg_sl ([.ref (ad 4 0), .int x0, .int x1, .int x2])).length) Slot.unset).toArray = ls at hl ⊢
  have hl : lv_has ls 5 [(0, .ref (ad 4 0)), (1, .int x0), (2, .int x1), (3, .int x2)] := hl
  refine lv_aload_n hx hb dL_write_0 rfl (lv_at hl 0 rfl) ?_
  refine lv_iload_n hx hb dL_write_1 rfl (lv_at hl 1 rfl) ?_
  refine lv_iload_n hx hb dL_write_2 rfl (lv_at hl 2 rfl) ?_
  refine lv_iload_n hx hb dL_write_3 rfl (lv_at hl 3 rfl) ?_
  refine y_calli (vx_runV (As := [.int x0, .int x1, .int x2]) (rest := []) ⟨hx, hb, hml, hown, hts⟩ (c_X4_write l hns D B ad g σ T o hI x0 x1 x2) (cwV 3 hts gL_write_X4_write rfl rfl rfl (by decide +kernel) ⟨Nat.le_of_ble_eq_true rfl, Nat.le_of_ble_eq_true rfl⟩) (w_preV hC hP hS cW_4 rfl) rfl rfl hl.1 rfl (lv_room (Nat.le_of_ble_eq_true rfl)) dL_write_4 ⟨Nat.le_of_ble_eq_true rfl, Nat.le_of_ble_eq_true rfl⟩) hS (fun E9 ce9 q9 ad1 w1 H locs hq hP hS h91 h92 h93 => ?_) (fun r_1 ad1 w1 H locs hq hP hS => ?_)
  · obtain ⟨h84, h85⟩ := hq
    cases h84
    rcases exA_3 h85 with ⟨h86, rfl⟩ | ⟨h86, rfl⟩ | ⟨h86, rfl⟩
    · refine vx_catch (name := exIO) hown [] (⟨0, 7, 8, 30⟩ : ExceptionTableEntry) [(⟨0, 7, 13, 16⟩ : ExceptionTableEntry), (⟨0, 7, 18, 19⟩ : ExceptionTableEntry)] (htb.trans rfl) (fun z hz => absurd hz List.not_mem_nil) (by decide) (by decide) (hts (.classLink RL 30 exIO) (by decide +kernel)) ((hC.2.2.2.2.2.1 exIO (by decide)).use rfl) h91 h92 h93 ?_
      refine lv_astore (lv' := [(4, .ref q9), (0, .ref (ad 4 0)), (1, .int x0), (2, .int x1), (3, .int x2)]) hx hb dL_write_8 hl (by decide) rfl (fun ls hl => ?_)
      refine lv_ldc (v := (-1000001)) hx hb hown (hts (.constant RL 32 (-1000001)) (by decide +kernel)) dL_write_10 ?_
      exact W.iret (v := (-1000001)) hx hb hr (fun t ht hW => Qi_of ⟨_, rfl, fun z => absurd (z.symm.trans h86) (by decide), fun _ => ⟨rfl, by rw [h86]; rfl⟩⟩ hP hS ht) hS.2.2 dL_write_12
    · refine vx_catch (name := exIA) hown [(⟨0, 7, 8, 30⟩ : ExceptionTableEntry)] (⟨0, 7, 13, 16⟩ : ExceptionTableEntry) [(⟨0, 7, 18, 19⟩ : ExceptionTableEntry)] (htb.trans rfl) (fun z hz => by simp only [List.mem_cons, List.not_mem_nil, or_false] at hz; rcases hz with rfl; exact Or.inr ⟨by decide, exIO, hts (.classLink RL 30 exIO) (by decide +kernel), hC.2.2.2.2.2.2.1 exIA (by decide) exIO (by decide) (by decide)⟩) (by decide) (by decide) (hts (.classLink RL 16 exIA) (by decide +kernel)) ((hC.2.2.2.2.2.1 exIA (by decide)).use rfl) h91 h92 h93 ?_
      refine lv_astore (lv' := [(4, .ref q9), (0, .ref (ad 4 0)), (1, .int x0), (2, .int x1), (3, .int x2)]) hx hb dL_write_13 hl (by decide) rfl (fun ls hl => ?_)
      refine lv_ldc (v := (-1000002)) hx hb hown (hts (.constant RL 18 (-1000002)) (by decide +kernel)) dL_write_15 ?_
      exact W.iret (v := (-1000002)) hx hb hr (fun t ht hW => Qi_of ⟨_, rfl, fun z => absurd (z.symm.trans h86) (by decide), fun _ => ⟨rfl, by rw [h86]; rfl⟩⟩ hP hS ht) hS.2.2 dL_write_17
    · refine vx_catch (name := exIS) hown [(⟨0, 7, 8, 30⟩ : ExceptionTableEntry), (⟨0, 7, 13, 16⟩ : ExceptionTableEntry)] (⟨0, 7, 18, 19⟩ : ExceptionTableEntry) [] (htb.trans rfl) (fun z hz => by simp only [List.mem_cons, List.not_mem_nil, or_false] at hz; rcases hz with rfl | rfl; exact Or.inr ⟨by decide, exIO, hts (.classLink RL 30 exIO) (by decide +kernel), hC.2.2.2.2.2.2.1 exIS (by decide) exIO (by decide) (by decide)⟩; exact Or.inr ⟨by decide, exIA, hts (.classLink RL 16 exIA) (by decide +kernel), hC.2.2.2.2.2.2.1 exIS (by decide) exIA (by decide) (by decide)⟩) (by decide) (by decide) (hts (.classLink RL 19 exIS) (by decide +kernel)) ((hC.2.2.2.2.2.1 exIS (by decide)).use rfl) h91 h92 h93 ?_
      refine lv_astore (lv' := [(4, .ref q9), (0, .ref (ad 4 0)), (1, .int x0), (2, .int x1), (3, .int x2)]) hx hb dL_write_18 hl (by decide) rfl (fun ls hl => ?_)
      refine lv_ldc (v := (-1000003)) hx hb hown (hts (.constant RL 21 (-1000003)) (by decide +kernel)) dL_write_20 ?_
      exact W.iret (v := (-1000003)) hx hb hr (fun t ht hW => Qi_of ⟨_, rfl, fun z => absurd (z.symm.trans h86) (by decide), fun _ => ⟨rfl, by rw [h86]; rfl⟩⟩ hP hS ht) hS.2.2 dL_write_22
  · obtain ⟨h81, h82, h83⟩ := hq
    cases h81
    subst h82
    exact W.iret (v := (vaO (setF g.2.1 (nOf x0) (nOf x1) x2 σ) (nOf x0))) hx hb hr (fun t ht hW => Qi_of ⟨_, rfl, fun _ => ⟨rfl, rfl⟩, fun z => absurd h83 z⟩ hP hS ht) hS.2.2 dL_write_7
theorem t_L_write (l : Launch) (hns : l.stackTraces = false) (D : va_G) (B : Nat) (ad : Ad) (g : GC) (σ : Me) (S : SM) (L : Wd) (hI : Ib g σ) (x0 : Int32) (x1 : Int32) (x2 : Int32) : Met l yL_write wsL_write ({ frames := 8, cells := 4, slots := 24, locals := 136 }) (Pre D B ad (eW D ad S (g, σ) L) [.ref (ad 17 0), .int x0, .int x1, .int x2]) (Qi D B (fun r u => ∃ S2 : SM, u = (ad, eW D ad S S2 L) ∧ ((cdWri g σ x0 x1 x2 = 0 → S2 = (g, setF g.2.1 (nOf x0) (nOf x1) x2 σ) ∧ r = vaO (setF g.2.1 (nOf x0) (nOf x1) x2 σ) (nOf x0)) ∧ (¬ cdWri g σ x0 x1 x2 = 0 → S2 = (g, σ) ∧ r = an (cdWri g σ x0 x1 x2) [-1000001, -1000002, -1000003] 0)))) 4 24 (ab B) :=
  met_swi (X := fun r S2 => (cdWri g σ x0 x1 x2 = 0 → S2 = (g, setF g.2.1 (nOf x0) (nOf x1) x2 σ) ∧ r = vaO (setF g.2.1 (nOf x0) (nOf x1) x2 σ) (nOf x0)) ∧ (¬ cdWri g σ x0 x1 x2 = 0 → S2 = (g, σ) ∧ r = an (cdWri g σ x0 x1 x2) [-1000001, -1000002, -1000003] 0)) (c_L_write l hns D B (sA ad) g σ (tW D (sA ad) S L) 0 hI x0 x1 x2)
set_option maxHeartbeats 4000000 in
set_option maxRecDepth 100000 in
theorem c_L_weekly (l : Launch) (hns : l.stackTraces = false) (D : va_G) (B : Nat) (ad : Ad) (g : GC) (σ : Me) (T : Wd) (o : Int64) (hI : Ib g σ) (t : Nat) (ht : σ 25 0 0 = nI t) (ht2 : t ≤ 1000000) (x0 : Int32) (x1 : Int32) (x2 : Int32) (x3 : Int32) : Met l yL_weekly wsL_weekly ({ frames := 9, cells := 5, slots := 30, locals := 159 }) (Pre D B ad (cW D ad (g, σ) T o) [.ref (ad 4 0), .int x0, .int x1, .int x2, .int x3]) (Qi D B (fun r u => ∃ S2 : SM, u = (ad, cW D ad S2 T o) ∧ ((cdEnt g σ 6 x0 x1 x2 x3 = 0 → S2 = (g, obeF g.2.1 (nOf x0) (entM (nOf x0) x1 x2 x3 (entC (2 * nOf x0) x1 x2 x3 σ))) ∧ r = obeF g.2.1 (nOf x0) (entM (nOf x0) x1 x2 x3 (entC (2 * nOf x0) x1 x2 x3 σ)) 16 (nOf x0) 0) ∧ (¬ cdEnt g σ 6 x0 x1 x2 x3 = 0 → S2 = (g, σ) ∧ r = an (cdEnt g σ 6 x0 x1 x2 x3) [-1000001, -1000002, -1000003] 0)))) 5 30 (ab B) := by
  refine y_ofWH (cc := cL_weekly) (maxL := 6) (ret := (some .int)) (by decide) rfl ?_
  intro p e s m args below meth c s₁ Bd hml htb hv
  obtain ⟨rfl, hC, hP⟩ := hv
  have hx := Bd.exec
  have hb := Bd.bytes
  have hr := Bd.returns
  have hts := atoms_spec (ws := wsL_weekly) Bd.pre
  have hown : s.vm.findClass RL = some m.cls := findClass_of_methodNamed Bd.named
  have hlocks := Bd.notSynchronized
  have hS : va_S (ab B) s.heap s.heap [] := va_S.rf
  have hl := lv_entry ([.ref (ad 4 0), .int x0, .int x1, .int x2, .int x3]) (n := 6) (Nat.le_of_ble_eq_true rfl)
  rw [lg_entry_eq]
  generalize (lg_sl ([.ref (ad 4 0), .int x0, .int x1, .int x2, .int x3]) ++ List.replicate (6 - (lg_sl ([.ref (ad 4 0), .int x0, .int x1, .int x2, .int x3])).length) Slot.unset).toArray = ls at hl ⊢
  have hl : lv_has ls 6 [(0, .ref (ad 4 0)), (1, .int x0), (2, .int x1), (3, .int x2), (4, .int x3)] := hl
  refine lv_aload_n hx hb dL_weekly_0 rfl (lv_at hl 0 rfl) ?_
  refine lv_iload_n hx hb dL_weekly_1 rfl (lv_at hl 1 rfl) ?_
  refine lv_iload_n hx hb dL_weekly_2 rfl (lv_at hl 2 rfl) ?_
  refine lv_iload_n hx hb dL_weekly_3 rfl (lv_at hl 3 rfl) ?_
  refine lv_iload hx hb dL_weekly_4 (lv_at hl 4 rfl) ?_
  refine y_calli (vx_runV (As := [.int x0, .int x1, .int x2, .int x3]) (rest := []) ⟨hx, hb, hml, hown, hts⟩ (c_X4_weekly l hns D B ad g σ T o hI t ht ht2 x0 x1 x2 x3) (cwV 4 hts gL_weekly_X4_weekly rfl rfl rfl (by decide +kernel) ⟨Nat.le_of_ble_eq_true rfl, Nat.le_of_ble_eq_true rfl⟩) (w_preV hC hP hS cW_4 rfl) rfl rfl hl.1 rfl (lv_room (Nat.le_of_ble_eq_true rfl)) dL_weekly_6 ⟨Nat.le_of_ble_eq_true rfl, Nat.le_of_ble_eq_true rfl⟩) hS (fun E9 ce9 q9 ad1 w1 H locs hq hP hS h91 h92 h93 => ?_) (fun r_1 ad1 w1 H locs hq hP hS => ?_)
  · obtain ⟨h84, h85⟩ := hq
    cases h84
    rcases exA_3 h85 with ⟨h86, rfl⟩ | ⟨h86, rfl⟩ | ⟨h86, rfl⟩
    · refine vx_catch (name := exIO) hown [] (⟨0, 9, 10, 30⟩ : ExceptionTableEntry) [(⟨0, 9, 15, 16⟩ : ExceptionTableEntry), (⟨0, 9, 20, 19⟩ : ExceptionTableEntry)] (htb.trans rfl) (fun z hz => absurd hz List.not_mem_nil) (by decide) (by decide) (hts (.classLink RL 30 exIO) (by decide +kernel)) ((hC.2.2.2.2.2.1 exIO (by decide)).use rfl) h91 h92 h93 ?_
      refine lv_astore (lv' := [(5, .ref q9), (0, .ref (ad 4 0)), (1, .int x0), (2, .int x1), (3, .int x2), (4, .int x3)]) hx hb dL_weekly_10 hl (by decide) rfl (fun ls hl => ?_)
      refine lv_ldc (v := (-1000001)) hx hb hown (hts (.constant RL 32 (-1000001)) (by decide +kernel)) dL_weekly_12 ?_
      exact W.iret (v := (-1000001)) hx hb hr (fun t ht hW => Qi_of ⟨_, rfl, fun z => absurd (z.symm.trans h86) (by decide), fun _ => ⟨rfl, by rw [h86]; rfl⟩⟩ hP hS ht) hS.2.2 dL_weekly_14
    · refine vx_catch (name := exIA) hown [(⟨0, 9, 10, 30⟩ : ExceptionTableEntry)] (⟨0, 9, 15, 16⟩ : ExceptionTableEntry) [(⟨0, 9, 20, 19⟩ : ExceptionTableEntry)] (htb.trans rfl) (fun z hz => by simp only [List.mem_cons, List.not_mem_nil, or_false] at hz; rcases hz with rfl; exact Or.inr ⟨by decide, exIO, hts (.classLink RL 30 exIO) (by decide +kernel), hC.2.2.2.2.2.2.1 exIA (by decide) exIO (by decide) (by decide)⟩) (by decide) (by decide) (hts (.classLink RL 16 exIA) (by decide +kernel)) ((hC.2.2.2.2.2.1 exIA (by decide)).use rfl) h91 h92 h93 ?_
      refine lv_astore (lv' := [(5, .ref q9), (0, .ref (ad 4 0)), (1, .int x0), (2, .int x1), (3, .int x2), (4, .int x3)]) hx hb dL_weekly_15 hl (by decide) rfl (fun ls hl => ?_)
      refine lv_ldc (v := (-1000002)) hx hb hown (hts (.constant RL 18 (-1000002)) (by decide +kernel)) dL_weekly_17 ?_
      exact W.iret (v := (-1000002)) hx hb hr (fun t ht hW => Qi_of ⟨_, rfl, fun z => absurd (z.symm.trans h86) (by decide), fun _ => ⟨rfl, by rw [h86]; rfl⟩⟩ hP hS ht) hS.2.2 dL_weekly_19
    · refine vx_catch (name := exIS) hown [(⟨0, 9, 10, 30⟩ : ExceptionTableEntry), (⟨0, 9, 15, 16⟩ : ExceptionTableEntry)] (⟨0, 9, 20, 19⟩ : ExceptionTableEntry) [] (htb.trans rfl) (fun z hz => by simp only [List.mem_cons, List.not_mem_nil, or_false] at hz; rcases hz with rfl | rfl; exact Or.inr ⟨by decide, exIO, hts (.classLink RL 30 exIO) (by decide +kernel), hC.2.2.2.2.2.2.1 exIS (by decide) exIO (by decide) (by decide)⟩; exact Or.inr ⟨by decide, exIA, hts (.classLink RL 16 exIA) (by decide +kernel), hC.2.2.2.2.2.2.1 exIS (by decide) exIA (by decide) (by decide)⟩) (by decide) (by decide) (hts (.classLink RL 19 exIS) (by decide +kernel)) ((hC.2.2.2.2.2.1 exIS (by decide)).use rfl) h91 h92 h93 ?_
      refine lv_astore (lv' := [(5, .ref q9), (0, .ref (ad 4 0)), (1, .int x0), (2, .int x1), (3, .int x2), (4, .int x3)]) hx hb dL_weekly_20 hl (by decide) rfl (fun ls hl => ?_)
      refine lv_ldc (v := (-1000003)) hx hb hown (hts (.constant RL 21 (-1000003)) (by decide +kernel)) dL_weekly_22 ?_
      exact W.iret (v := (-1000003)) hx hb hr (fun t ht hW => Qi_of ⟨_, rfl, fun z => absurd (z.symm.trans h86) (by decide), fun _ => ⟨rfl, by rw [h86]; rfl⟩⟩ hP hS ht) hS.2.2 dL_weekly_24
  · obtain ⟨h81, h82, h83⟩ := hq
    cases h81
    subst h82
    exact W.iret (v := (obeF g.2.1 (nOf x0) (entM (nOf x0) x1 x2 x3 (entC (2 * nOf x0) x1 x2 x3 σ)) 16 (nOf x0) 0)) hx hb hr (fun t ht hW => Qi_of ⟨_, rfl, fun _ => ⟨rfl, rfl⟩, fun z => absurd h83 z⟩ hP hS ht) hS.2.2 dL_weekly_9
theorem t_L_weekly (l : Launch) (hns : l.stackTraces = false) (D : va_G) (B : Nat) (ad : Ad) (g : GC) (σ : Me) (S : SM) (L : Wd) (hI : Ib g σ) (t : Nat) (ht : σ 25 0 0 = nI t) (ht2 : t ≤ 1000000) (x0 : Int32) (x1 : Int32) (x2 : Int32) (x3 : Int32) : Met l yL_weekly wsL_weekly ({ frames := 9, cells := 5, slots := 30, locals := 159 }) (Pre D B ad (eW D ad S (g, σ) L) [.ref (ad 17 0), .int x0, .int x1, .int x2, .int x3]) (Qi D B (fun r u => ∃ S2 : SM, u = (ad, eW D ad S S2 L) ∧ ((cdEnt g σ 6 x0 x1 x2 x3 = 0 → S2 = (g, obeF g.2.1 (nOf x0) (entM (nOf x0) x1 x2 x3 (entC (2 * nOf x0) x1 x2 x3 σ))) ∧ r = obeF g.2.1 (nOf x0) (entM (nOf x0) x1 x2 x3 (entC (2 * nOf x0) x1 x2 x3 σ)) 16 (nOf x0) 0) ∧ (¬ cdEnt g σ 6 x0 x1 x2 x3 = 0 → S2 = (g, σ) ∧ r = an (cdEnt g σ 6 x0 x1 x2 x3) [-1000001, -1000002, -1000003] 0)))) 5 30 (ab B) :=
  met_swi (X := fun r S2 => (cdEnt g σ 6 x0 x1 x2 x3 = 0 → S2 = (g, obeF g.2.1 (nOf x0) (entM (nOf x0) x1 x2 x3 (entC (2 * nOf x0) x1 x2 x3 σ))) ∧ r = obeF g.2.1 (nOf x0) (entM (nOf x0) x1 x2 x3 (entC (2 * nOf x0) x1 x2 x3 σ)) 16 (nOf x0) 0) ∧ (¬ cdEnt g σ 6 x0 x1 x2 x3 = 0 → S2 = (g, σ) ∧ r = an (cdEnt g σ 6 x0 x1 x2 x3) [-1000001, -1000002, -1000003] 0)) (c_L_weekly l hns D B (sA ad) g σ (tW D (sA ad) S L) 0 hI t ht ht2 x0 x1 x2 x3)
set_option maxHeartbeats 4000000 in
set_option maxRecDepth 100000 in
theorem c_L_once (l : Launch) (hns : l.stackTraces = false) (D : va_G) (B : Nat) (ad : Ad) (g : GC) (σ : Me) (T : Wd) (o : Int64) (hI : Ib g σ) (t : Nat) (ht : σ 25 0 0 = nI t) (ht2 : t ≤ 1000000) (x0 : Int32) (x1 : Int32) (x2 : Int32) (x3 : Int32) : Met l yL_once wsL_once ({ frames := 9, cells := 5, slots := 30, locals := 159 }) (Pre D B ad (cW D ad (g, σ) T o) [.ref (ad 4 0), .int x0, .int x1, .int x2, .int x3]) (Qi D B (fun r u => ∃ S2 : SM, u = (ad, cW D ad S2 T o) ∧ ((cdEnt g σ 700 x0 x1 x2 x3 = 0 → S2 = (g, obeF g.2.1 (nOf x0) (entM (nOf x0) (10 + x1) x2 x3 (entC (2 * nOf x0 + 1) x1 x2 x3 σ))) ∧ r = obeF g.2.1 (nOf x0) (entM (nOf x0) (10 + x1) x2 x3 (entC (2 * nOf x0 + 1) x1 x2 x3 σ)) 16 (nOf x0) 0) ∧ (¬ cdEnt g σ 700 x0 x1 x2 x3 = 0 → S2 = (g, σ) ∧ r = an (cdEnt g σ 700 x0 x1 x2 x3) [-1000001, -1000002, -1000003] 0)))) 5 30 (ab B) := by
  refine y_ofWH (cc := cL_once) (maxL := 6) (ret := (some .int)) (by decide) rfl ?_
  intro p e s m args below meth c s₁ Bd hml htb hv
  obtain ⟨rfl, hC, hP⟩ := hv
  have hx := Bd.exec
  have hb := Bd.bytes
  have hr := Bd.returns
  have hts := atoms_spec (ws := wsL_once) Bd.pre
  have hown : s.vm.findClass RL = some m.cls := findClass_of_methodNamed Bd.named
  have hlocks := Bd.notSynchronized
  have hS : va_S (ab B) s.heap s.heap [] := va_S.rf
  have hl := lv_entry ([.ref (ad 4 0), .int x0, .int x1, .int x2, .int x3]) (n := 6) (Nat.le_of_ble_eq_true rfl)
  rw [lg_entry_eq]
  generalize (lg_sl ([.ref (ad 4 0), .int x0, .int x1, .int x2, .int x3]) ++ List.replicate (6 - (lg_sl ([.ref (ad 4 0), .int x0, .int x1, .int x2, .int x3])).length) Slot.unset).toArray = ls at hl ⊢
  have hl : lv_has ls 6 [(0, .ref (ad 4 0)), (1, .int x0), (2, .int x1), (3, .int x2), (4, .int x3)] := hl
  refine lv_aload_n hx hb dL_once_0 rfl (lv_at hl 0 rfl) ?_
  refine lv_iload_n hx hb dL_once_1 rfl (lv_at hl 1 rfl) ?_
  refine lv_iload_n hx hb dL_once_2 rfl (lv_at hl 2 rfl) ?_
  refine lv_iload_n hx hb dL_once_3 rfl (lv_at hl 3 rfl) ?_
  refine lv_iload hx hb dL_once_4 (lv_at hl 4 rfl) ?_
  refine y_calli (vx_runV (As := [.int x0, .int x1, .int x2, .int x3]) (rest := []) ⟨hx, hb, hml, hown, hts⟩ (c_X4_once l hns D B ad g σ T o hI t ht ht2 x0 x1 x2 x3) (cwV 4 hts gL_once_X4_once rfl rfl rfl (by decide +kernel) ⟨Nat.le_of_ble_eq_true rfl, Nat.le_of_ble_eq_true rfl⟩) (w_preV hC hP hS cW_4 rfl) rfl rfl hl.1 rfl (lv_room (Nat.le_of_ble_eq_true rfl)) dL_once_6 ⟨Nat.le_of_ble_eq_true rfl, Nat.le_of_ble_eq_true rfl⟩) hS (fun E9 ce9 q9 ad1 w1 H locs hq hP hS h91 h92 h93 => ?_) (fun r_1 ad1 w1 H locs hq hP hS => ?_)
  · obtain ⟨h84, h85⟩ := hq
    cases h84
    rcases exA_3 h85 with ⟨h86, rfl⟩ | ⟨h86, rfl⟩ | ⟨h86, rfl⟩
    · refine vx_catch (name := exIO) hown [] (⟨0, 9, 10, 30⟩ : ExceptionTableEntry) [(⟨0, 9, 15, 16⟩ : ExceptionTableEntry), (⟨0, 9, 20, 19⟩ : ExceptionTableEntry)] (htb.trans rfl) (fun z hz => absurd hz List.not_mem_nil) (by decide) (by decide) (hts (.classLink RL 30 exIO) (by decide +kernel)) ((hC.2.2.2.2.2.1 exIO (by decide)).use rfl) h91 h92 h93 ?_
      refine lv_astore (lv' := [(5, .ref q9), (0, .ref (ad 4 0)), (1, .int x0), (2, .int x1), (3, .int x2), (4, .int x3)]) hx hb dL_once_10 hl (by decide) rfl (fun ls hl => ?_)
      refine lv_ldc (v := (-1000001)) hx hb hown (hts (.constant RL 32 (-1000001)) (by decide +kernel)) dL_once_12 ?_
      exact W.iret (v := (-1000001)) hx hb hr (fun t ht hW => Qi_of ⟨_, rfl, fun z => absurd (z.symm.trans h86) (by decide), fun _ => ⟨rfl, by rw [h86]; rfl⟩⟩ hP hS ht) hS.2.2 dL_once_14
    · refine vx_catch (name := exIA) hown [(⟨0, 9, 10, 30⟩ : ExceptionTableEntry)] (⟨0, 9, 15, 16⟩ : ExceptionTableEntry) [(⟨0, 9, 20, 19⟩ : ExceptionTableEntry)] (htb.trans rfl) (fun z hz => by simp only [List.mem_cons, List.not_mem_nil, or_false] at hz; rcases hz with rfl; exact Or.inr ⟨by decide, exIO, hts (.classLink RL 30 exIO) (by decide +kernel), hC.2.2.2.2.2.2.1 exIA (by decide) exIO (by decide) (by decide)⟩) (by decide) (by decide) (hts (.classLink RL 16 exIA) (by decide +kernel)) ((hC.2.2.2.2.2.1 exIA (by decide)).use rfl) h91 h92 h93 ?_
      refine lv_astore (lv' := [(5, .ref q9), (0, .ref (ad 4 0)), (1, .int x0), (2, .int x1), (3, .int x2), (4, .int x3)]) hx hb dL_once_15 hl (by decide) rfl (fun ls hl => ?_)
      refine lv_ldc (v := (-1000002)) hx hb hown (hts (.constant RL 18 (-1000002)) (by decide +kernel)) dL_once_17 ?_
      exact W.iret (v := (-1000002)) hx hb hr (fun t ht hW => Qi_of ⟨_, rfl, fun z => absurd (z.symm.trans h86) (by decide), fun _ => ⟨rfl, by rw [h86]; rfl⟩⟩ hP hS ht) hS.2.2 dL_once_19
    · refine vx_catch (name := exIS) hown [(⟨0, 9, 10, 30⟩ : ExceptionTableEntry), (⟨0, 9, 15, 16⟩ : ExceptionTableEntry)] (⟨0, 9, 20, 19⟩ : ExceptionTableEntry) [] (htb.trans rfl) (fun z hz => by simp only [List.mem_cons, List.not_mem_nil, or_false] at hz; rcases hz with rfl | rfl; exact Or.inr ⟨by decide, exIO, hts (.classLink RL 30 exIO) (by decide +kernel), hC.2.2.2.2.2.2.1 exIS (by decide) exIO (by decide) (by decide)⟩; exact Or.inr ⟨by decide, exIA, hts (.classLink RL 16 exIA) (by decide +kernel), hC.2.2.2.2.2.2.1 exIS (by decide) exIA (by decide) (by decide)⟩) (by decide) (by decide) (hts (.classLink RL 19 exIS) (by decide +kernel)) ((hC.2.2.2.2.2.1 exIS (by decide)).use rfl) h91 h92 h93 ?_
      refine lv_astore (lv' := [(5, .ref q9), (0, .ref (ad 4 0)), (1, .int x0), (2, .int x1), (3, .int x2), (4, .int x3)]) hx hb dL_once_20 hl (by decide) rfl (fun ls hl => ?_)
      refine lv_ldc (v := (-1000003)) hx hb hown (hts (.constant RL 21 (-1000003)) (by decide +kernel)) dL_once_22 ?_
      exact W.iret (v := (-1000003)) hx hb hr (fun t ht hW => Qi_of ⟨_, rfl, fun z => absurd (z.symm.trans h86) (by decide), fun _ => ⟨rfl, by rw [h86]; rfl⟩⟩ hP hS ht) hS.2.2 dL_once_24
  · obtain ⟨h81, h82, h83⟩ := hq
    cases h81
    subst h82
    exact W.iret (v := (obeF g.2.1 (nOf x0) (entM (nOf x0) (10 + x1) x2 x3 (entC (2 * nOf x0 + 1) x1 x2 x3 σ)) 16 (nOf x0) 0)) hx hb hr (fun t ht hW => Qi_of ⟨_, rfl, fun _ => ⟨rfl, rfl⟩, fun z => absurd h83 z⟩ hP hS ht) hS.2.2 dL_once_9
theorem t_L_once (l : Launch) (hns : l.stackTraces = false) (D : va_G) (B : Nat) (ad : Ad) (g : GC) (σ : Me) (S : SM) (L : Wd) (hI : Ib g σ) (t : Nat) (ht : σ 25 0 0 = nI t) (ht2 : t ≤ 1000000) (x0 : Int32) (x1 : Int32) (x2 : Int32) (x3 : Int32) : Met l yL_once wsL_once ({ frames := 9, cells := 5, slots := 30, locals := 159 }) (Pre D B ad (eW D ad S (g, σ) L) [.ref (ad 17 0), .int x0, .int x1, .int x2, .int x3]) (Qi D B (fun r u => ∃ S2 : SM, u = (ad, eW D ad S S2 L) ∧ ((cdEnt g σ 700 x0 x1 x2 x3 = 0 → S2 = (g, obeF g.2.1 (nOf x0) (entM (nOf x0) (10 + x1) x2 x3 (entC (2 * nOf x0 + 1) x1 x2 x3 σ))) ∧ r = obeF g.2.1 (nOf x0) (entM (nOf x0) (10 + x1) x2 x3 (entC (2 * nOf x0 + 1) x1 x2 x3 σ)) 16 (nOf x0) 0) ∧ (¬ cdEnt g σ 700 x0 x1 x2 x3 = 0 → S2 = (g, σ) ∧ r = an (cdEnt g σ 700 x0 x1 x2 x3) [-1000001, -1000002, -1000003] 0)))) 5 30 (ab B) :=
  met_swi (X := fun r S2 => (cdEnt g σ 700 x0 x1 x2 x3 = 0 → S2 = (g, obeF g.2.1 (nOf x0) (entM (nOf x0) (10 + x1) x2 x3 (entC (2 * nOf x0 + 1) x1 x2 x3 σ))) ∧ r = obeF g.2.1 (nOf x0) (entM (nOf x0) (10 + x1) x2 x3 (entC (2 * nOf x0 + 1) x1 x2 x3 σ)) 16 (nOf x0) 0) ∧ (¬ cdEnt g σ 700 x0 x1 x2 x3 = 0 → S2 = (g, σ) ∧ r = an (cdEnt g σ 700 x0 x1 x2 x3) [-1000001, -1000002, -1000003] 0)) (c_L_once l hns D B (sA ad) g σ (tW D (sA ad) S L) 0 hI t ht ht2 x0 x1 x2 x3)
set_option maxHeartbeats 4000000 in
set_option maxRecDepth 100000 in
theorem c_L_pass (l : Launch) (hns : l.stackTraces = false) (D : va_G) (B : Nat) (ad : Ad) (g : GC) (σ : Me) (T : Wd) (o : Int64) (hI : Ib g σ) (t : Nat) (hR : Rs g t σ) (x0 : Int32) : Met l yL_pass wsL_pass ({ frames := 8, cells := 2, slots := 12, locals := 183 }) (Pre D B ad (cW D ad (g, σ) T o) [.ref (ad 4 0), .int x0]) (Qi D B (fun r u => ∃ S2 : SM, u = (ad, cW D ad S2 T o) ∧ ((cdPas σ x0 = 0 → S2 = (g, pasF g (nOf x0) σ) ∧ r = pasF g (nOf x0) σ 26 0 0 - σ 26 0 0) ∧ (¬ cdPas σ x0 = 0 → S2 = (g, σ) ∧ r = an (cdPas σ x0) [-1000002, -1000003] 0)))) 2 12 (ab B) := by
  refine y_ofWH (cc := cL_pass) (maxL := 3) (ret := (some .int)) (by decide) rfl ?_
  intro p e s m args below meth c s₁ Bd hml htb hv
  obtain ⟨rfl, hC, hP⟩ := hv
  have hx := Bd.exec
  have hb := Bd.bytes
  have hr := Bd.returns
  have hts := atoms_spec (ws := wsL_pass) Bd.pre
  have hown : s.vm.findClass RL = some m.cls := findClass_of_methodNamed Bd.named
  have hlocks := Bd.notSynchronized
  have hS : va_S (ab B) s.heap s.heap [] := va_S.rf
  have hl := lv_entry ([.ref (ad 4 0), .int x0]) (n := 3) (Nat.le_of_ble_eq_true rfl)
  rw [lg_entry_eq]
  generalize (lg_sl ([.ref (ad 4 0), .int x0]) ++ List.replicate (3 - (lg_sl ([.ref (ad 4 0), .int x0])).length) Slot.unset).toArray = ls at hl ⊢
  have hl : lv_has ls 3 [(0, .ref (ad 4 0)), (1, .int x0)] := hl
  refine lv_aload_n hx hb dL_pass_0 rfl (lv_at hl 0 rfl) ?_
  refine lv_iload_n hx hb dL_pass_1 rfl (lv_at hl 1 rfl) ?_
  refine y_calli (vx_runV (As := [.int x0]) (rest := []) ⟨hx, hb, hml, hown, hts⟩ (c_X4_pass l hns D B ad g σ T o hI t hR x0) (cwV 1 hts gL_pass_X4_pass rfl rfl rfl (by decide +kernel) ⟨Nat.le_of_ble_eq_true rfl, Nat.le_of_ble_eq_true rfl⟩) (w_preV hC hP hS cW_4 rfl) rfl rfl hl.1 rfl (lv_room (Nat.le_of_ble_eq_true rfl)) dL_pass_2 ⟨Nat.le_of_ble_eq_true rfl, Nat.le_of_ble_eq_true rfl⟩) hS (fun E9 ce9 q9 ad1 w1 H locs hq hP hS h91 h92 h93 => ?_) (fun r_1 ad1 w1 H locs hq hP hS => ?_)
  · obtain ⟨h84, h85⟩ := hq
    cases h84
    rcases exA_2 h85 with ⟨h86, rfl⟩ | ⟨h86, rfl⟩
    · refine vx_catch (name := exIA) hown [] (⟨0, 5, 6, 16⟩ : ExceptionTableEntry) [(⟨0, 5, 10, 19⟩ : ExceptionTableEntry)] (htb.trans rfl) (fun z hz => absurd hz List.not_mem_nil) (by decide) (by decide) (hts (.classLink RL 16 exIA) (by decide +kernel)) ((hC.2.2.2.2.2.1 exIA (by decide)).use rfl) h91 h92 h93 ?_
      refine lv_astore_n (lv' := [(2, .ref q9), (0, .ref (ad 4 0)), (1, .int x0)]) hx hb dL_pass_6 rfl hl (by decide) rfl (fun ls hl => ?_)
      refine lv_ldc (v := (-1000002)) hx hb hown (hts (.constant RL 18 (-1000002)) (by decide +kernel)) dL_pass_7 ?_
      exact W.iret (v := (-1000002)) hx hb hr (fun t ht hW => Qi_of ⟨_, rfl, fun z => absurd (z.symm.trans h86) (by decide), fun _ => ⟨rfl, by rw [h86]; rfl⟩⟩ hP hS ht) hS.2.2 dL_pass_9
    · refine vx_catch (name := exIS) hown [(⟨0, 5, 6, 16⟩ : ExceptionTableEntry)] (⟨0, 5, 10, 19⟩ : ExceptionTableEntry) [] (htb.trans rfl) (fun z hz => by simp only [List.mem_cons, List.not_mem_nil, or_false] at hz; rcases hz with rfl; exact Or.inr ⟨by decide, exIA, hts (.classLink RL 16 exIA) (by decide +kernel), hC.2.2.2.2.2.2.1 exIS (by decide) exIA (by decide) (by decide)⟩) (by decide) (by decide) (hts (.classLink RL 19 exIS) (by decide +kernel)) ((hC.2.2.2.2.2.1 exIS (by decide)).use rfl) h91 h92 h93 ?_
      refine lv_astore_n (lv' := [(2, .ref q9), (0, .ref (ad 4 0)), (1, .int x0)]) hx hb dL_pass_10 rfl hl (by decide) rfl (fun ls hl => ?_)
      refine lv_ldc (v := (-1000003)) hx hb hown (hts (.constant RL 21 (-1000003)) (by decide +kernel)) dL_pass_11 ?_
      exact W.iret (v := (-1000003)) hx hb hr (fun t ht hW => Qi_of ⟨_, rfl, fun z => absurd (z.symm.trans h86) (by decide), fun _ => ⟨rfl, by rw [h86]; rfl⟩⟩ hP hS ht) hS.2.2 dL_pass_13
  · obtain ⟨h81, h82, h83⟩ := hq
    cases h81
    subst h82
    exact W.iret (v := (pasF g (nOf x0) σ 26 0 0 - σ 26 0 0)) hx hb hr (fun t ht hW => Qi_of ⟨_, rfl, fun _ => ⟨rfl, rfl⟩, fun z => absurd h83 z⟩ hP hS ht) hS.2.2 dL_pass_5
theorem t_L_pass (l : Launch) (hns : l.stackTraces = false) (D : va_G) (B : Nat) (ad : Ad) (g : GC) (σ : Me) (S : SM) (L : Wd) (hI : Ib g σ) (t : Nat) (hR : Rs g t σ) (x0 : Int32) : Met l yL_pass wsL_pass ({ frames := 8, cells := 2, slots := 12, locals := 183 }) (Pre D B ad (eW D ad S (g, σ) L) [.ref (ad 17 0), .int x0]) (Qi D B (fun r u => ∃ S2 : SM, u = (ad, eW D ad S S2 L) ∧ ((cdPas σ x0 = 0 → S2 = (g, pasF g (nOf x0) σ) ∧ r = pasF g (nOf x0) σ 26 0 0 - σ 26 0 0) ∧ (¬ cdPas σ x0 = 0 → S2 = (g, σ) ∧ r = an (cdPas σ x0) [-1000002, -1000003] 0)))) 2 12 (ab B) :=
  met_swi (X := fun r S2 => (cdPas σ x0 = 0 → S2 = (g, pasF g (nOf x0) σ) ∧ r = pasF g (nOf x0) σ 26 0 0 - σ 26 0 0) ∧ (¬ cdPas σ x0 = 0 → S2 = (g, σ) ∧ r = an (cdPas σ x0) [-1000002, -1000003] 0)) (c_L_pass l hns D B (sA ad) g σ (tW D (sA ad) S L) 0 hI t hR x0)
set_option maxHeartbeats 4000000 in
set_option maxRecDepth 100000 in
theorem c_L_end (l : Launch) (hns : l.stackTraces = false) (D : va_G) (B : Nat) (ad : Ad) (g : GC) (σ : Me) (T : Wd) (o : Int64) (hI : Ib g σ) (x0 : Int32) : Met l yL_end wsL_end ({ frames := 8, cells := 2, slots := 12, locals := 133 }) (Pre D B ad (cW D ad (g, σ) T o) [.ref (ad 4 0), .int x0]) (Qi D B (fun r u => ∃ S2 : SM, u = (ad, cW D ad S2 T o) ∧ ((cdEnd g σ x0 = 0 → S2 = (g, st3 σ 11 (nOf x0) 0 1) ∧ r = 0) ∧ (¬ cdEnd g σ x0 = 0 → S2 = (g, σ) ∧ r = an (cdEnd g σ x0) [-1000001, -1000003] 0)))) 2 12 (ab B) := by
  refine y_ofWH (cc := cL_end) (maxL := 3) (ret := (some .int)) (by decide) rfl ?_
  intro p e s m args below meth c s₁ Bd hml htb hv
  obtain ⟨rfl, hC, hP⟩ := hv
  have hx := Bd.exec
  have hb := Bd.bytes
  have hr := Bd.returns
  have hts := atoms_spec (ws := wsL_end) Bd.pre
  have hown : s.vm.findClass RL = some m.cls := findClass_of_methodNamed Bd.named
  have hlocks := Bd.notSynchronized
  have hS : va_S (ab B) s.heap s.heap [] := va_S.rf
  have hl := lv_entry ([.ref (ad 4 0), .int x0]) (n := 3) (Nat.le_of_ble_eq_true rfl)
  rw [lg_entry_eq]
  generalize (lg_sl ([.ref (ad 4 0), .int x0]) ++ List.replicate (3 - (lg_sl ([.ref (ad 4 0), .int x0])).length) Slot.unset).toArray = ls at hl ⊢
  have hl : lv_has ls 3 [(0, .ref (ad 4 0)), (1, .int x0)] := hl
  refine lv_aload_n hx hb dL_end_0 rfl (lv_at hl 0 rfl) ?_
  refine lv_iload_n hx hb dL_end_1 rfl (lv_at hl 1 rfl) ?_
  refine y_callv (vx_runV (As := [.int x0]) (rest := []) ⟨hx, hb, hml, hown, hts⟩ (c_X4_end l hns D B ad g σ T o hI x0) (cwV 1 hts gL_end_X4_end rfl rfl rfl (by decide +kernel) ⟨Nat.le_of_ble_eq_true rfl, Nat.le_of_ble_eq_true rfl⟩) (w_preV hC hP hS cW_4 rfl) rfl rfl hl.1 rfl (lv_room (Nat.le_of_ble_eq_true rfl)) dL_end_2 ⟨Nat.le_of_ble_eq_true rfl, Nat.le_of_ble_eq_true rfl⟩) hS (fun E9 ce9 q9 ad1 w1 H locs hq hP hS h91 h92 h93 => ?_) (fun ad1 w1 H locs hq hP hS => ?_)
  · obtain ⟨h84, h85⟩ := hq
    cases h84
    rcases exA_2 h85 with ⟨h86, rfl⟩ | ⟨h86, rfl⟩
    · refine vx_catch (name := exIO) hown [] (⟨0, 6, 7, 30⟩ : ExceptionTableEntry) [(⟨0, 6, 11, 19⟩ : ExceptionTableEntry)] (htb.trans rfl) (fun z hz => absurd hz List.not_mem_nil) (by decide) (by decide) (hts (.classLink RL 30 exIO) (by decide +kernel)) ((hC.2.2.2.2.2.1 exIO (by decide)).use rfl) h91 h92 h93 ?_
      refine lv_astore_n (lv' := [(2, .ref q9), (0, .ref (ad 4 0)), (1, .int x0)]) hx hb dL_end_7 rfl hl (by decide) rfl (fun ls hl => ?_)
      refine lv_ldc (v := (-1000001)) hx hb hown (hts (.constant RL 32 (-1000001)) (by decide +kernel)) dL_end_8 ?_
      exact W.iret (v := (-1000001)) hx hb hr (fun t ht hW => Qi_of ⟨_, rfl, fun z => absurd (z.symm.trans h86) (by decide), fun _ => ⟨rfl, by rw [h86]; rfl⟩⟩ hP hS ht) hS.2.2 dL_end_10
    · refine vx_catch (name := exIS) hown [(⟨0, 6, 7, 30⟩ : ExceptionTableEntry)] (⟨0, 6, 11, 19⟩ : ExceptionTableEntry) [] (htb.trans rfl) (fun z hz => by simp only [List.mem_cons, List.not_mem_nil, or_false] at hz; rcases hz with rfl; exact Or.inr ⟨by decide, exIO, hts (.classLink RL 30 exIO) (by decide +kernel), hC.2.2.2.2.2.2.1 exIS (by decide) exIO (by decide) (by decide)⟩) (by decide) (by decide) (hts (.classLink RL 19 exIS) (by decide +kernel)) ((hC.2.2.2.2.2.1 exIS (by decide)).use rfl) h91 h92 h93 ?_
      refine lv_astore_n (lv' := [(2, .ref q9), (0, .ref (ad 4 0)), (1, .int x0)]) hx hb dL_end_11 rfl hl (by decide) rfl (fun ls hl => ?_)
      refine lv_ldc (v := (-1000003)) hx hb hown (hts (.constant RL 21 (-1000003)) (by decide +kernel)) dL_end_12 ?_
      exact W.iret (v := (-1000003)) hx hb hr (fun t ht hW => Qi_of ⟨_, rfl, fun z => absurd (z.symm.trans h86) (by decide), fun _ => ⟨rfl, by rw [h86]; rfl⟩⟩ hP hS ht) hS.2.2 dL_end_14
  · obtain ⟨h81, h83⟩ := hq
    cases h81
    refine lv_iconst (v := 0) hx hb dL_end_5 (by decide) ?_
    exact W.iret (v := 0) hx hb hr (fun t ht hW => Qi_of ⟨_, rfl, fun _ => ⟨rfl, rfl⟩, fun z => absurd h83 z⟩ hP hS ht) hS.2.2 dL_end_6
theorem t_L_end (l : Launch) (hns : l.stackTraces = false) (D : va_G) (B : Nat) (ad : Ad) (g : GC) (σ : Me) (S : SM) (L : Wd) (hI : Ib g σ) (x0 : Int32) : Met l yL_end wsL_end ({ frames := 8, cells := 2, slots := 12, locals := 133 }) (Pre D B ad (eW D ad S (g, σ) L) [.ref (ad 17 0), .int x0]) (Qi D B (fun r u => ∃ S2 : SM, u = (ad, eW D ad S S2 L) ∧ ((cdEnd g σ x0 = 0 → S2 = (g, st3 σ 11 (nOf x0) 0 1) ∧ r = 0) ∧ (¬ cdEnd g σ x0 = 0 → S2 = (g, σ) ∧ r = an (cdEnd g σ x0) [-1000001, -1000003] 0)))) 2 12 (ab B) :=
  met_swi (X := fun r S2 => (cdEnd g σ x0 = 0 → S2 = (g, st3 σ 11 (nOf x0) 0 1) ∧ r = 0) ∧ (¬ cdEnd g σ x0 = 0 → S2 = (g, σ) ∧ r = an (cdEnd g σ x0) [-1000001, -1000003] 0)) (c_L_end l hns D B (sA ad) g σ (tW D (sA ad) S L) 0 hI x0)
set_option maxHeartbeats 4000000 in
set_option maxRecDepth 100000 in
theorem c_L_addMeasure (l : Launch) (hns : l.stackTraces = false) (D : va_G) (B : Nat) (ad : Ad) (np ns nc : Nat) (σ : Me) (T : Wd) (o : Int64) (hI : Ib (np, ns, nc) σ) (hF : Fr (np, ns, nc) σ) (x0 : Int32) : Met l yL_addMeasure wsL_addMeasure ({ frames := 8, cells := 4, slots := 37, locals := 133 }) (Pre D B ad (cW D ad ((np, ns, nc), σ) T o) [.ref (ad 4 0), .int x0]) (Qi D B (fun r u => ∃ (ad9 : Ad) (S2 : SM), u = (ad9, cW D ad9 S2 T o) ∧ (∀ f9 k9, f9 = 4 ∨ 13 ≤ f9 → ad9 f9 k9 = ad f9 k9) ∧ ((cdAdM (np, ns, nc) x0 = 0 → S2 = ((np + 1, ns, nc), addF np x0 0 0 σ) ∧ r = nI np) ∧ (¬ cdAdM (np, ns, nc) x0 = 0 → S2 = ((np, ns, nc), σ) ∧ r = an (cdAdM (np, ns, nc) x0) [-1000002, -1000003] 0)))) 4 37 (ab B) := by
  refine y_ofWH (cc := cL_addMeasure) (maxL := 3) (ret := (some .int)) (by decide) rfl ?_
  intro p e s m args below meth c s₁ Bd hml htb hv
  obtain ⟨rfl, hC, hP⟩ := hv
  have hx := Bd.exec
  have hb := Bd.bytes
  have hr := Bd.returns
  have hts := atoms_spec (ws := wsL_addMeasure) Bd.pre
  have hown : s.vm.findClass RL = some m.cls := findClass_of_methodNamed Bd.named
  have hlocks := Bd.notSynchronized
  have hS : va_S (ab B) s.heap s.heap [] := va_S.rf
  have hl := lv_entry ([.ref (ad 4 0), .int x0]) (n := 3) (Nat.le_of_ble_eq_true rfl)
  rw [lg_entry_eq]
  generalize (lg_sl ([.ref (ad 4 0), .int x0]) ++ List.replicate (3 - (lg_sl ([.ref (ad 4 0), .int x0])).length) Slot.unset).toArray = ls at hl ⊢
  have hl : lv_has ls 3 [(0, .ref (ad 4 0)), (1, .int x0)] := hl
  refine lv_aload_n hx hb dL_addMeasure_0 rfl (lv_at hl 0 rfl) ?_
  refine lv_iload_n hx hb dL_addMeasure_1 rfl (lv_at hl 1 rfl) ?_
  refine y_calli (vx_runV (As := [.int x0]) (rest := []) ⟨hx, hb, hml, hown, hts⟩ (c_X4_addMeasure l hns D B ad np ns nc σ T o hI hF x0) (cwV 1 hts gL_addMeasure_X4_addMeasure rfl rfl rfl (by decide +kernel) ⟨Nat.le_of_ble_eq_true rfl, Nat.le_of_ble_eq_true rfl⟩) (w_preV hC hP hS cW_4 rfl) rfl rfl hl.1 rfl (lv_room (Nat.le_of_ble_eq_true rfl)) dL_addMeasure_2 ⟨Nat.le_of_ble_eq_true rfl, Nat.le_of_ble_eq_true rfl⟩) hS (fun E9 ce9 q9 ad1 w1 H locs hq hP hS h91 h92 h93 => ?_) (fun r_1 ad1 w1 H locs hq hP hS => ?_)
  · obtain ⟨h84, h85⟩ := hq
    cases h84
    rcases exA_2 h85 with ⟨h86, rfl⟩ | ⟨h86, rfl⟩
    · refine vx_catch (name := exIA) hown [] (⟨0, 5, 6, 16⟩ : ExceptionTableEntry) [(⟨0, 5, 10, 19⟩ : ExceptionTableEntry)] (htb.trans rfl) (fun z hz => absurd hz List.not_mem_nil) (by decide) (by decide) (hts (.classLink RL 16 exIA) (by decide +kernel)) ((hC.2.2.2.2.2.1 exIA (by decide)).use rfl) h91 h92 h93 ?_
      refine lv_astore_n (lv' := [(2, .ref q9), (0, .ref (ad 4 0)), (1, .int x0)]) hx hb dL_addMeasure_6 rfl hl (by decide) rfl (fun ls hl => ?_)
      refine lv_ldc (v := (-1000002)) hx hb hown (hts (.constant RL 18 (-1000002)) (by decide +kernel)) dL_addMeasure_7 ?_
      exact W.iret (v := (-1000002)) hx hb hr (fun t ht hW => Qi_of ⟨_, _, rfl, fun _ _ _ => rfl, fun z => absurd (z.symm.trans h86) (by decide), fun _ => ⟨rfl, by rw [h86]; rfl⟩⟩ hP hS ht) hS.2.2 dL_addMeasure_9
    · refine vx_catch (name := exIS) hown [(⟨0, 5, 6, 16⟩ : ExceptionTableEntry)] (⟨0, 5, 10, 19⟩ : ExceptionTableEntry) [] (htb.trans rfl) (fun z hz => by simp only [List.mem_cons, List.not_mem_nil, or_false] at hz; rcases hz with rfl; exact Or.inr ⟨by decide, exIA, hts (.classLink RL 16 exIA) (by decide +kernel), hC.2.2.2.2.2.2.1 exIS (by decide) exIA (by decide) (by decide)⟩) (by decide) (by decide) (hts (.classLink RL 19 exIS) (by decide +kernel)) ((hC.2.2.2.2.2.1 exIS (by decide)).use rfl) h91 h92 h93 ?_
      refine lv_astore_n (lv' := [(2, .ref q9), (0, .ref (ad 4 0)), (1, .int x0)]) hx hb dL_addMeasure_10 rfl hl (by decide) rfl (fun ls hl => ?_)
      refine lv_ldc (v := (-1000003)) hx hb hown (hts (.constant RL 21 (-1000003)) (by decide +kernel)) dL_addMeasure_11 ?_
      exact W.iret (v := (-1000003)) hx hb hr (fun t ht hW => Qi_of ⟨_, _, rfl, fun _ _ _ => rfl, fun z => absurd (z.symm.trans h86) (by decide), fun _ => ⟨rfl, by rw [h86]; rfl⟩⟩ hP hS ht) hS.2.2 dL_addMeasure_13
  · obtain ⟨ad9, h81, hkp, h82, h83⟩ := hq
    cases h81
    subst h82
    exact W.iret (v := (nI np)) hx hb hr (fun t ht hW => Qi_of ⟨_, _, rfl, hkp, fun _ => ⟨rfl, rfl⟩, fun z => absurd h83 z⟩ hP hS ht) hS.2.2 dL_addMeasure_5
theorem t_L_addMeasure (l : Launch) (hns : l.stackTraces = false) (D : va_G) (B : Nat) (ad : Ad) (np ns nc : Nat) (σ : Me) (S : SM) (L : Wd) (hI : Ib (np, ns, nc) σ) (hF : Fr (np, ns, nc) σ) (x0 : Int32) : Met l yL_addMeasure wsL_addMeasure ({ frames := 8, cells := 4, slots := 37, locals := 133 }) (Pre D B ad (eW D ad S ((np, ns, nc), σ) L) [.ref (ad 17 0), .int x0]) (Qi D B (fun r u => ∃ (ad9 : Ad) (S2 : SM), u = (ad9, eW D ad9 S S2 L) ∧ (∀ f9 k9, f9 < 13 ∨ f9 = 17 ∨ 26 ≤ f9 → ad9 f9 k9 = ad f9 k9) ∧ ((cdAdM (np, ns, nc) x0 = 0 → S2 = ((np + 1, ns, nc), addF np x0 0 0 σ) ∧ r = nI np) ∧ (¬ cdAdM (np, ns, nc) x0 = 0 → S2 = ((np, ns, nc), σ) ∧ r = an (cdAdM (np, ns, nc) x0) [-1000002, -1000003] 0)))) 4 37 (ab B) :=
  met_swa (X := fun r S2 => (cdAdM (np, ns, nc) x0 = 0 → S2 = ((np + 1, ns, nc), addF np x0 0 0 σ) ∧ r = nI np) ∧ (¬ cdAdM (np, ns, nc) x0 = 0 → S2 = ((np, ns, nc), σ) ∧ r = an (cdAdM (np, ns, nc) x0) [-1000002, -1000003] 0)) (c_L_addMeasure l hns D B (sA ad) np ns nc σ (tW D (sA ad) S L) 0 hI hF x0)
set_option maxHeartbeats 4000000 in
set_option maxRecDepth 100000 in
theorem c_L_addSwitch (l : Launch) (hns : l.stackTraces = false) (D : va_G) (B : Nat) (ad : Ad) (np ns nc : Nat) (σ : Me) (T : Wd) (o : Int64) (hI : Ib (np, ns, nc) σ) (hF : Fr (np, ns, nc) σ) (x0 : Int32) (x1 : Int32) : Met l yL_addSwitch wsL_addSwitch ({ frames := 8, cells := 5, slots := 43, locals := 134 }) (Pre D B ad (cW D ad ((np, ns, nc), σ) T o) [.ref (ad 4 0), .int x0, .int x1]) (Qi D B (fun r u => ∃ (ad9 : Ad) (S2 : SM), u = (ad9, cW D ad9 S2 T o) ∧ (∀ f9 k9, f9 = 4 ∨ 13 ≤ f9 → ad9 f9 k9 = ad f9 k9) ∧ ((cdAdS (np, ns, nc) x0 x1 = 0 → S2 = ((np + 1, ns, nc), addF np x0 1 x1 σ) ∧ r = nI np) ∧ (¬ cdAdS (np, ns, nc) x0 x1 = 0 → S2 = ((np, ns, nc), σ) ∧ r = an (cdAdS (np, ns, nc) x0 x1) [-1000002, -1000003] 0)))) 5 43 (ab B) := by
  refine y_ofWH (cc := cL_addSwitch) (maxL := 4) (ret := (some .int)) (by decide) rfl ?_
  intro p e s m args below meth c s₁ Bd hml htb hv
  obtain ⟨rfl, hC, hP⟩ := hv
  have hx := Bd.exec
  have hb := Bd.bytes
  have hr := Bd.returns
  have hts := atoms_spec (ws := wsL_addSwitch) Bd.pre
  have hown : s.vm.findClass RL = some m.cls := findClass_of_methodNamed Bd.named
  have hlocks := Bd.notSynchronized
  have hS : va_S (ab B) s.heap s.heap [] := va_S.rf
  have hl := lv_entry ([.ref (ad 4 0), .int x0, .int x1]) (n := 4) (Nat.le_of_ble_eq_true rfl)
  rw [lg_entry_eq]
  generalize (lg_sl ([.ref (ad 4 0), .int x0, .int x1]) ++ List.replicate (4 - (lg_sl ([.ref (ad 4 0), .int x0, .int x1])).length) Slot.unset).toArray = ls at hl ⊢
  have hl : lv_has ls 4 [(0, .ref (ad 4 0)), (1, .int x0), (2, .int x1)] := hl
  refine lv_aload_n hx hb dL_addSwitch_0 rfl (lv_at hl 0 rfl) ?_
  refine lv_iload_n hx hb dL_addSwitch_1 rfl (lv_at hl 1 rfl) ?_
  refine lv_iload_n hx hb dL_addSwitch_2 rfl (lv_at hl 2 rfl) ?_
  refine y_calli (vx_runV (As := [.int x0, .int x1]) (rest := []) ⟨hx, hb, hml, hown, hts⟩ (c_X4_addSwitch l hns D B ad np ns nc σ T o hI hF x0 x1) (cwV 2 hts gL_addSwitch_X4_addSwitch rfl rfl rfl (by decide +kernel) ⟨Nat.le_of_ble_eq_true rfl, Nat.le_of_ble_eq_true rfl⟩) (w_preV hC hP hS cW_4 rfl) rfl rfl hl.1 rfl (lv_room (Nat.le_of_ble_eq_true rfl)) dL_addSwitch_3 ⟨Nat.le_of_ble_eq_true rfl, Nat.le_of_ble_eq_true rfl⟩) hS (fun E9 ce9 q9 ad1 w1 H locs hq hP hS h91 h92 h93 => ?_) (fun r_1 ad1 w1 H locs hq hP hS => ?_)
  · obtain ⟨h84, h85⟩ := hq
    cases h84
    rcases exA_2 h85 with ⟨h86, rfl⟩ | ⟨h86, rfl⟩
    · refine vx_catch (name := exIA) hown [] (⟨0, 6, 7, 16⟩ : ExceptionTableEntry) [(⟨0, 6, 11, 19⟩ : ExceptionTableEntry)] (htb.trans rfl) (fun z hz => absurd hz List.not_mem_nil) (by decide) (by decide) (hts (.classLink RL 16 exIA) (by decide +kernel)) ((hC.2.2.2.2.2.1 exIA (by decide)).use rfl) h91 h92 h93 ?_
      refine lv_astore_n (lv' := [(3, .ref q9), (0, .ref (ad 4 0)), (1, .int x0), (2, .int x1)]) hx hb dL_addSwitch_7 rfl hl (by decide) rfl (fun ls hl => ?_)
      refine lv_ldc (v := (-1000002)) hx hb hown (hts (.constant RL 18 (-1000002)) (by decide +kernel)) dL_addSwitch_8 ?_
      exact W.iret (v := (-1000002)) hx hb hr (fun t ht hW => Qi_of ⟨_, _, rfl, fun _ _ _ => rfl, fun z => absurd (z.symm.trans h86) (by decide), fun _ => ⟨rfl, by rw [h86]; rfl⟩⟩ hP hS ht) hS.2.2 dL_addSwitch_10
    · refine vx_catch (name := exIS) hown [(⟨0, 6, 7, 16⟩ : ExceptionTableEntry)] (⟨0, 6, 11, 19⟩ : ExceptionTableEntry) [] (htb.trans rfl) (fun z hz => by simp only [List.mem_cons, List.not_mem_nil, or_false] at hz; rcases hz with rfl; exact Or.inr ⟨by decide, exIA, hts (.classLink RL 16 exIA) (by decide +kernel), hC.2.2.2.2.2.2.1 exIS (by decide) exIA (by decide) (by decide)⟩) (by decide) (by decide) (hts (.classLink RL 19 exIS) (by decide +kernel)) ((hC.2.2.2.2.2.1 exIS (by decide)).use rfl) h91 h92 h93 ?_
      refine lv_astore_n (lv' := [(3, .ref q9), (0, .ref (ad 4 0)), (1, .int x0), (2, .int x1)]) hx hb dL_addSwitch_11 rfl hl (by decide) rfl (fun ls hl => ?_)
      refine lv_ldc (v := (-1000003)) hx hb hown (hts (.constant RL 21 (-1000003)) (by decide +kernel)) dL_addSwitch_12 ?_
      exact W.iret (v := (-1000003)) hx hb hr (fun t ht hW => Qi_of ⟨_, _, rfl, fun _ _ _ => rfl, fun z => absurd (z.symm.trans h86) (by decide), fun _ => ⟨rfl, by rw [h86]; rfl⟩⟩ hP hS ht) hS.2.2 dL_addSwitch_14
  · obtain ⟨ad9, h81, hkp, h82, h83⟩ := hq
    cases h81
    subst h82
    exact W.iret (v := (nI np)) hx hb hr (fun t ht hW => Qi_of ⟨_, _, rfl, hkp, fun _ => ⟨rfl, rfl⟩, fun z => absurd h83 z⟩ hP hS ht) hS.2.2 dL_addSwitch_6
theorem t_L_addSwitch (l : Launch) (hns : l.stackTraces = false) (D : va_G) (B : Nat) (ad : Ad) (np ns nc : Nat) (σ : Me) (S : SM) (L : Wd) (hI : Ib (np, ns, nc) σ) (hF : Fr (np, ns, nc) σ) (x0 : Int32) (x1 : Int32) : Met l yL_addSwitch wsL_addSwitch ({ frames := 8, cells := 5, slots := 43, locals := 134 }) (Pre D B ad (eW D ad S ((np, ns, nc), σ) L) [.ref (ad 17 0), .int x0, .int x1]) (Qi D B (fun r u => ∃ (ad9 : Ad) (S2 : SM), u = (ad9, eW D ad9 S S2 L) ∧ (∀ f9 k9, f9 < 13 ∨ f9 = 17 ∨ 26 ≤ f9 → ad9 f9 k9 = ad f9 k9) ∧ ((cdAdS (np, ns, nc) x0 x1 = 0 → S2 = ((np + 1, ns, nc), addF np x0 1 x1 σ) ∧ r = nI np) ∧ (¬ cdAdS (np, ns, nc) x0 x1 = 0 → S2 = ((np, ns, nc), σ) ∧ r = an (cdAdS (np, ns, nc) x0 x1) [-1000002, -1000003] 0)))) 5 43 (ab B) :=
  met_swa (X := fun r S2 => (cdAdS (np, ns, nc) x0 x1 = 0 → S2 = ((np + 1, ns, nc), addF np x0 1 x1 σ) ∧ r = nI np) ∧ (¬ cdAdS (np, ns, nc) x0 x1 = 0 → S2 = ((np, ns, nc), σ) ∧ r = an (cdAdS (np, ns, nc) x0 x1) [-1000002, -1000003] 0)) (c_L_addSwitch l hns D B (sA ad) np ns nc σ (tW D (sA ad) S L) 0 hI hF x0 x1)
set_option maxHeartbeats 4000000 in
set_option maxRecDepth 100000 in
theorem c_L_subscribe (l : Launch) (hns : l.stackTraces = false) (D : va_G) (B : Nat) (ad : Ad) (np ns nc : Nat) (σ : Me) (T : Wd) (o : Int64) (hI : Ib (np, ns, nc) σ) (hF : Fr (np, ns, nc) σ) (x0 : Int32) (x1 : Int32) (x2 : Int32) : Met l yL_subscribe wsL_subscribe ({ frames := 8, cells := 5, slots := 30, locals := 136 }) (Pre D B ad (cW D ad ((np, ns, nc), σ) T o) [.ref (ad 4 0), .int x0, .int x1, .int x2]) (Qi D B (fun r u => ∃ (ad9 : Ad) (S2 : SM), u = (ad9, cW D ad9 S2 T o) ∧ (∀ f9 k9, f9 = 4 ∨ 13 ≤ f9 → ad9 f9 k9 = ad f9 k9) ∧ ((cdSub (np, ns, nc) x0 x1 x2 = 0 → S2 = ((np, ns + 1, nc), subF ns x0 x1 (σ 25 0 0 + x2) (σ 7 (nOf x0) 0) σ) ∧ r = nI ns) ∧ (¬ cdSub (np, ns, nc) x0 x1 x2 = 0 → S2 = ((np, ns, nc), σ) ∧ r = an (cdSub (np, ns, nc) x0 x1 x2) [-1000001, -1000002, -1000003] 0)))) 5 30 (ab B) := by
  refine y_ofWH (cc := cL_subscribe) (maxL := 5) (ret := (some .int)) (by decide) rfl ?_
  intro p e s m args below meth c s₁ Bd hml htb hv
  obtain ⟨rfl, hC, hP⟩ := hv
  have hx := Bd.exec
  have hb := Bd.bytes
  have hr := Bd.returns
  have hts := atoms_spec (ws := wsL_subscribe) Bd.pre
  have hown : s.vm.findClass RL = some m.cls := findClass_of_methodNamed Bd.named
  have hlocks := Bd.notSynchronized
  have hS : va_S (ab B) s.heap s.heap [] := va_S.rf
  have hl := lv_entry ([.ref (ad 4 0), .int x0, .int x1, .int x2]) (n := 5) (Nat.le_of_ble_eq_true rfl)
  rw [lg_entry_eq]
  generalize (lg_sl ([.ref (ad 4 0), .int x0, .int x1, .int x2]) ++ List.replicate (5 - (lg_sl ([.ref (ad 4 0), .int x0, .int x1, .int x2])).length) Slot.unset).toArray = ls at hl ⊢
  have hl : lv_has ls 5 [(0, .ref (ad 4 0)), (1, .int x0), (2, .int x1), (3, .int x2)] := hl
  refine lv_aload_n hx hb dL_subscribe_0 rfl (lv_at hl 0 rfl) ?_
  refine lv_iload_n hx hb dL_subscribe_1 rfl (lv_at hl 1 rfl) ?_
  refine lv_iload_n hx hb dL_subscribe_2 rfl (lv_at hl 2 rfl) ?_
  refine lv_iload_n hx hb dL_subscribe_3 rfl (lv_at hl 3 rfl) ?_
  refine y_calli (vx_runV (As := [.int x0, .int x1, .int x2]) (rest := []) ⟨hx, hb, hml, hown, hts⟩ (c_X4_subscribe l hns D B ad np ns nc σ T o hI hF x0 x1 x2) (cwV 3 hts gL_subscribe_X4_subscribe rfl rfl rfl (by decide +kernel) ⟨Nat.le_of_ble_eq_true rfl, Nat.le_of_ble_eq_true rfl⟩) (w_preV hC hP hS cW_4 rfl) rfl rfl hl.1 rfl (lv_room (Nat.le_of_ble_eq_true rfl)) dL_subscribe_4 ⟨Nat.le_of_ble_eq_true rfl, Nat.le_of_ble_eq_true rfl⟩) hS (fun E9 ce9 q9 ad1 w1 H locs hq hP hS h91 h92 h93 => ?_) (fun r_1 ad1 w1 H locs hq hP hS => ?_)
  · obtain ⟨h84, h85⟩ := hq
    cases h84
    rcases exA_3 h85 with ⟨h86, rfl⟩ | ⟨h86, rfl⟩ | ⟨h86, rfl⟩
    · refine vx_catch (name := exIO) hown [] (⟨0, 7, 8, 30⟩ : ExceptionTableEntry) [(⟨0, 7, 13, 16⟩ : ExceptionTableEntry), (⟨0, 7, 18, 19⟩ : ExceptionTableEntry)] (htb.trans rfl) (fun z hz => absurd hz List.not_mem_nil) (by decide) (by decide) (hts (.classLink RL 30 exIO) (by decide +kernel)) ((hC.2.2.2.2.2.1 exIO (by decide)).use rfl) h91 h92 h93 ?_
      refine lv_astore (lv' := [(4, .ref q9), (0, .ref (ad 4 0)), (1, .int x0), (2, .int x1), (3, .int x2)]) hx hb dL_subscribe_8 hl (by decide) rfl (fun ls hl => ?_)
      refine lv_ldc (v := (-1000001)) hx hb hown (hts (.constant RL 32 (-1000001)) (by decide +kernel)) dL_subscribe_10 ?_
      exact W.iret (v := (-1000001)) hx hb hr (fun t ht hW => Qi_of ⟨_, _, rfl, fun _ _ _ => rfl, fun z => absurd (z.symm.trans h86) (by decide), fun _ => ⟨rfl, by rw [h86]; rfl⟩⟩ hP hS ht) hS.2.2 dL_subscribe_12
    · refine vx_catch (name := exIA) hown [(⟨0, 7, 8, 30⟩ : ExceptionTableEntry)] (⟨0, 7, 13, 16⟩ : ExceptionTableEntry) [(⟨0, 7, 18, 19⟩ : ExceptionTableEntry)] (htb.trans rfl) (fun z hz => by simp only [List.mem_cons, List.not_mem_nil, or_false] at hz; rcases hz with rfl; exact Or.inr ⟨by decide, exIO, hts (.classLink RL 30 exIO) (by decide +kernel), hC.2.2.2.2.2.2.1 exIA (by decide) exIO (by decide) (by decide)⟩) (by decide) (by decide) (hts (.classLink RL 16 exIA) (by decide +kernel)) ((hC.2.2.2.2.2.1 exIA (by decide)).use rfl) h91 h92 h93 ?_
      refine lv_astore (lv' := [(4, .ref q9), (0, .ref (ad 4 0)), (1, .int x0), (2, .int x1), (3, .int x2)]) hx hb dL_subscribe_13 hl (by decide) rfl (fun ls hl => ?_)
      refine lv_ldc (v := (-1000002)) hx hb hown (hts (.constant RL 18 (-1000002)) (by decide +kernel)) dL_subscribe_15 ?_
      exact W.iret (v := (-1000002)) hx hb hr (fun t ht hW => Qi_of ⟨_, _, rfl, fun _ _ _ => rfl, fun z => absurd (z.symm.trans h86) (by decide), fun _ => ⟨rfl, by rw [h86]; rfl⟩⟩ hP hS ht) hS.2.2 dL_subscribe_17
    · refine vx_catch (name := exIS) hown [(⟨0, 7, 8, 30⟩ : ExceptionTableEntry), (⟨0, 7, 13, 16⟩ : ExceptionTableEntry)] (⟨0, 7, 18, 19⟩ : ExceptionTableEntry) [] (htb.trans rfl) (fun z hz => by simp only [List.mem_cons, List.not_mem_nil, or_false] at hz; rcases hz with rfl | rfl; exact Or.inr ⟨by decide, exIO, hts (.classLink RL 30 exIO) (by decide +kernel), hC.2.2.2.2.2.2.1 exIS (by decide) exIO (by decide) (by decide)⟩; exact Or.inr ⟨by decide, exIA, hts (.classLink RL 16 exIA) (by decide +kernel), hC.2.2.2.2.2.2.1 exIS (by decide) exIA (by decide) (by decide)⟩) (by decide) (by decide) (hts (.classLink RL 19 exIS) (by decide +kernel)) ((hC.2.2.2.2.2.1 exIS (by decide)).use rfl) h91 h92 h93 ?_
      refine lv_astore (lv' := [(4, .ref q9), (0, .ref (ad 4 0)), (1, .int x0), (2, .int x1), (3, .int x2)]) hx hb dL_subscribe_18 hl (by decide) rfl (fun ls hl => ?_)
      refine lv_ldc (v := (-1000003)) hx hb hown (hts (.constant RL 21 (-1000003)) (by decide +kernel)) dL_subscribe_20 ?_
      exact W.iret (v := (-1000003)) hx hb hr (fun t ht hW => Qi_of ⟨_, _, rfl, fun _ _ _ => rfl, fun z => absurd (z.symm.trans h86) (by decide), fun _ => ⟨rfl, by rw [h86]; rfl⟩⟩ hP hS ht) hS.2.2 dL_subscribe_22
  · obtain ⟨ad9, h81, hkp, h82, h83⟩ := hq
    cases h81
    subst h82
    exact W.iret (v := (nI ns)) hx hb hr (fun t ht hW => Qi_of ⟨_, _, rfl, hkp, fun _ => ⟨rfl, rfl⟩, fun z => absurd h83 z⟩ hP hS ht) hS.2.2 dL_subscribe_7
theorem t_L_subscribe (l : Launch) (hns : l.stackTraces = false) (D : va_G) (B : Nat) (ad : Ad) (np ns nc : Nat) (σ : Me) (S : SM) (L : Wd) (hI : Ib (np, ns, nc) σ) (hF : Fr (np, ns, nc) σ) (x0 : Int32) (x1 : Int32) (x2 : Int32) : Met l yL_subscribe wsL_subscribe ({ frames := 8, cells := 5, slots := 30, locals := 136 }) (Pre D B ad (eW D ad S ((np, ns, nc), σ) L) [.ref (ad 17 0), .int x0, .int x1, .int x2]) (Qi D B (fun r u => ∃ (ad9 : Ad) (S2 : SM), u = (ad9, eW D ad9 S S2 L) ∧ (∀ f9 k9, f9 < 13 ∨ f9 = 17 ∨ 26 ≤ f9 → ad9 f9 k9 = ad f9 k9) ∧ ((cdSub (np, ns, nc) x0 x1 x2 = 0 → S2 = ((np, ns + 1, nc), subF ns x0 x1 (σ 25 0 0 + x2) (σ 7 (nOf x0) 0) σ) ∧ r = nI ns) ∧ (¬ cdSub (np, ns, nc) x0 x1 x2 = 0 → S2 = ((np, ns, nc), σ) ∧ r = an (cdSub (np, ns, nc) x0 x1 x2) [-1000001, -1000002, -1000003] 0)))) 5 30 (ab B) :=
  met_swa (X := fun r S2 => (cdSub (np, ns, nc) x0 x1 x2 = 0 → S2 = ((np, ns + 1, nc), subF ns x0 x1 (σ 25 0 0 + x2) (σ 7 (nOf x0) 0) σ) ∧ r = nI ns) ∧ (¬ cdSub (np, ns, nc) x0 x1 x2 = 0 → S2 = ((np, ns, nc), σ) ∧ r = an (cdSub (np, ns, nc) x0 x1 x2) [-1000001, -1000002, -1000003] 0)) (c_L_subscribe l hns D B (sA ad) np ns nc σ (tW D (sA ad) S L) 0 hI hF x0 x1 x2)
set_option maxHeartbeats 4000000 in
set_option maxRecDepth 100000 in
theorem c_L_addSchedule (l : Launch) (hns : l.stackTraces = false) (D : va_G) (B : Nat) (ad : Ad) (np ns nc : Nat) (σ : Me) (T : Wd) (o : Int64) (hI : Ib (np, ns, nc) σ) (hF : Fr (np, ns, nc) σ) (x0 : Int32) (x1 : Int32) : Met l yL_addSchedule wsL_addSchedule ({ frames := 8, cells := 12, slots := 151, locals := 135 }) (Pre D B ad (cW D ad ((np, ns, nc), σ) T o) [.ref (ad 4 0), .int x0, .int x1]) (Qi D B (fun r u => ∃ (ad9 : Ad) (S2 : SM), u = (ad9, cW D ad9 S2 T o) ∧ (∀ f9 k9, f9 = 4 ∨ 13 ≤ f9 → ad9 f9 k9 = ad f9 k9) ∧ ((cdAdC (np, ns, nc) x0 x1 = 0 → S2 = ((np, ns, nc + 1), schF nc x0 x1 σ) ∧ r = nI nc) ∧ (¬ cdAdC (np, ns, nc) x0 x1 = 0 → S2 = ((np, ns, nc), σ) ∧ r = an (cdAdC (np, ns, nc) x0 x1) [-1000001, -1000002, -1000003] 0)))) 12 151 (ab B) := by
  refine y_ofWH (cc := cL_addSchedule) (maxL := 4) (ret := (some .int)) (by decide) rfl ?_
  intro p e s m args below meth c s₁ Bd hml htb hv
  obtain ⟨rfl, hC, hP⟩ := hv
  have hx := Bd.exec
  have hb := Bd.bytes
  have hr := Bd.returns
  have hts := atoms_spec (ws := wsL_addSchedule) Bd.pre
  have hown : s.vm.findClass RL = some m.cls := findClass_of_methodNamed Bd.named
  have hlocks := Bd.notSynchronized
  have hS : va_S (ab B) s.heap s.heap [] := va_S.rf
  have hl := lv_entry ([.ref (ad 4 0), .int x0, .int x1]) (n := 4) (Nat.le_of_ble_eq_true rfl)
  rw [lg_entry_eq]
  generalize (lg_sl ([.ref (ad 4 0), .int x0, .int x1]) ++ List.replicate (4 - (lg_sl ([.ref (ad 4 0), .int x0, .int x1])).length) Slot.unset).toArray = ls at hl ⊢
  have hl : lv_has ls 4 [(0, .ref (ad 4 0)), (1, .int x0), (2, .int x1)] := hl
  refine lv_aload_n hx hb dL_addSchedule_0 rfl (lv_at hl 0 rfl) ?_
  refine lv_iload_n hx hb dL_addSchedule_1 rfl (lv_at hl 1 rfl) ?_
  refine lv_iload_n hx hb dL_addSchedule_2 rfl (lv_at hl 2 rfl) ?_
  refine y_calli (vx_runV (As := [.int x0, .int x1]) (rest := []) ⟨hx, hb, hml, hown, hts⟩ (c_X4_addSchedule l hns D B ad np ns nc σ T o hI hF x0 x1) (cwV 2 hts gL_addSchedule_X4_addSchedule rfl rfl rfl (by decide +kernel) ⟨Nat.le_of_ble_eq_true rfl, Nat.le_of_ble_eq_true rfl⟩) (w_preV hC hP hS cW_4 rfl) rfl rfl hl.1 rfl (lv_room (Nat.le_of_ble_eq_true rfl)) dL_addSchedule_3 ⟨Nat.le_of_ble_eq_true rfl, Nat.le_of_ble_eq_true rfl⟩) hS (fun E9 ce9 q9 ad1 w1 H locs hq hP hS h91 h92 h93 => ?_) (fun r_1 ad1 w1 H locs hq hP hS => ?_)
  · obtain ⟨h84, h85⟩ := hq
    cases h84
    rcases exA_3 h85 with ⟨h86, rfl⟩ | ⟨h86, rfl⟩ | ⟨h86, rfl⟩
    · refine vx_catch (name := exIO) hown [] (⟨0, 6, 7, 30⟩ : ExceptionTableEntry) [(⟨0, 6, 11, 16⟩ : ExceptionTableEntry), (⟨0, 6, 15, 19⟩ : ExceptionTableEntry)] (htb.trans rfl) (fun z hz => absurd hz List.not_mem_nil) (by decide) (by decide) (hts (.classLink RL 30 exIO) (by decide +kernel)) ((hC.2.2.2.2.2.1 exIO (by decide)).use rfl) h91 h92 h93 ?_
      refine lv_astore_n (lv' := [(3, .ref q9), (0, .ref (ad 4 0)), (1, .int x0), (2, .int x1)]) hx hb dL_addSchedule_7 rfl hl (by decide) rfl (fun ls hl => ?_)
      refine lv_ldc (v := (-1000001)) hx hb hown (hts (.constant RL 32 (-1000001)) (by decide +kernel)) dL_addSchedule_8 ?_
      exact W.iret (v := (-1000001)) hx hb hr (fun t ht hW => Qi_of ⟨_, _, rfl, fun _ _ _ => rfl, fun z => absurd (z.symm.trans h86) (by decide), fun _ => ⟨rfl, by rw [h86]; rfl⟩⟩ hP hS ht) hS.2.2 dL_addSchedule_10
    · refine vx_catch (name := exIA) hown [(⟨0, 6, 7, 30⟩ : ExceptionTableEntry)] (⟨0, 6, 11, 16⟩ : ExceptionTableEntry) [(⟨0, 6, 15, 19⟩ : ExceptionTableEntry)] (htb.trans rfl) (fun z hz => by simp only [List.mem_cons, List.not_mem_nil, or_false] at hz; rcases hz with rfl; exact Or.inr ⟨by decide, exIO, hts (.classLink RL 30 exIO) (by decide +kernel), hC.2.2.2.2.2.2.1 exIA (by decide) exIO (by decide) (by decide)⟩) (by decide) (by decide) (hts (.classLink RL 16 exIA) (by decide +kernel)) ((hC.2.2.2.2.2.1 exIA (by decide)).use rfl) h91 h92 h93 ?_
      refine lv_astore_n (lv' := [(3, .ref q9), (0, .ref (ad 4 0)), (1, .int x0), (2, .int x1)]) hx hb dL_addSchedule_11 rfl hl (by decide) rfl (fun ls hl => ?_)
      refine lv_ldc (v := (-1000002)) hx hb hown (hts (.constant RL 18 (-1000002)) (by decide +kernel)) dL_addSchedule_12 ?_
      exact W.iret (v := (-1000002)) hx hb hr (fun t ht hW => Qi_of ⟨_, _, rfl, fun _ _ _ => rfl, fun z => absurd (z.symm.trans h86) (by decide), fun _ => ⟨rfl, by rw [h86]; rfl⟩⟩ hP hS ht) hS.2.2 dL_addSchedule_14
    · refine vx_catch (name := exIS) hown [(⟨0, 6, 7, 30⟩ : ExceptionTableEntry), (⟨0, 6, 11, 16⟩ : ExceptionTableEntry)] (⟨0, 6, 15, 19⟩ : ExceptionTableEntry) [] (htb.trans rfl) (fun z hz => by simp only [List.mem_cons, List.not_mem_nil, or_false] at hz; rcases hz with rfl | rfl; exact Or.inr ⟨by decide, exIO, hts (.classLink RL 30 exIO) (by decide +kernel), hC.2.2.2.2.2.2.1 exIS (by decide) exIO (by decide) (by decide)⟩; exact Or.inr ⟨by decide, exIA, hts (.classLink RL 16 exIA) (by decide +kernel), hC.2.2.2.2.2.2.1 exIS (by decide) exIA (by decide) (by decide)⟩) (by decide) (by decide) (hts (.classLink RL 19 exIS) (by decide +kernel)) ((hC.2.2.2.2.2.1 exIS (by decide)).use rfl) h91 h92 h93 ?_
      refine lv_astore_n (lv' := [(3, .ref q9), (0, .ref (ad 4 0)), (1, .int x0), (2, .int x1)]) hx hb dL_addSchedule_15 rfl hl (by decide) rfl (fun ls hl => ?_)
      refine lv_ldc (v := (-1000003)) hx hb hown (hts (.constant RL 21 (-1000003)) (by decide +kernel)) dL_addSchedule_16 ?_
      exact W.iret (v := (-1000003)) hx hb hr (fun t ht hW => Qi_of ⟨_, _, rfl, fun _ _ _ => rfl, fun z => absurd (z.symm.trans h86) (by decide), fun _ => ⟨rfl, by rw [h86]; rfl⟩⟩ hP hS ht) hS.2.2 dL_addSchedule_18
  · obtain ⟨ad9, h81, hkp, h82, h83⟩ := hq
    cases h81
    subst h82
    exact W.iret (v := (nI nc)) hx hb hr (fun t ht hW => Qi_of ⟨_, _, rfl, hkp, fun _ => ⟨rfl, rfl⟩, fun z => absurd h83 z⟩ hP hS ht) hS.2.2 dL_addSchedule_6
theorem t_L_addSchedule (l : Launch) (hns : l.stackTraces = false) (D : va_G) (B : Nat) (ad : Ad) (np ns nc : Nat) (σ : Me) (S : SM) (L : Wd) (hI : Ib (np, ns, nc) σ) (hF : Fr (np, ns, nc) σ) (x0 : Int32) (x1 : Int32) : Met l yL_addSchedule wsL_addSchedule ({ frames := 8, cells := 12, slots := 151, locals := 135 }) (Pre D B ad (eW D ad S ((np, ns, nc), σ) L) [.ref (ad 17 0), .int x0, .int x1]) (Qi D B (fun r u => ∃ (ad9 : Ad) (S2 : SM), u = (ad9, eW D ad9 S S2 L) ∧ (∀ f9 k9, f9 < 13 ∨ f9 = 17 ∨ 26 ≤ f9 → ad9 f9 k9 = ad f9 k9) ∧ ((cdAdC (np, ns, nc) x0 x1 = 0 → S2 = ((np, ns, nc + 1), schF nc x0 x1 σ) ∧ r = nI nc) ∧ (¬ cdAdC (np, ns, nc) x0 x1 = 0 → S2 = ((np, ns, nc), σ) ∧ r = an (cdAdC (np, ns, nc) x0 x1) [-1000001, -1000002, -1000003] 0)))) 12 151 (ab B) :=
  met_swa (X := fun r S2 => (cdAdC (np, ns, nc) x0 x1 = 0 → S2 = ((np, ns, nc + 1), schF nc x0 x1 σ) ∧ r = nI nc) ∧ (¬ cdAdC (np, ns, nc) x0 x1 = 0 → S2 = ((np, ns, nc), σ) ∧ r = an (cdAdC (np, ns, nc) x0 x1) [-1000001, -1000002, -1000003] 0)) (c_L_addSchedule l hns D B (sA ad) np ns nc σ (tW D (sA ad) S L) 0 hI hF x0 x1)
