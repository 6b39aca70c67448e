section WT3
variable {p : Program} {l : Launch} {e : Env} {R : Room} {s : State} {m : MethodId} {args : Array Value} {below : List Frame} {meth : Method} {c : Code} {H : Heap} {locs : List Loc} {cells slots : Nat} {Q : State → Prop} {pc : Nat} {ls : Array Slot} {rest : List Value}
theorem w_top3r {a b : Nat} {x y : Value} (h : b = a) (k : W p l e R s m args below meth c H locs cells slots Q (F0 m pc ls (x :: y :: .ref a :: rest))) : W p l e R s m args below meth c H locs cells slots Q (F0 m pc ls (x :: y :: .ref b :: rest)) := h ▸ k
end WT3
set_option maxHeartbeats 4000000 in
set_option maxRecDepth 100000 in
theorem c_L_end (l : Launch) (hns : l.stackTraces = false) (D : va_G) (B : Nat) (ad : Ad) (g : GC) (σ : Me) (T : GC × Me × Int32) (o : Int64) (hI : Ib g σ) (x0 : Int32) : Met l yL_end wsL_end ({ frames := 8, cells := 2, slots := 12, locals := 133 }) (Pre D B ad (cW D ad (g, σ) T o) [.ref (ad 4 0), .int x0]) (Qi D B (fun r u => (cdEnd g σ x0 = 0 → u = (ad, cW D ad (g, st3 σ 11 (nOf x0) 0 1) T o) ∧ r = 0) ∧ (¬ cdEnd g σ x0 = 0 → u = (ad, cW D ad (g, σ) T o) ∧ r = nI (cdEnd g σ x0)))) 2 12 (ab B) := by
  refine y_ofWH (cc := cL_end) (maxL := 3) (ret := (some .int)) (by decide) rfl ?_
  intro p e s m args below meth c s₁ Bd hml htb hv
  obtain ⟨rfl, hC, hP⟩ := hv
  have hx := Bd.exec
  have hb := Bd.bytes
  have hr := Bd.returns
  have hts := atoms_spec (ws := wsL_end) Bd.pre
  have hown : s.vm.findClass RL = some m.cls := findClass_of_methodNamed Bd.named
  have hlocks := Bd.notSynchronized
  have hS : va_S (ab B) s.heap s.heap [] := va_S.rf
  have hl := lv_entry ([.ref (ad 4 0), .int x0]) (n := 3) (Nat.le_of_ble_eq_true rfl)
  rw [lg_entry_eq]
  generalize (lg_sl ([.ref (ad 4 0), .int x0]) ++ List.replicate (3 - (lg_sl ([.ref (ad 4 0), .int x0])).length) Slot.unset).toArray = ls at hl ⊢
  have hl : lv_has ls 3 [(0, .ref (ad 4 0)), (1, .int x0)] := hl
  refine lv_aload_n hx hb dL_end_0 rfl (lv_at hl 0 rfl) ?_
  refine lv_iload_n hx hb dL_end_1 rfl (lv_at hl 1 rfl) ?_
  refine y_callv (vx_runV (As := [.int x0]) (rest := []) ⟨hx, hb, hml, hown, hts⟩ (c_X4_end l hns D B ad g σ T o hI x0) (cwV 1 hts gL_end_X4_end rfl rfl rfl (by decide +kernel) ⟨Nat.le_of_ble_eq_true rfl, Nat.le_of_ble_eq_true rfl⟩) (w_preV hC hP hS cW_4 rfl) rfl rfl hl.1 rfl (lv_room (Nat.le_of_ble_eq_true rfl)) dL_end_2 ⟨Nat.le_of_ble_eq_true rfl, Nat.le_of_ble_eq_true rfl⟩) hS (fun E9 ce9 q9 ad1 w1 H locs hq hP hS h91 h92 h93 => ?_) (fun ad1 w1 H locs hq hP hS => ?_)
  · obtain ⟨h84, h85⟩ := hq
    cases h84
    rcases exA_2 h85 with ⟨h86, rfl⟩ | ⟨h86, rfl⟩
    · refine vx_catch (name := exIO) hown [] (⟨0, 5, 8, 25⟩ : ExceptionTableEntry) [(⟨0, 5, 11, 15⟩ : ExceptionTableEntry)] (htb.trans rfl) (fun z hz => absurd hz List.not_mem_nil) (by decide) (by decide) (hts (.classLink RL 25 exIO) (by decide +kernel)) ((hC.2.2.2.2.2.1 exIO (by decide)).use rfl) h91 h92 h93 ?_
      refine lv_astore_n (lv' := [(2, .ref q9), (0, .ref (ad 4 0)), (1, .int x0)]) hx hb dL_end_8 rfl hl (by decide) rfl (fun ls hl => ?_)
      refine lv_iconst (v := 1) hx hb dL_end_9 (by decide) ?_
      exact W.iret (v := 1) hx hb hr (fun t ht hW => Qi_of ⟨fun z => absurd (z.symm.trans h86) (by decide), fun _ => ⟨rfl, by rw [h86]; rfl⟩⟩ hP hS ht) hS.2.2 dL_end_10
    · refine vx_catch (name := exIS) hown [(⟨0, 5, 8, 25⟩ : ExceptionTableEntry)] (⟨0, 5, 11, 15⟩ : ExceptionTableEntry) [] (htb.trans rfl) (fun z hz => by simp only [List.mem_cons, List.not_mem_nil, or_false] at hz; rcases hz with rfl; exact Or.inr ⟨by decide, exIO, hts (.classLink RL 25 exIO) (by decide +kernel), hC.2.2.2.2.2.2.1 exIS (by decide) exIO (by decide) (by decide)⟩) (by decide) (by decide) (hts (.classLink RL 15 exIS) (by decide +kernel)) ((hC.2.2.2.2.2.1 exIS (by decide)).use rfl) h91 h92 h93 ?_
      refine lv_astore_n (lv' := [(2, .ref q9), (0, .ref (ad 4 0)), (1, .int x0)]) hx hb dL_end_11 rfl hl (by decide) rfl (fun ls hl => ?_)
      refine lv_iconst (v := 2) hx hb dL_end_12 (by decide) ?_
      exact W.iret (v := 2) hx hb hr (fun t ht hW => Qi_of ⟨fun z => absurd (z.symm.trans h86) (by decide), fun _ => ⟨rfl, by rw [h86]; rfl⟩⟩ hP hS ht) hS.2.2 dL_end_13
  · obtain ⟨h81, h83⟩ := hq
    cases h81
    refine lv_goto (tgt := 14) hx hb dL_end_5 (by decide) ?_
    refine lv_iconst (v := 0) hx hb dL_end_14 (by decide) ?_
    exact W.iret (v := 0) hx hb hr (fun t ht hW => Qi_of ⟨fun _ => ⟨rfl, rfl⟩, fun z => absurd h83 z⟩ hP hS ht) hS.2.2 dL_end_15
set_option maxHeartbeats 4000000 in
set_option maxRecDepth 100000 in
theorem c_L_addMeasure (l : Launch) (hns : l.stackTraces = false) (D : va_G) (B : Nat) (ad : Ad) (np ns nc : Nat) (σ : Me) (T : GC × Me × Int32) (o : Int64) (hI : Ib (np, ns, nc) σ) (hF : Fr (np, ns, nc) σ) (x0 : Int32) : Met l yL_addMeasure wsL_addMeasure ({ frames := 8, cells := 4, slots := 37, locals := 133 }) (Pre D B ad (cW D ad ((np, ns, nc), σ) T o) [.ref (ad 4 0), .int x0, .ref (ad 6 0)]) (Qi D B (fun r u => (cdAdM (np, ns, nc) x0 = 0 → ∃ ad9 : Ad, u = (ad9, cW D ad9 ((np + 1, ns, nc), addF np x0 0 0 σ) T (nI np).toInt64) ∧ (∀ f9, f9 = 4 ∨ f9 = 5 ∨ f9 = 6 → ad9 f9 0 = ad f9 0) ∧ r = 0) ∧ (¬ cdAdM (np, ns, nc) x0 = 0 → u = (ad, cW D ad ((np, ns, nc), σ) T o) ∧ r = nI (cdAdM (np, ns, nc) x0)))) 4 37 (ab B) := by
  refine y_ofWH (cc := cL_addMeasure) (maxL := 4) (ret := (some .int)) (by decide) rfl ?_
  intro p e s m args below meth c s₁ Bd hml htb hv
  obtain ⟨rfl, hC, hP⟩ := hv
  have hx := Bd.exec
  have hb := Bd.bytes
  have hr := Bd.returns
  have hts := atoms_spec (ws := wsL_addMeasure) Bd.pre
  have hown : s.vm.findClass RL = some m.cls := findClass_of_methodNamed Bd.named
  have hlocks := Bd.notSynchronized
  have hS : va_S (ab B) s.heap s.heap [] := va_S.rf
  have hl := lv_entry ([.ref (ad 4 0), .int x0, .ref (ad 6 0)]) (n := 4) (Nat.le_of_ble_eq_true rfl)
  rw [lg_entry_eq]
  generalize (lg_sl ([.ref (ad 4 0), .int x0, .ref (ad 6 0)]) ++ List.replicate (4 - (lg_sl ([.ref (ad 4 0), .int x0, .ref (ad 6 0)])).length) Slot.unset).toArray = ls at hl ⊢
  have hl : lv_has ls 4 [(0, .ref (ad 4 0)), (1, .int x0), (2, .ref (ad 6 0))] := hl
  refine lv_aload_n hx hb dL_addMeasure_0 rfl (lv_at hl 2 rfl) ?_
  refine lv_iconst (v := 0) hx hb dL_addMeasure_1 (by decide) ?_
  refine lv_aload_n hx hb dL_addMeasure_2 rfl (lv_at hl 0 rfl) ?_
  refine lv_iload_n hx hb dL_addMeasure_3 rfl (lv_at hl 1 rfl) ?_
  refine y_calli (vx_runV (As := [.int x0]) (rest := [.int 0, .ref (ad 6 0)]) ⟨hx, hb, hml, hown, hts⟩ (c_X4_addMeasure l hns D B ad np ns nc σ T o hI hF x0) (cwV 1 hts gL_addMeasure_X4_addMeasure rfl rfl rfl (by decide +kernel) ⟨Nat.le_of_ble_eq_true rfl, Nat.le_of_ble_eq_true rfl⟩) (w_preV hC hP hS cW_4 rfl) rfl rfl hl.1 rfl (lv_room (Nat.le_of_ble_eq_true rfl)) dL_addMeasure_4 ⟨Nat.le_of_ble_eq_true rfl, Nat.le_of_ble_eq_true rfl⟩) hS (fun E9 ce9 q9 ad1 w1 H locs hq hP hS h91 h92 h93 => ?_) (fun r_1 ad1 w1 H locs hq hP hS => ?_)
  · obtain ⟨h84, h85⟩ := hq
    cases h84
    rcases exA_2 h85 with ⟨h86, rfl⟩ | ⟨h86, rfl⟩
    · refine vx_catch (name := exIA) hown [] (⟨0, 9, 12, 13⟩ : ExceptionTableEntry) [(⟨0, 9, 15, 15⟩ : ExceptionTableEntry)] (htb.trans rfl) (fun z hz => absurd hz List.not_mem_nil) (by decide) (by decide) (hts (.classLink RL 13 exIA) (by decide +kernel)) ((hC.2.2.2.2.2.1 exIA (by decide)).use rfl) h91 h92 h93 ?_
      refine lv_astore_n (lv' := [(3, .ref q9), (0, .ref (ad 4 0)), (1, .int x0), (2, .ref (ad 6 0))]) hx hb dL_addMeasure_12 rfl hl (by decide) rfl (fun ls hl => ?_)
      refine lv_iconst (v := 1) hx hb dL_addMeasure_13 (by decide) ?_
      exact W.iret (v := 1) hx hb hr (fun t ht hW => Qi_of ⟨fun z => absurd (z.symm.trans h86) (by decide), fun _ => ⟨rfl, by rw [h86]; rfl⟩⟩ hP hS ht) hS.2.2 dL_addMeasure_14
    · refine vx_catch (name := exIS) hown [(⟨0, 9, 12, 13⟩ : ExceptionTableEntry)] (⟨0, 9, 15, 15⟩ : ExceptionTableEntry) [] (htb.trans rfl) (fun z hz => by simp only [List.mem_cons, List.not_mem_nil, or_false] at hz; rcases hz with rfl; exact Or.inr ⟨by decide, exIA, hts (.classLink RL 13 exIA) (by decide +kernel), hC.2.2.2.2.2.2.1 exIS (by decide) exIA (by decide) (by decide)⟩) (by decide) (by decide) (hts (.classLink RL 15 exIS) (by decide +kernel)) ((hC.2.2.2.2.2.1 exIS (by decide)).use rfl) h91 h92 h93 ?_
      refine lv_astore_n (lv' := [(3, .ref q9), (0, .ref (ad 4 0)), (1, .int x0), (2, .ref (ad 6 0))]) hx hb dL_addMeasure_15 rfl hl (by decide) rfl (fun ls hl => ?_)
      refine lv_iconst (v := 2) hx hb dL_addMeasure_16 (by decide) ?_
      exact W.iret (v := 2) hx hb hr (fun t ht hW => Qi_of ⟨fun z => absurd (z.symm.trans h86) (by decide), fun _ => ⟨rfl, by rw [h86]; rfl⟩⟩ hP hS ht) hS.2.2 dL_addMeasure_17
  · obtain ⟨ad9, h81, hkp, h82, h83⟩ := hq
    cases h81
    subst h82
    refine lv_i2l (v := (nI np).toInt64) hx hb dL_addMeasure_7 rfl ?_
    refine w_top3r (hkp 6 (by decide)).symm ?_
    refine w_last hx hb hC hP hS cW_6 (i := 0) (by unfold vp_in; decide) dL_addMeasure_8 (fun H locs hP hS => ?_)
    have hP := hw_eq hP (pO _)
    refine lv_goto (tgt := 18) hx hb dL_addMeasure_9 (by decide) ?_
    refine lv_iconst (v := 0) hx hb dL_addMeasure_18 (by decide) ?_
    exact W.iret (v := 0) hx hb hr (fun t ht hW => Qi_of ⟨fun _ => ⟨_, rfl, hkp, rfl⟩, fun z => absurd h83 z⟩ hP hS ht) hS.2.2 dL_addMeasure_19
set_option maxHeartbeats 4000000 in
set_option maxRecDepth 100000 in
theorem c_L_addSwitch (l : Launch) (hns : l.stackTraces = false) (D : va_G) (B : Nat) (ad : Ad) (np ns nc : Nat) (σ : Me) (T : GC × Me × Int32) (o : Int64) (hI : Ib (np, ns, nc) σ) (hF : Fr (np, ns, nc) σ) (x0 : Int32) (x1 : Int32) : Met l yL_addSwitch wsL_addSwitch ({ frames := 8, cells := 5, slots := 43, locals := 134 }) (Pre D B ad (cW D ad ((np, ns, nc), σ) T o) [.ref (ad 4 0), .int x0, .int x1, .ref (ad 6 0)]) (Qi D B (fun r u => (cdAdS (np, ns, nc) x0 x1 = 0 → ∃ ad9 : Ad, u = (ad9, cW D ad9 ((np + 1, ns, nc), addF np x0 1 x1 σ) T (nI np).toInt64) ∧ (∀ f9, f9 = 4 ∨ f9 = 5 ∨ f9 = 6 → ad9 f9 0 = ad f9 0) ∧ r = 0) ∧ (¬ cdAdS (np, ns, nc) x0 x1 = 0 → u = (ad, cW D ad ((np, ns, nc), σ) T o) ∧ r = nI (cdAdS (np, ns, nc) x0 x1)))) 5 43 (ab B) := by
  refine y_ofWH (cc := cL_addSwitch) (maxL := 5) (ret := (some .int)) (by decide) rfl ?_
  intro p e s m args below meth c s₁ Bd hml htb hv
  obtain ⟨rfl, hC, hP⟩ := hv
  have hx := Bd.exec
  have hb := Bd.bytes
  have hr := Bd.returns
  have hts := atoms_spec (ws := wsL_addSwitch) Bd.pre
  have hown : s.vm.findClass RL = some m.cls := findClass_of_methodNamed Bd.named
  have hlocks := Bd.notSynchronized
  have hS : va_S (ab B) s.heap s.heap [] := va_S.rf
  have hl := lv_entry ([.ref (ad 4 0), .int x0, .int x1, .ref (ad 6 0)]) (n := 5) (Nat.le_of_ble_eq_true rfl)
  rw [lg_entry_eq]
  generalize (lg_sl ([.ref (ad 4 0), .int x0, .int x1, .ref (ad 6 0)]) ++ List.replicate (5 - (lg_sl ([.ref (ad 4 0), .int x0, .int x1, .ref (ad 6 0)])).length) Slot.unset).toArray = ls at hl ⊢
  have hl : lv_has ls 5 [(0, .ref (ad 4 0)), (1, .int x0), (2, .int x1), (3, .ref (ad 6 0))] := hl
  refine lv_aload_n hx hb dL_addSwitch_0 rfl (lv_at hl 3 rfl) ?_
  refine lv_iconst (v := 0) hx hb dL_addSwitch_1 (by decide) ?_
  refine lv_aload_n hx hb dL_addSwitch_2 rfl (lv_at hl 0 rfl) ?_
  refine lv_iload_n hx hb dL_addSwitch_3 rfl (lv_at hl 1 rfl) ?_
  refine lv_iload_n hx hb dL_addSwitch_4 rfl (lv_at hl 2 rfl) ?_
  refine y_calli (vx_runV (As := [.int x0, .int x1]) (rest := [.int 0, .ref (ad 6 0)]) ⟨hx, hb, hml, hown, hts⟩ (c_X4_addSwitch l hns D B ad np ns nc σ T o hI hF x0 x1) (cwV 2 hts gL_addSwitch_X4_addSwitch rfl rfl rfl (by decide +kernel) ⟨Nat.le_of_ble_eq_true rfl, Nat.le_of_ble_eq_true rfl⟩) (w_preV hC hP hS cW_4 rfl) rfl rfl hl.1 rfl (lv_room (Nat.le_of_ble_eq_true rfl)) dL_addSwitch_5 ⟨Nat.le_of_ble_eq_true rfl, Nat.le_of_ble_eq_true rfl⟩) hS (fun E9 ce9 q9 ad1 w1 H locs hq hP hS h91 h92 h93 => ?_) (fun r_1 ad1 w1 H locs hq hP hS => ?_)
  · obtain ⟨h84, h85⟩ := hq
    cases h84
    rcases exA_2 h85 with ⟨h86, rfl⟩ | ⟨h86, rfl⟩
    · refine vx_catch (name := exIA) hown [] (⟨0, 10, 13, 13⟩ : ExceptionTableEntry) [(⟨0, 10, 17, 15⟩ : ExceptionTableEntry)] (htb.trans rfl) (fun z hz => absurd hz List.not_mem_nil) (by decide) (by decide) (hts (.classLink RL 13 exIA) (by decide +kernel)) ((hC.2.2.2.2.2.1 exIA (by decide)).use rfl) h91 h92 h93 ?_
      refine lv_astore (lv' := [(4, .ref q9), (0, .ref (ad 4 0)), (1, .int x0), (2, .int x1), (3, .ref (ad 6 0))]) hx hb dL_addSwitch_13 hl (by decide) rfl (fun ls hl => ?_)
      refine lv_iconst (v := 1) hx hb dL_addSwitch_15 (by decide) ?_
      exact W.iret (v := 1) hx hb hr (fun t ht hW => Qi_of ⟨fun z => absurd (z.symm.trans h86) (by decide), fun _ => ⟨rfl, by rw [h86]; rfl⟩⟩ hP hS ht) hS.2.2 dL_addSwitch_16
    · refine vx_catch (name := exIS) hown [(⟨0, 10, 13, 13⟩ : ExceptionTableEntry)] (⟨0, 10, 17, 15⟩ : ExceptionTableEntry) [] (htb.trans rfl) (fun z hz => by simp only [List.mem_cons, List.not_mem_nil, or_false] at hz; rcases hz with rfl; exact Or.inr ⟨by decide, exIA, hts (.classLink RL 13 exIA) (by decide +kernel), hC.2.2.2.2.2.2.1 exIS (by decide) exIA (by decide) (by decide)⟩) (by decide) (by decide) (hts (.classLink RL 15 exIS) (by decide +kernel)) ((hC.2.2.2.2.2.1 exIS (by decide)).use rfl) h91 h92 h93 ?_
      refine lv_astore (lv' := [(4, .ref q9), (0, .ref (ad 4 0)), (1, .int x0), (2, .int x1), (3, .ref (ad 6 0))]) hx hb dL_addSwitch_17 hl (by decide) rfl (fun ls hl => ?_)
      refine lv_iconst (v := 2) hx hb dL_addSwitch_19 (by decide) ?_
      exact W.iret (v := 2) hx hb hr (fun t ht hW => Qi_of ⟨fun z => absurd (z.symm.trans h86) (by decide), fun _ => ⟨rfl, by rw [h86]; rfl⟩⟩ hP hS ht) hS.2.2 dL_addSwitch_20
  · obtain ⟨ad9, h81, hkp, h82, h83⟩ := hq
    cases h81
    subst h82
    refine lv_i2l (v := (nI np).toInt64) hx hb dL_addSwitch_8 rfl ?_
    refine w_top3r (hkp 6 (by decide)).symm ?_
    refine w_last hx hb hC hP hS cW_6 (i := 0) (by unfold vp_in; decide) dL_addSwitch_9 (fun H locs hP hS => ?_)
    have hP := hw_eq hP (pO _)
    refine lv_goto (tgt := 21) hx hb dL_addSwitch_10 (by decide) ?_
    refine lv_iconst (v := 0) hx hb dL_addSwitch_21 (by decide) ?_
    exact W.iret (v := 0) hx hb hr (fun t ht hW => Qi_of ⟨fun _ => ⟨_, rfl, hkp, rfl⟩, fun z => absurd h83 z⟩ hP hS ht) hS.2.2 dL_addSwitch_22
set_option maxHeartbeats 4000000 in
set_option maxRecDepth 100000 in
theorem c_L_subscribe (l : Launch) (hns : l.stackTraces = false) (D : va_G) (B : Nat) (ad : Ad) (np ns nc : Nat) (σ : Me) (T : GC × Me × Int32) (o : Int64) (hI : Ib (np, ns, nc) σ) (hF : Fr (np, ns, nc) σ) (x0 : Int32) (x1 : Int32) (x2 : Int32) : Met l yL_subscribe wsL_subscribe ({ frames := 8, cells := 5, slots := 30, locals := 136 }) (Pre D B ad (cW D ad ((np, ns, nc), σ) T o) [.ref (ad 4 0), .int x0, .int x1, .int x2, .ref (ad 6 0)]) (Qi D B (fun r u => (cdSub (np, ns, nc) x0 x1 x2 = 0 → ∃ ad9 : Ad, u = (ad9, cW D ad9 ((np, ns + 1, nc), subF ns x0 x1 (σ 25 0 0 + x2) (σ 7 (nOf x0) 0) σ) T (nI ns).toInt64) ∧ (∀ f9, f9 = 4 ∨ f9 = 5 ∨ f9 = 6 → ad9 f9 0 = ad f9 0) ∧ r = 0) ∧ (¬ cdSub (np, ns, nc) x0 x1 x2 = 0 → u = (ad, cW D ad ((np, ns, nc), σ) T o) ∧ r = nI (cdSub (np, ns, nc) x0 x1 x2)))) 5 30 (ab B) := by
  refine y_ofWH (cc := cL_subscribe) (maxL := 6) (ret := (some .int)) (by decide) rfl ?_
  intro p e s m args below meth c s₁ Bd hml htb hv
  obtain ⟨rfl, hC, hP⟩ := hv
  have hx := Bd.exec
  have hb := Bd.bytes
  have hr := Bd.returns
  have hts := atoms_spec (ws := wsL_subscribe) Bd.pre
  have hown : s.vm.findClass RL = some m.cls := findClass_of_methodNamed Bd.named
  have hlocks := Bd.notSynchronized
  have hS : va_S (ab B) s.heap s.heap [] := va_S.rf
  have hl := lv_entry ([.ref (ad 4 0), .int x0, .int x1, .int x2, .ref (ad 6 0)]) (n := 6) (Nat.le_of_ble_eq_true rfl)
  rw [lg_entry_eq]
  generalize (lg_sl ([.ref (ad 4 0), .int x0, .int x1, .int x2, .ref (ad 6 0)]) ++ List.replicate (6 - (lg_sl ([.ref (ad 4 0), .int x0, .int x1, .int x2, .ref (ad 6 0)])).length) Slot.unset).toArray = ls at hl ⊢
  have hl : lv_has ls 6 [(0, .ref (ad 4 0)), (1, .int x0), (2, .int x1), (3, .int x2), (4, .ref (ad 6 0))] := hl
  refine lv_aload hx hb dL_subscribe_0 (lv_at hl 4 rfl) ?_
  refine lv_iconst (v := 0) hx hb dL_subscribe_2 (by decide) ?_
  refine lv_aload_n hx hb dL_subscribe_3 rfl (lv_at hl 0 rfl) ?_
  refine lv_iload_n hx hb dL_subscribe_4 rfl (lv_at hl 1 rfl) ?_
  refine lv_iload_n hx hb dL_subscribe_5 rfl (lv_at hl 2 rfl) ?_
  refine lv_iload_n hx hb dL_subscribe_6 rfl (lv_at hl 3 rfl) ?_
  refine y_calli (vx_runV (As := [.int x0, .int x1, .int x2]) (rest := [.int 0, .ref (ad 6 0)]) ⟨hx, hb, hml, hown, hts⟩ (c_X4_subscribe l hns D B ad np ns nc σ T o hI hF x0 x1 x2) (cwV 3 hts gL_subscribe_X4_subscribe rfl rfl rfl (by decide +kernel) ⟨Nat.le_of_ble_eq_true rfl, Nat.le_of_ble_eq_true rfl⟩) (w_preV hC hP hS cW_4 rfl) rfl rfl hl.1 rfl (lv_room (Nat.le_of_ble_eq_true rfl)) dL_subscribe_7 ⟨Nat.le_of_ble_eq_true rfl, Nat.le_of_ble_eq_true rfl⟩) hS (fun E9 ce9 q9 ad1 w1 H locs hq hP hS h91 h92 h93 => ?_) (fun r_1 ad1 w1 H locs hq hP hS => ?_)
  · obtain ⟨h84, h85⟩ := hq
    cases h84
    rcases exA_3 h85 with ⟨h86, rfl⟩ | ⟨h86, rfl⟩ | ⟨h86, rfl⟩
    · refine vx_catch (name := exIO) hown [] (⟨0, 12, 15, 25⟩ : ExceptionTableEntry) [(⟨0, 12, 19, 13⟩ : ExceptionTableEntry), (⟨0, 12, 23, 15⟩ : ExceptionTableEntry)] (htb.trans rfl) (fun z hz => absurd hz List.not_mem_nil) (by decide) (by decide) (hts (.classLink RL 25 exIO) (by decide +kernel)) ((hC.2.2.2.2.2.1 exIO (by decide)).use rfl) h91 h92 h93 ?_
      refine lv_astore (lv' := [(5, .ref q9), (0, .ref (ad 4 0)), (1, .int x0), (2, .int x1), (3, .int x2), (4, .ref (ad 6 0))]) hx hb dL_subscribe_15 hl (by decide) rfl (fun ls hl => ?_)
      refine lv_iconst (v := 1) hx hb dL_subscribe_17 (by decide) ?_
      exact W.iret (v := 1) hx hb hr (fun t ht hW => Qi_of ⟨fun z => absurd (z.symm.trans h86) (by decide), fun _ => ⟨rfl, by rw [h86]; rfl⟩⟩ hP hS ht) hS.2.2 dL_subscribe_18
    · refine vx_catch (name := exIA) hown [(⟨0, 12, 15, 25⟩ : ExceptionTableEntry)] (⟨0, 12, 19, 13⟩ : ExceptionTableEntry) [(⟨0, 12, 23, 15⟩ : ExceptionTableEntry)] (htb.trans rfl) (fun z hz => by simp only [List.mem_cons, List.not_mem_nil, or_false] at hz; rcases hz with rfl; exact Or.inr ⟨by decide, exIO, hts (.classLink RL 25 exIO) (by decide +kernel), hC.2.2.2.2.2.2.1 exIA (by decide) exIO (by decide) (by decide)⟩) (by decide) (by decide) (hts (.classLink RL 13 exIA) (by decide +kernel)) ((hC.2.2.2.2.2.1 exIA (by decide)).use rfl) h91 h92 h93 ?_
      refine lv_astore (lv' := [(5, .ref q9), (0, .ref (ad 4 0)), (1, .int x0), (2, .int x1), (3, .int x2), (4, .ref (ad 6 0))]) hx hb dL_subscribe_19 hl (by decide) rfl (fun ls hl => ?_)
      refine lv_iconst (v := 2) hx hb dL_subscribe_21 (by decide) ?_
      exact W.iret (v := 2) hx hb hr (fun t ht hW => Qi_of ⟨fun z => absurd (z.symm.trans h86) (by decide), fun _ => ⟨rfl, by rw [h86]; rfl⟩⟩ hP hS ht) hS.2.2 dL_subscribe_22
    · refine vx_catch (name := exIS) hown [(⟨0, 12, 15, 25⟩ : ExceptionTableEntry), (⟨0, 12, 19, 13⟩ : ExceptionTableEntry)] (⟨0, 12, 23, 15⟩ : ExceptionTableEntry) [] (htb.trans rfl) (fun z hz => by simp only [List.mem_cons, List.not_mem_nil, or_false] at hz; rcases hz with rfl | rfl; exact Or.inr ⟨by decide, exIO, hts (.classLink RL 25 exIO) (by decide +kernel), hC.2.2.2.2.2.2.1 exIS (by decide) exIO (by decide) (by decide)⟩; exact Or.inr ⟨by decide, exIA, hts (.classLink RL 13 exIA) (by decide +kernel), hC.2.2.2.2.2.2.1 exIS (by decide) exIA (by decide) (by decide)⟩) (by decide) (by decide) (hts (.classLink RL 15 exIS) (by decide +kernel)) ((hC.2.2.2.2.2.1 exIS (by decide)).use rfl) h91 h92 h93 ?_
      refine lv_astore (lv' := [(5, .ref q9), (0, .ref (ad 4 0)), (1, .int x0), (2, .int x1), (3, .int x2), (4, .ref (ad 6 0))]) hx hb dL_subscribe_23 hl (by decide) rfl (fun ls hl => ?_)
      refine lv_iconst (v := 3) hx hb dL_subscribe_25 (by decide) ?_
      exact W.iret (v := 3) hx hb hr (fun t ht hW => Qi_of ⟨fun z => absurd (z.symm.trans h86) (by decide), fun _ => ⟨rfl, by rw [h86]; rfl⟩⟩ hP hS ht) hS.2.2 dL_subscribe_26
  · obtain ⟨ad9, h81, hkp, h82, h83⟩ := hq
    cases h81
    subst h82
    refine lv_i2l (v := (nI ns).toInt64) hx hb dL_subscribe_10 rfl ?_
    refine w_top3r (hkp 6 (by decide)).symm ?_
    refine w_last hx hb hC hP hS cW_6 (i := 0) (by unfold vp_in; decide) dL_subscribe_11 (fun H locs hP hS => ?_)
    have hP := hw_eq hP (pO _)
    refine lv_goto (tgt := 27) hx hb dL_subscribe_12 (by decide) ?_
    refine lv_iconst (v := 0) hx hb dL_subscribe_27 (by decide) ?_
    exact W.iret (v := 0) hx hb hr (fun t ht hW => Qi_of ⟨fun _ => ⟨_, rfl, hkp, rfl⟩, fun z => absurd h83 z⟩ hP hS ht) hS.2.2 dL_subscribe_28
set_option maxHeartbeats 4000000 in
set_option maxRecDepth 100000 in
theorem c_L_addSchedule (l : Launch) (hns : l.stackTraces = false) (D : va_G) (B : Nat) (ad : Ad) (np ns nc : Nat) (σ : Me) (T : GC × Me × Int32) (o : Int64) (hI : Ib (np, ns, nc) σ) (hF : Fr (np, ns, nc) σ) (x0 : Int32) (x1 : Int32) : Met l yL_addSchedule wsL_addSchedule ({ frames := 8, cells := 12, slots := 151, locals := 135 }) (Pre D B ad (cW D ad ((np, ns, nc), σ) T o) [.ref (ad 4 0), .int x0, .int x1, .ref (ad 6 0)]) (Qi D B (fun r u => (cdAdC (np, ns, nc) x0 x1 = 0 → ∃ ad9 : Ad, u = (ad9, cW D ad9 ((np, ns, nc + 1), schF nc x0 x1 σ) T (nI nc).toInt64) ∧ (∀ f9, f9 = 4 ∨ f9 = 5 ∨ f9 = 6 → ad9 f9 0 = ad f9 0) ∧ r = 0) ∧ (¬ cdAdC (np, ns, nc) x0 x1 = 0 → u = (ad, cW D ad ((np, ns, nc), σ) T o) ∧ r = nI (cdAdC (np, ns, nc) x0 x1)))) 12 151 (ab B) := by
  refine y_ofWH (cc := cL_addSchedule) (maxL := 5) (ret := (some .int)) (by decide) rfl ?_
  intro p e s m args below meth c s₁ Bd hml htb hv
  obtain ⟨rfl, hC, hP⟩ := hv
  have hx := Bd.exec
  have hb := Bd.bytes
  have hr := Bd.returns
  have hts := atoms_spec (ws := wsL_addSchedule) Bd.pre
  have hown : s.vm.findClass RL = some m.cls := findClass_of_methodNamed Bd.named
  have hlocks := Bd.notSynchronized
  have hS : va_S (ab B) s.heap s.heap [] := va_S.rf
  have hl := lv_entry ([.ref (ad 4 0), .int x0, .int x1, .ref (ad 6 0)]) (n := 5) (Nat.le_of_ble_eq_true rfl)
  rw [lg_entry_eq]
  generalize (lg_sl ([.ref (ad 4 0), .int x0, .int x1, .ref (ad 6 0)]) ++ List.replicate (5 - (lg_sl ([.ref (ad 4 0), .int x0, .int x1, .ref (ad 6 0)])).length) Slot.unset).toArray = ls at hl ⊢
  have hl : lv_has ls 5 [(0, .ref (ad 4 0)), (1, .int x0), (2, .int x1), (3, .ref (ad 6 0))] := hl
  refine lv_aload_n hx hb dL_addSchedule_0 rfl (lv_at hl 3 rfl) ?_
  refine lv_iconst (v := 0) hx hb dL_addSchedule_1 (by decide) ?_
  refine lv_aload_n hx hb dL_addSchedule_2 rfl (lv_at hl 0 rfl) ?_
  refine lv_iload_n hx hb dL_addSchedule_3 rfl (lv_at hl 1 rfl) ?_
  refine lv_iload_n hx hb dL_addSchedule_4 rfl (lv_at hl 2 rfl) ?_
  refine y_calli (vx_runV (As := [.int x0, .int x1]) (rest := [.int 0, .ref (ad 6 0)]) ⟨hx, hb, hml, hown, hts⟩ (c_X4_addSchedule l hns D B ad np ns nc σ T o hI hF x0 x1) (cwV 2 hts gL_addSchedule_X4_addSchedule rfl rfl rfl (by decide +kernel) ⟨Nat.le_of_ble_eq_true rfl, Nat.le_of_ble_eq_true rfl⟩) (w_preV hC hP hS cW_4 rfl) rfl rfl hl.1 rfl (lv_room (Nat.le_of_ble_eq_true rfl)) dL_addSchedule_5 ⟨Nat.le_of_ble_eq_true rfl, Nat.le_of_ble_eq_true rfl⟩) hS (fun E9 ce9 q9 ad1 w1 H locs hq hP hS h91 h92 h93 => ?_) (fun r_1 ad1 w1 H locs hq hP hS => ?_)
  · obtain ⟨h84, h85⟩ := hq
    cases h84
    rcases exA_3 h85 with ⟨h86, rfl⟩ | ⟨h86, rfl⟩ | ⟨h86, rfl⟩
    · refine vx_catch (name := exIO) hown [] (⟨0, 10, 13, 25⟩ : ExceptionTableEntry) [(⟨0, 10, 17, 13⟩ : ExceptionTableEntry), (⟨0, 10, 21, 15⟩ : ExceptionTableEntry)] (htb.trans rfl) (fun z hz => absurd hz List.not_mem_nil) (by decide) (by decide) (hts (.classLink RL 25 exIO) (by decide +kernel)) ((hC.2.2.2.2.2.1 exIO (by decide)).use rfl) h91 h92 h93 ?_
      refine lv_astore (lv' := [(4, .ref q9), (0, .ref (ad 4 0)), (1, .int x0), (2, .int x1), (3, .ref (ad 6 0))]) hx hb dL_addSchedule_13 hl (by decide) rfl (fun ls hl => ?_)
      refine lv_iconst (v := 1) hx hb dL_addSchedule_15 (by decide) ?_
      exact W.iret (v := 1) hx hb hr (fun t ht hW => Qi_of ⟨fun z => absurd (z.symm.trans h86) (by decide), fun _ => ⟨rfl, by rw [h86]; rfl⟩⟩ hP hS ht) hS.2.2 dL_addSchedule_16
    · refine vx_catch (name := exIA) hown [(⟨0, 10, 13, 25⟩ : ExceptionTableEntry)] (⟨0, 10, 17, 13⟩ : ExceptionTableEntry) [(⟨0, 10, 21, 15⟩ : ExceptionTableEntry)] (htb.trans rfl) (fun z hz => by simp only [List.mem_cons, List.not_mem_nil, or_false] at hz; rcases hz with rfl; exact Or.inr ⟨by decide, exIO, hts (.classLink RL 25 exIO) (by decide +kernel), hC.2.2.2.2.2.2.1 exIA (by decide) exIO (by decide) (by decide)⟩) (by decide) (by decide) (hts (.classLink RL 13 exIA) (by decide +kernel)) ((hC.2.2.2.2.2.1 exIA (by decide)).use rfl) h91 h92 h93 ?_
      refine lv_astore (lv' := [(4, .ref q9), (0, .ref (ad 4 0)), (1, .int x0), (2, .int x1), (3, .ref (ad 6 0))]) hx hb dL_addSchedule_17 hl (by decide) rfl (fun ls hl => ?_)
      refine lv_iconst (v := 2) hx hb dL_addSchedule_19 (by decide) ?_
      exact W.iret (v := 2) hx hb hr (fun t ht hW => Qi_of ⟨fun z => absurd (z.symm.trans h86) (by decide), fun _ => ⟨rfl, by rw [h86]; rfl⟩⟩ hP hS ht) hS.2.2 dL_addSchedule_20
    · refine vx_catch (name := exIS) hown [(⟨0, 10, 13, 25⟩ : ExceptionTableEntry), (⟨0, 10, 17, 13⟩ : ExceptionTableEntry)] (⟨0, 10, 21, 15⟩ : ExceptionTableEntry) [] (htb.trans rfl) (fun z hz => by simp only [List.mem_cons, List.not_mem_nil, or_false] at hz; rcases hz with rfl | rfl; exact Or.inr ⟨by decide, exIO, hts (.classLink RL 25 exIO) (by decide +kernel), hC.2.2.2.2.2.2.1 exIS (by decide) exIO (by decide) (by decide)⟩; exact Or.inr ⟨by decide, exIA, hts (.classLink RL 13 exIA) (by decide +kernel), hC.2.2.2.2.2.2.1 exIS (by decide) exIA (by decide) (by decide)⟩) (by decide) (by decide) (hts (.classLink RL 15 exIS) (by decide +kernel)) ((hC.2.2.2.2.2.1 exIS (by decide)).use rfl) h91 h92 h93 ?_
      refine lv_astore (lv' := [(4, .ref q9), (0, .ref (ad 4 0)), (1, .int x0), (2, .int x1), (3, .ref (ad 6 0))]) hx hb dL_addSchedule_21 hl (by decide) rfl (fun ls hl => ?_)
      refine lv_iconst (v := 3) hx hb dL_addSchedule_23 (by decide) ?_
      exact W.iret (v := 3) hx hb hr (fun t ht hW => Qi_of ⟨fun z => absurd (z.symm.trans h86) (by decide), fun _ => ⟨rfl, by rw [h86]; rfl⟩⟩ hP hS ht) hS.2.2 dL_addSchedule_24
  · obtain ⟨ad9, h81, hkp, h82, h83⟩ := hq
    cases h81
    subst h82
    refine lv_i2l (v := (nI nc).toInt64) hx hb dL_addSchedule_8 rfl ?_
    refine w_top3r (hkp 6 (by decide)).symm ?_
    refine w_last hx hb hC hP hS cW_6 (i := 0) (by unfold vp_in; decide) dL_addSchedule_9 (fun H locs hP hS => ?_)
    have hP := hw_eq hP (pO _)
    refine lv_goto (tgt := 25) hx hb dL_addSchedule_10 (by decide) ?_
    refine lv_iconst (v := 0) hx hb dL_addSchedule_25 (by decide) ?_
    exact W.iret (v := 0) hx hb hr (fun t ht hW => Qi_of ⟨fun _ => ⟨_, rfl, hkp, rfl⟩, fun z => absurd h83 z⟩ hP hS ht) hS.2.2 dL_addSchedule_26
set_option maxHeartbeats 4000000 in
set_option maxRecDepth 100000 in
theorem c_L_goesOn (l : Launch) (hns : l.stackTraces = false) (D : va_G) (B : Nat) (ad : Ad) (g : GC) (σ : Me) (T : GC × Me × Int32) (o : Int64) (hI : Ib g σ) (x0 : Int32) : Met l yL_goesOn wsL_goesOn ({ frames := 8, cells := 1, slots := 6, locals := 132 }) (Pre D B ad (cW D ad (g, σ) T o) [.ref (ad 4 0), .int x0, .ref (ad 6 0)]) (Qi D B (fun r u => (cdPt g.2.1 x0 = 0 → u = (ad, cW D ad (g, σ) T (1 - σ 11 (nOf x0) 0).toInt64) ∧ r = 0) ∧ (¬ cdPt g.2.1 x0 = 0 → u = (ad, cW D ad (g, σ) T o) ∧ r = nI (cdPt g.2.1 x0)))) 1 6 (ab B) := by
  refine y_ofWH (cc := cL_goesOn) (maxL := 4) (ret := (some .int)) (by decide) rfl ?_
  intro p e s m args below meth c s₁ Bd hml htb hv
  obtain ⟨rfl, hC, hP⟩ := hv
  have hx := Bd.exec
  have hb := Bd.bytes
  have hr := Bd.returns
  have hts := atoms_spec (ws := wsL_goesOn) Bd.pre
  have hown : s.vm.findClass RL = some m.cls := findClass_of_methodNamed Bd.named
  have hlocks := Bd.notSynchronized
  have hS : va_S (ab B) s.heap s.heap [] := va_S.rf
  have hl := lv_entry ([.ref (ad 4 0), .int x0, .ref (ad 6 0)]) (n := 4) (Nat.le_of_ble_eq_true rfl)
  rw [lg_entry_eq]
  generalize (lg_sl ([.ref (ad 4 0), .int x0, .ref (ad 6 0)]) ++ List.replicate (4 - (lg_sl ([.ref (ad 4 0), .int x0, .ref (ad 6 0)])).length) Slot.unset).toArray = ls at hl ⊢
  have hl : lv_has ls 4 [(0, .ref (ad 4 0)), (1, .int x0), (2, .ref (ad 6 0))] := hl
  refine lv_aload_n hx hb dL_goesOn_0 rfl (lv_at hl 2 rfl) ?_
  refine lv_iconst (v := 0) hx hb dL_goesOn_1 (by decide) ?_
  refine lv_aload_n hx hb dL_goesOn_2 rfl (lv_at hl 0 rfl) ?_
  refine lv_iload_n hx hb dL_goesOn_3 rfl (lv_at hl 1 rfl) ?_
  refine y_calli (vx_runV (As := [.int x0]) (rest := [.int 0, .ref (ad 6 0)]) ⟨hx, hb, hml, hown, hts⟩ (c_X4_goesOn l hns D B ad g σ T o hI x0) (cwV 1 hts gL_goesOn_X4_goesOn rfl rfl rfl (by decide +kernel) ⟨Nat.le_of_ble_eq_true rfl, Nat.le_of_ble_eq_true rfl⟩) (w_preV hC hP hS cW_4 rfl) rfl rfl hl.1 rfl (lv_room (Nat.le_of_ble_eq_true rfl)) dL_goesOn_4 ⟨Nat.le_of_ble_eq_true rfl, Nat.le_of_ble_eq_true rfl⟩) hS (fun E9 ce9 q9 ad1 w1 H locs hq hP hS h91 h92 h93 => ?_) (fun r_1 ad1 w1 H locs hq hP hS => ?_)
  · obtain ⟨h84, h85⟩ := hq
    cases h84
    rcases exA_1 h85 with ⟨h86, rfl⟩
    · refine vx_catch (name := exIO) hown [] (⟨0, 16, 19, 25⟩ : ExceptionTableEntry) [] (htb.trans rfl) (fun z hz => absurd hz List.not_mem_nil) (by decide) (by decide) (hts (.classLink RL 25 exIO) (by decide +kernel)) ((hC.2.2.2.2.2.1 exIO (by decide)).use rfl) h91 h92 h93 ?_
      refine lv_astore_n (lv' := [(3, .ref q9), (0, .ref (ad 4 0)), (1, .int x0), (2, .ref (ad 6 0))]) hx hb dL_goesOn_19 rfl hl (by decide) rfl (fun ls hl => ?_)
      refine lv_iconst (v := 1) hx hb dL_goesOn_20 (by decide) ?_
      exact W.iret (v := 1) hx hb hr (fun t ht hW => Qi_of ⟨fun z => absurd (z.symm.trans h86) (by decide), fun _ => ⟨rfl, by rw [h86]; rfl⟩⟩ hP hS ht) hS.2.2 dL_goesOn_21
  · obtain ⟨h81, h82, h83⟩ := hq
    cases h81
    subst h82
    refine lv_if_eq (tgt := 14) hx hb dL_goesOn_7 (by decide) (fun c_7 => ?_) (fun c_7 => ?_)
    · refine lv_lconst (v := 0) hx hb dL_goesOn_14 rfl ?_
      refine w_last hx hb hC hP hS cW_6 (i := 0) (by unfold vp_in; decide) dL_goesOn_15 (fun H locs hP hS => ?_)
      have hP := hw_eq hP (pO _)
      refine lv_goto (tgt := 22) hx hb dL_goesOn_16 (by decide) ?_
      refine lv_iconst (v := 0) hx hb dL_goesOn_22 (by decide) ?_
      exact W.iret (v := 0) hx hb hr (fun t ht hW => Qi_of ⟨fun _ => ⟨by rw [c_7, show (0 : Int32).toInt64 = 0 by decide], rfl⟩, fun z => absurd h83 z⟩ hP hS ht) hS.2.2 dL_goesOn_23
    · have e1 : 1 - σ 11 (nOf x0) 0 = 1 := by
        obtain ⟨pi, hpi, hx0⟩ := (cod3_z (show cod3 (isN g.2.1 x0) True True = 0 from h83)).1
        have hcl : nOf x0 = pi := by rw [hx0]; exact nI_clamp (by have := hI.2.1; omega)
        rw [hcl] at c_7 ⊢
        rcases (hI.2.2.2.2.1 pi hpi).1 with z | z
        · rw [z]; decide
        · rw [z] at c_7; exact absurd (by decide) c_7
      refine lv_lconst (v := 1) hx hb dL_goesOn_10 rfl ?_
      refine lv_goto (tgt := 15) hx hb dL_goesOn_11 (by decide) ?_
      refine w_last hx hb hC hP hS cW_6 (i := 0) (by unfold vp_in; decide) dL_goesOn_15 (fun H locs hP hS => ?_)
      have hP := hw_eq hP (pO _)
      refine lv_goto (tgt := 22) hx hb dL_goesOn_16 (by decide) ?_
      refine lv_iconst (v := 0) hx hb dL_goesOn_22 (by decide) ?_
      exact W.iret (v := 0) hx hb hr (fun t ht hW => Qi_of ⟨fun _ => ⟨by rw [e1, show (1 : Int32).toInt64 = 1 by decide], rfl⟩, fun z => absurd h83 z⟩ hP hS ht) hS.2.2 dL_goesOn_23
