/-! the law's calls of the class -/
theorem exA_1 {a E : String} {k : Nat} (h : exA [a] k E) : k = 1 ∧ E = a := by
  obtain ⟨h0, h1⟩ := h
  match k, h0, h1 with
  | 1, _, h1 => exact ⟨rfl, (Option.some.inj h1).symm⟩
  | k + 2, _, h1 => simp at h1
theorem exA_2 {a b E : String} {k : Nat} (h : exA [a, b] k E) : (k = 1 ∧ E = a) ∨ (k = 2 ∧ E = b) := by
  obtain ⟨h0, h1⟩ := h
  match k, h0, h1 with
  | 1, _, h1 => exact Or.inl ⟨rfl, (Option.some.inj h1).symm⟩
  | 2, _, h1 => exact Or.inr ⟨rfl, (Option.some.inj h1).symm⟩
  | k + 3, _, h1 => simp at h1
theorem exA_3 {a b c E : String} {k : Nat} (h : exA [a, b, c] k E) : (k = 1 ∧ E = a) ∨ (k = 2 ∧ E = b) ∨ (k = 3 ∧ E = c) := by
  obtain ⟨h0, h1⟩ := h
  match k, h0, h1 with
  | 1, _, h1 => exact Or.inl ⟨rfl, (Option.some.inj h1).symm⟩
  | 2, _, h1 => exact Or.inr (Or.inl ⟨rfl, (Option.some.inj h1).symm⟩)
  | 3, _, h1 => exact Or.inr (Or.inr ⟨rfl, (Option.some.inj h1).symm⟩)
  | k + 4, _, h1 => simp at h1
set_option maxHeartbeats 4000000 in
set_option maxRecDepth 100000 in
theorem c_L_value (l : Launch) (hns : l.stackTraces = false) (D : va_G) (B : Nat) (ad : Ad) (g : GC) (σ : Me) (T : GC × Me × Int32) (o : Int64) (hI : Ib g σ) (x0 : Int32) : Met l yL_value wsL_value ({ frames := 8, cells := 1, slots := 6, locals := 132 }) (Pre D B ad (cW D ad (g, σ) T o) [.ref (ad 4 0), .int x0, .ref (ad 6 0)]) (Qi D B (fun r u => (cdPt g.1 x0 = 0 → u = (ad, cW D ad (g, σ) T (vaO σ (nOf x0)).toInt64) ∧ r = 0) ∧ (¬ cdPt g.1 x0 = 0 → u = (ad, cW D ad (g, σ) T o) ∧ r = nI (cdPt g.1 x0)))) 1 6 (ab B) := by
  refine y_ofWH (cc := cL_value) (maxL := 4) (ret := (some .int)) (by decide) rfl ?_
  intro p e s m args below meth c s₁ Bd hml htb hv
  obtain ⟨rfl, hC, hP⟩ := hv
  have hx := Bd.exec
  have hb := Bd.bytes
  have hr := Bd.returns
  have hts := atoms_spec (ws := wsL_value) Bd.pre
  have hown : s.vm.findClass RL = some m.cls := findClass_of_methodNamed Bd.named
  have hlocks := Bd.notSynchronized
  have hS : va_S (ab B) s.heap s.heap [] := va_S.rf
  have hl := lv_entry ([.ref (ad 4 0), .int x0, .ref (ad 6 0)]) (n := 4) (Nat.le_of_ble_eq_true rfl)
  rw [lg_entry_eq]
  generalize (lg_sl ([.ref (ad 4 0), .int x0, .ref (ad 6 0)]) ++ List.replicate (4 - (lg_sl ([.ref (ad 4 0), .int x0, .ref (ad 6 0)])).length) Slot.unset).toArray = ls at hl ⊢
  have hl : lv_has ls 4 [(0, .ref (ad 4 0)), (1, .int x0), (2, .ref (ad 6 0))] := hl
  refine lv_aload_n hx hb dL_value_0 rfl (lv_at hl 2 rfl) ?_
  refine lv_iconst (v := 0) hx hb dL_value_1 (by decide) ?_
  refine lv_aload_n hx hb dL_value_2 rfl (lv_at hl 0 rfl) ?_
  refine lv_iload_n hx hb dL_value_3 rfl (lv_at hl 1 rfl) ?_
  refine y_calli (vx_runV (As := [.int x0]) (rest := [.int 0, .ref (ad 6 0)]) ⟨hx, hb, hml, hown, hts⟩ (c_X4_value l hns D B ad g σ T o hI x0) (cwV 1 hts gL_value_X4_value rfl rfl rfl (by decide +kernel) ⟨Nat.le_of_ble_eq_true rfl, Nat.le_of_ble_eq_true rfl⟩) (w_preV hC hP hS cW_4 rfl) rfl rfl hl.1 rfl (lv_room (Nat.le_of_ble_eq_true rfl)) dL_value_4 ⟨Nat.le_of_ble_eq_true rfl, Nat.le_of_ble_eq_true rfl⟩) hS (fun E9 ce9 q9 ad1 w1 H locs hq hP hS h91 h92 h93 => ?_) (fun r_1 ad1 w1 H locs hq hP hS => ?_)
  · obtain ⟨h84, h85⟩ := hq
    cases h84
    rcases exA_1 h85 with ⟨h86, rfl⟩
    · refine vx_catch (name := exIO) hown [] (⟨0, 9, 12, 25⟩ : ExceptionTableEntry) [] (htb.trans rfl) (fun z hz => absurd hz List.not_mem_nil) (by decide) (by decide) (hts (.classLink RL 25 exIO) (by decide +kernel)) ((hC.2.2.2.2.2.1 exIO (by decide)).use rfl) h91 h92 h93 ?_
      refine lv_astore_n (lv' := [(3, .ref q9), (0, .ref (ad 4 0)), (1, .int x0), (2, .ref (ad 6 0))]) hx hb dL_value_12 rfl hl (by decide) rfl (fun ls hl => ?_)
      refine lv_iconst (v := 1) hx hb dL_value_13 (by decide) ?_
      exact W.iret (v := 1) hx hb hr (fun t ht hW => Qi_of ⟨fun z => absurd (z.symm.trans h86) (by decide), fun _ => ⟨rfl, by rw [h86]; rfl⟩⟩ hP hS ht) hS.2.2 dL_value_14
  · obtain ⟨h81, h82, h83⟩ := hq
    cases h81
    subst h82
    refine lv_i2l (v := (vaO σ (nOf x0)).toInt64) hx hb dL_value_7 rfl ?_
    refine w_last hx hb hC hP hS cW_6 (i := 0) (by unfold vp_in; decide) dL_value_8 (fun H locs hP hS => ?_)
    have hP := hw_eq hP (pO _)
    refine lv_goto (tgt := 15) hx hb dL_value_9 (by decide) ?_
    refine lv_iconst (v := 0) hx hb dL_value_15 (by decide) ?_
    exact W.iret (v := 0) hx hb hr (fun t ht hW => Qi_of ⟨fun _ => ⟨rfl, rfl⟩, fun z => absurd h83 z⟩ hP hS ht) hS.2.2 dL_value_16
