set_option maxHeartbeats 4000000 in
set_option maxRecDepth 100000 in
theorem c_X5_init (l : Launch) (D : va_G) (B : Nat) (ad : Ad) (w : Wd) (a : Nat) (ha : ad 5 0 = a) (h5 : w 5 0 = some (.inr (5, [.int 0, .int 0, .int 0, .int 0, .int 0, .null, .null, .null, .null, .null, .null, .null, .null, .null, .null, .null, .null, .null, .null, .null, .null, .null, .null, .null, .int 0]))) (h12 : ∀ k, w 12 k = none) : Met l yX5_init wsX5_init ({ frames := 1, cells := 19, slots := 772, locals := 24 }) (Pre D B ad (w) [.ref a]) (Qv D B (fun u => ∃ (ad9 : Ad) (w9 : Wd), u = (ad9, w9) ∧ (∀ f9 j9, ¬ f9 = 12 → ad9 f9 j9 = ad f9 j9) ∧ w9 5 0 = some (eMo ad9 (0, 0, 0) (fun _ _ _ => 0) 0) ∧ (∀ k9, k9 < 19 → w9 12 k9 = mAr D (fun _ _ _ => 0) k9) ∧ (∀ f9 j9, ¬ (f9 = 5 ∧ j9 = 0) → ¬ f9 = 12 → w9 f9 j9 = w f9 j9))) 19 772 (ab B) := by
  refine Met.ofW (cc := cX5_init) (maxL := 1) (ret := none) (by decide) rfl ?_
  intro p e s m args below meth c s₁ Bd hml hv
  obtain ⟨rfl, hC, hP⟩ := hv
  have hx := Bd.exec
  have hb := Bd.bytes
  have hr := Bd.returns
  have hts := atoms_spec (ws := wsX5_init) Bd.pre
  have hown : s.vm.findClass RX5 = some m.cls := findClass_of_methodNamed Bd.named
  have hlocks := Bd.notSynchronized
  have hin : meth.name = "<init>" := (name_of_methodNamed Bd.named Bd.method).1
  have hS : va_S (ab B) s.heap s.heap [] := va_S.rf
  have hl := lv_entry ([.ref a]) (n := 1) (Nat.le_of_ble_eq_true rfl)
  rw [lg_entry_eq]
  generalize (lg_sl ([.ref a]) ++ List.replicate (1 - (lg_sl ([.ref a])).length) Slot.unset).toArray = ls at hl ⊢
  have hl : lv_has ls 1 [(0, .ref a)] := hl
  have hm0 : ∀ k, k < 0 → w 12 k = mAr D (fun _ _ _ => 0) k := fun k hk => absurd hk (Nat.not_lt_zero _)
  have hn0 : ∀ k, 0 ≤ k → w 12 k = none := fun k _ => h12 k
  have ho0 : ∀ f j, ¬ (f = 5 ∧ j = 0) → ¬ f = 12 → w f j = w f j := fun _ _ _ _ => rfl
  refine lv_aload_n hx hb dX5_init_0 rfl (lv_at hl 0 rfl) ?_
  refine W.objInit hx hb hown (hts (.methodLink RX5 1 objectInit) (by decide +kernel)) (hts (.instanceMethod objectInit) (by decide +kernel)) (hts (.code objectInit ⟨#[0xb1]⟩ 1 none) (by decide +kernel)) rfl (by rw [hml]; exact hl.1) rfl dX5_init_1 (Nat.le_of_ble_eq_true rfl) (Nat.le_of_ble_eq_true rfl) ?_
  refine W.eq (g2 := F0 m 4 ls []) rfl ?_
  refine lv_aload_n hx hb dX5_init_4 rfl (lv_at hl 0 rfl) ?_
  refine lv_bipush (v := (16)) hx hb dX5_init_5 (by decide) ?_
  refine w_newa (atype := .boolean) hx hb (hts (.arrayClass .boolean) (by decide +kernel)) 1 rfl (fun C z => by cases z) hC hP hS (N' := 16) (a0 := (16, .inl (fun _ => 0))) (fun _ => vp_cell_i _ _ _) (by decide) (by decide) (show 16 * 1 ≤ 536870912 by decide) (Nat.le_of_ble_eq_true rfl) (Nat.le_of_ble_eq_true rfl) 12 0 (h12 _) dX5_init_7 (fun q_1 H hqq_1 hP hS => ?_)
  clear hqq_1
  refine w_putFA (f := 5) (k := 0) hx hb hts (by decide +kernel) tyX5 tyX5_ok nmX5 hown hC hP hS ((a2_o (by omega)).trans ha) ((u2_o (by omega)).trans (h5)) rfl 5 (by decide) (hts (.fieldLink RX5 7 "BuildingPointsModel" "isSwitch" "[Z") (by decide +kernel)) rfl hin rfl rfl rfl (Nat.le_of_ble_eq_true rfl) rfl dX5_init_9 (fun H locs hP hS => ?_)
  obtain ⟨ad_0, hA, w_0, hW, hP⟩ : ∃ a1, a2 (ad) 12 0 q_1 = a1 ∧ ∃ w1, u2 (u2 (w) 12 0 (eZ D 16 (fun _ => 0))) 5 0 (.inr (5, [.int 0, .int 0, .int 0, .int 0, .int 0, .ref q_1, .null, .null, .null, .null, .null, .null, .null, .null, .null, .null, .null, .null, .null, .null, .null, .null, .null, .null, .int 0])) = w1 ∧ hw D B a1 w1 H := ⟨_, rfl, _, rfl, hP⟩
  have h5_0 := (congrFun (congrFun hW 5) 0).symm.trans (u2_self _ _ _ _)
  have hm_0 : ∀ k, k < 1 → w_0 12 k = mAr D (fun _ _ _ => 0) k := fun k hk => by rw [← hW, u2_o (by omega), show k = 0 by omega]; exact u2_self _ _ _ _
  have hn_0 : ∀ k, 1 ≤ k → w_0 12 k = none := fun k hk => by rw [← hW, u2_o (by omega), u2_o (by omega)]; exact hn0 k (by omega)
  have ho_0 : ∀ f j, ¬ (f = 5 ∧ j = 0) → ¬ f = 12 → w_0 f j = w f j := fun f j y1 y2 => by exact (congrFun (congrFun hW f) j).symm.trans ((u2_o y1).trans ((u2_o (by omega)).trans (ho0 f j y1 y2)))
  have hA_0 : ad_0 5 0 = a := by rw [← hA, a2_o (by omega)]; exact ha
  have aq_0 : ad_0 12 0 = q_1 := by rw [← hA]; exact a2_s
  have ak_0 : ∀ f j, ¬ (f = 12 ∧ j = 0) → ad_0 f j = ad f j := fun f j y => by rw [← hA]; exact a2_o y
  clear hA hW
  refine lv_aload_n hx hb dX5_init_12 rfl (lv_at hl 0 rfl) ?_
  refine lv_bipush (v := (16)) hx hb dX5_init_13 (by decide) ?_
  refine w_newa (atype := .int) hx hb (hts (.arrayClass .int) (by decide +kernel)) 0 rfl (fun C z => by cases z) hC hP hS (N' := 16) (a0 := (16, .inl (fun _ => 0))) (fun _ => vp_cell_i _ _ _) (by decide) (by decide) (show 16 * 4 ≤ 536870912 by decide) (Nat.le_of_ble_eq_true rfl) (Nat.le_of_ble_eq_true rfl) 12 1 (hn_0 _ (by omega)) dX5_init_15 (fun q_2 H hqq_2 hP hS => ?_)
  clear hqq_2
  refine w_putFA (f := 5) (k := 0) hx hb hts (by decide +kernel) tyX5 tyX5_ok nmX5 hown hC hP hS ((a2_o (by omega)).trans hA_0) ((u2_o (by omega)).trans (h5_0)) rfl 6 (by decide) (hts (.fieldLink RX5 13 "BuildingPointsModel" "first" "[I") (by decide +kernel)) rfl hin rfl rfl rfl (Nat.le_of_ble_eq_true rfl) rfl dX5_init_17 (fun H locs hP hS => ?_)
  obtain ⟨ad_1, hA, w_1, hW, hP⟩ : ∃ a1, a2 (ad_0) 12 1 q_2 = a1 ∧ ∃ w1, u2 (u2 (w_0) 12 1 (eI D 16 (fun _ => 0))) 5 0 (.inr (5, [.int 0, .int 0, .int 0, .int 0, .int 0, .ref q_1, .ref q_2, .null, .null, .null, .null, .null, .null, .null, .null, .null, .null, .null, .null, .null, .null, .null, .null, .null, .int 0])) = w1 ∧ hw D B a1 w1 H := ⟨_, rfl, _, rfl, hP⟩
  have h5_1 := (congrFun (congrFun hW 5) 0).symm.trans (u2_self _ _ _ _)
  have hm_1 : ∀ k, k < 2 → w_1 12 k = mAr D (fun _ _ _ => 0) k := fun k hk => by rw [← hW, u2_o (by omega)]; rcases Nat.lt_succ_iff_lt_or_eq.mp hk with y | y; rw [u2_o (by omega)]; exact hm_0 k y; subst y; exact u2_self _ _ _ _
  have hn_1 : ∀ k, 2 ≤ k → w_1 12 k = none := fun k hk => by rw [← hW, u2_o (by omega), u2_o (by omega)]; exact hn_0 k (by omega)
  have ho_1 : ∀ f j, ¬ (f = 5 ∧ j = 0) → ¬ f = 12 → w_1 f j = w f j := fun f j y1 y2 => by exact (congrFun (congrFun hW f) j).symm.trans ((u2_o y1).trans ((u2_o (by omega)).trans (ho_0 f j y1 y2)))
  have hA_1 : ad_1 5 0 = a := by rw [← hA, a2_o (by omega)]; exact hA_0
  have aq_1 : ad_1 12 1 = q_2 := by rw [← hA]; exact a2_s
  have ak_1 : ∀ f j, ¬ (f = 12 ∧ j = 1) → ad_1 f j = ad_0 f j := fun f j y => by rw [← hA]; exact a2_o y
  clear hA hW
  refine lv_aload_n hx hb dX5_init_20 rfl (lv_at hl 0 rfl) ?_
  refine lv_bipush (v := (16)) hx hb dX5_init_21 (by decide) ?_
  refine w_newa (atype := .int) hx hb (hts (.arrayClass .int) (by decide +kernel)) 0 rfl (fun C z => by cases z) hC hP hS (N' := 16) (a0 := (16, .inl (fun _ => 0))) (fun _ => vp_cell_i _ _ _) (by decide) (by decide) (show 16 * 4 ≤ 536870912 by decide) (Nat.le_of_ble_eq_true rfl) (Nat.le_of_ble_eq_true rfl) 12 2 (hn_1 _ (by omega)) dX5_init_23 (fun q_3 H hqq_3 hP hS => ?_)
  clear hqq_3
  refine w_putFA (f := 5) (k := 0) hx hb hts (by decide +kernel) tyX5 tyX5_ok nmX5 hown hC hP hS ((a2_o (by omega)).trans hA_1) ((u2_o (by omega)).trans (h5_1)) rfl 7 (by decide) (hts (.fieldLink RX5 17 "BuildingPointsModel" "least" "[I") (by decide +kernel)) rfl hin rfl rfl rfl (Nat.le_of_ble_eq_true rfl) rfl dX5_init_25 (fun H locs hP hS => ?_)
  obtain ⟨ad_2, hA, w_2, hW, hP⟩ : ∃ a1, a2 (ad_1) 12 2 q_3 = a1 ∧ ∃ w1, u2 (u2 (w_1) 12 2 (eI D 16 (fun _ => 0))) 5 0 (.inr (5, [.int 0, .int 0, .int 0, .int 0, .int 0, .ref q_1, .ref q_2, .ref q_3, .null, .null, .null, .null, .null, .null, .null, .null, .null, .null, .null, .null, .null, .null, .null, .null, .int 0])) = w1 ∧ hw D B a1 w1 H := ⟨_, rfl, _, rfl, hP⟩
  have h5_2 := (congrFun (congrFun hW 5) 0).symm.trans (u2_self _ _ _ _)
  have hm_2 : ∀ k, k < 3 → w_2 12 k = mAr D (fun _ _ _ => 0) k := fun k hk => by rw [← hW, u2_o (by omega)]; rcases Nat.lt_succ_iff_lt_or_eq.mp hk with y | y; rw [u2_o (by omega)]; exact hm_1 k y; subst y; exact u2_self _ _ _ _
  have hn_2 : ∀ k, 3 ≤ k → w_2 12 k = none := fun k hk => by rw [← hW, u2_o (by omega), u2_o (by omega)]; exact hn_1 k (by omega)
  have ho_2 : ∀ f j, ¬ (f = 5 ∧ j = 0) → ¬ f = 12 → w_2 f j = w f j := fun f j y1 y2 => by exact (congrFun (congrFun hW f) j).symm.trans ((u2_o y1).trans ((u2_o (by omega)).trans (ho_1 f j y1 y2)))
  have hA_2 : ad_2 5 0 = a := by rw [← hA, a2_o (by omega)]; exact hA_1
  have aq_2 : ad_2 12 2 = q_3 := by rw [← hA]; exact a2_s
  have ak_2 : ∀ f j, ¬ (f = 12 ∧ j = 2) → ad_2 f j = ad_1 f j := fun f j y => by rw [← hA]; exact a2_o y
  clear hA hW
  refine lv_aload_n hx hb dX5_init_28 rfl (lv_at hl 0 rfl) ?_
  refine lv_bipush (v := (16)) hx hb dX5_init_29 (by decide) ?_
  refine w_newa (atype := .int) hx hb (hts (.arrayClass .int) (by decide +kernel)) 0 rfl (fun C z => by cases z) hC hP hS (N' := 16) (a0 := (16, .inl (fun _ => 0))) (fun _ => vp_cell_i _ _ _) (by decide) (by decide) (show 16 * 4 ≤ 536870912 by decide) (Nat.le_of_ble_eq_true rfl) (Nat.le_of_ble_eq_true rfl) 12 3 (hn_2 _ (by omega)) dX5_init_31 (fun q_4 H hqq_4 hP hS => ?_)
  clear hqq_4
  refine w_putFA (f := 5) (k := 0) hx hb hts (by decide +kernel) tyX5 tyX5_ok nmX5 hown hC hP hS ((a2_o (by omega)).trans hA_2) ((u2_o (by omega)).trans (h5_2)) rfl 8 (by decide) (hts (.fieldLink RX5 20 "BuildingPointsModel" "until" "[I") (by decide +kernel)) rfl hin rfl rfl rfl (Nat.le_of_ble_eq_true rfl) rfl dX5_init_33 (fun H locs hP hS => ?_)
  obtain ⟨ad_3, hA, w_3, hW, hP⟩ : ∃ a1, a2 (ad_2) 12 3 q_4 = a1 ∧ ∃ w1, u2 (u2 (w_2) 12 3 (eI D 16 (fun _ => 0))) 5 0 (.inr (5, [.int 0, .int 0, .int 0, .int 0, .int 0, .ref q_1, .ref q_2, .ref q_3, .ref q_4, .null, .null, .null, .null, .null, .null, .null, .null, .null, .null, .null, .null, .null, .null, .null, .int 0])) = w1 ∧ hw D B a1 w1 H := ⟨_, rfl, _, rfl, hP⟩
  have h5_3 := (congrFun (congrFun hW 5) 0).symm.trans (u2_self _ _ _ _)
  have hm_3 : ∀ k, k < 4 → w_3 12 k = mAr D (fun _ _ _ => 0) k := fun k hk => by rw [← hW, u2_o (by omega)]; rcases Nat.lt_succ_iff_lt_or_eq.mp hk with y | y; rw [u2_o (by omega)]; exact hm_2 k y; subst y; exact u2_self _ _ _ _
  have hn_3 : ∀ k, 4 ≤ k → w_3 12 k = none := fun k hk => by rw [← hW, u2_o (by omega), u2_o (by omega)]; exact hn_2 k (by omega)
  have ho_3 : ∀ f j, ¬ (f = 5 ∧ j = 0) → ¬ f = 12 → w_3 f j = w f j := fun f j y1 y2 => by exact (congrFun (congrFun hW f) j).symm.trans ((u2_o y1).trans ((u2_o (by omega)).trans (ho_2 f j y1 y2)))
  have hA_3 : ad_3 5 0 = a := by rw [← hA, a2_o (by omega)]; exact hA_2
  have aq_3 : ad_3 12 3 = q_4 := by rw [← hA]; exact a2_s
  have ak_3 : ∀ f j, ¬ (f = 12 ∧ j = 3) → ad_3 f j = ad_2 f j := fun f j y => by rw [← hA]; exact a2_o y
  clear hA hW
  refine lv_aload_n hx hb dX5_init_36 rfl (lv_at hl 0 rfl) ?_
  refine lv_bipush (v := (16)) hx hb dX5_init_37 (by decide) ?_
  refine w_newa (atype := .int) hx hb (hts (.arrayClass .int) (by decide +kernel)) 0 rfl (fun C z => by cases z) hC hP hS (N' := 16) (a0 := (16, .inl (fun _ => 0))) (fun _ => vp_cell_i _ _ _) (by decide) (by decide) (show 16 * 4 ≤ 536870912 by decide) (Nat.le_of_ble_eq_true rfl) (Nat.le_of_ble_eq_true rfl) 12 4 (hn_3 _ (by omega)) dX5_init_39 (fun q_5 H hqq_5 hP hS => ?_)
  clear hqq_5
  refine w_putFA (f := 5) (k := 0) hx hb hts (by decide +kernel) tyX5 tyX5_ok nmX5 hown hC hP hS ((a2_o (by omega)).trans hA_3) ((u2_o (by omega)).trans (h5_3)) rfl 9 (by decide) (hts (.fieldLink RX5 23 "BuildingPointsModel" "changed" "[I") (by decide +kernel)) rfl hin rfl rfl rfl (Nat.le_of_ble_eq_true rfl) rfl dX5_init_41 (fun H locs hP hS => ?_)
  obtain ⟨ad_4, hA, w_4, hW, hP⟩ : ∃ a1, a2 (ad_3) 12 4 q_5 = a1 ∧ ∃ w1, u2 (u2 (w_3) 12 4 (eI D 16 (fun _ => 0))) 5 0 (.inr (5, [.int 0, .int 0, .int 0, .int 0, .int 0, .ref q_1, .ref q_2, .ref q_3, .ref q_4, .ref q_5, .null, .null, .null, .null, .null, .null, .null, .null, .null, .null, .null, .null, .null, .null, .int 0])) = w1 ∧ hw D B a1 w1 H := ⟨_, rfl, _, rfl, hP⟩
  have h5_4 := (congrFun (congrFun hW 5) 0).symm.trans (u2_self _ _ _ _)
  have hm_4 : ∀ k, k < 5 → w_4 12 k = mAr D (fun _ _ _ => 0) k := fun k hk => by rw [← hW, u2_o (by omega)]; rcases Nat.lt_succ_iff_lt_or_eq.mp hk with y | y; rw [u2_o (by omega)]; exact hm_3 k y; subst y; exact u2_self _ _ _ _
  have hn_4 : ∀ k, 5 ≤ k → w_4 12 k = none := fun k hk => by rw [← hW, u2_o (by omega), u2_o (by omega)]; exact hn_3 k (by omega)
  have ho_4 : ∀ f j, ¬ (f = 5 ∧ j = 0) → ¬ f = 12 → w_4 f j = w f j := fun f j y1 y2 => by exact (congrFun (congrFun hW f) j).symm.trans ((u2_o y1).trans ((u2_o (by omega)).trans (ho_3 f j y1 y2)))
  have hA_4 : ad_4 5 0 = a := by rw [← hA, a2_o (by omega)]; exact hA_3
  have aq_4 : ad_4 12 4 = q_5 := by rw [← hA]; exact a2_s
  have ak_4 : ∀ f j, ¬ (f = 12 ∧ j = 4) → ad_4 f j = ad_3 f j := fun f j y => by rw [← hA]; exact a2_o y
  clear hA hW
  refine lv_aload_n hx hb dX5_init_44 rfl (lv_at hl 0 rfl) ?_
  refine lv_sipush (v := (256)) hx hb dX5_init_45 (by decide) ?_
  refine w_newa (atype := .int) hx hb (hts (.arrayClass .int) (by decide +kernel)) 0 rfl (fun C z => by cases z) hC hP hS (N' := 256) (a0 := (256, .inl (fun _ => 0))) (fun _ => vp_cell_i _ _ _) (by decide) (by decide) (show 256 * 4 ≤ 536870912 by decide) (Nat.le_of_ble_eq_true rfl) (Nat.le_of_ble_eq_true rfl) 12 5 (hn_4 _ (by omega)) dX5_init_48 (fun q_6 H hqq_6 hP hS => ?_)
  clear hqq_6
  refine w_putFA (f := 5) (k := 0) hx hb hts (by decide +kernel) tyX5 tyX5_ok nmX5 hown hC hP hS ((a2_o (by omega)).trans hA_4) ((u2_o (by omega)).trans (h5_4)) rfl 10 (by decide) (hts (.fieldLink RX5 26 "BuildingPointsModel" "commands" "[I") (by decide +kernel)) rfl hin rfl rfl rfl (Nat.le_of_ble_eq_true rfl) rfl dX5_init_50 (fun H locs hP hS => ?_)
  obtain ⟨ad_5, hA, w_5, hW, hP⟩ : ∃ a1, a2 (ad_4) 12 5 q_6 = a1 ∧ ∃ w1, u2 (u2 (w_4) 12 5 (eI D 256 (fun _ => 0))) 5 0 (.inr (5, [.int 0, .int 0, .int 0, .int 0, .int 0, .ref q_1, .ref q_2, .ref q_3, .ref q_4, .ref q_5, .ref q_6, .null, .null, .null, .null, .null, .null, .null, .null, .null, .null, .null, .null, .null, .int 0])) = w1 ∧ hw D B a1 w1 H := ⟨_, rfl, _, rfl, hP⟩
  have h5_5 := (congrFun (congrFun hW 5) 0).symm.trans (u2_self _ _ _ _)
  have hm_5 : ∀ k, k < 6 → w_5 12 k = mAr D (fun _ _ _ => 0) k := fun k hk => by rw [← hW, u2_o (by omega)]; rcases Nat.lt_succ_iff_lt_or_eq.mp hk with y | y; rw [u2_o (by omega)]; exact hm_4 k y; subst y; exact u2_self _ _ _ _
  have hn_5 : ∀ k, 6 ≤ k → w_5 12 k = none := fun k hk => by rw [← hW, u2_o (by omega), u2_o (by omega)]; exact hn_4 k (by omega)
  have ho_5 : ∀ f j, ¬ (f = 5 ∧ j = 0) → ¬ f = 12 → w_5 f j = w f j := fun f j y1 y2 => by exact (congrFun (congrFun hW f) j).symm.trans ((u2_o y1).trans ((u2_o (by omega)).trans (ho_4 f j y1 y2)))
  have hA_5 : ad_5 5 0 = a := by rw [← hA, a2_o (by omega)]; exact hA_4
  have aq_5 : ad_5 12 5 = q_6 := by rw [← hA]; exact a2_s
  have ak_5 : ∀ f j, ¬ (f = 12 ∧ j = 5) → ad_5 f j = ad_4 f j := fun f j y => by rw [← hA]; exact a2_o y
  clear hA hW
  refine lv_aload_n hx hb dX5_init_53 rfl (lv_at hl 0 rfl) ?_
  refine lv_bipush (v := (30)) hx hb dX5_init_54 (by decide) ?_
  refine w_newa (atype := .int) hx hb (hts (.arrayClass .int) (by decide +kernel)) 0 rfl (fun C z => by cases z) hC hP hS (N' := 30) (a0 := (30, .inl (fun _ => 0))) (fun _ => vp_cell_i _ _ _) (by decide) (by decide) (show 30 * 4 ≤ 536870912 by decide) (Nat.le_of_ble_eq_true rfl) (Nat.le_of_ble_eq_true rfl) 12 6 (hn_5 _ (by omega)) dX5_init_56 (fun q_7 H hqq_7 hP hS => ?_)
  clear hqq_7
  refine w_putFA (f := 5) (k := 0) hx hb hts (by decide +kernel) tyX5 tyX5_ok nmX5 hown hC hP hS ((a2_o (by omega)).trans hA_5) ((u2_o (by omega)).trans (h5_5)) rfl 11 (by decide) (hts (.fieldLink RX5 29 "BuildingPointsModel" "of" "[I") (by decide +kernel)) rfl hin rfl rfl rfl (Nat.le_of_ble_eq_true rfl) rfl dX5_init_58 (fun H locs hP hS => ?_)
  obtain ⟨ad_6, hA, w_6, hW, hP⟩ : ∃ a1, a2 (ad_5) 12 6 q_7 = a1 ∧ ∃ w1, u2 (u2 (w_5) 12 6 (eI D 30 (fun _ => 0))) 5 0 (.inr (5, [.int 0, .int 0, .int 0, .int 0, .int 0, .ref q_1, .ref q_2, .ref q_3, .ref q_4, .ref q_5, .ref q_6, .ref q_7, .null, .null, .null, .null, .null, .null, .null, .null, .null, .null, .null, .null, .int 0])) = w1 ∧ hw D B a1 w1 H := ⟨_, rfl, _, rfl, hP⟩
  have h5_6 := (congrFun (congrFun hW 5) 0).symm.trans (u2_self _ _ _ _)
  have hm_6 : ∀ k, k < 7 → w_6 12 k = mAr D (fun _ _ _ => 0) k := fun k hk => by rw [← hW, u2_o (by omega)]; rcases Nat.lt_succ_iff_lt_or_eq.mp hk with y | y; rw [u2_o (by omega)]; exact hm_5 k y; subst y; exact u2_self _ _ _ _
  have hn_6 : ∀ k, 7 ≤ k → w_6 12 k = none := fun k hk => by rw [← hW, u2_o (by omega), u2_o (by omega)]; exact hn_5 k (by omega)
  have ho_6 : ∀ f j, ¬ (f = 5 ∧ j = 0) → ¬ f = 12 → w_6 f j = w f j := fun f j y1 y2 => by exact (congrFun (congrFun hW f) j).symm.trans ((u2_o y1).trans ((u2_o (by omega)).trans (ho_5 f j y1 y2)))
  have hA_6 : ad_6 5 0 = a := by rw [← hA, a2_o (by omega)]; exact hA_5
  have aq_6 : ad_6 12 6 = q_7 := by rw [← hA]; exact a2_s
  have ak_6 : ∀ f j, ¬ (f = 12 ∧ j = 6) → ad_6 f j = ad_5 f j := fun f j y => by rw [← hA]; exact a2_o y
  clear hA hW
  refine lv_aload_n hx hb dX5_init_61 rfl (lv_at hl 0 rfl) ?_
  refine lv_bipush (v := (30)) hx hb dX5_init_62 (by decide) ?_
  refine w_newa (atype := .int) hx hb (hts (.arrayClass .int) (by decide +kernel)) 0 rfl (fun C z => by cases z) hC hP hS (N' := 30) (a0 := (30, .inl (fun _ => 0))) (fun _ => vp_cell_i _ _ _) (by decide) (by decide) (show 30 * 4 ≤ 536870912 by decide) (Nat.le_of_ble_eq_true rfl) (Nat.le_of_ble_eq_true rfl) 12 7 (hn_6 _ (by omega)) dX5_init_64 (fun q_8 H hqq_8 hP hS => ?_)
  clear hqq_8
  refine w_putFA (f := 5) (k := 0) hx hb hts (by decide +kernel) tyX5 tyX5_ok nmX5 hown hC hP hS ((a2_o (by omega)).trans hA_6) ((u2_o (by omega)).trans (h5_6)) rfl 12 (by decide) (hts (.fieldLink RX5 32 "BuildingPointsModel" "increment" "[I") (by decide +kernel)) rfl hin rfl rfl rfl (Nat.le_of_ble_eq_true rfl) rfl dX5_init_66 (fun H locs hP hS => ?_)
  obtain ⟨ad_7, hA, w_7, hW, hP⟩ : ∃ a1, a2 (ad_6) 12 7 q_8 = a1 ∧ ∃ w1, u2 (u2 (w_6) 12 7 (eI D 30 (fun _ => 0))) 5 0 (.inr (5, [.int 0, .int 0, .int 0, .int 0, .int 0, .ref q_1, .ref q_2, .ref q_3, .ref q_4, .ref q_5, .ref q_6, .ref q_7, .ref q_8, .null, .null, .null, .null, .null, .null, .null, .null, .null, .null, .null, .int 0])) = w1 ∧ hw D B a1 w1 H := ⟨_, rfl, _, rfl, hP⟩
  have h5_7 := (congrFun (congrFun hW 5) 0).symm.trans (u2_self _ _ _ _)
  have hm_7 : ∀ k, k < 8 → w_7 12 k = mAr D (fun _ _ _ => 0) k := fun k hk => by rw [← hW, u2_o (by omega)]; rcases Nat.lt_succ_iff_lt_or_eq.mp hk with y | y; rw [u2_o (by omega)]; exact hm_6 k y; subst y; exact u2_self _ _ _ _
  have hn_7 : ∀ k, 8 ≤ k → w_7 12 k = none := fun k hk => by rw [← hW, u2_o (by omega), u2_o (by omega)]; exact hn_6 k (by omega)
  have ho_7 : ∀ f j, ¬ (f = 5 ∧ j = 0) → ¬ f = 12 → w_7 f j = w f j := fun f j y1 y2 => by exact (congrFun (congrFun hW f) j).symm.trans ((u2_o y1).trans ((u2_o (by omega)).trans (ho_6 f j y1 y2)))
  have hA_7 : ad_7 5 0 = a := by rw [← hA, a2_o (by omega)]; exact hA_6
  have aq_7 : ad_7 12 7 = q_8 := by rw [← hA]; exact a2_s
  have ak_7 : ∀ f j, ¬ (f = 12 ∧ j = 7) → ad_7 f j = ad_6 f j := fun f j y => by rw [← hA]; exact a2_o y
  clear hA hW
  refine lv_aload_n hx hb dX5_init_69 rfl (lv_at hl 0 rfl) ?_
  refine lv_bipush (v := (30)) hx hb dX5_init_70 (by decide) ?_
  refine w_newa (atype := .int) hx hb (hts (.arrayClass .int) (by decide +kernel)) 0 rfl (fun C z => by cases z) hC hP hS (N' := 30) (a0 := (30, .inl (fun _ => 0))) (fun _ => vp_cell_i _ _ _) (by decide) (by decide) (show 30 * 4 ≤ 536870912 by decide) (Nat.le_of_ble_eq_true rfl) (Nat.le_of_ble_eq_true rfl) 12 8 (hn_7 _ (by omega)) dX5_init_72 (fun q_9 H hqq_9 hP hS => ?_)
  clear hqq_9
  refine w_putFA (f := 5) (k := 0) hx hb hts (by decide +kernel) tyX5 tyX5_ok nmX5 hown hC hP hS ((a2_o (by omega)).trans hA_7) ((u2_o (by omega)).trans (h5_7)) rfl 13 (by decide) (hts (.fieldLink RX5 35 "BuildingPointsModel" "over" "[I") (by decide +kernel)) rfl hin rfl rfl rfl (Nat.le_of_ble_eq_true rfl) rfl dX5_init_74 (fun H locs hP hS => ?_)
  obtain ⟨ad_8, hA, w_8, hW, hP⟩ : ∃ a1, a2 (ad_7) 12 8 q_9 = a1 ∧ ∃ w1, u2 (u2 (w_7) 12 8 (eI D 30 (fun _ => 0))) 5 0 (.inr (5, [.int 0, .int 0, .int 0, .int 0, .int 0, .ref q_1, .ref q_2, .ref q_3, .ref q_4, .ref q_5, .ref q_6, .ref q_7, .ref q_8, .ref q_9, .null, .null, .null, .null, .null, .null, .null, .null, .null, .null, .int 0])) = w1 ∧ hw D B a1 w1 H := ⟨_, rfl, _, rfl, hP⟩
  have h5_8 := (congrFun (congrFun hW 5) 0).symm.trans (u2_self _ _ _ _)
  have hm_8 : ∀ k, k < 9 → w_8 12 k = mAr D (fun _ _ _ => 0) k := fun k hk => by rw [← hW, u2_o (by omega)]; rcases Nat.lt_succ_iff_lt_or_eq.mp hk with y | y; rw [u2_o (by omega)]; exact hm_7 k y; subst y; exact u2_self _ _ _ _
  have hn_8 : ∀ k, 9 ≤ k → w_8 12 k = none := fun k hk => by rw [← hW, u2_o (by omega), u2_o (by omega)]; exact hn_7 k (by omega)
  have ho_8 : ∀ f j, ¬ (f = 5 ∧ j = 0) → ¬ f = 12 → w_8 f j = w f j := fun f j y1 y2 => by exact (congrFun (congrFun hW f) j).symm.trans ((u2_o y1).trans ((u2_o (by omega)).trans (ho_7 f j y1 y2)))
  have hA_8 : ad_8 5 0 = a := by rw [← hA, a2_o (by omega)]; exact hA_7
  have aq_8 : ad_8 12 8 = q_9 := by rw [← hA]; exact a2_s
  have ak_8 : ∀ f j, ¬ (f = 12 ∧ j = 8) → ad_8 f j = ad_7 f j := fun f j y => by rw [← hA]; exact a2_o y
  clear hA hW
  refine lv_aload_n hx hb dX5_init_77 rfl (lv_at hl 0 rfl) ?_
  refine lv_bipush (v := (30)) hx hb dX5_init_78 (by decide) ?_
  refine w_newa (atype := .boolean) hx hb (hts (.arrayClass .boolean) (by decide +kernel)) 1 rfl (fun C z => by cases z) hC hP hS (N' := 30) (a0 := (30, .inl (fun _ => 0))) (fun _ => vp_cell_i _ _ _) (by decide) (by decide) (show 30 * 1 ≤ 536870912 by decide) (Nat.le_of_ble_eq_true rfl) (Nat.le_of_ble_eq_true rfl) 12 9 (hn_8 _ (by omega)) dX5_init_80 (fun q_10 H hqq_10 hP hS => ?_)
  clear hqq_10
  refine w_putFA (f := 5) (k := 0) hx hb hts (by decide +kernel) tyX5 tyX5_ok nmX5 hown hC hP hS ((a2_o (by omega)).trans hA_8) ((u2_o (by omega)).trans (h5_8)) rfl 14 (by decide) (hts (.fieldLink RX5 38 "BuildingPointsModel" "ended" "[Z") (by decide +kernel)) rfl hin rfl rfl rfl (Nat.le_of_ble_eq_true rfl) rfl dX5_init_82 (fun H locs hP hS => ?_)
  obtain ⟨ad_9, hA, w_9, hW, hP⟩ : ∃ a1, a2 (ad_8) 12 9 q_10 = a1 ∧ ∃ w1, u2 (u2 (w_8) 12 9 (eZ D 30 (fun _ => 0))) 5 0 (.inr (5, [.int 0, .int 0, .int 0, .int 0, .int 0, .ref q_1, .ref q_2, .ref q_3, .ref q_4, .ref q_5, .ref q_6, .ref q_7, .ref q_8, .ref q_9, .ref q_10, .null, .null, .null, .null, .null, .null, .null, .null, .null, .int 0])) = w1 ∧ hw D B a1 w1 H := ⟨_, rfl, _, rfl, hP⟩
  have h5_9 := (congrFun (congrFun hW 5) 0).symm.trans (u2_self _ _ _ _)
  have hm_9 : ∀ k, k < 10 → w_9 12 k = mAr D (fun _ _ _ => 0) k := fun k hk => by rw [← hW, u2_o (by omega)]; rcases Nat.lt_succ_iff_lt_or_eq.mp hk with y | y; rw [u2_o (by omega)]; exact hm_8 k y; subst y; exact u2_self _ _ _ _
  have hn_9 : ∀ k, 10 ≤ k → w_9 12 k = none := fun k hk => by rw [← hW, u2_o (by omega), u2_o (by omega)]; exact hn_8 k (by omega)
  have ho_9 : ∀ f j, ¬ (f = 5 ∧ j = 0) → ¬ f = 12 → w_9 f j = w f j := fun f j y1 y2 => by exact (congrFun (congrFun hW f) j).symm.trans ((u2_o y1).trans ((u2_o (by omega)).trans (ho_8 f j y1 y2)))
  have hA_9 : ad_9 5 0 = a := by rw [← hA, a2_o (by omega)]; exact hA_8
  have aq_9 : ad_9 12 9 = q_10 := by rw [← hA]; exact a2_s
  have ak_9 : ∀ f j, ¬ (f = 12 ∧ j = 9) → ad_9 f j = ad_8 f j := fun f j y => by rw [← hA]; exact a2_o y
  clear hA hW
  refine lv_aload_n hx hb dX5_init_85 rfl (lv_at hl 0 rfl) ?_
  refine lv_bipush (v := (30)) hx hb dX5_init_86 (by decide) ?_
  refine w_newa (atype := .int) hx hb (hts (.arrayClass .int) (by decide +kernel)) 0 rfl (fun C z => by cases z) hC hP hS (N' := 30) (a0 := (30, .inl (fun _ => 0))) (fun _ => vp_cell_i _ _ _) (by decide) (by decide) (show 30 * 4 ≤ 536870912 by decide) (Nat.le_of_ble_eq_true rfl) (Nat.le_of_ble_eq_true rfl) 12 10 (hn_9 _ (by omega)) dX5_init_88 (fun q_11 H hqq_11 hP hS => ?_)
  clear hqq_11
  refine w_putFA (f := 5) (k := 0) hx hb hts (by decide +kernel) tyX5 tyX5_ok nmX5 hown hC hP hS ((a2_o (by omega)).trans hA_9) ((u2_o (by omega)).trans (h5_9)) rfl 15 (by decide) (hts (.fieldLink RX5 41 "BuildingPointsModel" "sent" "[I") (by decide +kernel)) rfl hin rfl rfl rfl (Nat.le_of_ble_eq_true rfl) rfl dX5_init_90 (fun H locs hP hS => ?_)
  obtain ⟨ad_10, hA, w_10, hW, hP⟩ : ∃ a1, a2 (ad_9) 12 10 q_11 = a1 ∧ ∃ w1, u2 (u2 (w_9) 12 10 (eI D 30 (fun _ => 0))) 5 0 (.inr (5, [.int 0, .int 0, .int 0, .int 0, .int 0, .ref q_1, .ref q_2, .ref q_3, .ref q_4, .ref q_5, .ref q_6, .ref q_7, .ref q_8, .ref q_9, .ref q_10, .ref q_11, .null, .null, .null, .null, .null, .null, .null, .null, .int 0])) = w1 ∧ hw D B a1 w1 H := ⟨_, rfl, _, rfl, hP⟩
  have h5_10 := (congrFun (congrFun hW 5) 0).symm.trans (u2_self _ _ _ _)
  have hm_10 : ∀ k, k < 11 → w_10 12 k = mAr D (fun _ _ _ => 0) k := fun k hk => by rw [← hW, u2_o (by omega)]; rcases Nat.lt_succ_iff_lt_or_eq.mp hk with y | y; rw [u2_o (by omega)]; exact hm_9 k y; subst y; exact u2_self _ _ _ _
  have hn_10 : ∀ k, 11 ≤ k → w_10 12 k = none := fun k hk => by rw [← hW, u2_o (by omega), u2_o (by omega)]; exact hn_9 k (by omega)
  have ho_10 : ∀ f j, ¬ (f = 5 ∧ j = 0) → ¬ f = 12 → w_10 f j = w f j := fun f j y1 y2 => by exact (congrFun (congrFun hW f) j).symm.trans ((u2_o y1).trans ((u2_o (by omega)).trans (ho_9 f j y1 y2)))
  have hA_10 : ad_10 5 0 = a := by rw [← hA, a2_o (by omega)]; exact hA_9
  have aq_10 : ad_10 12 10 = q_11 := by rw [← hA]; exact a2_s
  have ak_10 : ∀ f j, ¬ (f = 12 ∧ j = 10) → ad_10 f j = ad_9 f j := fun f j y => by rw [← hA]; exact a2_o y
  clear hA hW
  refine lv_aload_n hx hb dX5_init_93 rfl (lv_at hl 0 rfl) ?_
  refine lv_bipush (v := (30)) hx hb dX5_init_94 (by decide) ?_
  refine w_newa (atype := .int) hx hb (hts (.arrayClass .int) (by decide +kernel)) 0 rfl (fun C z => by cases z) hC hP hS (N' := 30) (a0 := (30, .inl (fun _ => 0))) (fun _ => vp_cell_i _ _ _) (by decide) (by decide) (show 30 * 4 ≤ 536870912 by decide) (Nat.le_of_ble_eq_true rfl) (Nat.le_of_ble_eq_true rfl) 12 11 (hn_10 _ (by omega)) dX5_init_96 (fun q_12 H hqq_12 hP hS => ?_)
  clear hqq_12
  refine w_putFA (f := 5) (k := 0) hx hb hts (by decide +kernel) tyX5 tyX5_ok nmX5 hown hC hP hS ((a2_o (by omega)).trans hA_10) ((u2_o (by omega)).trans (h5_10)) rfl 16 (by decide) (hts (.fieldLink RX5 44 "BuildingPointsModel" "kept" "[I") (by decide +kernel)) rfl hin rfl rfl rfl (Nat.le_of_ble_eq_true rfl) rfl dX5_init_98 (fun H locs hP hS => ?_)
  obtain ⟨ad_11, hA, w_11, hW, hP⟩ : ∃ a1, a2 (ad_10) 12 11 q_12 = a1 ∧ ∃ w1, u2 (u2 (w_10) 12 11 (eI D 30 (fun _ => 0))) 5 0 (.inr (5, [.int 0, .int 0, .int 0, .int 0, .int 0, .ref q_1, .ref q_2, .ref q_3, .ref q_4, .ref q_5, .ref q_6, .ref q_7, .ref q_8, .ref q_9, .ref q_10, .ref q_11, .ref q_12, .null, .null, .null, .null, .null, .null, .null, .int 0])) = w1 ∧ hw D B a1 w1 H := ⟨_, rfl, _, rfl, hP⟩
  have h5_11 := (congrFun (congrFun hW 5) 0).symm.trans (u2_self _ _ _ _)
  have hm_11 : ∀ k, k < 12 → w_11 12 k = mAr D (fun _ _ _ => 0) k := fun k hk => by rw [← hW, u2_o (by omega)]; rcases Nat.lt_succ_iff_lt_or_eq.mp hk with y | y; rw [u2_o (by omega)]; exact hm_10 k y; subst y; exact u2_self _ _ _ _
  have hn_11 : ∀ k, 12 ≤ k → w_11 12 k = none := fun k hk => by rw [← hW, u2_o (by omega), u2_o (by omega)]; exact hn_10 k (by omega)
  have ho_11 : ∀ f j, ¬ (f = 5 ∧ j = 0) → ¬ f = 12 → w_11 f j = w f j := fun f j y1 y2 => by exact (congrFun (congrFun hW f) j).symm.trans ((u2_o y1).trans ((u2_o (by omega)).trans (ho_10 f j y1 y2)))
  have hA_11 : ad_11 5 0 = a := by rw [← hA, a2_o (by omega)]; exact hA_10
  have aq_11 : ad_11 12 11 = q_12 := by rw [← hA]; exact a2_s
  have ak_11 : ∀ f j, ¬ (f = 12 ∧ j = 11) → ad_11 f j = ad_10 f j := fun f j y => by rw [← hA]; exact a2_o y
  clear hA hW
  refine lv_aload_n hx hb dX5_init_101 rfl (lv_at hl 0 rfl) ?_
  refine lv_iconst (v := 4) hx hb dX5_init_102 (by decide) ?_
  refine w_newa (atype := .int) hx hb (hts (.arrayClass .int) (by decide +kernel)) 0 rfl (fun C z => by cases z) hC hP hS (N' := 4) (a0 := (4, .inl (fun _ => 0))) (fun _ => vp_cell_i _ _ _) (by decide) (by decide) (show 4 * 4 ≤ 536870912 by decide) (Nat.le_of_ble_eq_true rfl) (Nat.le_of_ble_eq_true rfl) 12 12 (hn_11 _ (by omega)) dX5_init_103 (fun q_13 H hqq_13 hP hS => ?_)
  clear hqq_13
  refine w_putFA (f := 5) (k := 0) hx hb hts (by decide +kernel) tyX5 tyX5_ok nmX5 hown hC hP hS ((a2_o (by omega)).trans hA_11) ((u2_o (by omega)).trans (h5_11)) rfl 17 (by decide) (hts (.fieldLink RX5 47 "BuildingPointsModel" "to" "[I") (by decide +kernel)) rfl hin rfl rfl rfl (Nat.le_of_ble_eq_true rfl) rfl dX5_init_105 (fun H locs hP hS => ?_)
  obtain ⟨ad_12, hA, w_12, hW, hP⟩ : ∃ a1, a2 (ad_11) 12 12 q_13 = a1 ∧ ∃ w1, u2 (u2 (w_11) 12 12 (eI D 4 (fun _ => 0))) 5 0 (.inr (5, [.int 0, .int 0, .int 0, .int 0, .int 0, .ref q_1, .ref q_2, .ref q_3, .ref q_4, .ref q_5, .ref q_6, .ref q_7, .ref q_8, .ref q_9, .ref q_10, .ref q_11, .ref q_12, .ref q_13, .null, .null, .null, .null, .null, .null, .int 0])) = w1 ∧ hw D B a1 w1 H := ⟨_, rfl, _, rfl, hP⟩
  have h5_12 := (congrFun (congrFun hW 5) 0).symm.trans (u2_self _ _ _ _)
  have hm_12 : ∀ k, k < 13 → w_12 12 k = mAr D (fun _ _ _ => 0) k := fun k hk => by rw [← hW, u2_o (by omega)]; rcases Nat.lt_succ_iff_lt_or_eq.mp hk with y | y; rw [u2_o (by omega)]; exact hm_11 k y; subst y; exact u2_self _ _ _ _
  have hn_12 : ∀ k, 13 ≤ k → w_12 12 k = none := fun k hk => by rw [← hW, u2_o (by omega), u2_o (by omega)]; exact hn_11 k (by omega)
  have ho_12 : ∀ f j, ¬ (f = 5 ∧ j = 0) → ¬ f = 12 → w_12 f j = w f j := fun f j y1 y2 => by exact (congrFun (congrFun hW f) j).symm.trans ((u2_o y1).trans ((u2_o (by omega)).trans (ho_11 f j y1 y2)))
  have hA_12 : ad_12 5 0 = a := by rw [← hA, a2_o (by omega)]; exact hA_11
  have aq_12 : ad_12 12 12 = q_13 := by rw [← hA]; exact a2_s
  have ak_12 : ∀ f j, ¬ (f = 12 ∧ j = 12) → ad_12 f j = ad_11 f j := fun f j y => by rw [← hA]; exact a2_o y
  clear hA hW
  refine lv_aload_n hx hb dX5_init_108 rfl (lv_at hl 0 rfl) ?_
  refine lv_iconst (v := 4) hx hb dX5_init_109 (by decide) ?_
  refine w_newa (atype := .int) hx hb (hts (.arrayClass .int) (by decide +kernel)) 0 rfl (fun C z => by cases z) hC hP hS (N' := 4) (a0 := (4, .inl (fun _ => 0))) (fun _ => vp_cell_i _ _ _) (by decide) (by decide) (show 4 * 4 ≤ 536870912 by decide) (Nat.le_of_ble_eq_true rfl) (Nat.le_of_ble_eq_true rfl) 12 13 (hn_12 _ (by omega)) dX5_init_110 (fun q_14 H hqq_14 hP hS => ?_)
  clear hqq_14
  refine w_putFA (f := 5) (k := 0) hx hb hts (by decide +kernel) tyX5 tyX5_ok nmX5 hown hC hP hS ((a2_o (by omega)).trans hA_12) ((u2_o (by omega)).trans (h5_12)) rfl 18 (by decide) (hts (.fieldLink RX5 50 "BuildingPointsModel" "at" "[I") (by decide +kernel)) rfl hin rfl rfl rfl (Nat.le_of_ble_eq_true rfl) rfl dX5_init_112 (fun H locs hP hS => ?_)
  obtain ⟨ad_13, hA, w_13, hW, hP⟩ : ∃ a1, a2 (ad_12) 12 13 q_14 = a1 ∧ ∃ w1, u2 (u2 (w_12) 12 13 (eI D 4 (fun _ => 0))) 5 0 (.inr (5, [.int 0, .int 0, .int 0, .int 0, .int 0, .ref q_1, .ref q_2, .ref q_3, .ref q_4, .ref q_5, .ref q_6, .ref q_7, .ref q_8, .ref q_9, .ref q_10, .ref q_11, .ref q_12, .ref q_13, .ref q_14, .null, .null, .null, .null, .null, .int 0])) = w1 ∧ hw D B a1 w1 H := ⟨_, rfl, _, rfl, hP⟩
  have h5_13 := (congrFun (congrFun hW 5) 0).symm.trans (u2_self _ _ _ _)
  have hm_13 : ∀ k, k < 14 → w_13 12 k = mAr D (fun _ _ _ => 0) k := fun k hk => by rw [← hW, u2_o (by omega)]; rcases Nat.lt_succ_iff_lt_or_eq.mp hk with y | y; rw [u2_o (by omega)]; exact hm_12 k y; subst y; exact u2_self _ _ _ _
  have hn_13 : ∀ k, 14 ≤ k → w_13 12 k = none := fun k hk => by rw [← hW, u2_o (by omega), u2_o (by omega)]; exact hn_12 k (by omega)
  have ho_13 : ∀ f j, ¬ (f = 5 ∧ j = 0) → ¬ f = 12 → w_13 f j = w f j := fun f j y1 y2 => by exact (congrFun (congrFun hW f) j).symm.trans ((u2_o y1).trans ((u2_o (by omega)).trans (ho_12 f j y1 y2)))
  have hA_13 : ad_13 5 0 = a := by rw [← hA, a2_o (by omega)]; exact hA_12
  have aq_13 : ad_13 12 13 = q_14 := by rw [← hA]; exact a2_s
  have ak_13 : ∀ f j, ¬ (f = 12 ∧ j = 13) → ad_13 f j = ad_12 f j := fun f j y => by rw [← hA]; exact a2_o y
  clear hA hW
  refine lv_aload_n hx hb dX5_init_115 rfl (lv_at hl 0 rfl) ?_
  refine lv_iconst (v := 4) hx hb dX5_init_116 (by decide) ?_
  refine w_newa (atype := .int) hx hb (hts (.arrayClass .int) (by decide +kernel)) 0 rfl (fun C z => by cases z) hC hP hS (N' := 4) (a0 := (4, .inl (fun _ => 0))) (fun _ => vp_cell_i _ _ _) (by decide) (by decide) (show 4 * 4 ≤ 536870912 by decide) (Nat.le_of_ble_eq_true rfl) (Nat.le_of_ble_eq_true rfl) 12 14 (hn_13 _ (by omega)) dX5_init_117 (fun q_15 H hqq_15 hP hS => ?_)
  clear hqq_15
  refine w_putFA (f := 5) (k := 0) hx hb hts (by decide +kernel) tyX5 tyX5_ok nmX5 hown hC hP hS ((a2_o (by omega)).trans hA_13) ((u2_o (by omega)).trans (h5_13)) rfl 19 (by decide) (hts (.fieldLink RX5 53 "BuildingPointsModel" "last" "[I") (by decide +kernel)) rfl hin rfl rfl rfl (Nat.le_of_ble_eq_true rfl) rfl dX5_init_119 (fun H locs hP hS => ?_)
  obtain ⟨ad_14, hA, w_14, hW, hP⟩ : ∃ a1, a2 (ad_13) 12 14 q_15 = a1 ∧ ∃ w1, u2 (u2 (w_13) 12 14 (eI D 4 (fun _ => 0))) 5 0 (.inr (5, [.int 0, .int 0, .int 0, .int 0, .int 0, .ref q_1, .ref q_2, .ref q_3, .ref q_4, .ref q_5, .ref q_6, .ref q_7, .ref q_8, .ref q_9, .ref q_10, .ref q_11, .ref q_12, .ref q_13, .ref q_14, .ref q_15, .null, .null, .null, .null, .int 0])) = w1 ∧ hw D B a1 w1 H := ⟨_, rfl, _, rfl, hP⟩
  have h5_14 := (congrFun (congrFun hW 5) 0).symm.trans (u2_self _ _ _ _)
  have hm_14 : ∀ k, k < 15 → w_14 12 k = mAr D (fun _ _ _ => 0) k := fun k hk => by rw [← hW, u2_o (by omega)]; rcases Nat.lt_succ_iff_lt_or_eq.mp hk with y | y; rw [u2_o (by omega)]; exact hm_13 k y; subst y; exact u2_self _ _ _ _
  have hn_14 : ∀ k, 15 ≤ k → w_14 12 k = none := fun k hk => by rw [← hW, u2_o (by omega), u2_o (by omega)]; exact hn_13 k (by omega)
  have ho_14 : ∀ f j, ¬ (f = 5 ∧ j = 0) → ¬ f = 12 → w_14 f j = w f j := fun f j y1 y2 => by exact (congrFun (congrFun hW f) j).symm.trans ((u2_o y1).trans ((u2_o (by omega)).trans (ho_13 f j y1 y2)))
  have hA_14 : ad_14 5 0 = a := by rw [← hA, a2_o (by omega)]; exact hA_13
  have aq_14 : ad_14 12 14 = q_15 := by rw [← hA]; exact a2_s
  have ak_14 : ∀ f j, ¬ (f = 12 ∧ j = 14) → ad_14 f j = ad_13 f j := fun f j y => by rw [← hA]; exact a2_o y
  clear hA hW
  refine lv_aload_n hx hb dX5_init_122 rfl (lv_at hl 0 rfl) ?_
  refine lv_iconst (v := 4) hx hb dX5_init_123 (by decide) ?_
  refine w_newa (atype := .int) hx hb (hts (.arrayClass .int) (by decide +kernel)) 0 rfl (fun C z => by cases z) hC hP hS (N' := 4) (a0 := (4, .inl (fun _ => 0))) (fun _ => vp_cell_i _ _ _) (by decide) (by decide) (show 4 * 4 ≤ 536870912 by decide) (Nat.le_of_ble_eq_true rfl) (Nat.le_of_ble_eq_true rfl) 12 15 (hn_14 _ (by omega)) dX5_init_124 (fun q_16 H hqq_16 hP hS => ?_)
  clear hqq_16
  refine w_putFA (f := 5) (k := 0) hx hb hts (by decide +kernel) tyX5 tyX5_ok nmX5 hown hC hP hS ((a2_o (by omega)).trans hA_14) ((u2_o (by omega)).trans (h5_14)) rfl 20 (by decide) (hts (.fieldLink RX5 56 "BuildingPointsModel" "entries" "[I") (by decide +kernel)) rfl hin rfl rfl rfl (Nat.le_of_ble_eq_true rfl) rfl dX5_init_126 (fun H locs hP hS => ?_)
  obtain ⟨ad_15, hA, w_15, hW, hP⟩ : ∃ a1, a2 (ad_14) 12 15 q_16 = a1 ∧ ∃ w1, u2 (u2 (w_14) 12 15 (eI D 4 (fun _ => 0))) 5 0 (.inr (5, [.int 0, .int 0, .int 0, .int 0, .int 0, .ref q_1, .ref q_2, .ref q_3, .ref q_4, .ref q_5, .ref q_6, .ref q_7, .ref q_8, .ref q_9, .ref q_10, .ref q_11, .ref q_12, .ref q_13, .ref q_14, .ref q_15, .ref q_16, .null, .null, .null, .int 0])) = w1 ∧ hw D B a1 w1 H := ⟨_, rfl, _, rfl, hP⟩
  have h5_15 := (congrFun (congrFun hW 5) 0).symm.trans (u2_self _ _ _ _)
  have hm_15 : ∀ k, k < 16 → w_15 12 k = mAr D (fun _ _ _ => 0) k := fun k hk => by rw [← hW, u2_o (by omega)]; rcases Nat.lt_succ_iff_lt_or_eq.mp hk with y | y; rw [u2_o (by omega)]; exact hm_14 k y; subst y; exact u2_self _ _ _ _
  have hn_15 : ∀ k, 16 ≤ k → w_15 12 k = none := fun k hk => by rw [← hW, u2_o (by omega), u2_o (by omega)]; exact hn_14 k (by omega)
  have ho_15 : ∀ f j, ¬ (f = 5 ∧ j = 0) → ¬ f = 12 → w_15 f j = w f j := fun f j y1 y2 => by exact (congrFun (congrFun hW f) j).symm.trans ((u2_o y1).trans ((u2_o (by omega)).trans (ho_14 f j y1 y2)))
  have hA_15 : ad_15 5 0 = a := by rw [← hA, a2_o (by omega)]; exact hA_14
  have aq_15 : ad_15 12 15 = q_16 := by rw [← hA]; exact a2_s
  have ak_15 : ∀ f j, ¬ (f = 12 ∧ j = 15) → ad_15 f j = ad_14 f j := fun f j y => by rw [← hA]; exact a2_o y
  clear hA hW
  refine lv_aload_n hx hb dX5_init_129 rfl (lv_at hl 0 rfl) ?_
  refine lv_bipush (v := (80)) hx hb dX5_init_130 (by decide) ?_
  refine w_newa (atype := .int) hx hb (hts (.arrayClass .int) (by decide +kernel)) 0 rfl (fun C z => by cases z) hC hP hS (N' := 80) (a0 := (80, .inl (fun _ => 0))) (fun _ => vp_cell_i _ _ _) (by decide) (by decide) (show 80 * 4 ≤ 536870912 by decide) (Nat.le_of_ble_eq_true rfl) (Nat.le_of_ble_eq_true rfl) 12 16 (hn_15 _ (by omega)) dX5_init_132 (fun q_17 H hqq_17 hP hS => ?_)
  clear hqq_17
  refine w_putFA (f := 5) (k := 0) hx hb hts (by decide +kernel) tyX5 tyX5_ok nmX5 hown hC hP hS ((a2_o (by omega)).trans hA_15) ((u2_o (by omega)).trans (h5_15)) rfl 21 (by decide) (hts (.fieldLink RX5 59 "BuildingPointsModel" "when" "[I") (by decide +kernel)) rfl hin rfl rfl rfl (Nat.le_of_ble_eq_true rfl) rfl dX5_init_134 (fun H locs hP hS => ?_)
  obtain ⟨ad_16, hA, w_16, hW, hP⟩ : ∃ a1, a2 (ad_15) 12 16 q_17 = a1 ∧ ∃ w1, u2 (u2 (w_15) 12 16 (eI D 80 (fun _ => 0))) 5 0 (.inr (5, [.int 0, .int 0, .int 0, .int 0, .int 0, .ref q_1, .ref q_2, .ref q_3, .ref q_4, .ref q_5, .ref q_6, .ref q_7, .ref q_8, .ref q_9, .ref q_10, .ref q_11, .ref q_12, .ref q_13, .ref q_14, .ref q_15, .ref q_16, .ref q_17, .null, .null, .int 0])) = w1 ∧ hw D B a1 w1 H := ⟨_, rfl, _, rfl, hP⟩
  have h5_16 := (congrFun (congrFun hW 5) 0).symm.trans (u2_self _ _ _ _)
  have hm_16 : ∀ k, k < 17 → w_16 12 k = mAr D (fun _ _ _ => 0) k := fun k hk => by rw [← hW, u2_o (by omega)]; rcases Nat.lt_succ_iff_lt_or_eq.mp hk with y | y; rw [u2_o (by omega)]; exact hm_15 k y; subst y; exact u2_self _ _ _ _
  have hn_16 : ∀ k, 17 ≤ k → w_16 12 k = none := fun k hk => by rw [← hW, u2_o (by omega), u2_o (by omega)]; exact hn_15 k (by omega)
  have ho_16 : ∀ f j, ¬ (f = 5 ∧ j = 0) → ¬ f = 12 → w_16 f j = w f j := fun f j y1 y2 => by exact (congrFun (congrFun hW f) j).symm.trans ((u2_o y1).trans ((u2_o (by omega)).trans (ho_15 f j y1 y2)))
  have hA_16 : ad_16 5 0 = a := by rw [← hA, a2_o (by omega)]; exact hA_15
  have aq_16 : ad_16 12 16 = q_17 := by rw [← hA]; exact a2_s
  have ak_16 : ∀ f j, ¬ (f = 12 ∧ j = 16) → ad_16 f j = ad_15 f j := fun f j y => by rw [← hA]; exact a2_o y
  clear hA hW
  refine lv_aload_n hx hb dX5_init_137 rfl (lv_at hl 0 rfl) ?_
  refine lv_bipush (v := (80)) hx hb dX5_init_138 (by decide) ?_
  refine w_newa (atype := .int) hx hb (hts (.arrayClass .int) (by decide +kernel)) 0 rfl (fun C z => by cases z) hC hP hS (N' := 80) (a0 := (80, .inl (fun _ => 0))) (fun _ => vp_cell_i _ _ _) (by decide) (by decide) (show 80 * 4 ≤ 536870912 by decide) (Nat.le_of_ble_eq_true rfl) (Nat.le_of_ble_eq_true rfl) 12 17 (hn_16 _ (by omega)) dX5_init_140 (fun q_18 H hqq_18 hP hS => ?_)
  clear hqq_18
  refine w_putFA (f := 5) (k := 0) hx hb hts (by decide +kernel) tyX5 tyX5_ok nmX5 hown hC hP hS ((a2_o (by omega)).trans hA_16) ((u2_o (by omega)).trans (h5_16)) rfl 22 (by decide) (hts (.fieldLink RX5 62 "BuildingPointsModel" "minute" "[I") (by decide +kernel)) rfl hin rfl rfl rfl (Nat.le_of_ble_eq_true rfl) rfl dX5_init_142 (fun H locs hP hS => ?_)
  obtain ⟨ad_17, hA, w_17, hW, hP⟩ : ∃ a1, a2 (ad_16) 12 17 q_18 = a1 ∧ ∃ w1, u2 (u2 (w_16) 12 17 (eI D 80 (fun _ => 0))) 5 0 (.inr (5, [.int 0, .int 0, .int 0, .int 0, .int 0, .ref q_1, .ref q_2, .ref q_3, .ref q_4, .ref q_5, .ref q_6, .ref q_7, .ref q_8, .ref q_9, .ref q_10, .ref q_11, .ref q_12, .ref q_13, .ref q_14, .ref q_15, .ref q_16, .ref q_17, .ref q_18, .null, .int 0])) = w1 ∧ hw D B a1 w1 H := ⟨_, rfl, _, rfl, hP⟩
  have h5_17 := (congrFun (congrFun hW 5) 0).symm.trans (u2_self _ _ _ _)
  have hm_17 : ∀ k, k < 18 → w_17 12 k = mAr D (fun _ _ _ => 0) k := fun k hk => by rw [← hW, u2_o (by omega)]; rcases Nat.lt_succ_iff_lt_or_eq.mp hk with y | y; rw [u2_o (by omega)]; exact hm_16 k y; subst y; exact u2_self _ _ _ _
  have hn_17 : ∀ k, 18 ≤ k → w_17 12 k = none := fun k hk => by rw [← hW, u2_o (by omega), u2_o (by omega)]; exact hn_16 k (by omega)
  have ho_17 : ∀ f j, ¬ (f = 5 ∧ j = 0) → ¬ f = 12 → w_17 f j = w f j := fun f j y1 y2 => by exact (congrFun (congrFun hW f) j).symm.trans ((u2_o y1).trans ((u2_o (by omega)).trans (ho_16 f j y1 y2)))
  have hA_17 : ad_17 5 0 = a := by rw [← hA, a2_o (by omega)]; exact hA_16
  have aq_17 : ad_17 12 17 = q_18 := by rw [← hA]; exact a2_s
  have ak_17 : ∀ f j, ¬ (f = 12 ∧ j = 17) → ad_17 f j = ad_16 f j := fun f j y => by rw [← hA]; exact a2_o y
  clear hA hW
  refine lv_aload_n hx hb dX5_init_145 rfl (lv_at hl 0 rfl) ?_
  refine lv_bipush (v := (80)) hx hb dX5_init_146 (by decide) ?_
  refine w_newa (atype := .int) hx hb (hts (.arrayClass .int) (by decide +kernel)) 0 rfl (fun C z => by cases z) hC hP hS (N' := 80) (a0 := (80, .inl (fun _ => 0))) (fun _ => vp_cell_i _ _ _) (by decide) (by decide) (show 80 * 4 ≤ 536870912 by decide) (Nat.le_of_ble_eq_true rfl) (Nat.le_of_ble_eq_true rfl) 12 18 (hn_17 _ (by omega)) dX5_init_148 (fun q_19 H hqq_19 hP hS => ?_)
  clear hqq_19
  refine w_putFA (f := 5) (k := 0) hx hb hts (by decide +kernel) tyX5 tyX5_ok nmX5 hown hC hP hS ((a2_o (by omega)).trans hA_17) ((u2_o (by omega)).trans (h5_17)) rfl 23 (by decide) (hts (.fieldLink RX5 65 "BuildingPointsModel" "tells" "[I") (by decide +kernel)) rfl hin rfl rfl rfl (Nat.le_of_ble_eq_true rfl) rfl dX5_init_150 (fun H locs hP hS => ?_)
  obtain ⟨ad_18, hA, w_18, hW, hP⟩ : ∃ a1, a2 (ad_17) 12 18 q_19 = a1 ∧ ∃ w1, u2 (u2 (w_17) 12 18 (eI D 80 (fun _ => 0))) 5 0 (.inr (5, [.int 0, .int 0, .int 0, .int 0, .int 0, .ref q_1, .ref q_2, .ref q_3, .ref q_4, .ref q_5, .ref q_6, .ref q_7, .ref q_8, .ref q_9, .ref q_10, .ref q_11, .ref q_12, .ref q_13, .ref q_14, .ref q_15, .ref q_16, .ref q_17, .ref q_18, .ref q_19, .int 0])) = w1 ∧ hw D B a1 w1 H := ⟨_, rfl, _, rfl, hP⟩
  have h5_18 := (congrFun (congrFun hW 5) 0).symm.trans (u2_self _ _ _ _)
  have hm_18 : ∀ k, k < 19 → w_18 12 k = mAr D (fun _ _ _ => 0) k := fun k hk => by rw [← hW, u2_o (by omega)]; rcases Nat.lt_succ_iff_lt_or_eq.mp hk with y | y; rw [u2_o (by omega)]; exact hm_17 k y; subst y; exact u2_self _ _ _ _
  have hn_18 : ∀ k, 19 ≤ k → w_18 12 k = none := fun k hk => by rw [← hW, u2_o (by omega), u2_o (by omega)]; exact hn_17 k (by omega)
  have ho_18 : ∀ f j, ¬ (f = 5 ∧ j = 0) → ¬ f = 12 → w_18 f j = w f j := fun f j y1 y2 => by exact (congrFun (congrFun hW f) j).symm.trans ((u2_o y1).trans ((u2_o (by omega)).trans (ho_17 f j y1 y2)))
  have hA_18 : ad_18 5 0 = a := by rw [← hA, a2_o (by omega)]; exact hA_17
  have aq_18 : ad_18 12 18 = q_19 := by rw [← hA]; exact a2_s
  have ak_18 : ∀ f j, ¬ (f = 12 ∧ j = 18) → ad_18 f j = ad_17 f j := fun f j y => by rw [← hA]; exact a2_o y
  clear hA hW
  have qz_0 : q_1 = ad_18 12 0 := (((ak_18 _ _ (by omega)).trans ((ak_17 _ _ (by omega)).trans ((ak_16 _ _ (by omega)).trans ((ak_15 _ _ (by omega)).trans ((ak_14 _ _ (by omega)).trans ((ak_13 _ _ (by omega)).trans ((ak_12 _ _ (by omega)).trans ((ak_11 _ _ (by omega)).trans ((ak_10 _ _ (by omega)).trans ((ak_9 _ _ (by omega)).trans ((ak_8 _ _ (by omega)).trans ((ak_7 _ _ (by omega)).trans ((ak_6 _ _ (by omega)).trans ((ak_5 _ _ (by omega)).trans ((ak_4 _ _ (by omega)).trans ((ak_3 _ _ (by omega)).trans ((ak_2 _ _ (by omega)).trans ((ak_1 _ _ (by omega)).trans aq_0))))))))))))))))))).symm
  have qz_1 : q_2 = ad_18 12 1 := (((ak_18 _ _ (by omega)).trans ((ak_17 _ _ (by omega)).trans ((ak_16 _ _ (by omega)).trans ((ak_15 _ _ (by omega)).trans ((ak_14 _ _ (by omega)).trans ((ak_13 _ _ (by omega)).trans ((ak_12 _ _ (by omega)).trans ((ak_11 _ _ (by omega)).trans ((ak_10 _ _ (by omega)).trans ((ak_9 _ _ (by omega)).trans ((ak_8 _ _ (by omega)).trans ((ak_7 _ _ (by omega)).trans ((ak_6 _ _ (by omega)).trans ((ak_5 _ _ (by omega)).trans ((ak_4 _ _ (by omega)).trans ((ak_3 _ _ (by omega)).trans ((ak_2 _ _ (by omega)).trans aq_1)))))))))))))))))).symm
  have qz_2 : q_3 = ad_18 12 2 := (((ak_18 _ _ (by omega)).trans ((ak_17 _ _ (by omega)).trans ((ak_16 _ _ (by omega)).trans ((ak_15 _ _ (by omega)).trans ((ak_14 _ _ (by omega)).trans ((ak_13 _ _ (by omega)).trans ((ak_12 _ _ (by omega)).trans ((ak_11 _ _ (by omega)).trans ((ak_10 _ _ (by omega)).trans ((ak_9 _ _ (by omega)).trans ((ak_8 _ _ (by omega)).trans ((ak_7 _ _ (by omega)).trans ((ak_6 _ _ (by omega)).trans ((ak_5 _ _ (by omega)).trans ((ak_4 _ _ (by omega)).trans ((ak_3 _ _ (by omega)).trans aq_2))))))))))))))))).symm
  have qz_3 : q_4 = ad_18 12 3 := (((ak_18 _ _ (by omega)).trans ((ak_17 _ _ (by omega)).trans ((ak_16 _ _ (by omega)).trans ((ak_15 _ _ (by omega)).trans ((ak_14 _ _ (by omega)).trans ((ak_13 _ _ (by omega)).trans ((ak_12 _ _ (by omega)).trans ((ak_11 _ _ (by omega)).trans ((ak_10 _ _ (by omega)).trans ((ak_9 _ _ (by omega)).trans ((ak_8 _ _ (by omega)).trans ((ak_7 _ _ (by omega)).trans ((ak_6 _ _ (by omega)).trans ((ak_5 _ _ (by omega)).trans ((ak_4 _ _ (by omega)).trans aq_3)))))))))))))))).symm
  have qz_4 : q_5 = ad_18 12 4 := (((ak_18 _ _ (by omega)).trans ((ak_17 _ _ (by omega)).trans ((ak_16 _ _ (by omega)).trans ((ak_15 _ _ (by omega)).trans ((ak_14 _ _ (by omega)).trans ((ak_13 _ _ (by omega)).trans ((ak_12 _ _ (by omega)).trans ((ak_11 _ _ (by omega)).trans ((ak_10 _ _ (by omega)).trans ((ak_9 _ _ (by omega)).trans ((ak_8 _ _ (by omega)).trans ((ak_7 _ _ (by omega)).trans ((ak_6 _ _ (by omega)).trans ((ak_5 _ _ (by omega)).trans aq_4))))))))))))))).symm
  have qz_5 : q_6 = ad_18 12 5 := (((ak_18 _ _ (by omega)).trans ((ak_17 _ _ (by omega)).trans ((ak_16 _ _ (by omega)).trans ((ak_15 _ _ (by omega)).trans ((ak_14 _ _ (by omega)).trans ((ak_13 _ _ (by omega)).trans ((ak_12 _ _ (by omega)).trans ((ak_11 _ _ (by omega)).trans ((ak_10 _ _ (by omega)).trans ((ak_9 _ _ (by omega)).trans ((ak_8 _ _ (by omega)).trans ((ak_7 _ _ (by omega)).trans ((ak_6 _ _ (by omega)).trans aq_5)))))))))))))).symm
  have qz_6 : q_7 = ad_18 12 6 := (((ak_18 _ _ (by omega)).trans ((ak_17 _ _ (by omega)).trans ((ak_16 _ _ (by omega)).trans ((ak_15 _ _ (by omega)).trans ((ak_14 _ _ (by omega)).trans ((ak_13 _ _ (by omega)).trans ((ak_12 _ _ (by omega)).trans ((ak_11 _ _ (by omega)).trans ((ak_10 _ _ (by omega)).trans ((ak_9 _ _ (by omega)).trans ((ak_8 _ _ (by omega)).trans ((ak_7 _ _ (by omega)).trans aq_6))))))))))))).symm
  have qz_7 : q_8 = ad_18 12 7 := (((ak_18 _ _ (by omega)).trans ((ak_17 _ _ (by omega)).trans ((ak_16 _ _ (by omega)).trans ((ak_15 _ _ (by omega)).trans ((ak_14 _ _ (by omega)).trans ((ak_13 _ _ (by omega)).trans ((ak_12 _ _ (by omega)).trans ((ak_11 _ _ (by omega)).trans ((ak_10 _ _ (by omega)).trans ((ak_9 _ _ (by omega)).trans ((ak_8 _ _ (by omega)).trans aq_7)))))))))))).symm
  have qz_8 : q_9 = ad_18 12 8 := (((ak_18 _ _ (by omega)).trans ((ak_17 _ _ (by omega)).trans ((ak_16 _ _ (by omega)).trans ((ak_15 _ _ (by omega)).trans ((ak_14 _ _ (by omega)).trans ((ak_13 _ _ (by omega)).trans ((ak_12 _ _ (by omega)).trans ((ak_11 _ _ (by omega)).trans ((ak_10 _ _ (by omega)).trans ((ak_9 _ _ (by omega)).trans aq_8))))))))))).symm
  have qz_9 : q_10 = ad_18 12 9 := (((ak_18 _ _ (by omega)).trans ((ak_17 _ _ (by omega)).trans ((ak_16 _ _ (by omega)).trans ((ak_15 _ _ (by omega)).trans ((ak_14 _ _ (by omega)).trans ((ak_13 _ _ (by omega)).trans ((ak_12 _ _ (by omega)).trans ((ak_11 _ _ (by omega)).trans ((ak_10 _ _ (by omega)).trans aq_9)))))))))).symm
  have qz_10 : q_11 = ad_18 12 10 := (((ak_18 _ _ (by omega)).trans ((ak_17 _ _ (by omega)).trans ((ak_16 _ _ (by omega)).trans ((ak_15 _ _ (by omega)).trans ((ak_14 _ _ (by omega)).trans ((ak_13 _ _ (by omega)).trans ((ak_12 _ _ (by omega)).trans ((ak_11 _ _ (by omega)).trans aq_10))))))))).symm
  have qz_11 : q_12 = ad_18 12 11 := (((ak_18 _ _ (by omega)).trans ((ak_17 _ _ (by omega)).trans ((ak_16 _ _ (by omega)).trans ((ak_15 _ _ (by omega)).trans ((ak_14 _ _ (by omega)).trans ((ak_13 _ _ (by omega)).trans ((ak_12 _ _ (by omega)).trans aq_11)))))))).symm
  have qz_12 : q_13 = ad_18 12 12 := (((ak_18 _ _ (by omega)).trans ((ak_17 _ _ (by omega)).trans ((ak_16 _ _ (by omega)).trans ((ak_15 _ _ (by omega)).trans ((ak_14 _ _ (by omega)).trans ((ak_13 _ _ (by omega)).trans aq_12))))))).symm
  have qz_13 : q_14 = ad_18 12 13 := (((ak_18 _ _ (by omega)).trans ((ak_17 _ _ (by omega)).trans ((ak_16 _ _ (by omega)).trans ((ak_15 _ _ (by omega)).trans ((ak_14 _ _ (by omega)).trans aq_13)))))).symm
  have qz_14 : q_15 = ad_18 12 14 := (((ak_18 _ _ (by omega)).trans ((ak_17 _ _ (by omega)).trans ((ak_16 _ _ (by omega)).trans ((ak_15 _ _ (by omega)).trans aq_14))))).symm
  have qz_15 : q_16 = ad_18 12 15 := (((ak_18 _ _ (by omega)).trans ((ak_17 _ _ (by omega)).trans ((ak_16 _ _ (by omega)).trans aq_15)))).symm
  have qz_16 : q_17 = ad_18 12 16 := (((ak_18 _ _ (by omega)).trans ((ak_17 _ _ (by omega)).trans aq_16))).symm
  have qz_17 : q_18 = ad_18 12 17 := (((ak_18 _ _ (by omega)).trans aq_17)).symm
  have qz_18 : q_19 = ad_18 12 18 := (aq_18).symm
  have z0 : nI 0 = 0 := rfl
  rw [qz_0, qz_1, qz_2, qz_3, qz_4, qz_5, qz_6, qz_7, qz_8, qz_9, qz_10, qz_11, qz_12, qz_13, qz_14, qz_15, qz_16, qz_17, qz_18] at h5_18
  exact W.vret hx hb hr (fun t ht hW => Qv_of ⟨ad_18, w_18, rfl, fun f9 j9 y => ((ak_18 _ _ (by omega)).trans ((ak_17 _ _ (by omega)).trans ((ak_16 _ _ (by omega)).trans ((ak_15 _ _ (by omega)).trans ((ak_14 _ _ (by omega)).trans ((ak_13 _ _ (by omega)).trans ((ak_12 _ _ (by omega)).trans ((ak_11 _ _ (by omega)).trans ((ak_10 _ _ (by omega)).trans ((ak_9 _ _ (by omega)).trans ((ak_8 _ _ (by omega)).trans ((ak_7 _ _ (by omega)).trans ((ak_6 _ _ (by omega)).trans ((ak_5 _ _ (by omega)).trans ((ak_4 _ _ (by omega)).trans ((ak_3 _ _ (by omega)).trans ((ak_2 _ _ (by omega)).trans ((ak_1 _ _ (by omega)).trans ((ak_0 _ _ (by omega)).trans rfl))))))))))))))))))), h5_18, hm_18, ho_18⟩ hP hS ht) hS.2.2 dX5_init_153
