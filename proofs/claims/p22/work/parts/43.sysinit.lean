/-! the system's own constructor: its three arrays of objects want a word each -/
def Pre4 (D : va_G) (B : Nat) (ad : Ad) (w : Wd) (av : List Value) : Array Value → State → Prop := va_Pc av (fun U => (cx D B U ∧ ∀ X ∈ [RX1, RX3, RX2], va_AO X U) ∧ hw D B ad w U.heap)
set_option maxHeartbeats 4000000 in
set_option maxRecDepth 100000 in
theorem c_X4_init (l : Launch) (D : va_G) (B : Nat) (ad : Ad) (w : Wd) (a : Nat) (ha : ad 4 0 = a) (h4 : w 4 0 = some (.inr (4, [.null, .null, .null, .int 0, .int 0, .int 0, .int 0, .int 0]))) (h7 : ∀ k, k = 0 ∨ k = 1 ∨ k = 2 → w 7 k = none) : Met l yX4_init wsX4_init ({ frames := 1, cells := 3, slots := 50, locals := 24 }) (Pre4 D B ad (w) [.ref a]) (Qv D B (fun u => ∃ (q0 q1 q2 : Nat) (w9 : Wd), u = (a2 (a2 (a2 ad 7 0 q0) 7 1 q1) 7 2 q2, w9) ∧ w9 4 0 = some (.inr (4, [.ref q0, .ref q1, .ref q2, .int 0, .int 0, .int 0, .int 0, .int 0])) ∧ w9 7 0 = some (eR D 103 16 (fun _ => none)) ∧ w9 7 1 = some (eR D 104 30 (fun _ => none)) ∧ w9 7 2 = some (eR D 105 4 (fun _ => none)) ∧ ∀ f9 j9, ¬ (f9 = 4 ∧ j9 = 0) → ¬ (f9 = 7 ∧ j9 = 0) → ¬ (f9 = 7 ∧ j9 = 1) → ¬ (f9 = 7 ∧ j9 = 2) → w9 f9 j9 = w f9 j9)) 3 50 (ab B) := by
  refine Met.ofW (cc := cX4_init) (maxL := 1) (ret := none) (by decide) rfl ?_
  intro p e s m args below meth c s₁ Bd hml hv
  obtain ⟨rfl, ⟨hC, hov⟩, hP⟩ := hv
  have hx := Bd.exec
  have hb := Bd.bytes
  have hr := Bd.returns
  have hts := atoms_spec (ws := wsX4_init) Bd.pre
  have hown : s.vm.findClass RX4 = some m.cls := findClass_of_methodNamed Bd.named
  have hlocks := Bd.notSynchronized
  have hin : meth.name = "<init>" := (name_of_methodNamed Bd.named Bd.method).1
  have hS : va_S (ab B) s.heap s.heap [] := va_S.rf
  have hl := lv_entry ([.ref a]) (n := 1) (Nat.le_of_ble_eq_true rfl)
  rw [lg_entry_eq]
  generalize (lg_sl ([.ref a]) ++ List.replicate (1 - (lg_sl ([.ref a])).length) Slot.unset).toArray = ls at hl ⊢
  have hl : lv_has ls 1 [(0, .ref a)] := hl
  refine lv_aload_n hx hb dX4_init_0 rfl (lv_at hl 0 rfl) ?_
  refine W.objInit hx hb hown (hts (.methodLink RX4 1 objectInit) (by decide +kernel)) (hts (.instanceMethod objectInit) (by decide +kernel)) (hts (.code objectInit ⟨#[0xb1]⟩ 1 none) (by decide +kernel)) rfl (by rw [hml]; exact hl.1) rfl dX4_init_1 (Nat.le_of_ble_eq_true rfl) (Nat.le_of_ble_eq_true rfl) ?_
  refine W.eq (g2 := F0 m 4 ls []) rfl ?_
  refine lv_aload_n hx hb dX4_init_4 rfl (lv_at hl 0 rfl) ?_
  refine lv_bipush (v := (16)) hx hb dX4_init_5 (by decide) ?_
  refine w_newq hx hb hown (hts (.classLink RX4 9 "BuildingPoints$Point") (by decide +kernel)) (va_AO.use (hov "BuildingPoints$Point" (by decide))) 3 rfl hC hP hS (N' := 16) (by decide) (by decide) (by decide) (Nat.le_of_ble_eq_true rfl) (Nat.le_of_ble_eq_true rfl) 7 0 (h7 0 (by decide)) dX4_init_7 (fun q_1 H hqq_1 hP hS => ?_)
  clear hqq_1
  refine w_putFA (f := 4) (k := 0) hx hb hts (by decide +kernel) tyX4 tyX4_ok nmX4 hown hC hP hS ((a2_o (by omega)).trans ha) ((u2_o (by omega)).trans (h4)) rfl 0 (by decide) (hts (.fieldLink RX4 11 "BuildingPoints" "points" "[LBuildingPoints$Point;") (by decide +kernel)) rfl hin rfl rfl rfl (Nat.le_of_ble_eq_true rfl) rfl dX4_init_10 (fun H locs hP hS => ?_)
  refine lv_aload_n hx hb dX4_init_13 rfl (lv_at hl 0 rfl) ?_
  refine lv_bipush (v := (30)) hx hb dX4_init_14 (by decide) ?_
  refine w_newq hx hb hown (hts (.classLink RX4 15 "BuildingPoints$Subscription") (by decide +kernel)) (va_AO.use (hov "BuildingPoints$Subscription" (by decide))) 4 rfl hC hP hS (N' := 30) (by decide) (by decide) (by decide) (Nat.le_of_ble_eq_true rfl) (Nat.le_of_ble_eq_true rfl) 7 1 ((u2_o (by omega)).trans ((u2_o (by omega)).trans (h7 1 (by decide)))) dX4_init_16 (fun q_2 H hqq_2 hP hS => ?_)
  clear hqq_2
  refine w_putFA (f := 4) (k := 0) hx hb hts (by decide +kernel) tyX4 tyX4_ok nmX4 hown hC hP hS ((a2_o (by omega)).trans ((a2_o (by omega)).trans ha)) ((u2_o (by omega)).trans (u2_self _ _ _ _)) rfl 1 (by decide) (hts (.fieldLink RX4 17 "BuildingPoints" "subscriptions" "[LBuildingPoints$Subscription;") (by decide +kernel)) rfl hin rfl rfl rfl (Nat.le_of_ble_eq_true rfl) rfl dX4_init_19 (fun H locs hP hS => ?_)
  refine lv_aload_n hx hb dX4_init_22 rfl (lv_at hl 0 rfl) ?_
  refine lv_iconst (v := 4) hx hb dX4_init_23 (by decide) ?_
  refine w_newq hx hb hown (hts (.classLink RX4 21 "BuildingPoints$Schedule") (by decide +kernel)) (va_AO.use (hov "BuildingPoints$Schedule" (by decide))) 5 rfl hC hP hS (N' := 4) (by decide) (by decide) (by decide) (Nat.le_of_ble_eq_true rfl) (Nat.le_of_ble_eq_true rfl) 7 2 ((u2_o (by omega)).trans ((u2_o (by omega)).trans ((u2_o (by omega)).trans ((u2_o (by omega)).trans (h7 2 (by decide)))))) dX4_init_24 (fun q_3 H hqq_3 hP hS => ?_)
  clear hqq_3
  refine w_putFA (f := 4) (k := 0) hx hb hts (by decide +kernel) tyX4 tyX4_ok nmX4 hown hC hP hS ((a2_o (by omega)).trans ((a2_o (by omega)).trans ((a2_o (by omega)).trans ha))) ((u2_o (by omega)).trans (u2_self _ _ _ _)) rfl 2 (by decide) (hts (.fieldLink RX4 23 "BuildingPoints" "schedules" "[LBuildingPoints$Schedule;") (by decide +kernel)) rfl hin rfl rfl rfl (Nat.le_of_ble_eq_true rfl) rfl dX4_init_27 (fun H locs hP hS => ?_)
  exact W.vret hx hb hr (fun t ht hW => Qv_of ⟨_, _, _, _, rfl, (u2_self _ _ _ _), ((u2_o (by omega)).trans ((u2_o (by omega)).trans ((u2_o (by omega)).trans ((u2_o (by omega)).trans ((u2_o (by omega)).trans (u2_self _ _ _ _)))))), ((u2_o (by omega)).trans ((u2_o (by omega)).trans ((u2_o (by omega)).trans (u2_self _ _ _ _)))), ((u2_o (by omega)).trans (u2_self _ _ _ _)), fun f9 j9 y0 y1 y2 y3 => ((u2_o y0).trans ((u2_o y3).trans ((u2_o y0).trans ((u2_o y2).trans ((u2_o y0).trans ((u2_o y1).trans rfl))))))⟩ hP hS ht) hS.2.2 dX4_init_30
