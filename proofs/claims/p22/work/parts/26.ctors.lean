/-! what is made: the class's constructors, and the calls that add -/
theorem u2_two (w : Wd) (f k : Nat) (e e1 : va_E) : u2 (u2 w f k e) f k e1 = u2 w f k e1 := by
  funext a b
  unfold u2
  by_cases h : a = f ∧ b = k
  · rw [if_pos h, if_pos h]
  · rw [if_neg h, if_neg h, if_neg h]
theorem u2_id {w : Wd} {f k : Nat} {e : va_E} (h : w f k = some e) : u2 w f k e = w := by
  funext a b
  unfold u2
  by_cases hc : a = f ∧ b = k
  · rw [if_pos hc, hc.1, hc.2, h]
  · rw [if_neg hc]
theorem u2_o {w : Wd} {f k f1 k1 : Nat} {e : va_E} (h : ¬ (f1 = f ∧ k1 = k)) : u2 w f k e f1 k1 = w f1 k1 := by
  unfold u2
  rw [if_neg h]
theorem a2_s {ad : Ad} {f k q : Nat} : a2 ad f k q f k = q := by simp [a2]
theorem a2_o {ad : Ad} {f k q f1 k1 : Nat} (h : ¬ (f1 = f ∧ k1 = k)) : a2 ad f k q f1 k1 = ad f1 k1 := by
  unfold a2
  rw [if_neg h]

theorem up_lt {i : Nat} {v : Int32} : upd (fun j => if j < i then v else 0) i v = fun j => if j < i + 1 then v else 0 := by
  funext j
  unfold upd
  by_cases h : j = i
  · rw [if_pos h, if_pos (by omega)]
  · rw [if_neg h]
    show (if j < i then v else 0) = _
    by_cases h2 : j < i
    · rw [if_pos h2, if_pos (by omega)]
    · rw [if_neg h2, if_neg (by omega)]
section WI
variable {p : Program} {l : Launch} {e : Env} {R : Room} {s : State} {m : MethodId} {args : Array Value} {below : List Frame} {meth : Method} {c : Code} {H : Heap} {locs : List Loc} {cells slots : Nat} {Q : State → Prop}
variable {cc : ByteArray} {pc : Nat} {ls : Array Slot} {rest : List Value} {D : va_G} {B : Nat} {ad : Ad} {w : Wd} {H0 : Heap}
theorem w_topr {a b : Nat} (h : b = a) (k : W p l e R s m args below meth c H locs cells slots Q (F0 m pc ls (.ref a :: rest))) : W p l e R s m args below meth c H locs cells slots Q (F0 m pc ls (.ref b :: rest)) := h ▸ k
theorem w_istA (hexec : p.tables.exec = Jvm.exec) (hb : c.code = cc) (hC : cx D B s) (hP : hw D B ad w H) (hS : va_S (ab B) H0 H locs) {f k a n : Nat} {g : Nat → Int32} (ha : ad f k = a) (he : w f k = some (eI D n g)) {j : Nat} {x : Int32} (hj : j < n) (hn : n < 2 ^ 31) (hdg : decode cc pc = .ok (.iastore, 1))
    (kk : ∀ (H1 : Heap) (locs1 : List Loc), hw D B ad (u2 w f k (eI D n (upd g j x))) H1 → va_S (ab B) H0 H1 locs1 → W p l e R s m args below meth c H1 locs1 cells slots Q (F0 m (pc + 1) ls rest)) : W p l e R s m args below meth c H locs cells slots Q (F0 m pc ls (.int x :: .int (nI j) :: .ref a :: rest)) := by
  subst ha
  exact w_istN hexec hb hC hP hS he hj hn hdg kk
end WI
set_option maxHeartbeats 4000000 in
set_option maxRecDepth 100000 in
theorem c_J7_fill_53178 (l : Launch) (D : va_G) (B : Nat) (ad : Ad) (w : Wd) (f k a : Nat) (ha : ad f k = a) (hk : w f k = some (eI D 17 (fun _ => 0))) (v : Int32) : Met l yJ7_fill_53178 wsJ7_fill_53178 ({ frames := 0, cells := 0, slots := 0, locals := 0 }) (Pre D B ad (w) [.ref a, .int v]) (Qv D B (fun u => u = (ad, u2 w f k (eI D 17 (fun j => if j < 17 then v else 0))))) 0 0 (ab B) := by
  refine Met.ofW (cc := cJ7_fill_53178) (maxL := 4) (ret := none) (by decide) rfl ?_
  intro p e s m args below meth c s₁ Bd hml hv
  obtain ⟨rfl, hC, hP⟩ := hv
  have hx := Bd.exec
  have hb := Bd.bytes
  have hr := Bd.returns
  have hts := atoms_spec (ws := wsJ7_fill_53178) Bd.pre
  have hown : s.vm.findClass RJ7 = some m.cls := findClass_of_methodNamed Bd.named
  have hlocks := Bd.notSynchronized
  have hS : va_S (ab B) s.heap s.heap [] := va_S.rf
  have hl := lv_entry ([.ref a, .int v]) (n := 4) (Nat.le_of_ble_eq_true rfl)
  rw [lg_entry_eq]
  generalize (lg_sl ([.ref a, .int v]) ++ List.replicate (4 - (lg_sl ([.ref a, .int v])).length) Slot.unset).toArray = ls at hl ⊢
  have hl : lv_has ls 4 [(0, .ref a), (1, .int v)] := hl
  refine lv_iconst (v := 0) hx hb dJ7_fill_53178_0 (by decide) ?_
  refine lv_istore_n (lv' := [(2, .int 0), (0, .ref a), (1, .int v)]) hx hb dJ7_fill_53178_1 rfl hl (by decide) rfl (fun ls hl => ?_)
  refine lv_aload_n hx hb dJ7_fill_53178_2 rfl (lv_at hl 1 rfl) ?_
  refine w_topr (a := ad f k) ha.symm ?_
  refine w_alen hx hb hC hP 0 rfl hk (v := 17) rfl dJ7_fill_53178_3 ?_
  refine lv_istore_n (lv' := [(3, .int 17), (2, .int 0), (0, .ref a), (1, .int v)]) hx hb dJ7_fill_53178_4 rfl hl (by decide) rfl (fun ls hl => ?_)
  refine w_ind (fun n9 H locs ls => ∃ i : Nat, i + n9 = 17 ∧ hw D B ad (u2 w f k (eI D 17 (fun j => if j < i then v else 0))) H ∧ va_S (ab B) s.heap H locs ∧ lv_has ls 4 [(2, .int (nI i)), (3, .int 17), (0, .ref a), (1, .int v)]) ?_ 17 _ _ _ ⟨0, rfl, hw_eq hP (u2_id (by rw [hk]; congr 1)).symm, hS, lv_sub hl [1, 0, 2, 3] rfl⟩
  intro n9 H locs ls hI ih
  obtain ⟨i, hi, hP, hS, hl⟩ := hI
  refine lv_iload_n hx hb dJ7_fill_53178_5 rfl (lv_at hl 0 rfl) ?_
  refine lv_iload_n hx hb dJ7_fill_53178_6 rfl (lv_at hl 1 rfl) ?_
  refine lv_icmp_ge (tgt := 20) hx hb dJ7_fill_53178_7 (by decide) (fun c_7 => ?_) (fun c_7 => ?_)
  · have hin : 17 ≤ i := Nat.not_lt.mp (fun z => absurd c_7 (nI_ge z (by decide)))
    exact W.vret hx hb hr (fun t ht hW => Qv_of (by rw [show i = 17 by omega]) hP hS ht) hS.2.2 dJ7_fill_53178_20
  · have hin : i < 17 := Nat.not_le.mp (fun z => c_7 (nI_le (a := 17) (b := i) z (by omega)))
    refine lv_aload_n hx hb dJ7_fill_53178_10 rfl (lv_at hl 2 rfl) ?_
    refine lv_iload_n hx hb dJ7_fill_53178_11 rfl (lv_at hl 0 rfl) ?_
    refine lv_iload_n hx hb dJ7_fill_53178_12 rfl (lv_at hl 3 rfl) ?_
    refine w_istA hx hb hC hP hS (f := f) (k := k) ha (u2_self _ _ _ _) (j := i) (by omega) (by decide) dJ7_fill_53178_13 (fun H locs hP hS => ?_)
    have hP := hw_eq hP (u2_two _ _ _ _ _)
    have hP := hw_eq hP (w' := u2 w f k (eI D 17 (fun j => if j < i + 1 then v else 0))) (congrArg (u2 w f k) (show (eI D 17 (upd (fun j => if j < i then v else 0) i v) : va_E) = eI D 17 (fun j => if j < (i + 1) then v else 0) from by rw [up_lt]))
    refine lv_iinc (v := nI (i + 1)) (lv' := [(2, .int (nI (i + 1))), (3, .int 17), (0, .ref a), (1, .int v)]) hx hb dJ7_fill_53178_14 hl (k := 0) rfl (nI_add i 1) (by decide) rfl (fun ls hl => ?_)
    refine lv_goto (tgt := 5) hx hb dJ7_fill_53178_17 (by decide) ?_
    exact ih (n9 - 1) _ _ _ (by omega) ⟨i + 1, by omega, hP, hS, lv_sub hl [0, 1, 2, 3] rfl⟩
set_option maxHeartbeats 4000000 in
set_option maxRecDepth 100000 in
theorem c_X1_init (l : Launch) (D : va_G) (B : Nat) (ad : Ad) (w : Wd) (k a : Nat) (ha : ad 1 k = a) (h1 : w 1 k = some (.inr (1, [.int 0, .int 0, .int 0, .int 0, .null, .int 0, .int 0, .int 0]))) (h8 : w 8 k = none) (lo hi v ti : Int32) : Met l yX1_init wsX1_init ({ frames := 1, cells := 1, slots := 17, locals := 24 }) (Pre D B ad (w) [.ref a, .int lo, .int hi, .int v, .int ti]) (Qv D B (fun u => ∃ (q8 : Nat) (w9 : Wd), u = (a2 ad 8 k q8, w9) ∧ w9 1 k = some (.inr (1, [.int lo, .int hi, .int v, .int ti, .ref q8, .int v, .int 0, .int 0])) ∧ w9 8 k = some (eI D 17 (fun j => if j < 17 then nth else 0)) ∧ ∀ f9 j9, ¬ (f9 = 1 ∧ j9 = k) → ¬ (f9 = 8 ∧ j9 = k) → w9 f9 j9 = w f9 j9)) 1 17 (ab B) := by
  refine Met.ofW (cc := cX1_init) (maxL := 5) (ret := none) (by decide) rfl ?_
  intro p e s m args below meth c s₁ Bd hml hv
  obtain ⟨rfl, hC, hP⟩ := hv
  have hx := Bd.exec
  have hb := Bd.bytes
  have hr := Bd.returns
  have hts := atoms_spec (ws := wsX1_init) Bd.pre
  have hown : s.vm.findClass RX1 = some m.cls := findClass_of_methodNamed Bd.named
  have hlocks := Bd.notSynchronized
  have hin : meth.name = "<init>" := (name_of_methodNamed Bd.named Bd.method).1
  have hS : va_S (ab B) s.heap s.heap [] := va_S.rf
  have hl := lv_entry ([.ref a, .int lo, .int hi, .int v, .int ti]) (n := 5) (Nat.le_of_ble_eq_true rfl)
  rw [lg_entry_eq]
  generalize (lg_sl ([.ref a, .int lo, .int hi, .int v, .int ti]) ++ List.replicate (5 - (lg_sl ([.ref a, .int lo, .int hi, .int v, .int ti])).length) Slot.unset).toArray = ls at hl ⊢
  have hl : lv_has ls 5 [(0, .ref a), (1, .int lo), (2, .int hi), (3, .int v), (4, .int ti)] := hl
  refine lv_aload_n hx hb dX1_init_0 rfl (lv_at hl 0 rfl) ?_
  refine W.objInit hx hb hown (hts (.methodLink RX1 3 objectInit) (by decide +kernel)) (hts (.instanceMethod objectInit) (by decide +kernel)) (hts (.code objectInit ⟨#[0xb1]⟩ 1 none) (by decide +kernel)) rfl (by rw [hml]; exact hl.1) rfl dX1_init_1 (Nat.le_of_ble_eq_true rfl) (Nat.le_of_ble_eq_true rfl) ?_
  refine W.eq (g2 := F0 m 4 ls []) rfl ?_
  refine lv_aload_n hx hb dX1_init_4 rfl (lv_at hl 0 rfl) ?_
  refine lv_iload_n hx hb dX1_init_5 rfl (lv_at hl 1 rfl) ?_
  refine w_putFA (f := 1) (k := k) hx hb hts (by decide +kernel) tyX1 tyX1_ok nmX1 hown hC hP hS ha (h1) rfl 0 (by decide) (hts (.fieldLink RX1 9 "BuildingPoints$Point" "lowest" "I") (by decide +kernel)) rfl hin rfl rfl rfl (Nat.le_of_ble_eq_true rfl) rfl dX1_init_6 (fun H locs hP hS => ?_)
  refine lv_aload_n hx hb dX1_init_9 rfl (lv_at hl 0 rfl) ?_
  refine lv_iload_n hx hb dX1_init_10 rfl (lv_at hl 2 rfl) ?_
  refine w_putFA (f := 1) (k := k) hx hb hts (by decide +kernel) tyX1 tyX1_ok nmX1 hown hC hP hS ha (u2_self _ _ _ _) rfl 1 (by decide) (hts (.fieldLink RX1 15 "BuildingPoints$Point" "highest" "I") (by decide +kernel)) rfl hin rfl rfl rfl (Nat.le_of_ble_eq_true rfl) rfl dX1_init_11 (fun H locs hP hS => ?_)
  have hP := hw_eq hP (u2_two _ _ _ _ _)
  refine lv_aload_n hx hb dX1_init_14 rfl (lv_at hl 0 rfl) ?_
  refine lv_iload_n hx hb dX1_init_15 rfl (lv_at hl 3 rfl) ?_
  refine w_putFA (f := 1) (k := k) hx hb hts (by decide +kernel) tyX1 tyX1_ok nmX1 hown hC hP hS ha (u2_self _ _ _ _) rfl 2 (by decide) (hts (.fieldLink RX1 18 "BuildingPoints$Point" "original" "I") (by decide +kernel)) rfl hin rfl rfl rfl (Nat.le_of_ble_eq_true rfl) rfl dX1_init_16 (fun H locs hP hS => ?_)
  have hP := hw_eq hP (u2_two _ _ _ _ _)
  refine lv_aload_n hx hb dX1_init_19 rfl (lv_at hl 0 rfl) ?_
  refine lv_iload hx hb dX1_init_20 (lv_at hl 4 rfl) ?_
  refine w_putFA (f := 1) (k := k) hx hb hts (by decide +kernel) tyX1 tyX1_ok nmX1 hown hC hP hS ha (u2_self _ _ _ _) rfl 3 (by decide) (hts (.fieldLink RX1 21 "BuildingPoints$Point" "leastTime" "I") (by decide +kernel)) rfl hin rfl rfl rfl (Nat.le_of_ble_eq_true rfl) rfl dX1_init_22 (fun H locs hP hS => ?_)
  have hP := hw_eq hP (u2_two _ _ _ _ _)
  refine lv_aload_n hx hb dX1_init_25 rfl (lv_at hl 0 rfl) ?_
  refine lv_bipush (v := (17)) hx hb dX1_init_26 (by decide) ?_
  refine w_newa (atype := .int) hx hb (hts (.arrayClass .int) (by decide +kernel)) 0 rfl (fun C z => by cases z) hC hP hS (N' := 17) (a0 := (17, .inl (fun _ => 0))) (fun _ => vp_cell_i _ _ _) (by decide) (by decide) (show 17 * 4 ≤ 536870912 by decide) (Nat.le_of_ble_eq_true rfl) (Nat.le_of_ble_eq_true rfl) 8 k ((u2_o (by omega)).trans h8) dX1_init_28 (fun q_1 H hqq_1 hP hS => ?_)
  clear hqq_1
  refine w_putFA (f := 1) (k := k) hx hb hts (by decide +kernel) tyX1 tyX1_ok nmX1 hown hC hP hS ((a2_o (by omega)).trans ha) ((u2_o (by omega)).trans (u2_self _ _ _ _)) rfl 4 (by decide) (hts (.fieldLink RX1 24 "BuildingPoints$Point" "commands" "[I") (by decide +kernel)) rfl hin rfl rfl rfl (Nat.le_of_ble_eq_true rfl) rfl dX1_init_30 (fun H locs hP hS => ?_)
  refine lv_aload_n hx hb dX1_init_33 rfl (lv_at hl 0 rfl) ?_
  refine w_getA (f := 1) (k := k) hx hb hts (by decide +kernel) hown hC hP ((a2_o (by omega)).trans ha) (u2_self _ _ _ _) rfl 4 (by decide) (hts (.fieldLink RX1 24 "BuildingPoints$Point" "commands" "[I") (by decide +kernel)) rfl dX1_init_34 ?_
  refine lv_ldc (v := (-100000)) hx hb hown (hts (.constant RX1 28 (-100000)) (by decide +kernel)) dX1_init_37 ?_
  refine w_top (v := nth) rfl ?_
  refine w_callv (va_runS (As := [.ref q_1, .int nth]) (rest := []) ⟨hx, hb, hml, hown, hts⟩ (c_J7_fill_53178 l D B (a2 ad 8 k q_1) (u2 (u2 (u2 (w) 1 k (.inr (1, [.int lo, .int hi, .int v, .int ti, .null, .int 0, .int 0, .int 0]))) 8 k (eI D 17 (fun _ => 0))) 1 k (.inr (1, [.int lo, .int hi, .int v, .int ti, .ref q_1, .int 0, .int 0, .int 0]))) 8 k q_1 a2_s ((u2_o (by omega)).trans (u2_self _ _ _ _)) nth) (va_cwS 2 hts gX1_init_J7_fill_53178 rfl rfl rfl (by decide +kernel) ⟨Nat.le_of_ble_eq_true rfl, Nat.le_of_ble_eq_true rfl⟩) (w_preS hC hP hS) rfl rfl hl.1 rfl (lv_room (Nat.le_of_ble_eq_true rfl)) dX1_init_39 ⟨Nat.le_of_ble_eq_true rfl, Nat.le_of_ble_eq_true rfl⟩) hS (fun ad1 w1 H locs hq hP hS => ?_)
  cases hq
  refine lv_aload_n hx hb dX1_init_42 rfl (lv_at hl 0 rfl) ?_
  refine lv_iload_n hx hb dX1_init_43 rfl (lv_at hl 3 rfl) ?_
  refine w_putA (f := 1) (k := k) hx hb hts (by decide +kernel) tyX1 tyX1_ok nmX1 hown hC hP hS ((a2_o (by omega)).trans ha) ((u2_o (by omega)).trans (u2_self _ _ _ _)) rfl 5 (by decide) (hts (.fieldLink RX1 35 "BuildingPoints$Point" "present" "I") (by decide +kernel)) rfl rfl rfl (Nat.le_of_ble_eq_true rfl) rfl dX1_init_44 (fun H locs hP hS => ?_)
  refine lv_aload_n hx hb dX1_init_47 rfl (lv_at hl 0 rfl) ?_
  refine lv_iconst (v := 0) hx hb dX1_init_48 (by decide) ?_
  refine w_putA (f := 1) (k := k) hx hb hts (by decide +kernel) tyX1 tyX1_ok nmX1 hown hC hP hS ((a2_o (by omega)).trans ha) (u2_self _ _ _ _) rfl 6 (by decide) (hts (.fieldLink RX1 38 "BuildingPoints$Point" "heldUntil" "I") (by decide +kernel)) rfl rfl rfl (Nat.le_of_ble_eq_true rfl) rfl dX1_init_49 (fun H locs hP hS => ?_)
  have hP := hw_eq hP (u2_two _ _ _ _ _)
  refine lv_aload_n hx hb dX1_init_52 rfl (lv_at hl 0 rfl) ?_
  refine lv_iconst (v := 0) hx hb dX1_init_53 (by decide) ?_
  refine w_putA (f := 1) (k := k) hx hb hts (by decide +kernel) tyX1 tyX1_ok nmX1 hown hC hP hS ((a2_o (by omega)).trans ha) (u2_self _ _ _ _) rfl 7 (by decide) (hts (.fieldLink RX1 41 "BuildingPoints$Point" "changeCount" "I") (by decide +kernel)) rfl rfl rfl (Nat.le_of_ble_eq_true rfl) rfl dX1_init_54 (fun H locs hP hS => ?_)
  have hP := hw_eq hP (u2_two _ _ _ _ _)
  exact W.vret hx hb hr (fun t ht hW => Qv_of ⟨_, _, rfl, (u2_self _ _ _ _), ((u2_o (by omega)).trans (u2_self _ _ _ _)), fun f9 j9 y0 y1 => ((u2_o y0).trans ((u2_o y1).trans ((u2_o y0).trans ((u2_o y1).trans ((u2_o y0).trans rfl)))))⟩ hP hS ht) hS.2.2 dX1_init_57
set_option maxHeartbeats 4000000 in
set_option maxRecDepth 100000 in
theorem c_X3_init (l : Launch) (D : va_G) (B : Nat) (ad : Ad) (w : Wd) (k a i b : Nat) (ha : ad 3 k = a) (hb9 : ad 1 i = b) (h3 : w 3 k = some (.inr (3, [.null, .int 0, .int 0, .int 0, .int 0, .int 0]))) (x0 x1 x2 x3 pr x5 x6 : Int32) (y : Nat) (h1 : w 1 i = some (.inr (1, [.int x0, .int x1, .int x2, .int x3, .ref y, .int pr, .int x5, .int x6]))) (by1 ov : Int32) : Met l yX3_init wsX3_init ({ frames := 1, cells := 0, slots := 0, locals := 24 }) (Pre D B ad (w) [.ref a, .ref b, .int by1, .int ov]) (Qv D B (fun u => ∃ w9 : Wd, u = (ad, w9) ∧ w9 3 k = some (.inr (3, [.ref b, .int by1, .int ov, .int pr, .int 0, .int 1])) ∧ ∀ f9 j9, ¬ (f9 = 3 ∧ j9 = k) → w9 f9 j9 = w f9 j9)) 0 0 (ab B) := by
  refine Met.ofW (cc := cX3_init) (maxL := 4) (ret := none) (by decide) rfl ?_
  intro p e s m args below meth c s₁ Bd hml hv
  obtain ⟨rfl, hC, hP⟩ := hv
  have hx := Bd.exec
  have hb := Bd.bytes
  have hr := Bd.returns
  have hts := atoms_spec (ws := wsX3_init) Bd.pre
  have hown : s.vm.findClass RX3 = some m.cls := findClass_of_methodNamed Bd.named
  have hlocks := Bd.notSynchronized
  have hin : meth.name = "<init>" := (name_of_methodNamed Bd.named Bd.method).1
  have hS : va_S (ab B) s.heap s.heap [] := va_S.rf
  have hl := lv_entry ([.ref a, .ref b, .int by1, .int ov]) (n := 4) (Nat.le_of_ble_eq_true rfl)
  rw [lg_entry_eq]
  generalize (lg_sl ([.ref a, .ref b, .int by1, .int ov]) ++ List.replicate (4 - (lg_sl ([.ref a, .ref b, .int by1, .int ov])).length) Slot.unset).toArray = ls at hl ⊢
  have hl : lv_has ls 4 [(0, .ref a), (1, .ref b), (2, .int by1), (3, .int ov)] := hl
  refine lv_aload_n hx hb dX3_init_0 rfl (lv_at hl 0 rfl) ?_
  refine W.objInit hx hb hown (hts (.methodLink RX3 1 objectInit) (by decide +kernel)) (hts (.instanceMethod objectInit) (by decide +kernel)) (hts (.code objectInit ⟨#[0xb1]⟩ 1 none) (by decide +kernel)) rfl (by rw [hml]; exact hl.1) rfl dX3_init_1 (Nat.le_of_ble_eq_true rfl) (Nat.le_of_ble_eq_true rfl) ?_
  refine W.eq (g2 := F0 m 4 ls []) rfl ?_
  refine lv_aload_n hx hb dX3_init_4 rfl (lv_at hl 0 rfl) ?_
  refine lv_aload_n hx hb dX3_init_5 rfl (lv_at hl 1 rfl) ?_
  refine w_putFA (f := 3) (k := k) hx hb hts (by decide +kernel) tyX3 tyX3_ok nmX3 hown hC hP hS ha (h3) rfl 0 (by decide) (hts (.fieldLink RX3 7 "BuildingPoints$Subscription" "point" "LBuildingPoints$Point;") (by decide +kernel)) rfl hin rfl rfl rfl (Nat.le_of_ble_eq_true rfl) rfl dX3_init_6 (fun H locs hP hS => ?_)
  refine lv_aload_n hx hb dX3_init_9 rfl (lv_at hl 0 rfl) ?_
  refine lv_iload_n hx hb dX3_init_10 rfl (lv_at hl 2 rfl) ?_
  refine w_putFA (f := 3) (k := k) hx hb hts (by decide +kernel) tyX3 tyX3_ok nmX3 hown hC hP hS ha (u2_self _ _ _ _) rfl 1 (by decide) (hts (.fieldLink RX3 13 "BuildingPoints$Subscription" "increment" "I") (by decide +kernel)) rfl hin rfl rfl rfl (Nat.le_of_ble_eq_true rfl) rfl dX3_init_11 (fun H locs hP hS => ?_)
  have hP := hw_eq hP (u2_two _ _ _ _ _)
  refine lv_aload_n hx hb dX3_init_14 rfl (lv_at hl 0 rfl) ?_
  refine lv_iload_n hx hb dX3_init_15 rfl (lv_at hl 3 rfl) ?_
  refine w_putFA (f := 3) (k := k) hx hb hts (by decide +kernel) tyX3 tyX3_ok nmX3 hown hC hP hS ha (u2_self _ _ _ _) rfl 2 (by decide) (hts (.fieldLink RX3 17 "BuildingPoints$Subscription" "endTime" "I") (by decide +kernel)) rfl hin rfl rfl rfl (Nat.le_of_ble_eq_true rfl) rfl dX3_init_16 (fun H locs hP hS => ?_)
  have hP := hw_eq hP (u2_two _ _ _ _ _)
  refine lv_aload_n hx hb dX3_init_19 rfl (lv_at hl 0 rfl) ?_
  refine lv_aload_n hx hb dX3_init_20 rfl (lv_at hl 1 rfl) ?_
  refine w_getA (f := 1) (k := i) hx hb hts (by decide +kernel) hown hC hP hb9 ((u2_o (by omega)).trans (h1)) rfl 5 (by decide) (hts (.fieldLink RX3 20 "BuildingPoints$Point" "present" "I") (by decide +kernel)) rfl dX3_init_21 ?_
  refine w_putA (f := 3) (k := k) hx hb hts (by decide +kernel) tyX3 tyX3_ok nmX3 hown hC hP hS ha (u2_self _ _ _ _) rfl 3 (by decide) (hts (.fieldLink RX3 25 "BuildingPoints$Subscription" "kept" "I") (by decide +kernel)) rfl rfl rfl (Nat.le_of_ble_eq_true rfl) rfl dX3_init_24 (fun H locs hP hS => ?_)
  have hP := hw_eq hP (u2_two _ _ _ _ _)
  refine lv_aload_n hx hb dX3_init_27 rfl (lv_at hl 0 rfl) ?_
  refine lv_iconst (v := 0) hx hb dX3_init_28 (by decide) ?_
  refine w_putA (f := 3) (k := k) hx hb hts (by decide +kernel) tyX3 tyX3_ok nmX3 hown hC hP hS ha (u2_self _ _ _ _) rfl 4 (by decide) (hts (.fieldLink RX3 28 "BuildingPoints$Subscription" "reportCount" "I") (by decide +kernel)) rfl rfl rfl (Nat.le_of_ble_eq_true rfl) rfl dX3_init_29 (fun H locs hP hS => ?_)
  have hP := hw_eq hP (u2_two _ _ _ _ _)
  refine lv_aload_n hx hb dX3_init_32 rfl (lv_at hl 0 rfl) ?_
  refine lv_iconst (v := 1) hx hb dX3_init_33 (by decide) ?_
  refine w_putA (f := 3) (k := k) hx hb hts (by decide +kernel) tyX3 tyX3_ok nmX3 hown hC hP hS ha (u2_self _ _ _ _) rfl 5 (by decide) (hts (.fieldLink RX3 31 "BuildingPoints$Subscription" "isOpen" "Z") (by decide +kernel)) rfl rfl rfl (Nat.le_of_ble_eq_true rfl) rfl dX3_init_34 (fun H locs hP hS => ?_)
  have hP := hw_eq hP (u2_two _ _ _ _ _)
  exact W.vret hx hb hr (fun t ht hW => Qv_of ⟨_, rfl, (u2_self _ _ _ _), fun f9 j9 y0 => ((u2_o y0).trans rfl)⟩ hP hS ht) hS.2.2 dX3_init_37
set_option maxHeartbeats 4000000 in
set_option maxRecDepth 100000 in
theorem c_X0_init (l : Launch) (D : va_G) (B : Nat) (ad : Ad) (w : Wd) (k a : Nat) (ha : ad 0 k = a) (h0 : w 0 k = some (.inr (0, [.null, .null, .null, .int 0]))) (hn : ∀ f, f = 9 ∨ f = 10 ∨ f = 11 → w f k = none) : Met l yX0_init wsX0_init ({ frames := 1, cells := 3, slots := 60, locals := 24 }) (Pre D B ad (w) [.ref a]) (Qv D B (fun u => ∃ (q9 q10 q11 : Nat) (w9 : Wd), u = (a2 (a2 (a2 ad 9 k q9) 10 k q10) 11 k q11, w9) ∧ w9 0 k = some (.inr (0, [.ref q9, .ref q10, .ref q11, .int 0])) ∧ w9 9 k = some (eI D 20 (fun _ => 0)) ∧ w9 10 k = some (eI D 20 (fun _ => 0)) ∧ w9 11 k = some (eI D 20 (fun _ => 0)) ∧ ∀ f9 j9, ¬ (f9 = 0 ∧ j9 = k) → ¬ (f9 = 9 ∧ j9 = k) → ¬ (f9 = 10 ∧ j9 = k) → ¬ (f9 = 11 ∧ j9 = k) → w9 f9 j9 = w f9 j9)) 3 60 (ab B) := by
  refine Met.ofW (cc := cX0_init) (maxL := 1) (ret := none) (by decide) rfl ?_
  intro p e s m args below meth c s₁ Bd hml hv
  obtain ⟨rfl, hC, hP⟩ := hv
  have hx := Bd.exec
  have hb := Bd.bytes
  have hr := Bd.returns
  have hts := atoms_spec (ws := wsX0_init) Bd.pre
  have hown : s.vm.findClass RX0 = some m.cls := findClass_of_methodNamed Bd.named
  have hlocks := Bd.notSynchronized
  have hin : meth.name = "<init>" := (name_of_methodNamed Bd.named Bd.method).1
  have hS : va_S (ab B) s.heap s.heap [] := va_S.rf
  have hl := lv_entry ([.ref a]) (n := 1) (Nat.le_of_ble_eq_true rfl)
  rw [lg_entry_eq]
  generalize (lg_sl ([.ref a]) ++ List.replicate (1 - (lg_sl ([.ref a])).length) Slot.unset).toArray = ls at hl ⊢
  have hl : lv_has ls 1 [(0, .ref a)] := hl
  refine lv_aload_n hx hb dX0_init_0 rfl (lv_at hl 0 rfl) ?_
  refine W.objInit hx hb hown (hts (.methodLink RX0 3 objectInit) (by decide +kernel)) (hts (.instanceMethod objectInit) (by decide +kernel)) (hts (.code objectInit ⟨#[0xb1]⟩ 1 none) (by decide +kernel)) rfl (by rw [hml]; exact hl.1) rfl dX0_init_1 (Nat.le_of_ble_eq_true rfl) (Nat.le_of_ble_eq_true rfl) ?_
  refine W.eq (g2 := F0 m 4 ls []) rfl ?_
  refine lv_aload_n hx hb dX0_init_4 rfl (lv_at hl 0 rfl) ?_
  refine lv_bipush (v := (20)) hx hb dX0_init_5 (by decide) ?_
  refine w_newa (atype := .int) hx hb (hts (.arrayClass .int) (by decide +kernel)) 0 rfl (fun C z => by cases z) hC hP hS (N' := 20) (a0 := (20, .inl (fun _ => 0))) (fun _ => vp_cell_i _ _ _) (by decide) (by decide) (show 20 * 4 ≤ 536870912 by decide) (Nat.le_of_ble_eq_true rfl) (Nat.le_of_ble_eq_true rfl) 9 k (hn 9 (by decide)) dX0_init_7 (fun q_1 H hqq_1 hP hS => ?_)
  clear hqq_1
  refine w_putFA (f := 0) (k := k) hx hb hts (by decide +kernel) tyX0 tyX0_ok nmX0 hown hC hP hS ((a2_o (by omega)).trans ha) ((u2_o (by omega)).trans (h0)) rfl 0 (by decide) (hts (.fieldLink RX0 9 "BuildingPoints$Entries" "days" "[I") (by decide +kernel)) rfl hin rfl rfl rfl (Nat.le_of_ble_eq_true rfl) rfl dX0_init_9 (fun H locs hP hS => ?_)
  refine lv_aload_n hx hb dX0_init_12 rfl (lv_at hl 0 rfl) ?_
  refine lv_bipush (v := (20)) hx hb dX0_init_13 (by decide) ?_
  refine w_newa (atype := .int) hx hb (hts (.arrayClass .int) (by decide +kernel)) 0 rfl (fun C z => by cases z) hC hP hS (N' := 20) (a0 := (20, .inl (fun _ => 0))) (fun _ => vp_cell_i _ _ _) (by decide) (by decide) (show 20 * 4 ≤ 536870912 by decide) (Nat.le_of_ble_eq_true rfl) (Nat.le_of_ble_eq_true rfl) 10 k ((u2_o (by omega)).trans ((u2_o (by omega)).trans (hn 10 (by decide)))) dX0_init_15 (fun q_2 H hqq_2 hP hS => ?_)
  clear hqq_2
  refine w_putFA (f := 0) (k := k) hx hb hts (by decide +kernel) tyX0 tyX0_ok nmX0 hown hC hP hS ((a2_o (by omega)).trans ((a2_o (by omega)).trans ha)) ((u2_o (by omega)).trans (u2_self _ _ _ _)) rfl 1 (by decide) (hts (.fieldLink RX0 15 "BuildingPoints$Entries" "minutes" "[I") (by decide +kernel)) rfl hin rfl rfl rfl (Nat.le_of_ble_eq_true rfl) rfl dX0_init_17 (fun H locs hP hS => ?_)
  refine lv_aload_n hx hb dX0_init_20 rfl (lv_at hl 0 rfl) ?_
  refine lv_bipush (v := (20)) hx hb dX0_init_21 (by decide) ?_
  refine w_newa (atype := .int) hx hb (hts (.arrayClass .int) (by decide +kernel)) 0 rfl (fun C z => by cases z) hC hP hS (N' := 20) (a0 := (20, .inl (fun _ => 0))) (fun _ => vp_cell_i _ _ _) (by decide) (by decide) (show 20 * 4 ≤ 536870912 by decide) (Nat.le_of_ble_eq_true rfl) (Nat.le_of_ble_eq_true rfl) 11 k ((u2_o (by omega)).trans ((u2_o (by omega)).trans ((u2_o (by omega)).trans ((u2_o (by omega)).trans (hn 11 (by decide)))))) dX0_init_23 (fun q_3 H hqq_3 hP hS => ?_)
  clear hqq_3
  refine w_putFA (f := 0) (k := k) hx hb hts (by decide +kernel) tyX0 tyX0_ok nmX0 hown hC hP hS ((a2_o (by omega)).trans ((a2_o (by omega)).trans ((a2_o (by omega)).trans ha))) ((u2_o (by omega)).trans (u2_self _ _ _ _)) rfl 2 (by decide) (hts (.fieldLink RX0 18 "BuildingPoints$Entries" "told" "[I") (by decide +kernel)) rfl hin rfl rfl rfl (Nat.le_of_ble_eq_true rfl) rfl dX0_init_25 (fun H locs hP hS => ?_)
  refine lv_aload_n hx hb dX0_init_28 rfl (lv_at hl 0 rfl) ?_
  refine lv_iconst (v := 0) hx hb dX0_init_29 (by decide) ?_
  refine w_putA (f := 0) (k := k) hx hb hts (by decide +kernel) tyX0 tyX0_ok nmX0 hown hC hP hS ((a2_o (by omega)).trans ((a2_o (by omega)).trans ((a2_o (by omega)).trans ha))) (u2_self _ _ _ _) rfl 3 (by decide) (hts (.fieldLink RX0 21 "BuildingPoints$Entries" "count" "I") (by decide +kernel)) rfl rfl rfl (Nat.le_of_ble_eq_true rfl) rfl dX0_init_30 (fun H locs hP hS => ?_)
  have hP := hw_eq hP (u2_two _ _ _ _ _)
  exact W.vret hx hb hr (fun t ht hW => Qv_of ⟨_, _, _, _, rfl, (u2_self _ _ _ _), ((u2_o (by omega)).trans ((u2_o (by omega)).trans ((u2_o (by omega)).trans ((u2_o (by omega)).trans ((u2_o (by omega)).trans (u2_self _ _ _ _)))))), ((u2_o (by omega)).trans ((u2_o (by omega)).trans ((u2_o (by omega)).trans (u2_self _ _ _ _)))), ((u2_o (by omega)).trans (u2_self _ _ _ _)), fun f9 j9 y0 y1 y2 y3 => ((u2_o y0).trans ((u2_o y3).trans ((u2_o y0).trans ((u2_o y2).trans ((u2_o y0).trans ((u2_o y1).trans rfl))))))⟩ hP hS ht) hS.2.2 dX0_init_33
set_option maxHeartbeats 4000000 in
set_option maxRecDepth 100000 in
theorem c_X2_init (l : Launch) (D : va_G) (B : Nat) (ad : Ad) (w : Wd) (k a i b : Nat) (ha : ad 2 k = a) (h2 : w 2 k = some (.inr (2, [.null, .int 0, .null, .null, .int 0]))) (hn : ∀ f9 j9, (f9 = 0 ∨ f9 = 9 ∨ f9 = 10 ∨ f9 = 11) → (j9 = 2 * k ∨ j9 = 2 * k + 1) → w f9 j9 = none) (pr : Int32) : Met l yX2_init wsX2_init ({ frames := 2, cells := 8, slots := 128, locals := 44 }) (Pre D B ad (w) [.ref a, .ref b, .int pr]) (Qv D B (fun u => ∃ (ad9 : Ad) (w9 : Wd), u = (ad9, w9) ∧ (∀ f9 j9, ¬ ((f9 = 0 ∨ f9 = 9 ∨ f9 = 10 ∨ f9 = 11) ∧ (j9 = 2 * k ∨ j9 = 2 * k + 1)) → ad9 f9 j9 = ad f9 j9) ∧ w9 2 k = some (.inr (2, [.ref b, .int pr, .ref (ad9 0 (2 * k)), .ref (ad9 0 (2 * k + 1)), .int nth])) ∧ (∀ e9, e9 = 2 * k ∨ e9 = 2 * k + 1 → w9 0 e9 = some (.inr (0, [.ref (ad9 9 e9), .ref (ad9 10 e9), .ref (ad9 11 e9), .int 0])) ∧ w9 9 e9 = some (eI D 20 (fun _ => 0)) ∧ w9 10 e9 = some (eI D 20 (fun _ => 0)) ∧ w9 11 e9 = some (eI D 20 (fun _ => 0))) ∧ (∀ f9 j9, ¬ (f9 = 2 ∧ j9 = k) → ¬ ((f9 = 0 ∨ f9 = 9 ∨ f9 = 10 ∨ f9 = 11) ∧ (j9 = 2 * k ∨ j9 = 2 * k + 1)) → w9 f9 j9 = w f9 j9))) 8 128 (ab B) := by
  refine Met.ofW (cc := cX2_init) (maxL := 3) (ret := none) (by decide) rfl ?_
  intro p e s m args below meth c s₁ Bd hml hv
  obtain ⟨rfl, hC, hP⟩ := hv
  have hx := Bd.exec
  have hb := Bd.bytes
  have hr := Bd.returns
  have hts := atoms_spec (ws := wsX2_init) Bd.pre
  have hown : s.vm.findClass RX2 = some m.cls := findClass_of_methodNamed Bd.named
  have hlocks := Bd.notSynchronized
  have hin : meth.name = "<init>" := (name_of_methodNamed Bd.named Bd.method).1
  have hS : va_S (ab B) s.heap s.heap [] := va_S.rf
  have hl := lv_entry ([.ref a, .ref b, .int pr]) (n := 3) (Nat.le_of_ble_eq_true rfl)
  rw [lg_entry_eq]
  generalize (lg_sl ([.ref a, .ref b, .int pr]) ++ List.replicate (3 - (lg_sl ([.ref a, .ref b, .int pr])).length) Slot.unset).toArray = ls at hl ⊢
  have hl : lv_has ls 3 [(0, .ref a), (1, .ref b), (2, .int pr)] := hl
  refine lv_aload_n hx hb dX2_init_0 rfl (lv_at hl 0 rfl) ?_
  refine W.objInit hx hb hown (hts (.methodLink RX2 3 objectInit) (by decide +kernel)) (hts (.instanceMethod objectInit) (by decide +kernel)) (hts (.code objectInit ⟨#[0xb1]⟩ 1 none) (by decide +kernel)) rfl (by rw [hml]; exact hl.1) rfl dX2_init_1 (Nat.le_of_ble_eq_true rfl) (Nat.le_of_ble_eq_true rfl) ?_
  refine W.eq (g2 := F0 m 4 ls []) rfl ?_
  refine lv_aload_n hx hb dX2_init_4 rfl (lv_at hl 0 rfl) ?_
  refine lv_aload_n hx hb dX2_init_5 rfl (lv_at hl 1 rfl) ?_
  refine w_putFA (f := 2) (k := k) hx hb hts (by decide +kernel) tyX2 tyX2_ok nmX2 hown hC hP hS ha (h2) rfl 0 (by decide) (hts (.fieldLink RX2 9 "BuildingPoints$Schedule" "point" "LBuildingPoints$Point;") (by decide +kernel)) rfl hin rfl rfl rfl (Nat.le_of_ble_eq_true rfl) rfl dX2_init_6 (fun H locs hP hS => ?_)
  refine lv_aload_n hx hb dX2_init_9 rfl (lv_at hl 0 rfl) ?_
  refine lv_iload_n hx hb dX2_init_10 rfl (lv_at hl 2 rfl) ?_
  refine w_putFA (f := 2) (k := k) hx hb hts (by decide +kernel) tyX2 tyX2_ok nmX2 hown hC hP hS ha (u2_self _ _ _ _) rfl 1 (by decide) (hts (.fieldLink RX2 15 "BuildingPoints$Schedule" "priority" "I") (by decide +kernel)) rfl hin rfl rfl rfl (Nat.le_of_ble_eq_true rfl) rfl dX2_init_11 (fun H locs hP hS => ?_)
  have hP := hw_eq hP (u2_two _ _ _ _ _)
  refine lv_aload_n hx hb dX2_init_14 rfl (lv_at hl 0 rfl) ?_
  refine w_new (ci := 0) hx hb hts (by decide +kernel) tyX0 tyX0_ok hown (hts (.classLink RX2 19 "BuildingPoints$Entries") (by decide +kernel)) (hts (.instantiable "BuildingPoints$Entries" 4) (by decide +kernel)) (hts (.initialized "BuildingPoints$Entries") (by decide +kernel)) hC hP hS rfl (fs := [.null, .null, .null, .int 0]) (by decide) (Nat.le_of_ble_eq_true rfl) (Nat.le_of_ble_eq_true rfl) 0 (2 * k) ((u2_o (by omega)).trans (hn _ _ (by omega) (by omega))) dX2_init_15 (fun q_1 H hqq_1 hP hS => ?_)
  clear hqq_1
  refine lv_dup hx hb dX2_init_18 rfl ?_
  refine w_callv (va_runI (As := []) (rest := [.ref q_1, .ref a]) ⟨hx, hb, hml, hown, hts⟩ (c_X0_init l D B (a2 ad 0 (2 * k) q_1) (u2 (u2 (w) 2 k (.inr (2, [.ref b, .int pr, .null, .null, .int 0]))) 0 (2 * k) (.inr (0, [.null, .null, .null, .int 0]))) (2 * k) q_1 a2_s (u2_self _ _ _ _) (fun f z => by rcases z with rfl | rfl | rfl <;> exact ((u2_o (by omega)).trans ((u2_o (by omega)).trans (hn _ _ (by omega) (by omega)))))) (cwI 0 hts gX2_init_X0_init rfl rfl rfl (hts (.initialized RX0) (by decide +kernel)) (hts (.methodLink RX2 21 yX0_init) (by decide +kernel)) (hts (.instanceMethod yX0_init) (by decide +kernel)) rfl (by decide +kernel) ⟨Nat.le_of_ble_eq_true rfl, Nat.le_of_ble_eq_true rfl⟩) (w_preS hC hP hS) rfl rfl hl.1 rfl (lv_room (Nat.le_of_ble_eq_true rfl)) dX2_init_19 ⟨Nat.le_of_ble_eq_true rfl, Nat.le_of_ble_eq_true rfl⟩) hS (fun ad1 w1 H locs hq hP hS => ?_)
  obtain ⟨z_3a, z_3b, z_3c, z_3w, hu, hz_30, hz_39, hz_310, hz_311, hz_3o⟩ := hq
  obtain ⟨h81, h82⟩ := Prod.mk.inj hu
  subst h81
  have h82 := h82.symm
  subst h82
  refine w_putFA (f := 2) (k := k) hx hb hts (by decide +kernel) tyX2 tyX2_ok nmX2 hown hC hP hS ((a2_o (by omega)).trans ((a2_o (by omega)).trans ((a2_o (by omega)).trans ((a2_o (by omega)).trans ha)))) ((hz_3o _ _ (by omega) (by omega) (by omega) (by omega)).trans ((u2_o (by omega)).trans (u2_self _ _ _ _))) rfl 2 (by decide) (hts (.fieldLink RX2 22 "BuildingPoints$Schedule" "weekdays" "LBuildingPoints$Entries;") (by decide +kernel)) rfl hin rfl rfl rfl (Nat.le_of_ble_eq_true rfl) rfl dX2_init_22 (fun H locs hP hS => ?_)
  refine lv_aload_n hx hb dX2_init_25 rfl (lv_at hl 0 rfl) ?_
  refine w_new (ci := 0) hx hb hts (by decide +kernel) tyX0 tyX0_ok hown (hts (.classLink RX2 19 "BuildingPoints$Entries") (by decide +kernel)) (hts (.instantiable "BuildingPoints$Entries" 4) (by decide +kernel)) (hts (.initialized "BuildingPoints$Entries") (by decide +kernel)) hC hP hS rfl (fs := [.null, .null, .null, .int 0]) (by decide) (Nat.le_of_ble_eq_true rfl) (Nat.le_of_ble_eq_true rfl) 0 (2 * k + 1) ((u2_o (by omega)).trans ((hz_3o _ _ (by omega) (by omega) (by omega) (by omega)).trans ((u2_o (by omega)).trans ((u2_o (by omega)).trans (hn _ _ (by omega) (by omega)))))) dX2_init_26 (fun q_4 H hqq_4 hP hS => ?_)
  clear hqq_4
  refine lv_dup hx hb dX2_init_29 rfl ?_
  refine w_callv (va_runI (As := []) (rest := [.ref q_4, .ref a]) ⟨hx, hb, hml, hown, hts⟩ (c_X0_init l D B (a2 (a2 (a2 (a2 (a2 ad 0 (2 * k) q_1) 9 (2 * k) z_3a) 10 (2 * k) z_3b) 11 (2 * k) z_3c) 0 (2 * k + 1) q_4) (u2 (u2 (z_3w) 2 k (.inr (2, [.ref b, .int pr, .ref q_1, .null, .int 0]))) 0 (2 * k + 1) (.inr (0, [.null, .null, .null, .int 0]))) (2 * k + 1) q_4 a2_s (u2_self _ _ _ _) (fun f z => by rcases z with rfl | rfl | rfl <;> exact ((u2_o (by omega)).trans ((u2_o (by omega)).trans ((hz_3o _ _ (by omega) (by omega) (by omega) (by omega)).trans ((u2_o (by omega)).trans ((u2_o (by omega)).trans (hn _ _ (by omega) (by omega))))))))) (cwI 0 hts gX2_init_X0_init rfl rfl rfl (hts (.initialized RX0) (by decide +kernel)) (hts (.methodLink RX2 21 yX0_init) (by decide +kernel)) (hts (.instanceMethod yX0_init) (by decide +kernel)) rfl (by decide +kernel) ⟨Nat.le_of_ble_eq_true rfl, Nat.le_of_ble_eq_true rfl⟩) (w_preS hC hP hS) rfl rfl hl.1 rfl (lv_room (Nat.le_of_ble_eq_true rfl)) dX2_init_30 ⟨Nat.le_of_ble_eq_true rfl, Nat.le_of_ble_eq_true rfl⟩) hS (fun ad1 w1 H locs hq hP hS => ?_)
  obtain ⟨z_6a, z_6b, z_6c, z_6w, hu, hz_60, hz_69, hz_610, hz_611, hz_6o⟩ := hq
  obtain ⟨h81, h82⟩ := Prod.mk.inj hu
  subst h81
  have h82 := h82.symm
  subst h82
  refine w_putFA (f := 2) (k := k) hx hb hts (by decide +kernel) tyX2 tyX2_ok nmX2 hown hC hP hS ((a2_o (by omega)).trans ((a2_o (by omega)).trans ((a2_o (by omega)).trans ((a2_o (by omega)).trans ((a2_o (by omega)).trans ((a2_o (by omega)).trans ((a2_o (by omega)).trans ((a2_o (by omega)).trans ha)))))))) ((hz_6o _ _ (by omega) (by omega) (by omega) (by omega)).trans ((u2_o (by omega)).trans (u2_self _ _ _ _))) rfl 3 (by decide) (hts (.fieldLink RX2 26 "BuildingPoints$Schedule" "singleDays" "LBuildingPoints$Entries;") (by decide +kernel)) rfl hin rfl rfl rfl (Nat.le_of_ble_eq_true rfl) rfl dX2_init_33 (fun H locs hP hS => ?_)
  refine lv_aload_n hx hb dX2_init_36 rfl (lv_at hl 0 rfl) ?_
  refine lv_ldc (v := (-100000)) hx hb hown (hts (.constant RX2 29 (-100000)) (by decide +kernel)) dX2_init_37 ?_
  refine w_top (v := nth) rfl ?_
  refine w_putA (f := 2) (k := k) hx hb hts (by decide +kernel) tyX2 tyX2_ok nmX2 hown hC hP hS ((a2_o (by omega)).trans ((a2_o (by omega)).trans ((a2_o (by omega)).trans ((a2_o (by omega)).trans ((a2_o (by omega)).trans ((a2_o (by omega)).trans ((a2_o (by omega)).trans ((a2_o (by omega)).trans ha)))))))) (u2_self _ _ _ _) rfl 4 (by decide) (hts (.fieldLink RX2 30 "BuildingPoints$Schedule" "toldLast" "I") (by decide +kernel)) rfl rfl rfl (Nat.le_of_ble_eq_true rfl) rfl dX2_init_39 (fun H locs hP hS => ?_)
  have hP := hw_eq hP (u2_two _ _ _ _ _)
  exact W.vret hx hb hr (fun t ht hW => Qv_of ⟨_, _, rfl, fun f9 j9 y => ((a2_o (by omega)).trans ((a2_o (by omega)).trans ((a2_o (by omega)).trans ((a2_o (by omega)).trans ((a2_o (by omega)).trans ((a2_o (by omega)).trans ((a2_o (by omega)).trans ((a2_o (by omega)).trans rfl)))))))), ((u2_self _ _ _ _).trans (by simp [a2])), fun e9 he9 => by rcases he9 with rfl | rfl; exact ⟨(((u2_o (by omega)).trans ((hz_6o _ _ (by omega) (by omega) (by omega) (by omega)).trans ((u2_o (by omega)).trans ((u2_o (by omega)).trans (hz_30))))).trans (by simp [a2])), ((u2_o (by omega)).trans ((hz_6o _ _ (by omega) (by omega) (by omega) (by omega)).trans ((u2_o (by omega)).trans ((u2_o (by omega)).trans (hz_39))))), ((u2_o (by omega)).trans ((hz_6o _ _ (by omega) (by omega) (by omega) (by omega)).trans ((u2_o (by omega)).trans ((u2_o (by omega)).trans (hz_310))))), ((u2_o (by omega)).trans ((hz_6o _ _ (by omega) (by omega) (by omega) (by omega)).trans ((u2_o (by omega)).trans ((u2_o (by omega)).trans (hz_311)))))⟩; exact ⟨(((u2_o (by omega)).trans (hz_60)).trans (by simp [a2])), ((u2_o (by omega)).trans (hz_69)), ((u2_o (by omega)).trans (hz_610)), ((u2_o (by omega)).trans (hz_611))⟩, fun f9 j9 y1 y2 => ((u2_o (by omega)).trans ((hz_6o _ _ (by omega) (by omega) (by omega) (by omega)).trans ((u2_o (by omega)).trans ((u2_o (by omega)).trans ((hz_3o _ _ (by omega) (by omega) (by omega) (by omega)).trans ((u2_o (by omega)).trans ((u2_o (by omega)).trans rfl)))))))⟩ hP hS ht) hS.2.2 dX2_init_42
