/-! the loop -/
theorem lp_in {L i : Nat} (hL : L ≤ 2560) (hi : i ≤ 2564) (h : ¬ (nI L - 5 < nI i)) : i + 5 ≤ L := by
  have q : ¬ (nI L - 5).toInt < (nI i).toInt := fun z => h (Int32.lt_iff_toInt_lt.mpr z)
  have e : (nI L - 5).toInt = (L : Int) - 5 := by
    rw [Int32.toInt_sub, nI_toInt (by omega), show (5 : Int32).toInt = 5 by decide]
    exact Int.bmod_eq_of_le (by omega) (by omega)
  rw [e, nI_toInt (by omega)] at q
  omega
theorem lp_sw (x : Int32) : (x.toInt < 0 ∨ 18 < x.toInt) ∨ ∃ k : Nat, k < 19 ∧ x.toInt = (k : Int) := by
  by_cases h1 : x.toInt < 0
  · exact Or.inl (Or.inl h1)
  · by_cases h2 : 18 < x.toInt
    · exact Or.inl (Or.inr h2)
    · exact Or.inr ⟨x.toInt.toNat, by omega, by omega⟩
set_option maxHeartbeats 4000000 in
set_option maxRecDepth 100000 in
theorem lw_loop {p : Program} {l : Launch} {e : Env} {s : State} {m : MethodId} {below : List Frame} {meth : Method} {c : Code} {b L : Nat} {xs : Nat → Int32} {D : va_G} (A : LoA p l s m c b L xs D) {Q : State → Prop} (hend : ∀ (H : Heap) (locs : List Loc) (ls : Array Slot) (cells slots : Nat), cells ≤ room_1.cells → slots ≤ room_1.slots → va_S (ab s.heap.size) s.heap H locs → W p l e room_1 s m #[Value.ref b] below meth c H locs cells slots Q (F0 m 1310 ls [])) :
    ∀ (n i cells slots : Nat) (ad : Ad) (g : GC) (σ : Me) (d th : Int32) (o : Int64) (H : Heap) (locs : List Loc) (ls : Array Slot), i ≤ L + 4 → L + 5 ≤ i + 5 * n → cells + 12 * n ≤ room_1.cells → slots + 151 * n ≤ room_1.slots → LoS D s b i ad g σ d th o H locs ls → W p l e room_1 s m #[Value.ref b] below meth c H locs cells slots Q (F0 m 23 ls [])
  | 0, i, cells, slots, ad, g, σ, d, th, o, H, locs, ls, h1, h2, h3, h4, Z => absurd h2 (by omega)
  | n + 1, i, cells, slots, ad, g, σ, d, th, o, H, locs, ls, h1, h2, h3, h4, Z => by
    obtain ⟨hns, hx, hb, hml, hown, hts, hX, hbl, hL, hC⟩ := id A
    obtain ⟨hP, hS, hR, hl⟩ := id Z
    have hcc : cells + 12 ≤ room_1.cells := by omega
    have hcs : slots + 151 ≤ room_1.slots := by omega
    refine lv_iload hx hb dL_law_23 (lv_at hl 0 rfl) ?_
    refine lv_aload_n hx hb dL_law_25 rfl (lv_at hl 4 rfl) ?_
    refine va_slen hx hb hX hbl (Nat.not_le.mpr hbl) hS dL_law_26 ?_
    refine lv_iconst (v := 5) hx hb dL_law_27 (by decide) ?_
    refine lv_isub hx hb dL_law_28 ?_
    refine lv_icmp_gt (tgt := 1310) hx hb dL_law_29 (by decide) (fun _ => hend H locs ls cells slots (by omega) (by omega) hS) (fun c1 => ?_)
    have hi : i + 5 ≤ L := lp_in hL (by omega) c1
    have K : LoK p l e s m below meth c b i D cells slots Q := by
      intro ad g σ d th o H locs ls Z
      obtain ⟨hP, hS, hR, hl⟩ := Z
      refine lv_iinc (v := nI (i + 5)) (lv' := lvs ad b (i + 5)) hx hb dL_law_1304 hl (k := 0) rfl (nI_add i 5) (by decide) rfl (fun ls hl => ?_)
      refine lv_goto (tgt := 23) hx hb dL_law_1307 (by decide) ?_
      exact lw_loop A hend n (i + 5) (cells + 12) (slots + 151) ad g σ d th o H locs ls (by omega) (by omega) (by omega) (by omega) ⟨hP, hS, hR, hl⟩
    refine lv_aload_n hx hb dL_law_32 rfl (lv_at hl 4 rfl) ?_
    refine lv_iload hx hb dL_law_33 (lv_at hl 0 rfl) ?_
    refine w_sld hx hb hX hbl rfl hS (by omega) hL dL_law_35 ?_
    refine lv_bipush (v := 31) hx hb dL_law_36 (by decide) ?_
    refine lv_iand hx hb dL_law_38 ?_
    generalize xs i &&& 31 = x
    rcases lp_sw x with h9 | ⟨k, hk, h9⟩
    · refine lv_tableOut (tgt := 1304) hx hb dL_law_39 h9 (by decide) ?_
      refine W.widen (k := cells + 12) (n := slots + 151) (Nat.le_add_right _ _) (Nat.le_add_right _ _) ?_
      exact K ad g σ d th o H locs ls ⟨hP, hS, hR, hl⟩
    · match k, hk, h9 with
      | 0, _, h9 => exact lv_tableIn (tgt := 128) hx hb dL_law_39 (by rw [h9]; decide) (by rw [h9]; decide) (off := 89) (by rw [h9]; rfl) (by decide) (lc_addMeasure A hcc hcs hi Z K)
      | 1, _, h9 => exact lv_tableIn (tgt := 184) hx hb dL_law_39 (by rw [h9]; decide) (by rw [h9]; decide) (off := 145) (by rw [h9]; rfl) (by decide) (lc_addSwitch A hcc hcs hi Z K)
      | 2, _, h9 => exact lv_tableIn (tgt := 252) hx hb dL_law_39 (by rw [h9]; decide) (by rw [h9]; decide) (off := 213) (by rw [h9]; rfl) (by decide) (lc_write A hcc hcs hi Z K)
      | 3, _, h9 => exact lv_tableIn (tgt := 332) hx hb dL_law_39 (by rw [h9]; decide) (by rw [h9]; decide) (off := 293) (by rw [h9]; rfl) (by decide) (lc_value A hcc hcs hi Z K)
      | 4, _, h9 => exact lv_tableIn (tgt := 388) hx hb dL_law_39 (by rw [h9]; decide) (by rw [h9]; decide) (off := 349) (by rw [h9]; rfl) (by decide) (lc_command A hcc hcs hi Z K)
      | 5, _, h9 => exact lv_tableIn (tgt := 456) hx hb dL_law_39 (by rw [h9]; decide) (by rw [h9]; decide) (off := 417) (by rw [h9]; rfl) (by decide) (lc_standing A hcc hcs hi Z K)
      | 6, _, h9 => exact lv_tableIn (tgt := 512) hx hb dL_law_39 (by rw [h9]; decide) (by rw [h9]; decide) (off := 473) (by rw [h9]; rfl) (by decide) (lc_held A hcc hcs hi Z K)
      | 7, _, h9 => exact lv_tableIn (tgt := 568) hx hb dL_law_39 (by rw [h9]; decide) (by rw [h9]; decide) (off := 529) (by rw [h9]; rfl) (by decide) (lc_changes A hcc hcs hi Z K)
      | 8, _, h9 => exact lv_tableIn (tgt := 624) hx hb dL_law_39 (by rw [h9]; decide) (by rw [h9]; decide) (off := 585) (by rw [h9]; rfl) (by decide) (lc_subscribe A hcc hcs hi Z K)
      | 9, _, h9 => exact lv_tableIn (tgt := 704) hx hb dL_law_39 (by rw [h9]; decide) (by rw [h9]; decide) (off := 665) (by rw [h9]; rfl) (by decide) (lc_end A hcc hcs hi Z K)
      | 10, _, h9 => exact lv_tableIn (tgt := 740) hx hb dL_law_39 (by rw [h9]; decide) (by rw [h9]; decide) (off := 701) (by rw [h9]; rfl) (by decide) (lc_goesOn A hcc hcs hi Z K)
      | 11, _, h9 => exact lv_tableIn (tgt := 803) hx hb dL_law_39 (by rw [h9]; decide) (by rw [h9]; decide) (off := 764) (by rw [h9]; rfl) (by decide) (lc_reports A hcc hcs hi Z K)
      | 12, _, h9 => exact lv_tableIn (tgt := 859) hx hb dL_law_39 (by rw [h9]; decide) (by rw [h9]; decide) (off := 820) (by rw [h9]; rfl) (by decide) (lc_reported A hcc hcs hi Z K)
      | 13, _, h9 => exact lv_tableIn (tgt := 915) hx hb dL_law_39 (by rw [h9]; decide) (by rw [h9]; decide) (off := 876) (by rw [h9]; rfl) (by decide) (lc_addSchedule A hcc hcs hi Z K)
      | 14, _, h9 => exact lv_tableIn (tgt := 983) hx hb dL_law_39 (by rw [h9]; decide) (by rw [h9]; decide) (off := 944) (by rw [h9]; rfl) (by decide) (lc_weekly A hcc hcs hi Z K)
      | 15, _, h9 => exact lv_tableIn (tgt := 1075) hx hb dL_law_39 (by rw [h9]; decide) (by rw [h9]; decide) (off := 1036) (by rw [h9]; rfl) (by decide) (lc_once A hcc hcs hi Z K)
      | 16, _, h9 => exact lv_tableIn (tgt := 1167) hx hb dL_law_39 (by rw [h9]; decide) (by rw [h9]; decide) (off := 1128) (by rw [h9]; rfl) (by decide) (lc_tells A hcc hcs hi Z K)
      | 17, _, h9 => exact lv_tableIn (tgt := 1235) hx hb dL_law_39 (by rw [h9]; decide) (by rw [h9]; decide) (off := 1196) (by rw [h9]; rfl) (by decide) (lc_pass A hcc hcs hi Z K)
      | 18, _, h9 => exact lv_tableIn (tgt := 1291) hx hb dL_law_39 (by rw [h9]; decide) (by rw [h9]; decide) (off := 1252) (by rw [h9]; rfl) (by decide) (lc_clock A hcc hcs hi Z K)
      | k + 19, hk, _ => exact absurd hk (by omega)
