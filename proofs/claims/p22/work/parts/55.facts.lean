/-! p22: what the law's checks of a point and of a subscription read -/
theorem toI_0 : (0 : Int32).toInt = 0 := by decide
theorem nI_ltz {n : Nat} (h : n < 2 ^ 31) : ¬ nI n < 0 := nI_pos h
section PF
variable {t N k : Nat} {g : GC} {σ μ : Me}
theorem pt_d (J : Jt t N g σ μ) (hk : k < g.1) : μ 0 0 k = σ 2 k 0 := (J.2.2.2.2.2.1.2.2.2.1 k hk).1
theorem pt_d16 (J : Jt t N g σ μ) (hk : k < g.1) : μ 0 0 (16 + k) = (if σ 1 k 0 = 1 then σ 3 k 0 else -1) := (J.2.2.2.2.2.1.2.2.2.1 k hk).2
theorem pt_ge (J : Jt t N g σ μ) (hk : k < g.1) (h : 0 ≤ μ 0 0 (16 + k)) : σ 1 k 0 = 1 ∧ μ 0 0 (16 + k) = σ 3 k 0 := by
  have e := pt_d16 J hk
  by_cases h1 : σ 1 k 0 = 1
  · rw [if_pos h1] at e; exact ⟨h1, e⟩
  · rw [if_neg h1] at e; rw [e] at h; exact absurd h (by decide)
theorem pt_lt (J : Jt t N g σ μ) (hk : k < g.1) (h : ¬ 0 ≤ μ 0 0 (16 + k)) : σ 1 k 0 = 0 := by
  have e := pt_d16 J hk
  obtain ⟨h1, -, ⟨h3, -⟩, -⟩ := (Jt_I J).2.2.2.1 k hk
  rcases h1 with z | z
  · exact z
  · rw [if_pos z] at e
    exact absurd (le_toI.mpr (by rw [e, toI_0]; exact h3)) h
theorem its_in (J : Jt t N g σ μ) (hk : k < g.1) {j : Nat} (hj : j < 17) (h : ¬ σ 6 k j = nth) : inP σ k (σ 6 k j) := (((Jt_I J).2.2.2.1 k hk).2.2.2.1 j hj).resolve_left h
theorem sw_in {x : Int32} (h : inP σ k x) (h1 : σ 1 k 0 = 1) : ¬ x < 0 ∧ x ≤ 1 := by
  have q := inP_sw h h1
  refine ⟨fun z => ?_, le_toI.mpr ?_⟩
  · have := lt_toI.mp z; rw [toI_0] at this; omega
  · rw [show (1 : Int32).toInt = 1 by decide]; omega
theorem me_in {x : Int32} (h : inP σ k x) (h1 : σ 1 k 0 = 0) : ¬ x < -1000 ∧ x ≤ 1000 := by
  unfold inP at h
  rw [h1] at h
  rw [show loF 0 = -1000 by decide, show hiF 0 = 1000 by decide] at h
  exact ⟨Int32.not_lt.mpr h.1, h.2⟩
theorem ch_at (J : Jt t N g σ μ) (hk : k < g.1) : ∃ c : Nat, σ 5 k 0 = nI c ∧ c < 900000 := by
  obtain ⟨-, c, h1, h2, -⟩ := J.2.2.1.1 k hk
  exact ⟨c, h1, by have := J.2.2.2.2.2.2.2.2; omega⟩
theorem ch_0 (J : Jt t N g σ μ) (hk : k < g.1) : ¬ σ 5 k 0 < 0 := by
  obtain ⟨c, h1, h2⟩ := ch_at J hk
  rw [h1]; exact nI_pos (by omega)
theorem he_at (J : Jt t N g σ μ) (hk : k < g.1) : ∃ h : Nat, heO σ k = nI h ∧ h ≤ 2000000 ∧ ((σ 4 k 0 = 0 ∧ h = 0) ∨ (¬ σ 4 k 0 = 0 ∧ 1 ≤ h ∧ ∃ u, σ 4 k 0 = nI u ∧ u ≤ 2000000 ∧ h + t = u)) := by
  obtain ⟨hI, h25, -, hu, -⟩ := J.1
  obtain ⟨u, h1, h2, h3⟩ := hu k hk
  by_cases hz : σ 4 k 0 = 0
  · exact ⟨0, by unfold heO; rw [if_pos hz]; rfl, by omega, Or.inl ⟨hz, rfl⟩⟩
  · have h4 := h3.resolve_left (fun z => hz (by rw [h1, z]; rfl))
    refine ⟨u - t, ?_, by omega, Or.inr ⟨hz, by omega, u, h1, h2, by omega⟩⟩
    unfold heO
    rw [if_neg hz, h1, h25, pk_sub (by omega)]
theorem he_0 (J : Jt t N g σ μ) (hk : k < g.1) : ¬ heO σ k < 0 := by
  obtain ⟨h, h1, h2, -⟩ := he_at J hk
  rw [h1]; exact nI_pos (by omega)
theorem pt_val (J : Jt t N g σ μ) (hk : k < g.1) : σ 7 k 0 = vaO σ k := ((Jt_I J).2.2.2.1 k hk).2.2.2.2
theorem pt_par (J : Jt t N g σ μ) (hk : k < g.1) (h : ¬ μ 0 0 (16 + k) < 0) : vaO σ k = remF (μ 0 0 k + σ 5 k 0) 2 := by
  obtain ⟨h1, -⟩ := pt_ge J hk (Int32.not_lt.mp h)
  obtain ⟨-, c, h2, h3, h4, -⟩ := J.2.2.1.1 k hk
  have h5 := h4 h1
  have hin := inP_sw ((Jt_I J).2.2.2.1 k hk).2.1 h1
  have hN := J.2.2.2.2.2.2.2.2
  have e2 : σ 2 k 0 = nI (σ 2 k 0).toInt.toNat := nI_of_toInt (by omega)
  rw [pt_d J hk, h2, e2, nI_add, show (2 : Int32) = nI 2 from rfl, remN (by omega) (by decide) (by decide), ← pt_val J hk]
  refine Int32.toInt_inj.mp ?_
  rw [h5, nI_toInt (by omega)]
  omega
theorem he_z (J : Jt t N g σ μ) (hk : k < g.1) (h : μ 0 0 (16 + k) ≤ 0) : heO σ k = 0 := by
  obtain ⟨h0, c, -, -, -, h5⟩ := J.2.2.1.1 k hk
  have h3 : ¬ 0 < σ 3 k 0 := by
    have e := pt_d16 J hk
    rcases ((Jt_I J).2.2.2.1 k hk).1 with z | z
    · rw [h0 z]; decide
    · rw [if_pos z] at e; rw [← e]; exact Int32.not_lt.mpr h
  unfold heO
  rw [if_pos (h5.resolve_right (fun z => h3 z.1))]
theorem he_le (J : Jt t N g σ μ) (hk : k < g.1) (h : ¬ μ 0 0 (16 + k) ≤ 0) : ¬ μ 0 0 (16 + k) < heO σ k := by
  have h9 : 0 < μ 0 0 (16 + k) := Int32.not_le.mp h
  obtain ⟨h1, e⟩ := pt_ge J hk (Int32.le_of_lt h9)
  obtain ⟨q, h2, h3, h4⟩ := he_at J hk
  rw [h2]
  intro z
  have z2 := lt_toI.mp z
  have z3 := lt_toI.mp h9
  rw [nI_toInt (by omega)] at z2
  rw [toI_0] at z3
  rcases h4 with ⟨-, h5⟩ | ⟨h4, h5, u, h6, h7, h8⟩
  · omega
  · obtain ⟨-, c, -, -, -, p⟩ := J.2.2.1.1 k hk
    obtain ⟨-, p2, -⟩ := p.resolve_left h4
    rw [h6, J.1.2.1, ← e, nI_toInt (by omega), nI_toInt (by have := J.1.2.2.1; omega)] at p2
    omega
theorem he_6 (J : Jt t N g σ μ) (hk : k < g.1) (h : ¬ heO σ k = 0) : ¬ σ 6 k 6 = nth ∧ ¬ σ 5 k 0 ≤ 0 := by
  obtain ⟨-, c, h1, h2, -, h5⟩ := J.2.2.1.1 k hk
  have hz : ¬ σ 4 k 0 = 0 := fun z => h (by unfold heO; rw [if_pos z])
  obtain ⟨-, -, h6, h7⟩ := h5.resolve_left hz
  have hN := J.2.2.2.2.2.2.2.2
  exact ⟨h6, by rw [h1]; exact nI_nle (by omega) (by omega)⟩
theorem st_nle (h6 : ¬ σ 6 k 6 = nth) : ¬ (7 : Int32) ≤ nI (stO σ k) := by
  have h := st_6 h6
  exact nI_ge (show stO σ k < 7 by show stF (σ 6 k) 16 1 < 7; omega) (by decide)
theorem st_ne (h : ¬ nI (stO σ k) = 17) : stO σ k < 17 := by
  have h1 := (stO_le σ k).1
  rcases Nat.lt_or_ge (stO σ k) 17 with z | z
  · exact z
  · exact absurd (by rw [show stO σ k = 17 by omega]; rfl) h
theorem st_eq (h : nI (stO σ k) = 17) : ¬ stO σ k < 17 := fun z => by
  have h1 := (nI_eq (a := stO σ k) (b := 17) (by omega) (by decide)).mp h
  omega
theorem va_st (h : stO σ k < 17) : vaO σ k = σ 6 k (stO σ k) := by unfold vaO; rw [if_pos h]
theorem va_17 (h : ¬ stO σ k < 17) : vaO σ k = σ 2 k 0 := by unfold vaO; rw [if_neg h]
/-- a command asked at a priority that there is not -/
theorem com_bad (J : Jt t N g σ μ) (hk : k < g.1) {x v : Int32} (hx : ¬ bt x 1 16) : an (cdCom g (nI k) x) [-1000001, -1000002] v = -1000002 := by
  have e : cdCom g (nI k) x = 2 := by unfold cdCom; exact cod3_2 ⟨k, hk, rfl⟩ hx
  rw [e]; rfl
end PF
section SF
variable {t N s : Nat} {g : GC} {σ μ : Me}
theorem su_8 (J : Jt t N g σ μ) (hs : s < g.2.1) : ∃ i, i < g.1 ∧ μ 1 0 (3 * s) = nI i ∧ σ 8 s 0 = nI i := by
  obtain ⟨i, hi, e, -⟩ := Ib_8' (Jt_I J) hs
  exact ⟨i, hi, by rw [(J.2.2.2.2.2.1.2.2.2.2.1 s hs).1]; exact e, e⟩
theorem su_far (J : Jt t N g σ μ) (hs : s < g.2.1) {i : Nat} (hi : i < g.1) (e8 : σ 8 s 0 = nI i) (h : ¬ 1 - σ 11 s 0 = 0) : ¬ μ 1 0 (3 * s + 1) ≤ vaO σ i - σ 13 s 0 ∧ ¬ μ 1 0 (3 * s + 1) ≤ -(vaO σ i - σ 13 s 0) ∧ ¬ μ 1 0 (3 * s + 2) ≤ σ 25 0 0 := by
  have hI := Jt_I J
  obtain ⟨w1, w2, w3⟩ := J.2.2.2.2.2.1.2.2.2.2.1 s hs
  obtain ⟨h11, -, hk⟩ := hI.2.2.2.2.1 s hs
  have h0 : σ 11 s 0 = 0 := by
    rcases h11 with z | z
    · exact z
    · rw [z] at h; exact absurd (by decide) h
  obtain ⟨-, q1, q2⟩ := J.2.2.1.2.1 s hs
  have q3 := q2 h0
  have hv : rg (vaO σ i) := inP_rg (vaO_in hI.2.2.2.1 hi)
  rw [e8, show nOf (nI i) = i from nI_clamp (by have := hI.1; omega), (hI.2.2.2.1 i hi).2.2.2.2] at q3
  rw [w2, w3]
  generalize vaO σ i = v at hv q3
  generalize σ 13 s 0 = w at hk q3
  have q4 := lt_toI.mp q3
  obtain ⟨v1, v2⟩ := hv
  obtain ⟨k1, k2⟩ := hk
  have e1 : (v - w).toInt = v.toInt - w.toInt := fb_subI (by omega) (by omega)
  have e2 : (w - v).toInt = w.toInt - v.toInt := fb_subI (by omega) (by omega)
  have e3 : (-(v - w)).toInt = w.toInt - v.toInt := by rw [Int32.neg_sub, e2]
  have hf : v.toInt - w.toInt ≤ (farO v w).toInt ∧ w.toInt - v.toInt ≤ (farO v w).toInt := by
    unfold farO
    split
    · rename_i hc
      have := lt_toI.mp hc
      rw [e1]; omega
    · rename_i hc
      have : ¬ w.toInt < v.toInt := fun z => hc (lt_toI.mpr z)
      rw [e2]; omega
  refine ⟨fun z => ?_, fun z => ?_, fun z => ?_⟩
  · have := le_toI.mp z; rw [e1] at this; omega
  · have := le_toI.mp z; rw [e3] at this; omega
  · obtain ⟨-, u, p1, p2, p3⟩ := J.1.2.2.2.2 s hs
    have p4 := p3.resolve_left (fun y => by rw [h0] at y; exact absurd y (by decide))
    have := le_toI.mp z
    rw [p1, J.1.2.1, nI_toInt (by omega), nI_toInt (by omega)] at this
    omega
theorem su_rep (J : Jt t N g σ μ) (hs : s < g.2.1) {i : Nat} (hi : i < g.1) (e8 : σ 8 s 0 = nI i) : ¬ σ 12 s 0 < 0 ∧ ¬ σ 5 i 0 < σ 12 s 0 := by
  obtain ⟨⟨r, c, h1, h2, h3, h4⟩, -⟩ := J.2.2.1.2.1 s hs
  have hN := J.2.2.2.2.2.2.2.2
  rw [e8, show nOf (nI i) = i from nI_clamp (by have := (Jt_I J).1; omega)] at h2
  rw [h1, h2]
  exact ⟨nI_pos (by omega), nI_nlt h3 (by omega)⟩
end SF
section WCUT
variable {p : Program} {l : Launch} {e : Env} {R : Room} {s : State} {m : MethodId} {args : Array Value} {below : List Frame} {meth : Method} {c : Code} {H : Heap} {locs : List Loc} {cells slots cells2 slots2 : Nat} {Q : State → Prop} {pc P : Nat} {ls : Array Slot} {st : List Value}
/-- a place where roads meet: walked once -/
theorem w_cut (P cells2 slots2 : Nat) (Inv : Heap → List Loc → Array Slot → Prop) (k : ∀ (H : Heap) (locs : List Loc) (ls : Array Slot), Inv H locs ls → W p l e R s m args below meth c H locs cells2 slots2 Q (F0 m P ls []))
    (main : (∀ (H : Heap) (locs : List Loc) (ls : Array Slot), Inv H locs ls → W p l e R s m args below meth c H locs cells2 slots2 Q (F0 m P ls [])) → W p l e R s m args below meth c H locs cells slots Q (F0 m pc ls st)) : W p l e R s m args below meth c H locs cells slots Q (F0 m pc ls st) := main k
end WCUT
