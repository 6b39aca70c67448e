/-! what is new keeps a state at rest -/
theorem vaC_all {v : Int32} : vaC (fun j => if j < 17 then nth else 0) v = v := by
  have e : stF (fun j => if j < 17 then nth else 0) 16 1 = 17 := stF_of _ 16 1 17 rfl (by decide) (Nat.le_refl _) (fun j _ h => if_pos h) (fun h => absurd h (Nat.lt_irrefl _))
  unfold vaC
  rw [e, if_neg (Nat.lt_irrefl _)]
theorem Ie_0 {σ : Me} {c : Nat} : Ie σ c 0 0 0 := ⟨fun d _ => ⟨fun z => absurd z hasF_0, fun z => absurd z hasF_0⟩, fun _ _ _ => rfl, fun _ _ _ => rfl⟩
theorem Rs_addF {np ns nc t : Nat} {v sw ti : Int32} {σ : Me} (h : Rs (np, ns, nc) t σ) (hF : Fr (np, ns, nc) σ) (hnp : np < 16) (hsw : sw = 0 ∨ sw = 1) (hv : loF sw ≤ v ∧ v ≤ hiF sw) (hti : 0 ≤ ti.toInt ∧ ti.toInt ≤ 1000) : Rs (np + 1, ns, nc) t (addF np v sw ti σ) := by
  obtain ⟨⟨h1, h2, h3, h4, h5, h6⟩, h25, ht, hu, ho⟩ := h
  have f : ∀ a, a ≠ 1 → a ≠ 2 → a ≠ 3 → a ≠ 6 → a ≠ 7 → addF np v sw ti σ a = σ a := fun a q1 q2 q3 q4 q5 => addF_n q1 q2 q3 q4 q5
  have g : ∀ a, a = 4 ∨ (8 ≤ a ∧ a ≤ 30) → addF np v sw ti σ a = σ a := fun a q => f a (by omega) (by omega) (by omega) (by omega) (by omega)
  refine ⟨⟨hnp, h2, h3, fun k hk => ?_, fun s hs => ?_, fun c hc => ?_⟩, by rw [g 25 (by omega)]; exact h25, ht, fun k hk => ?_, fun s hs => To_to (ho s hs) (g 11 (by omega)) (g 10 (by omega))⟩
  · by_cases hkn : k = np
    · subst hkn
      unfold inP okV
      rw [addF_1, addF_2, addF_3, addF_7, vaO_eq, addF_6, addF_2, vaC_all]
      exact ⟨hsw, hv, hti, fun j hj => Or.inl (if_pos hj), rfl⟩
    · have hk2 : k < np := by have : k < np + 1 := hk; omega
      obtain ⟨q1, q2, q3, q4, q5⟩ := h4 k hk2
      unfold inP okV inP
      rw [addF_i hkn, addF_i hkn, addF_i hkn, addF_i hkn, vaO_eq, addF_i hkn, addF_i hkn, addF_i hkn, ← vaO_eq]
      exact ⟨q1, q2, q3, q4, q5⟩
  · obtain ⟨q1, ⟨i, hi, q2⟩, q3⟩ := h5 s hs
    rw [g 11 (by omega), g 8 (by omega), g 13 (by omega)]
    exact ⟨q1, ⟨i, Nat.lt_succ_of_lt hi, q2⟩, q3⟩
  · obtain ⟨i, j, n, n1, n2, q1, q2, q3, q4, q5, q6, q7, q8, q9, q10, q11, q12⟩ := h6 c hc
    have hin : i ≠ np := Nat.ne_of_lt q1
    refine ⟨i, j, n, n1, n2, Nat.lt_succ_of_lt q1, by rw [g 14 (by omega)]; exact q2, q3, q4, by rw [g 15 (by omega)]; exact q5, by rw [g 17 (by omega)]; exact q6, by rw [g 21 (by omega)]; exact q7, by rw [g 21 (by omega)]; exact q8, q9, q10, fun q hq => ?_, Ie_to q12 (g 18 (by omega)) (g 19 (by omega)) (g 20 (by omega)) (g 22 (by omega)) (g 23 (by omega)) (g 24 (by omega))⟩
    have z := q11 q hq
    unfold okV inP at z ⊢
    rw [g 20 (by omega), addF_i hin]
    exact z
  · unfold Tu
    rw [g 4 (by omega)]
    by_cases hkn : k = np
    · subst hkn
      exact ⟨0, (hF.1 k (Nat.le_refl k)).1, by omega, Or.inl rfl⟩
    · exact hu k (by have : k < np + 1 := hk; show k < np; omega)
theorem Rs_subF {np ns nc t i u : Nat} {by1 kp : Int32} {σ : Me} (h : Rs (np, ns, nc) t σ) (hF : Fr (np, ns, nc) σ) (hns : ns < 30) (hi : i < np) (hk : rg kp) (hu1 : t + 1 ≤ u) (hu2 : u ≤ 2000000) : Rs (np, ns + 1, nc) t (subF ns (nI i) by1 (nI u) kp σ) := by
  obtain ⟨⟨h1, h2, h3, h4, h5, h6⟩, h25, ht, hu, ho⟩ := h
  have g : ∀ a, a ≠ 8 → a ≠ 9 → a ≠ 10 → a ≠ 13 → subF ns (nI i) by1 (nI u) kp σ a = σ a := fun a q1 q2 q3 q4 => subF_n q1 q2 q3 q4
  have g2 : ∀ a, a = 1 ∨ a = 2 ∨ a = 3 ∨ a = 4 ∨ a = 6 ∨ a = 7 ∨ a = 11 ∨ (14 ≤ a ∧ a ≤ 30) → subF ns (nI i) by1 (nI u) kp σ a = σ a := fun a q => g a (by omega) (by omega) (by omega) (by omega)
  have e8 : subF ns (nI i) by1 (nI u) kp σ 8 ns 0 = nI i := by unfold subF; rw [st3_n (by decide), st3_n (by decide), st3_n (by decide), st3_v]
  have e10 : subF ns (nI i) by1 (nI u) kp σ 10 ns 0 = nI u := by unfold subF; rw [st3_n (by decide), st3_v]
  have e13 : subF ns (nI i) by1 (nI u) kp σ 13 ns 0 = kp := by unfold subF; rw [st3_v]
  refine ⟨⟨h1, hns, h3, fun k hk => ?_, fun s hs => ?_, Ic_to h6 (g2 _ (by omega)) (g2 _ (by omega)) (g2 _ (by omega)) (g2 _ (by omega)) (g2 _ (by omega)) (g2 _ (by omega)) (g2 _ (by omega)) (g2 _ (by omega)) (g2 _ (by omega)) (g2 _ (by omega)) (g2 _ (by omega))⟩, by rw [g2 25 (by omega)]; exact h25, ht, fun k hk => ?_, fun s hs => ?_⟩
  · obtain ⟨z1, z2, z3, z4, z5⟩ := h4 k hk
    have e1 := g2 1 (by omega)
    rw [vaO_eq, e1, g2 2 (by omega), g2 3 (by omega), g2 6 (by omega), g2 7 (by omega)]
    exact ⟨z1, inP_to z2 e1, z3, fun z hz => okV_to (z4 z hz) e1, z5⟩
  · rw [g2 11 (by omega)]
    by_cases hsn : s = ns
    · subst hsn
      rw [e8, e13]
      exact ⟨Or.inl (hF.2.1 s (Nat.le_refl s)).1, ⟨i, hi, rfl⟩, hk⟩
    · rw [subF_i hsn, subF_i hsn]
      exact h5 s (by have : s < ns + 1 := hs; show s < ns; omega)
  · unfold Tu
    rw [g2 4 (by omega)]
    exact hu k hk
  · unfold To
    rw [g2 11 (by omega)]
    by_cases hsn : s = ns
    · subst hsn
      rw [e10]
      exact ⟨Or.inl (hF.2.1 s (Nat.le_refl s)).1, u, rfl, hu2, Or.inr hu1⟩
    · rw [subF_i hsn]
      exact ho s (by have : s < ns + 1 := hs; show s < ns; omega)
theorem Rs_schF {np ns nc t i j : Nat} {σ : Me} (h : Rs (np, ns, nc) t σ) (hF : Fr (np, ns, nc) σ) (hnc : nc < 4) (hi : i < np) (hj1 : 7 ≤ j) (hj2 : j ≤ 16) : Rs (np, ns, nc + 1) t (schF nc (nI i) (nI j) σ) := by
  obtain ⟨⟨h1, h2, h3, h4, h5, h6⟩, h25, ht, hu, ho⟩ := h
  have g2 : ∀ a, a ≠ 14 ∧ a ≠ 15 ∧ a ≠ 16 ∧ a ≠ 21 → schF nc (nI i) (nI j) σ a = σ a := fun a q => schF_n q.1 q.2.1 q.2.2.1 q.2.2.2
  have e14 : schF nc (nI i) (nI j) σ 14 nc 0 = nI i := by unfold schF; rw [st3_n (by decide), st3_n (by decide), st3_n (by decide), st3_n (by decide), st3_v]
  have e15 : schF nc (nI i) (nI j) σ 15 nc 0 = nI j := by unfold schF; rw [st3_n (by decide), st3_n (by decide), st3_n (by decide), st3_v]
  have a1 : schF nc (nI i) (nI j) σ 21 (2 * nc) 0 = nI 0 := by unfold schF; rw [st3_i (by omega), st3_v]; rfl
  have a2 : schF nc (nI i) (nI j) σ 21 (2 * nc + 1) 0 = nI 0 := by unfold schF; rw [st3_v]; rfl
  refine ⟨⟨h1, h2, hnc, fun k hk => ?_, Is_to h5 (g2 _ (by decide)) (g2 _ (by decide)) (g2 _ (by decide)), fun c hc => ?_⟩, by rw [g2 25 (by decide)]; exact h25, ht, fun k hk => ?_, fun s hs => To_to (ho s hs) (g2 _ (by decide)) (g2 _ (by decide))⟩
  · obtain ⟨z1, z2, z3, z4, z5⟩ := h4 k hk
    have e1 := g2 1 (by decide)
    rw [vaO_eq, e1, g2 2 (by decide), g2 3 (by decide), g2 6 (by decide), g2 7 (by decide)]
    exact ⟨z1, inP_to z2 e1, z3, fun z hz => okV_to (z4 z hz) e1, z5⟩
  · by_cases hcn : c = nc
    · subst hcn
      refine ⟨i, j, 0, 0, 0, hi, e14, hj1, hj2, e15, by rw [g2 17 (by decide)]; exact hF.2.2.1 c (Nat.le_refl c), a1, a2, rfl, by decide, fun q hq => absurd hq (Nat.not_lt_zero q), Ie_0⟩
    · have hc2 : c < nc := by have : c < nc + 1 := hc; omega
      obtain ⟨i', j', n, n1, n2, q1, q2, q3, q4, q5, q6, q7, q8, q9, q10, q11, q12⟩ := h6 c hc2
      refine ⟨i', j', n, n1, n2, q1, by rw [schF_i hcn (by decide)]; exact q2, q3, q4, by rw [schF_i hcn (by decide)]; exact q5, by rw [g2 17 (by decide)]; exact q6, by rw [schF_21 (by omega) (by omega)]; exact q7, by rw [schF_21 (by omega) (by omega)]; exact q8, q9, q10, fun q hq => ?_, Ie_to q12 (g2 _ (by decide)) (g2 _ (by decide)) (g2 _ (by decide)) (g2 _ (by decide)) (g2 _ (by decide)) (g2 _ (by decide))⟩
      rw [g2 20 (by decide)]
      exact okV_to (q11 q hq) (g2 1 (by decide))
  · unfold Tu
    rw [g2 4 (by decide)]
    exact hu k hk
