/-! p22: what holds behind each act of the law: the objects' state, and the law's own arrays -/
def La (g : GC) (σ m : Me) : Prop :=
  m 3 0 0 = nI g.1 ∧ m 3 0 1 = nI g.2.1 ∧ m 3 0 2 = nI g.2.2 ∧
  (∀ k, k < g.1 → m 0 0 k = σ 2 k 0 ∧ m 0 0 (16 + k) = (if σ 1 k 0 = 1 then σ 3 k 0 else -1)) ∧
  (∀ s, s < g.2.1 → m 1 0 (3 * s) = σ 8 s 0 ∧ m 1 0 (3 * s + 1) = σ 9 s 0 ∧ m 1 0 (3 * s + 2) = σ 10 s 0) ∧
  (∀ c, c < g.2.2 → m 2 0 (4 * c) = σ 14 c 0 ∧ m 2 0 (4 * c + 1) = σ 15 c 0 ∧ m 2 0 (4 * c + 3) = σ 17 c 0 ∧ (m 2 0 (4 * c + 2) = 0 ∨ m 2 0 (4 * c + 2) = 1))
def fl (m : Me) (c : Nat) : Prop := m 2 0 (4 * c + 2) = 0
def Jt (t N : Nat) (g : GC) (σ m : Me) : Prop := Rs g t σ ∧ Fr g σ ∧ Ev N g σ ∧ Ct g σ ∧ Cq g (fl m) σ ∧ La g σ m ∧ g.2.1 ≤ 21 ∧ t ≤ 900000 ∧ N < 900000
theorem Jt_I {t N : Nat} {g : GC} {σ m : Me} (h : Jt t N g σ m) : Ib g σ := h.1.1
theorem Jt_R {t N : Nat} {g : GC} {σ m : Me} (h : Jt t N g σ m) : Rf g σ := ⟨⟨t, h.1⟩, h.2.1⟩
/-- the state that the law begins with -/
theorem Jt_0 : Jt 0 0 (0, 0, 0) (fun _ _ _ => 0) (fun _ _ _ => 0) := by
  have z : ∀ {P : Prop} (k : Nat), k < 0 → P := fun k h => absurd h (Nat.not_lt_zero k)
  obtain ⟨-, hF⟩ := Rf_0
  exact ⟨⟨⟨by decide, by decide, by decide, fun k h => z k h, fun s h => z s h, fun c h => z c h⟩, rfl, by decide, fun k h => z k h, fun s h => z s h⟩, hF, ⟨fun k h => z k h, fun s h => z s h, rfl⟩, fun c h => z c h, fun c h => z c h, ⟨rfl, rfl, rfl, fun k h => z k h, fun s h => z s h, fun c h => z c h⟩, by decide, by decide, by decide⟩
theorem La_to {g : GC} {σ σ' m : Me} (h : La g σ m) (e : ∀ a, a = 1 ∨ a = 2 ∨ a = 3 ∨ a = 8 ∨ a = 9 ∨ a = 10 ∨ a = 14 ∨ a = 15 ∨ a = 17 → σ' a = σ a) : La g σ' m := by
  unfold La
  rw [e 1 (by decide), e 2 (by decide), e 3 (by decide), e 8 (by decide), e 9 (by decide), e 10 (by decide), e 14 (by decide), e 15 (by decide), e 17 (by decide)]
  exact h
/-- a write -/
theorem Jt_wri {t N k j : Nat} {g : GC} {σ m m' : Me} {v : Int32} (h : Jt t N g σ m) (hN : N + 1 < 900000) (hk : k < g.1) (hj : j < 17) (hv : okV σ k v) (h6 : j = 6 → σ 4 k 0 = 0)
    (hm : La g σ m') (hf : ∀ c, c < g.2.2 → fl m' c → fl m c ∧ ¬ (σ 14 c 0 = nI k ∧ σ 15 c 0 = nI j)) : Jt t (N + 1) g (setF g.2.1 k j v σ) m' := by
  obtain ⟨hR, hF, hE, hT, hQ, hL, h21, ht, -⟩ := h
  have hI := hR.1
  have en : ∀ a, a = 1 ∨ a = 2 ∨ a = 3 ∨ a = 8 ∨ a = 9 ∨ a = 10 ∨ a = 11 ∨ (14 ≤ a ∧ a ≤ 25) → setF g.2.1 k j v σ a = σ a := fun a ha => setF_n (by omega) (by omega) (by omega) (by omega) (by omega) (by omega) (by omega)
  refine ⟨Rs_setF hR hk hj hv, Fr_setF hF hk, Ev_setF (by omega) hI hE hk hj hv (by
    by_cases z : j = 6
    · exact Or.inr (h6 z)
    · exact Or.inl z), Ct_to hT (fun a ha => en a (by omega)), ?_, La_to hm (fun a ha => en a (by omega)), h21, ht, hN⟩
  have hQ' : Cq g (fun c => c < g.2.2 ∧ fl m' c) σ := fun c hc z => hQ c hc (hf c hc z.2).1
  have q := Cq_setF (ns := g.2.1) (k := k) (j := j) (v := v) hI hQ' (fun c hc z y => (hf c hc z.2).2 (by
    obtain ⟨i, p, -, e1, e2, -, -, e3, e4⟩ := Ic_at hI hc
    exact ⟨by rw [e1, ← e2, y.1], by rw [e3, ← e4, y.2]⟩))
  exact fun c hc z => q c hc ⟨hc, z⟩
/-- the end of a subscription -/
theorem Jt_end {t N s : Nat} {g : GC} {σ m : Me} (h : Jt t N g σ m) (hs : s < g.2.1) : Jt t N g (st3 σ 11 s 0 1) m := by
  obtain ⟨hR, hF, hE, hT, hQ, hL, h21, ht⟩ := h
  have en : ∀ a, a ≠ 11 → st3 σ 11 s 0 1 a = σ a := fun a ha => st3_n ha
  refine ⟨Rs_st11 hR, Fr_st11 hF hs, Ev_to hE (fun a ha => en a (by omega)) (fun i _ z => ?_) (by rw [en 25 (by decide)]; exact Int.le_refl _), Ct_to hT (fun a ha => en a (by omega)), Cq_to hQ (en _ (by decide)) (en _ (by decide)) (en _ (by decide)) (en _ (by decide)), La_to hL (fun a ha => en a (by omega)), h21, ht⟩
  by_cases hi : i = s
  · subst hi; rw [st3_v] at z; exact absurd z (by decide)
  · rw [st3_i hi] at z; exact z
/-- minutes -/
theorem Jt_pas {g : GC} {m : Me} : ∀ (n t N : Nat) (σ : Me), Jt t N g σ m → t + n ≤ 900000 → N + 20 * n < 900000 → Jt (t + n) (N + 20 * n) g (pasF g n σ) m
  | 0, t, N, σ, h, _, _ => h
  | n + 1, t, N, σ, h, h1, h2 => by
    obtain ⟨hR, hF, hE, hT, hQ, hL, h21, ht, hN⟩ := h
    have hI := hR.1
    have e : ∀ a, a ≠ 4 → a ≠ 5 → a ≠ 6 → a ≠ 7 → a ≠ 11 → a ≠ 12 → a ≠ 13 → a ≠ 16 → a ≠ 25 → a ≠ 26 → minF g σ a = σ a := fun a q1 q2 q3 q4 q5 q6 q7 q8 q9 q10 => minF_n q1 q2 q3 q4 q5 q6 q7 q8 q9 q10
    have h3 := Jt_pas (g := g) (m := m) n (t + 1) (N + 20) (minF g σ) ⟨Rs_min hR (by omega), Fr_minF hI hF, Ev_minF (by omega) hI hR.2.1 (by omega) hE, Ct_minF, Cq_minF hI hQ, La_to hL (fun a ha => e a (by omega) (by omega) (by omega) (by omega) (by omega) (by omega) (by omega) (by omega) (by omega) (by omega)), h21, by omega, by omega⟩ (by omega) (by omega)
    rw [show t + 1 + n = t + (n + 1) by omega, show N + 20 + 20 * n = N + 20 * (n + 1) by omega] at h3
    exact h3
/-- an entry more -/
theorem Jt_ent {t N c e : Nat} {dm dc x v : Int32} {g : GC} {σ m m' : Me} (h : Jt t N g σ m) (hN : N + 1 < 900000) (hc : c < g.2.2) (he : e < 2 * g.2.2) (hI2 : Ib g (entM c dm x v (entC e dc x v σ)))
    (hm : ∀ a j, ¬ (a = 2 ∧ j = 4 * c + 3) → m' a 0 j = m a 0 j) (h3 : m' 2 0 (4 * c + 3) = σ 17 c 0 + 1) : Jt t (N + 1) g (obeF g.2.1 c (entM c dm x v (entC e dc x v σ))) m' := by
  obtain ⟨hR, hF, hE, hT, hQ, hL, h21, ht, -⟩ := h
  have hI := hR.1
  have fr : ∀ a, a < 17 ∨ 24 < a → entM c dm x v (entC e dc x v σ) a = σ a := fun a q => by rw [entM_n (by omega) (by omega) (by omega) (by omega), entC_n (by omega) (by omega) (by omega) (by omega)]
  have e17 : entM c dm x v (entC e dc x v σ) 17 c 0 = σ 17 c 0 + 1 := by
    obtain ⟨i, j, n, n1, n2, -, -, -, -, -, q, -, -, -, q2, -⟩ := hI.2.2.2.2.2 c hc
    have d17 : entC e dc x v σ 17 = σ 17 := entC_n (by decide) (by decide) (by decide) (by decide)
    unfold entM
    rw [d17, st3_v, q, show nOf (nI n) = n from nI_clamp (by omega), ← nI_add]
    rfl
  have e17o : ∀ c', c' ≠ c → entM c dm x v (entC e dc x v σ) 17 c' = σ 17 c' := fun c' q => by rw [entM_i q, entC_n (by decide) (by decide) (by decide) (by decide)]
  have hE1 : Ev N g (entM c dm x v (entC e dc x v σ)) := Ev_to hE (fun a ha => fr a (by omega)) (fun s _ z => by rw [fr 11 (by decide)] at z; exact z) (by rw [fr 25 (by decide)]; exact Int.le_refl _)
  have hQ1 : Cq g (fl m') (entM c dm x v (entC e dc x v σ)) := Cq_to (Cq_F hQ (fun c' z => by
    unfold fl at z ⊢
    rw [← hm 2 (4 * c' + 2) (by omega)]
    exact z)) (fr _ (by decide)) (fr _ (by decide)) (fr _ (by decide)) (fr _ (by decide))
  refine ⟨Rs_obeF (Rs_ent hR hI2) hc, Fr_obeF hI2 hc (Fr_ent hF hc he), Ev_obeF (by omega) hI2 hE1 hc, fun c' hc' => ?_, Cq_obeF hI2 hQ1 hc, ?_, h21, ht, hN⟩
  · rw [obeF_t, obeF_25]
    by_cases hcc : c' = c
    · subst hcc; exact obeF_16
    · rw [obeF_16o hcc, fr 16 (by decide), fr 25 (by decide), tolO_to (σ := σ) (e17o c' hcc)]
      · exact hT c' hc'
      · rw [entM_i hcc, entC_n (by decide) (by decide) (by decide) (by decide)]
      · rw [entM_i hcc, entC_n (by decide) (by decide) (by decide) (by decide)]
      · rw [entM_i hcc, entC_n (by decide) (by decide) (by decide) (by decide)]
  · have en : ∀ a, a ≠ 4 → a ≠ 5 → a ≠ 6 → a ≠ 7 → a ≠ 12 → a ≠ 13 → a ≠ 16 → a ≠ 26 → obeF g.2.1 c (entM c dm x v (entC e dc x v σ)) a = entM c dm x v (entC e dc x v σ) a := fun a q1 q2 q3 q4 q5 q6 q7 q8 => obeF_n q1 q2 q3 q4 q5 q6 q7 q8
    have en2 : ∀ a, a = 1 ∨ a = 2 ∨ a = 3 ∨ a = 8 ∨ a = 9 ∨ a = 10 ∨ a = 14 ∨ a = 15 → obeF g.2.1 c (entM c dm x v (entC e dc x v σ)) a = σ a := fun a q => by rw [en a (by omega) (by omega) (by omega) (by omega) (by omega) (by omega) (by omega) (by omega), fr a (by omega)]
    obtain ⟨l1, l2, l3, l4, l5, l6⟩ := hL
    unfold La
    rw [hm 3 0 (by omega), hm 3 1 (by omega), hm 3 2 (by omega), en2 1 (by decide), en2 2 (by decide), en2 3 (by decide), en2 8 (by decide), en2 9 (by decide), en2 10 (by decide), en2 14 (by decide), en2 15 (by decide), en 17 (by decide) (by decide) (by decide) (by decide) (by decide) (by decide) (by decide) (by decide)]
    refine ⟨l1, l2, l3, fun k hk => ?_, fun s hs => ?_, fun c' hc' => ?_⟩
    · rw [hm 0 k (by omega), hm 0 (16 + k) (by omega)]; exact l4 k hk
    · rw [hm 1 (3 * s) (by omega), hm 1 (3 * s + 1) (by omega), hm 1 (3 * s + 2) (by omega)]; exact l5 s hs
    · obtain ⟨w1, w2, w3, w4⟩ := l6 c' hc'
      rw [hm 2 (4 * c') (by omega), hm 2 (4 * c' + 1) (by omega), hm 2 (4 * c' + 2) (by omega)]
      refine ⟨w1, w2, ?_, w4⟩
      by_cases hcc : c' = c
      · subst hcc; rw [h3, e17]
      · rw [hm 2 (4 * c' + 3) (by omega), e17o c' hcc]; exact w3
/-- a point more -/
theorem Jt_add {t N np ns nc : Nat} {v sw ti : Int32} {σ m m' : Me} (h : Jt t N (np, ns, nc) σ m) (hnp : np < 16) (hsw : sw = 0 ∨ sw = 1) (hv : loF sw ≤ v ∧ v ≤ hiF sw) (hti : 0 ≤ ti.toInt ∧ ti.toInt ≤ 1000) (h0 : sw = 0 → ti = 0)
    (hm : ∀ a j, ¬ (a = 0 ∧ (j = np ∨ j = 16 + np)) → ¬ (a = 3 ∧ j = 0) → m' a 0 j = m a 0 j) (h1 : m' 0 0 np = v) (h2 : m' 0 0 (16 + np) = (if sw = 1 then ti else -1)) (h3 : m' 3 0 0 = nI (np + 1)) : Jt t N (np + 1, ns, nc) (addF np v sw ti σ) m' := by
  obtain ⟨hR, hF, hE, hT, hQ, hL, h21, ht⟩ := h
  have hI := hR.1
  have gg : ∀ a, a = 4 ∨ a = 5 ∨ (8 ≤ a ∧ a ≤ 30) → addF np v sw ti σ a = σ a := fun a q => addF_n (by omega) (by omega) (by omega) (by omega) (by omega)
  have ii : ∀ a i, i ≠ np → addF np v sw ti σ a i = σ a i := fun a i q => addF_i q
  have hs8 : ∀ s, s < ns → nOf (σ 8 s 0) ≠ np := fun s hs => by have := Ib_8 hI hs; exact Nat.ne_of_lt this
  have hs14 : ∀ c, c < nc → nOf (σ 14 c 0) ≠ np := fun c hc => by have := Ib_14 hI hc; exact Nat.ne_of_lt this
  refine ⟨Rs_addF hR hF hnp hsw hv hti, Fr_addF hF, ⟨fun k hk => ?_, fun s hs => ?_, ?_⟩, fun c hc => ?_, fun c hc z => ?_, ?_, h21, ht⟩
  · by_cases hkn : k = np
    · subst hkn
      unfold Pk
      rw [addF_1, addF_2, addF_3, addF_7, gg 4 (by decide), gg 5 (by decide), gg 25 (by decide), (hF.1 k (Nat.le_refl k)).1, (hF.1 k (Nat.le_refl k)).2]
      refine ⟨h0, 0, rfl, Nat.zero_le _, fun z => ?_, Or.inl rfl⟩
      rw [z] at hv
      have q1 := le_toI.mp hv.1
      have q2 := le_toI.mp hv.2
      rw [show (loF 1).toInt = 0 by decide] at q1
      rw [show (hiF 1).toInt = 1 by decide] at q2
      omega
    · exact Pk_to (hE.1 k (by have : k < np + 1 := hk; show k < np; omega)) (ii _ _ hkn) (ii _ _ hkn) (ii _ _ hkn) (ii _ _ hkn) (ii _ _ hkn) (by rw [ii _ _ hkn]) (ii _ _ hkn) (by rw [gg 25 (by decide)]; exact Int.le_refl _)
  · have q := hE.2.1 s hs
    unfold Sk at q ⊢
    rw [gg 12 (by decide), gg 5 (by decide), gg 8 (by decide), gg 9 (by decide), gg 11 (by decide), ii 7 _ (hs8 s hs), gg 13 (by decide)]
    exact q
  · have q := hE.2.2
    rw [gg 26 (by decide)]
    unfold sentO at q ⊢
    rw [gg 12 (by decide)]
    exact q
  · rw [gg 16 (by decide), gg 25 (by decide), tolO_to (σ := σ) (by rw [gg 17 (by decide)]) (by rw [gg 18 (by decide)]) (by rw [gg 19 (by decide)]) (by rw [gg 20 (by decide)])]
    exact hT c hc
  · have q := hQ c hc (show m 2 0 (4 * c + 2) = 0 by rw [← hm 2 (4 * c + 2) (by omega) (by omega)]; exact z)
    rw [gg 14 (by decide), gg 15 (by decide), gg 16 (by decide), ii 6 _ (hs14 c hc)]
    exact q
  · obtain ⟨l1, l2, l3, l4, l5, l6⟩ := hL
    refine ⟨h3, by rw [hm 3 1 (by omega) (by omega)]; exact l2, by rw [hm 3 2 (by omega) (by omega)]; exact l3, fun k hk => ?_, fun s hs => ?_, fun c hc => ?_⟩
    · by_cases hkn : k = np
      · subst hkn
        rw [addF_1, addF_2, addF_3]
        exact ⟨h1, h2⟩
      · have hk2 : k < np := by have : k < np + 1 := hk; omega
        have hnp' := hnp
        rw [ii _ _ hkn, ii _ _ hkn, ii _ _ hkn, hm 0 k (by omega) (by omega), hm 0 (16 + k) (by omega) (by omega)]
        exact l4 k hk2
    · rw [gg 8 (by decide), gg 9 (by decide), gg 10 (by decide), hm 1 (3 * s) (by omega) (by omega), hm 1 (3 * s + 1) (by omega) (by omega), hm 1 (3 * s + 2) (by omega) (by omega)]
      exact l5 s hs
    · rw [gg 14 (by decide), gg 15 (by decide), gg 17 (by decide), hm 2 (4 * c) (by omega) (by omega), hm 2 (4 * c + 1) (by omega) (by omega), hm 2 (4 * c + 2) (by omega) (by omega), hm 2 (4 * c + 3) (by omega) (by omega)]
      exact l6 c hc
/-- a subscription more -/
theorem Jt_sub {t N np ns nc i u : Nat} {by1 : Int32} {σ m m' : Me} (h : Jt t N (np, ns, nc) σ m) (hns : ns < 21) (hi : i < np) (hb : 1 ≤ by1.toInt) (hu1 : t + 1 ≤ u) (hu2 : u ≤ 2000000)
    (hm : ∀ a j, ¬ (a = 1 ∧ (j = 3 * ns ∨ j = 3 * ns + 1 ∨ j = 3 * ns + 2)) → ¬ (a = 3 ∧ j = 1) → m' a 0 j = m a 0 j) (h1 : m' 1 0 (3 * ns) = nI i) (h2 : m' 1 0 (3 * ns + 1) = by1) (h3 : m' 1 0 (3 * ns + 2) = nI u) (h4 : m' 3 0 1 = nI (ns + 1)) : Jt t N (np, ns + 1, nc) (subF ns (nI i) by1 (nI u) (σ 7 i 0) σ) m' := by
  obtain ⟨hR, hF, hE, hT, hQ, hL, h21, ht⟩ := h
  have hI := hR.1
  have hkp : rg (σ 7 i 0) := by
    rw [(hI.2.2.2.1 i hi).2.2.2.2]
    exact inP_rg (vaO_in hI.2.2.2.1 hi)
  have gg : ∀ a, a ≠ 8 → a ≠ 9 → a ≠ 10 → a ≠ 13 → subF ns (nI i) by1 (nI u) (σ 7 i 0) σ a = σ a := fun a q1 q2 q3 q4 => subF_n q1 q2 q3 q4
  have ii : ∀ a j, j ≠ ns → subF ns (nI i) by1 (nI u) (σ 7 i 0) σ a j = σ a j := fun a j q => subF_i q
  have e8 : subF ns (nI i) by1 (nI u) (σ 7 i 0) σ 8 ns 0 = nI i := by unfold subF; rw [st3_n (by decide), st3_n (by decide), st3_n (by decide), st3_v]
  have e9 : subF ns (nI i) by1 (nI u) (σ 7 i 0) σ 9 ns 0 = by1 := by unfold subF; rw [st3_n (by decide), st3_n (by decide), st3_v]
  have e10 : subF ns (nI i) by1 (nI u) (σ 7 i 0) σ 10 ns 0 = nI u := by unfold subF; rw [st3_n (by decide), st3_v]
  have e13 : subF ns (nI i) by1 (nI u) (σ 7 i 0) σ 13 ns 0 = σ 7 i 0 := by unfold subF; rw [st3_v]
  have z12 : σ 12 ns 0 = 0 := (hF.2.1 ns (Nat.le_refl ns)).2
  have hi16 : i < 16 := Nat.lt_of_lt_of_le hi hI.1
  refine ⟨Rs_subF hR hF (by omega) hi hkp hu1 hu2, Fr_subF hF, ⟨fun k hk => ?_, fun s hs => ?_, ?_⟩, fun c hc => ?_, fun c hc z => ?_, ?_, hns, ht⟩
  · exact Pk_to (hE.1 k hk) (by rw [gg 1 (by decide) (by decide) (by decide) (by decide)]) (by rw [gg 2 (by decide) (by decide) (by decide) (by decide)]) (by rw [gg 3 (by decide) (by decide) (by decide) (by decide)]) (by rw [gg 4 (by decide) (by decide) (by decide) (by decide)]) (by rw [gg 5 (by decide) (by decide) (by decide) (by decide)]) (by rw [gg 6 (by decide) (by decide) (by decide) (by decide)]) (by rw [gg 7 (by decide) (by decide) (by decide) (by decide)]) (by rw [gg 25 (by decide) (by decide) (by decide) (by decide)]; exact Int.le_refl _)
  · unfold Sk
    rw [gg 12 (by decide) (by decide) (by decide) (by decide), gg 5 (by decide) (by decide) (by decide) (by decide), gg 11 (by decide) (by decide) (by decide) (by decide), gg 7 (by decide) (by decide) (by decide) (by decide)]
    by_cases hsn : s = ns
    · subst hsn
      obtain ⟨-, c, q2, q3, -⟩ := hE.1 i hi
      rw [e8, e9, e13, nOf_N (n := i) (by omega), z12, far_0]
      exact ⟨⟨0, c, rfl, q2, Nat.zero_le _, q3⟩, hb, fun _ => lt_toI.mpr (by rw [show (0 : Int32).toInt = 0 by decide]; omega)⟩
    · rw [ii 8 s hsn, ii 9 s hsn, ii 13 s hsn]
      exact hE.2.1 s (by have : s < ns + 1 := hs; show s < ns; omega)
  · have q := hE.2.2
    rw [gg 26 (by decide) (by decide) (by decide) (by decide), q]
    unfold sentO
    rw [gg 12 (by decide) (by decide) (by decide) (by decide)]
    show smF _ ns = smF _ ns + σ 12 ns 0
    rw [z12, Int32.add_zero]
  · rw [gg 16 (by decide) (by decide) (by decide) (by decide), gg 25 (by decide) (by decide) (by decide) (by decide), tolO_to (σ := σ) (by rw [gg 17 (by decide) (by decide) (by decide) (by decide)]) (by rw [gg 18 (by decide) (by decide) (by decide) (by decide)]) (by rw [gg 19 (by decide) (by decide) (by decide) (by decide)]) (by rw [gg 20 (by decide) (by decide) (by decide) (by decide)])]
    exact hT c hc
  · have q := hQ c hc (show m 2 0 (4 * c + 2) = 0 by rw [← hm 2 (4 * c + 2) (by omega) (by omega)]; exact z)
    rw [gg 14 (by decide) (by decide) (by decide) (by decide), gg 15 (by decide) (by decide) (by decide) (by decide), gg 16 (by decide) (by decide) (by decide) (by decide), gg 6 (by decide) (by decide) (by decide) (by decide)]
    exact q
  · obtain ⟨l1, l2, l3, l4, l5, l6⟩ := hL
    refine ⟨by rw [hm 3 0 (by omega) (by omega)]; exact l1, h4, by rw [hm 3 2 (by omega) (by omega)]; exact l3, fun k hk => ?_, fun s hs => ?_, fun c hc => ?_⟩
    · rw [gg 2 (by decide) (by decide) (by decide) (by decide), gg 1 (by decide) (by decide) (by decide) (by decide), gg 3 (by decide) (by decide) (by decide) (by decide), hm 0 k (by omega) (by omega), hm 0 (16 + k) (by omega) (by omega)]
      exact l4 k hk
    · by_cases hsn : s = ns
      · subst hsn
        rw [e8, e9, e10]
        exact ⟨h1, h2, h3⟩
      · rw [ii 8 s hsn, ii 9 s hsn, ii 10 s hsn, hm 1 (3 * s) (by omega) (by omega), hm 1 (3 * s + 1) (by omega) (by omega), hm 1 (3 * s + 2) (by omega) (by omega)]
        exact l5 s (by have : s < ns + 1 := hs; show s < ns; omega)
    · rw [gg 14 (by decide) (by decide) (by decide) (by decide), gg 15 (by decide) (by decide) (by decide) (by decide), gg 17 (by decide) (by decide) (by decide) (by decide), hm 2 (4 * c) (by omega) (by omega), hm 2 (4 * c + 1) (by omega) (by omega), hm 2 (4 * c + 2) (by omega) (by omega), hm 2 (4 * c + 3) (by omega) (by omega)]
      exact l6 c hc
/-- a schedule more: 'F' says of which the law still marks that nobody else writes there -/
theorem Jt_sch {t N np ns nc i j : Nat} {σ m m' : Me} (h : Jt t N (np, ns, nc) σ m) (hnc : nc < 4) (hi : i < np) (hj1 : 7 ≤ j) (hj2 : j ≤ 16)
    (hm : ∀ a q, a ≠ 2 → ¬ (a = 3 ∧ q = 2) → m' a 0 q = m a 0 q) (hq : ∀ c, c < nc → m' 2 0 (4 * c) = m 2 0 (4 * c) ∧ m' 2 0 (4 * c + 1) = m 2 0 (4 * c + 1) ∧ m' 2 0 (4 * c + 3) = m 2 0 (4 * c + 3) ∧ (m' 2 0 (4 * c + 2) = 0 ∨ m' 2 0 (4 * c + 2) = 1) ∧ (fl m' c → fl m c ∧ ¬ (σ 14 c 0 = nI i ∧ σ 15 c 0 = nI j)))
    (h0 : m' 2 0 (4 * nc) = nI i) (h1 : m' 2 0 (4 * nc + 1) = nI j) (h3 : m' 2 0 (4 * nc + 3) = 0) (h2 : m' 2 0 (4 * nc + 2) = 0 ∨ m' 2 0 (4 * nc + 2) = 1) (h2f : fl m' nc → σ 6 i j = nth ∧ ∀ c, c < nc → ¬ (σ 14 c 0 = nI i ∧ σ 15 c 0 = nI j)) (h4 : m' 3 0 2 = nI (nc + 1)) : Jt t N (np, ns, nc + 1) (schF nc (nI i) (nI j) σ) m' := by
  obtain ⟨hR, hF, hE, hT, hQ, hL, h21, ht⟩ := h
  have hI := hR.1
  have gg : ∀ a, a ≠ 14 → a ≠ 15 → a ≠ 16 → a ≠ 21 → schF nc (nI i) (nI j) σ a = σ a := fun a q1 q2 q3 q4 => schF_n q1 q2 q3 q4
  have ii : ∀ a q, q ≠ nc → a ≠ 21 → schF nc (nI i) (nI j) σ a q = σ a q := fun a q q1 q2 => schF_i q1 q2
  have e14 : schF nc (nI i) (nI j) σ 14 nc 0 = nI i := by unfold schF; rw [st3_n (by decide), st3_n (by decide), st3_n (by decide), st3_n (by decide), st3_v]
  have e15 : schF nc (nI i) (nI j) σ 15 nc 0 = nI j := by unfold schF; rw [st3_n (by decide), st3_n (by decide), st3_n (by decide), st3_v]
  have e16 : schF nc (nI i) (nI j) σ 16 nc 0 = nth := by unfold schF; rw [st3_n (by decide), st3_n (by decide), st3_v]
  have z17 : σ 17 nc 0 = 0 := hF.2.2.1 nc (Nat.le_refl nc)
  have hi16 : i < 16 := Nat.lt_of_lt_of_le hi hI.1
  have en : ∀ a, a = 1 ∨ a = 2 ∨ a = 3 ∨ a = 4 ∨ a = 5 ∨ a = 6 ∨ a = 7 ∨ a = 8 ∨ a = 9 ∨ a = 10 ∨ a = 11 ∨ a = 12 ∨ a = 13 ∨ a = 17 ∨ a = 18 ∨ a = 19 ∨ a = 20 ∨ a = 25 ∨ a = 26 → schF nc (nI i) (nI j) σ a = σ a := fun a ha => gg a (by omega) (by omega) (by omega) (by omega)
  have et : ∀ (c : Nat) (x : Int32), tolO (schF nc (nI i) (nI j) σ) c x = tolO σ c x := fun c x => tolO_to (by rw [en 17 (by decide)]) (by rw [en 18 (by decide)]) (by rw [en 19 (by decide)]) (by rw [en 20 (by decide)])
  refine ⟨Rs_schF hR hF hnc hi hj1 hj2, Fr_schF hF, ?_, fun c hc => ?_, fun c hc z => ?_, ?_, h21, ht⟩
  · have q : Ev N (np, ns, nc) (schF nc (nI i) (nI j) σ) := Ev_to hE (fun a ha => en a (by omega)) (fun s _ z => by rw [en 11 (by decide)] at z; exact z) (by rw [en 25 (by decide)]; exact Int.le_refl _)
    exact ⟨q.1, q.2.1, q.2.2⟩
  · rw [et, en 25 (by decide)]
    by_cases hcn : c = nc
    · subst hcn
      rw [e16]
      unfold tolO tolF
      rw [z17, show nOf (0 : Int32) = 0 by decide]
      rfl
    · rw [ii 16 c hcn (by decide)]
      exact hT c (by have : c < nc + 1 := hc; show c < nc; omega)
  · have hc : c < nc + 1 := hc
    by_cases hcn : c = nc
    · subst hcn
      rw [e14, e15, e16, en 6 (by decide), nOf_N (n := i) (by omega), nOf_N (n := j) (by omega)]
      refine ⟨(h2f z).1, fun c' hc' hne => ?_⟩
      rw [ii 14 c' hne (by decide), ii 15 c' hne (by decide)]
      exact (h2f z).2 c' (by have : c' < c + 1 := hc'; omega)
    · have hc2 : c < nc := by omega
      obtain ⟨-, -, -, -, w⟩ := hq c hc2
      obtain ⟨w1, w2⟩ := w z
      obtain ⟨p1, p2⟩ := hQ c hc2 w1
      rw [ii 14 c hcn (by decide), ii 15 c hcn (by decide), ii 16 c hcn (by decide), en 6 (by decide)]
      refine ⟨p1, fun c' hc' hne => ?_⟩
      by_cases hcn' : c' = nc
      · subst hcn'
        rw [e14, e15]
        exact fun y => w2 ⟨y.1.symm, y.2.symm⟩
      · rw [ii 14 c' hcn' (by decide), ii 15 c' hcn' (by decide)]
        exact p2 c' (by have : c' < nc + 1 := hc'; show c' < nc; omega) hne
  · obtain ⟨l1, l2, l3, l4, l5, l6⟩ := hL
    refine ⟨by rw [hm 3 0 (by omega) (by omega)]; exact l1, by rw [hm 3 1 (by omega) (by omega)]; exact l2, h4, fun k hk => ?_, fun s hs => ?_, fun c hc => ?_⟩
    · rw [en 2 (by decide), en 1 (by decide), en 3 (by decide), hm 0 k (by omega) (by omega), hm 0 (16 + k) (by omega) (by omega)]
      exact l4 k hk
    · rw [en 8 (by decide), en 9 (by decide), en 10 (by decide), hm 1 (3 * s) (by omega) (by omega), hm 1 (3 * s + 1) (by omega) (by omega), hm 1 (3 * s + 2) (by omega) (by omega)]
      exact l5 s hs
    · by_cases hcn : c = nc
      · subst hcn
        rw [e14, e15, en 17 (by decide), z17]
        exact ⟨h0, h1, h3, h2⟩
      · have hc2 : c < nc := by have : c < nc + 1 := hc; omega
        obtain ⟨w1, w2, w3, w4, -⟩ := hq c hc2
        obtain ⟨v1, v2, v3, -⟩ := l6 c hc2
        rw [ii 14 c hcn (by decide), ii 15 c hcn (by decide), en 17 (by decide), w1, w2, w3]
        exact ⟨v1, v2, v3, w4⟩
