/-! p22: what the law's check of a write reads -/
theorem st3_ne {m : Me} {a j a1 j1 : Nat} {v : Int32} (h : ¬ (a1 = a ∧ j1 = j)) : st3 m a 0 j v a1 0 j1 = m a1 0 j1 := by
  unfold st3
  rw [if_neg (fun z => h ⟨z.1, z.2.2⟩)]
theorem st_le {c : Nat → Int32} {p : Nat} (h1 : 1 ≤ p) (h : ¬ c p = nth) : stF c 16 1 ≤ p := by
  have q := (stF_spec c 16 1 rfl).1
  exact Nat.not_lt.mp (fun z => h (q p h1 z))
section WF
variable {t N k p : Nat} {g : GC} {σ μ : Me} {v : Int32}
theorem Jt_N {N' : Nat} (J : Jt t N g σ μ) (h : N ≤ N') (h2 : N' < 900000) : Jt t N' g σ μ :=
  ⟨J.1, J.2.1, Ev_N J.2.2.1 h, J.2.2.2.1, J.2.2.2.2.1, J.2.2.2.2.2.1, J.2.2.2.2.2.2.1, J.2.2.2.2.2.2.2.1, h2⟩
theorem he_pos (J : Jt t N g σ μ) (hk : k < g.1) (h : ¬ σ 4 k 0 = 0) : ¬ heO σ k ≤ 0 := by
  obtain ⟨q, h1, h2, h3⟩ := he_at J hk
  rcases h3 with ⟨z, -⟩ | ⟨-, z, -⟩
  · exact absurd z h
  · rw [h1]; exact nI_nle (by omega) (by omega)
theorem he_zero (h : σ 4 k 0 = 0) : heO σ k = 0 := by unfold heO; rw [if_pos h]
theorem bt_p (h1 : 1 ≤ p) (h2 : p ≤ 16) : bt (nI p) 1 16 := ⟨(nI_leI (a := 1) (b := p) (by decide) (by omega)).mpr h1, (nI_leI (a := p) (b := 16) (by omega) (by decide)).mpr h2⟩
theorem wr_3 (hg : g.1 ≤ 16) (hk : k < g.1) (h1 : 1 ≤ p) (h2 : p ≤ 16) (hv : okV σ k v) (h : p = 6 ∧ ¬ σ 4 k 0 = 0) : cdWri g σ (nI k) (nI p) v = 3 := by
  unfold cdWri
  rw [nOf_N (n := k) (by omega)]
  exact cod3_3 ⟨k, hk, rfl⟩ ⟨bt_p h1 h2, hv⟩ (fun z => h.2 (z (by rw [h.1]; rfl)))
theorem wr_0 (hg : g.1 ≤ 16) (hk : k < g.1) (h1 : 1 ≤ p) (h2 : p ≤ 16) (hv : okV σ k v) (h : ¬ (p = 6 ∧ ¬ σ 4 k 0 = 0)) : cdWri g σ (nI k) (nI p) v = 0 := by
  unfold cdWri
  rw [nOf_N (n := k) (by omega)]
  refine cod3_0 ⟨k, hk, rfl⟩ ⟨bt_p h1 h2, hv⟩ (fun z => Classical.not_not.mp (fun y => h ⟨(nI_eq (a := p) (b := 6) (by omega) (by decide)).mp z, y⟩))
theorem wr_6 (h : ¬ (p = 6 ∧ ¬ σ 4 k 0 = 0)) : p = 6 → σ 4 k 0 = 0 := fun z => Classical.not_not.mp (fun y => h ⟨z, y⟩)
/-- behind a write the value is what is due -/
theorem wr_v (hI : Ib g σ) (hk : k < g.1) (hp : p < 17) (hv : okV σ k v) : vaO (setF g.2.1 k p v σ) k = vaO (st3 σ 6 k p v) k := by
  have h7 := ((Ib_setF (ns := g.2.1) hI hk hp hv).2.2.2.1 k hk).2.2.2.2
  rw [← h7]
  by_cases hd : vaO (st3 σ 6 k p v) k = vaO σ k
  · have e : setF g.2.1 k p v σ = st3 σ 6 k p v := by unfold setF; rw [if_pos hd]
    rw [e, st3_n (by decide), hd]
    exact (hI.2.2.2.1 k hk).2.2.2.2
  · have e : setF g.2.1 k p v σ = infF k (vaO (st3 σ 6 k p v) k) g.2.1 0 (chgF k (vaO (st3 σ 6 k p v) k) (σ 25 0 0) (st3 σ 6 k p v)) := by unfold setF; rw [if_neg hd]
    rw [e, infF_n (by decide) (by decide) (by decide), chgF_7]
theorem wr_5 (hI : Ib g σ) (hk : k < g.1) (hp : p < 17) (hv : okV σ k v) : (vaO (setF g.2.1 k p v σ) k = vaO σ k → setF g.2.1 k p v σ 5 k 0 = σ 5 k 0 + 0) ∧ (¬ vaO (setF g.2.1 k p v σ) k = vaO σ k → setF g.2.1 k p v σ 5 k 0 = σ 5 k 0 + 1) := by
  rw [wr_v hI hk hp hv]
  by_cases hd : vaO (st3 σ 6 k p v) k = vaO σ k
  · have e : setF g.2.1 k p v σ = st3 σ 6 k p v := by unfold setF; rw [if_pos hd]
    rw [e, st3_n (by decide)]
    exact ⟨fun _ => (Int32.add_zero _).symm, fun z => absurd hd z⟩
  · have e : setF g.2.1 k p v σ = infF k (vaO (st3 σ 6 k p v) k) g.2.1 0 (chgF k (vaO (st3 σ 6 k p v) k) (σ 25 0 0) (st3 σ 6 k p v)) := by unfold setF; rw [if_neg hd]
    refine ⟨fun z => absurd z hd, fun _ => ?_⟩
    rw [e, infF_n (by decide) (by decide) (by decide), chgF_5, st3_n (by decide)]
theorem wr_st (hI : Ib g σ) (hk : k < g.1) (h1 : 1 ≤ p) (h2 : p ≤ 16) (hv : okV σ k v) (hn : ¬ v = nth) : ¬ nI p < nI (stO (setF g.2.1 k p v σ) k) := by
  have hne : ¬ setF g.2.1 k p v σ 6 k p = nth := by
    by_cases h6 : p = 6
    · subst h6
      by_cases hd : vaO (st3 σ 6 k 6 v) k = vaO σ k
      · have e : setF g.2.1 k 6 v σ = st3 σ 6 k 6 v := by unfold setF; rw [if_pos hd]
        rw [e, st3_v]; exact hn
      · have e : setF g.2.1 k 6 v σ = infF k (vaO (st3 σ 6 k 6 v) k) g.2.1 0 (chgF k (vaO (st3 σ 6 k 6 v) k) (σ 25 0 0) (st3 σ 6 k 6 v)) := by unfold setF; rw [if_neg hd]
        rw [e, infF_n (by decide) (by decide) (by decide)]
        by_cases h3 : 0 < st3 σ 6 k 6 v 3 k 0
        · rw [chgF_66 h3]
          exact rg_nth (inP_rg (vaS_in hI.2.2.2.1 hk hv))
        · rw [chgF_0 h3 (by decide) (by decide), st3_v]; exact hn
    · rw [setF_6s h6]; exact hn
  have h3 : stO (setF g.2.1 k p v σ) k ≤ p := st_le h1 hne
  exact nI_nlt h3 (by omega)
/-- the marks of the schedules, as far as c -/
def Wm (μ μ1 σ : Me) (c k p : Nat) : Prop := (∀ a j, ¬ (a = 2 ∧ ∃ c', c' < c ∧ j = 4 * c' + 2) → μ1 a 0 j = μ a 0 j) ∧ ∀ c', c' < c → (μ1 2 0 (4 * c' + 2) = 0 ∨ μ1 2 0 (4 * c' + 2) = 1) ∧ (fl μ1 c' → fl μ c' ∧ ¬ (σ 14 c' 0 = nI k ∧ σ 15 c' 0 = nI p))
theorem Wm_0 : Wm μ μ σ 0 k p := ⟨fun _ _ _ => rfl, fun c' h => absurd h (Nat.not_lt_zero c')⟩
theorem Wm_s {μ1 : Me} {c : Nat} (h : Wm μ μ1 σ c k p) {x : Int32} (h01 : x = 0 ∨ x = 1) (hx : x = 0 → μ 2 0 (4 * c + 2) = 0 ∧ ¬ (σ 14 c 0 = nI k ∧ σ 15 c 0 = nI p)) : Wm μ (st3 μ1 2 0 (4 * c + 2) x) σ (c + 1) k p := by
  refine ⟨fun a j z => ?_, fun c' hc => ?_⟩
  · rw [st3_ne (fun y => z ⟨y.1, c, Nat.lt_succ_self c, y.2⟩)]
    exact h.1 a j (fun ⟨y1, c', y2, y3⟩ => z ⟨y1, c', by omega, y3⟩)
  · by_cases hcc : c' = c
    · subst hcc
      unfold fl
      rw [st3_v]
      exact ⟨h01, fun z => hx z⟩
    · unfold fl
      rw [st3_ne (fun y => hcc (by omega))]
      exact h.2 c' (by omega)
theorem Wm_rd {μ1 : Me} {c : Nat} (h : Wm μ μ1 σ c k p) {a j : Nat} (hj : a = 2 → ∀ c', c' < c → j ≠ 4 * c' + 2) : μ1 a 0 j = μ a 0 j := h.1 a j (fun ⟨y1, c', y2, y3⟩ => hj y1 c' y2 y3)
theorem Wm_La (J : Jt t N g σ μ) {μ1 : Me} (h : Wm μ μ1 σ g.2.2 k p) : La g σ μ1 := by
  obtain ⟨l1, l2, l3, l4, l5, l6⟩ := J.2.2.2.2.2.1
  refine ⟨by rw [Wm_rd h (fun z => absurd z (by decide))]; exact l1, by rw [Wm_rd h (fun z => absurd z (by decide))]; exact l2, by rw [Wm_rd h (fun z => absurd z (by decide))]; exact l3, fun q hq => ?_, fun s hs => ?_, fun c hc => ?_⟩
  · rw [Wm_rd h (fun z => absurd z (by decide)), Wm_rd (j := 16 + q) h (fun z => absurd z (by decide))]; exact l4 q hq
  · rw [Wm_rd (j := 3 * s) h (fun z => absurd z (by decide)), Wm_rd (j := 3 * s + 1) h (fun z => absurd z (by decide)), Wm_rd (j := 3 * s + 2) h (fun z => absurd z (by decide))]; exact l5 s hs
  · obtain ⟨w1, w2, w3, -⟩ := l6 c hc
    rw [Wm_rd (j := 4 * c) h (fun _ c' _ => by omega), Wm_rd (j := 4 * c + 1) h (fun _ c' _ => by omega), Wm_rd (j := 4 * c + 3) h (fun _ c' _ => by omega)]
    exact ⟨w1, w2, w3, (h.2 c hc).1⟩
theorem Wm_J (J : Jt t N g σ μ) (hN : N + 1 < 900000) (hk : k < g.1) (h2 : p ≤ 16) (hv : okV σ k v) (h6 : ¬ (p = 6 ∧ ¬ σ 4 k 0 = 0)) {μ1 : Me} (h : Wm μ μ1 σ g.2.2 k p) : Jt t (N + 1) g (setF g.2.1 k p v σ) μ1 :=
  Jt_wri J hN hk (by omega) hv (wr_6 h6) (Wm_La J h) (fun c hc z => (h.2 c hc).2 z)
theorem fl_01 (J : Jt t N g σ μ) {c : Nat} (hc : c < g.2.2) : μ 2 0 (4 * c + 2) = 0 ∨ μ 2 0 (4 * c + 2) = 1 := (J.2.2.2.2.2.1.2.2.2.2.2 c hc).2.2.2
end WF
theorem or_1 {x : Int32} (h : x = 0 ∨ x = 1) : x ||| 1 = 1 := by rcases h with rfl | rfl <;> decide
theorem or_0 {x : Int32} (h : x = 0 ∨ x = 1) : x ||| 0 = x := by rcases h with rfl | rfl <;> decide
