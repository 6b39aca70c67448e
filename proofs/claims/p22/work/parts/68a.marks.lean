/-! p22: the marks of the schedules, where a schedule is added -/
def Sm (μ μ1 σ : Me) (c nc k p : Nat) : Prop :=
  (∀ a j, ¬ (a = 2 ∧ ((∃ c', c' < c ∧ j = 4 * c' + 2) ∨ (4 * nc ≤ j ∧ j ≤ 4 * nc + 3))) → μ1 a 0 j = μ a 0 j) ∧ μ1 2 0 (4 * nc) = nI k ∧ μ1 2 0 (4 * nc + 1) = nI p ∧ μ1 2 0 (4 * nc + 3) = 0 ∧ (μ1 2 0 (4 * nc + 2) = 0 ∨ μ1 2 0 (4 * nc + 2) = 1) ∧
  (μ1 2 0 (4 * nc + 2) = 0 → σ 6 k p = nth ∧ ∀ c', c' < c → ¬ (σ 14 c' 0 = nI k ∧ σ 15 c' 0 = nI p)) ∧ ∀ c', c' < c → (μ1 2 0 (4 * c' + 2) = 0 ∨ μ1 2 0 (4 * c' + 2) = 1) ∧ (fl μ1 c' → fl μ c' ∧ ¬ (σ 14 c' 0 = nI k ∧ σ 15 c' 0 = nI p))
section SMF
variable {t N np ns nc k p : Nat} {σ μ μ1 : Me}
theorem Sm_0 {w : Int32} (h01 : w = 0 ∨ w = 1) (hz : w = 0 → σ 6 k p = nth) : Sm μ (st3 (st3 (st3 (st3 μ 2 0 (4 * nc) (nI k)) 2 0 (4 * nc + 1) (nI p)) 2 0 (4 * nc + 2) w) 2 0 (4 * nc + 3) 0) σ 0 nc k p := by
  have e2 : st3 (st3 (st3 (st3 μ 2 0 (4 * nc) (nI k)) 2 0 (4 * nc + 1) (nI p)) 2 0 (4 * nc + 2) w) 2 0 (4 * nc + 3) 0 2 0 (4 * nc + 2) = w := by rw [st3_ne (by omega), st3_v]
  refine ⟨fun a j z => ?_, ?_, ?_, st3_v, ?_, fun h => ?_, fun c' h => absurd h (Nat.not_lt_zero c')⟩
  · have z2 : ¬ (a = 2 ∧ 4 * nc ≤ j ∧ j ≤ 4 * nc + 3) := fun y => z ⟨y.1, Or.inr y.2⟩
    rw [st3_ne (by omega), st3_ne (by omega), st3_ne (by omega), st3_ne (by omega)]
  · rw [st3_ne (by omega), st3_ne (by omega), st3_ne (by omega), st3_v]
  · rw [st3_ne (by omega), st3_ne (by omega), st3_v]
  · rw [e2]; exact h01
  · rw [e2] at h; exact ⟨hz h, fun c' h => absurd h (Nat.not_lt_zero c')⟩
theorem Sm_rd {c : Nat} (h : Sm μ μ1 σ c nc k p) {a j : Nat} (hj : a = 2 → (∀ c', c' < c → j ≠ 4 * c' + 2) ∧ j < 4 * nc) : μ1 a 0 j = μ a 0 j := by
  refine h.1 a j (fun ⟨y1, y2⟩ => ?_)
  obtain ⟨h1, h2⟩ := hj y1
  rcases y2 with ⟨c', h3, h4⟩ | ⟨h3, -⟩
  · exact h1 c' h3 h4
  · omega
theorem Sm_s {c : Nat} (h : Sm μ μ1 σ c nc k p) (hc : c < nc) {x z : Int32} (x01 : x = 0 ∨ x = 1) (hx : x = 0 → μ 2 0 (4 * c + 2) = 0 ∧ ¬ (σ 14 c 0 = nI k ∧ σ 15 c 0 = nI p)) (z01 : z = 0 ∨ z = 1) (hz : z = 0 → μ1 2 0 (4 * nc + 2) = 0 ∧ ¬ (σ 14 c 0 = nI k ∧ σ 15 c 0 = nI p)) :
    Sm μ (st3 (st3 μ1 2 0 (4 * c + 2) x) 2 0 (4 * nc + 2) z) σ (c + 1) nc k p := by
  obtain ⟨h1, h2, h3, h4, h5, h6, h7⟩ := h
  have e2 : st3 (st3 μ1 2 0 (4 * c + 2) x) 2 0 (4 * nc + 2) z 2 0 (4 * nc + 2) = z := st3_v
  refine ⟨fun a j y => ?_, ?_, ?_, ?_, ?_, fun q => ?_, fun c' hc' => ?_⟩
  · have y1 : ¬ (a = 2 ∧ j = 4 * c + 2) := fun w => y ⟨w.1, Or.inl ⟨c, Nat.lt_succ_self c, w.2⟩⟩
    have y2 : ¬ (a = 2 ∧ j = 4 * nc + 2) := fun w => y ⟨w.1, Or.inr (by omega)⟩
    rw [st3_ne y2, st3_ne y1]
    refine h1 a j (fun ⟨w1, w2⟩ => y ⟨w1, ?_⟩)
    rcases w2 with ⟨c', w3, w4⟩ | w3
    · exact Or.inl ⟨c', by omega, w4⟩
    · exact Or.inr w3
  · rw [st3_ne (by omega), st3_ne (by omega)]; exact h2
  · rw [st3_ne (by omega), st3_ne (by omega)]; exact h3
  · rw [st3_ne (by omega), st3_ne (by omega)]; exact h4
  · rw [e2]; exact z01
  · rw [e2] at q
    obtain ⟨q1, q2⟩ := hz q
    obtain ⟨q3, q4⟩ := h6 q1
    refine ⟨q3, fun c' hc' => ?_⟩
    by_cases hcc : c' = c
    · subst hcc; exact q2
    · exact q4 c' (by omega)
  · unfold fl
    rw [st3_ne (by omega)]
    by_cases hcc : c' = c
    · subst hcc
      rw [st3_v]
      exact ⟨x01, fun q => hx q⟩
    · rw [st3_ne (by omega)]
      exact h7 c' (by omega)
theorem Sm_J (J : Jt t N (np, ns, nc) σ μ) (hnc : nc < 4) (hk : k < np) (h1 : 7 ≤ p) (h2 : p ≤ 16) (h : Sm μ μ1 σ nc nc k p) : Jt t N (np, ns, nc + 1) (schF nc (nI k) (nI p) σ) (st3 μ1 3 0 2 (nI (nc + 1))) := by
  obtain ⟨g1, g2, g3, g4, g5, g6, g7⟩ := id h
  refine Jt_sch J hnc hk h1 h2 (fun a q z1 z2 => ?_) (fun c hc => ?_) ?_ ?_ ?_ ?_ (fun z => ?_) st3_v
  · rw [st3_ne z2]
    exact Sm_rd h (fun w => absurd w z1)
  · have w := g7 c hc
    unfold fl at w ⊢
    rw [st3_n (by decide), Sm_rd (j := 4 * c) h (fun _ => ⟨fun c' _ => by omega, by omega⟩), Sm_rd (j := 4 * c + 1) h (fun _ => ⟨fun c' _ => by omega, by omega⟩), Sm_rd (j := 4 * c + 3) h (fun _ => ⟨fun c' _ => by omega, by omega⟩)]
    exact ⟨rfl, rfl, rfl, w.1, w.2⟩
  · rw [st3_n (by decide)]; exact g2
  · rw [st3_n (by decide)]; exact g3
  · rw [st3_n (by decide)]; exact g4
  · rw [st3_n (by decide)]; exact g5
  · unfold fl at z
    rw [st3_n (by decide)] at z
    exact g6 z
theorem lo_b7 {i : Nat} (h : i < 10) : bt (nI (7 + i)) 7 16 := ⟨(nI_leI (a := 7) (b := 7 + i) (by decide) (by omega)).mpr (by omega), (nI_leI (a := 7 + i) (b := 16) (by omega) (by decide)).mpr (by omega)⟩
end SMF
