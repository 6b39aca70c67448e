/-! p22: each step of a minute keeps it -/
theorem Ev_relS {N : Nat} {g : GC} {k : Nat} {σ : Me} (hN : N < 1000000) (hI : Ib g σ) (h : Ev N g σ) (hk : k < g.1) : Ev (N + 1) g (relS g.2.1 k σ) := by
  unfold relS
  split
  · have e : ∀ a, a ≠ 4 → st3 σ 4 k 0 0 a = σ a := fun a ha => st3_n ha
    have h2 : Ev N g (st3 σ 4 k 0 0) := by
      refine ⟨fun i hi => ?_, fun s hs => ?_, ?_⟩
      · by_cases hik : i = k
        · subst hik
          obtain ⟨q1, c, q2, q3, q4, -⟩ := h.1 i hi
          unfold Pk
          rw [e 1 (by decide), e 2 (by decide), e 3 (by decide), e 5 (by decide), e 7 (by decide)]
          exact ⟨q1, c, q2, q3, q4, Or.inl st3_v⟩
        · exact Pk_to (h.1 i hi) (by rw [e 1 (by decide)]) (by rw [e 2 (by decide)]) (by rw [e 3 (by decide)]) (st3_i hik) (by rw [e 5 (by decide)]) (by rw [e 6 (by decide)]) (by rw [e 7 (by decide)]) (by rw [e 25 (by decide)]; exact Int.le_refl _)
      · have q := h.2.1 s hs
        unfold Sk at q ⊢
        rw [e 12 (by decide), e 5 (by decide), e 8 (by decide), e 9 (by decide), e 11 (by decide), e 7 (by decide), e 13 (by decide)]
        exact q
      · rw [e 26 (by decide), h.2.2]
        unfold sentO
        rw [e 12 (by decide)]
    exact Ev_setF hN (Ib_st hI (by decide)) h2 hk (by decide) (nth_ok _ _) (Or.inr st3_v)
  · exact Ev_N h (Nat.le_succ N)
theorem Ev_relF {g : GC} : ∀ (n k N : Nat) (σ : Me), N + n ≤ 1000000 → k + n ≤ g.1 → Ib g σ → Ev N g σ → Ev (N + n) g (relF g.2.1 n k σ)
  | 0, k, N, σ, hN, hk, hI, h => h
  | n + 1, k, N, σ, hN, hk, hI, h => by
    have := Ev_relF n (k + 1) (N + 1) _ (by omega) (by omega) (Ib_relS hI (show k < g.1 by omega)) (Ev_relS (by omega) hI h (show k < g.1 by omega))
    rw [show N + 1 + n = N + (n + 1) by omega] at this
    exact this
theorem endS_11 {s i : Nat} {σ : Me} (h : endS s σ 11 i 0 = 0) : σ 11 i 0 = 0 := by
  by_cases hi : i = s
  · subst hi
    have e : endS i σ 11 i 0 = bI (¬ σ 11 i 0 = 0 ∨ σ 10 i 0 = σ 25 0 0) := st3_v
    rw [e] at h
    exact Classical.not_not.mp (fun z => (bI_0.mp h) (Or.inl z))
  · rw [endS_i hi] at h; exact h
theorem endF_11 {i : Nat} : ∀ (n s : Nat) (σ : Me), endF n s σ 11 i 0 = 0 → σ 11 i 0 = 0
  | 0, s, σ, h => h
  | n + 1, s, σ, h => endS_11 (endF_11 n (s + 1) _ h)
theorem Ev_endF {g : GC} {N n s : Nat} {σ : Me} (h : Ev N g σ) : Ev N g (endF n s σ) :=
  Ev_to h (fun a ha => endF_n (by omega) n s σ) (fun i _ z => endF_11 n s σ z) (by rw [endF_n (a := 25) (by decide)]; exact Int.le_refl _)
theorem Ic_at {g : GC} {σ : Me} (h : Ib g σ) {c : Nat} (hc : c < g.2.2) : ∃ i j : Nat, i < g.1 ∧ σ 14 c 0 = nI i ∧ nOf (σ 14 c 0) = i ∧ 7 ≤ j ∧ j ≤ 16 ∧ σ 15 c 0 = nI j ∧ nOf (σ 15 c 0) = j := by
  obtain ⟨i, j, n, n1, n2, h1, h2, h3, h4, h5, -⟩ := h.2.2.2.2.2 c hc
  exact ⟨i, j, h1, h2, by rw [h2]; exact nI_clamp (by have := h.1; omega), h3, h4, h5, by rw [h5]; exact nI_clamp (by omega)⟩
theorem Ev_obeF {N : Nat} {g : GC} {c : Nat} {σ : Me} (hN : N < 1000000) (hI : Ib g σ) (h : Ev N g σ) (hc : c < g.2.2) : Ev (N + 1) g (obeF g.2.1 c σ) := by
  unfold obeF
  split
  · exact Ev_N h (Nat.le_succ N)
  · obtain ⟨i, j, h1, h2, e1, h3, h4, h5, e2⟩ := Ic_at hI hc
    have hok := tolO_ok hI.1 hI.2.2.2.2.2 hc (σ 25 0 0)
    rw [e1] at hok
    rw [e1, e2]
    exact Ev_setF hN (Ib_st hI (by decide)) (Ev_to h (fun a ha => st3_n (by omega)) (fun s _ z => by rw [st3_n (by decide)] at z; exact z) (by rw [st3_n (by decide)]; exact Int.le_refl _)) h1 (by omega) (okV_to hok (st3_n (by decide))) (Or.inl (by omega))
theorem Ev_folF {g : GC} : ∀ (n c N : Nat) (σ : Me), N + n ≤ 1000000 → c + n ≤ g.2.2 → Ib g σ → Ev N g σ → Ev (N + n) g (folF g.2.1 n c σ)
  | 0, c, N, σ, hN, hk, hI, h => h
  | n + 1, c, N, σ, hN, hk, hI, h => by
    have := Ev_folF n (c + 1) (N + 1) _ (by omega) (by omega) (Ib_obeF hI (show c < g.2.2 by omega)) (Ev_obeF (by omega) hI h (show c < g.2.2 by omega))
    rw [show N + 1 + n = N + (n + 1) by omega] at this
    exact this
theorem nI_le_succ {t : Nat} (h : t + 1 < 2 ^ 31) : (nI t).toInt ≤ (nI t + 1).toInt := by
  rw [nI_1 t, nI_toInt (by omega), nI_toInt (by omega)]
  omega
theorem Ev_minF {N t : Nat} {g : GC} {σ : Me} (hN : N + 20 ≤ 1000000) (hI : Ib g σ) (ht : σ 25 0 0 = nI t) (ht2 : t + 1 ≤ 1000000) (h : Ev N g σ) : Ev (N + 20) g (minF g σ) := by
  have h0 : Ev N g (st3 σ 25 0 0 (σ 25 0 0 + 1)) := Ev_to h (fun a ha => st3_n (by omega)) (fun s _ z => by rw [st3_n (by decide)] at z; exact z) (by rw [st3_v, ht]; exact nI_le_succ (by omega))
  have hI0 : Ib g (st3 σ 25 0 0 (σ 25 0 0 + 1)) := Ib_st hI (by decide)
  have g1 := hI.1
  have g2 := hI.2.2.1
  have h1 := Ev_relF g.1 0 N _ (by omega) (by omega) hI0 h0
  have hI1 := Ib_relF (ns := g.2.1) g.1 0 _ (by omega) hI0
  have h2 := Ev_endF (n := g.2.1) (s := 0) h1
  have hI2 := Ib_endF g.2.1 0 _ hI1
  have h3 := Ev_folF g.2.2 0 (N + g.1) _ (by omega) (by omega) hI2 h2
  exact Ev_N h3 (by omega)
/-! schedules: what each has written, where nobody else writes -/
def Cq (g : GC) (F : Nat → Prop) (σ : Me) : Prop := ∀ c, c < g.2.2 → F c → σ 6 (nOf (σ 14 c 0)) (nOf (σ 15 c 0)) = σ 16 c 0 ∧ ∀ c', c' < g.2.2 → c' ≠ c → ¬ (σ 14 c' 0 = σ 14 c 0 ∧ σ 15 c' 0 = σ 15 c 0)
theorem setF_6 {ns k j a b : Nat} {v : Int32} {σ : Me} (hb : b ≠ 6) (h : ¬ (a = k ∧ b = j)) : setF ns k j v σ 6 a b = σ 6 a b := by
  have e : st3 σ 6 k j v 6 a b = σ 6 a b := by
    by_cases ha : a = k
    · subst ha; exact st3_j (fun z => h ⟨rfl, z⟩)
    · rw [st3_i ha]
  unfold setF
  split
  · exact e
  · rw [infF_n (by decide) (by decide) (by decide), chgF_6 hb]; exact e
theorem setF_6s {ns k j : Nat} {v : Int32} {σ : Me} (hb : j ≠ 6) : setF ns k j v σ 6 k j = v := by
  unfold setF
  split
  · exact st3_v
  · rw [infF_n (by decide) (by decide) (by decide), chgF_6 hb]; exact st3_v
theorem Cq_to {g : GC} {F : Nat → Prop} {σ σ' : Me} (h : Cq g F σ) (e6 : σ' 6 = σ 6) (e14 : σ' 14 = σ 14) (e15 : σ' 15 = σ 15) (e16 : σ' 16 = σ 16) : Cq g F σ' := by
  unfold Cq
  rw [e6, e14, e15, e16]
  exact h
theorem Cq_F {g : GC} {F F' : Nat → Prop} {σ : Me} (h : Cq g F σ) (hF : ∀ c, F' c → F c) : Cq g F' σ := fun c hc z => h c hc (hF c z)
/-- a command that is not any of theirs -/
theorem Cq_setF {g : GC} {F : Nat → Prop} {ns k j : Nat} {v : Int32} {σ : Me} (hI : Ib g σ) (h : Cq g F σ) (hn : ∀ c, c < g.2.2 → F c → ¬ (nOf (σ 14 c 0) = k ∧ nOf (σ 15 c 0) = j)) : Cq g F (setF ns k j v σ) := by
  intro c hc hF
  obtain ⟨h1, h2⟩ := h c hc hF
  obtain ⟨i, p, -, -, -, q3, q4, -, e2⟩ := Ic_at hI hc
  have en : ∀ a, a = 14 ∨ a = 15 ∨ a = 16 → setF ns k j v σ a = σ a := fun a ha => setF_n (by omega) (by omega) (by omega) (by omega) (by omega) (by omega) (by omega)
  rw [en 14 (by decide), en 15 (by decide), en 16 (by decide)]
  refine ⟨?_, h2⟩
  rw [setF_6 (by omega) (hn c hc hF)]
  exact h1
theorem Cq_relS {g : GC} {F : Nat → Prop} {k : Nat} {σ : Me} (hI : Ib g σ) (h : Cq g F σ) : Cq g F (relS g.2.1 k σ) := by
  unfold relS
  split
  · refine Cq_setF (Ib_st hI (by decide)) (Cq_to h (st3_n (by decide)) (st3_n (by decide)) (st3_n (by decide)) (st3_n (by decide))) (fun c hc _ => ?_)
    rw [st3_n (by decide), st3_n (by decide)]
    obtain ⟨i, p, -, -, -, q3, q4, -, e2⟩ := Ic_at hI hc
    omega
  · exact h
theorem Cq_relF {g : GC} {F : Nat → Prop} : ∀ (n k : Nat) (σ : Me), k + n ≤ g.1 → Ib g σ → Cq g F σ → Cq g F (relF g.2.1 n k σ)
  | 0, _, _, _, _, h => h
  | n + 1, k, σ, hk, hI, h => Cq_relF n (k + 1) _ (by omega) (Ib_relS hI (by omega)) (Cq_relS hI h)
theorem Cq_obeF {g : GC} {F : Nat → Prop} {c : Nat} {σ : Me} (hI : Ib g σ) (h : Cq g F σ) (hc : c < g.2.2) : Cq g F (obeF g.2.1 c σ) := by
  unfold obeF
  split
  · exact h
  · obtain ⟨i, j, h1, h2, e1, h3, h4, h5, e2⟩ := Ic_at hI hc
    rw [e1, e2]
    intro c' hc' hF
    obtain ⟨q1, q2⟩ := h c' hc' hF
    have en : ∀ a, a = 14 ∨ a = 15 → setF g.2.1 i j (tolO σ c (σ 25 0 0)) (st3 σ 16 c 0 (tolO σ c (σ 25 0 0))) a = σ a := fun a ha => by rw [setF_n (by omega) (by omega) (by omega) (by omega) (by omega) (by omega) (by omega), st3_n (by omega)]
    rw [en 14 (by decide), en 15 (by decide), setF_n (a := 16) (by decide) (by decide) (by decide) (by decide) (by decide) (by decide) (by decide)]
    refine ⟨?_, q2⟩
    by_cases hcc : c' = c
    · subst hcc
      rw [e1, e2, setF_6s (by omega), st3_v]
    · obtain ⟨i', j', g1, g2, f1, g3, g4, g5, f2⟩ := Ic_at hI hc'
      rw [st3_i hcc, f1, f2, setF_6 (by omega) (fun z => q2 c hc (fun y => hcc y.symm) ⟨by rw [h2, g2, z.1], by rw [h5, g5, z.2]⟩), st3_n (by decide)]
      rw [f1, f2] at q1
      exact q1
theorem Cq_folF {g : GC} {F : Nat → Prop} : ∀ (n c : Nat) (σ : Me), c + n ≤ g.2.2 → Ib g σ → Cq g F σ → Cq g F (folF g.2.1 n c σ)
  | 0, _, _, _, _, h => h
  | n + 1, c, σ, hc, hI, h => Cq_folF n (c + 1) _ (by omega) (Ib_obeF hI (by omega)) (Cq_obeF hI h (by omega))
theorem Cq_minF {g : GC} {F : Nat → Prop} {σ : Me} (hI : Ib g σ) (h : Cq g F σ) : Cq g F (minF g σ) := by
  have hI0 : Ib g (st3 σ 25 0 0 (σ 25 0 0 + 1)) := Ib_st hI (by decide)
  have h1 := Cq_relF (F := F) g.1 0 _ (by omega) hI0 (Cq_to h (st3_n (by decide)) (st3_n (by decide)) (st3_n (by decide)) (st3_n (by decide)))
  have hI1 := Ib_relF (ns := g.2.1) g.1 0 _ (by omega) hI0
  exact Cq_folF g.2.2 0 _ (by omega) (Ib_endF _ _ _ hI1) (Cq_to h1 (endF_n (by decide) _ _ _) (endF_n (by decide) _ _ _) (endF_n (by decide) _ _ _) (endF_n (by decide) _ _ _))
/-- each schedule has told last what it tells now -/
def Ct (g : GC) (σ : Me) : Prop := ∀ c, c < g.2.2 → σ 16 c 0 = tolO σ c (σ 25 0 0)
theorem tolO_to {σ σ' : Me} {c : Nat} {t : Int32} (e17 : σ' 17 c = σ 17 c) (e18 : σ' 18 c = σ 18 c) (e19 : σ' 19 c = σ 19 c) (e20 : σ' 20 c = σ 20 c) : tolO σ' c t = tolO σ c t := by
  unfold tolO tolF
  rw [e17, e18, e19, e20]
theorem obeF_t {ns c c' : Nat} {σ : Me} {t : Int32} : tolO (obeF ns c σ) c' t = tolO σ c' t := by
  have e : ∀ a, a = 17 ∨ a = 18 ∨ a = 19 ∨ a = 20 → obeF ns c σ a = σ a := fun a ha => obeF_n (by omega) (by omega) (by omega) (by omega) (by omega) (by omega) (by omega) (by omega)
  exact tolO_to (by rw [e 17 (by decide)]) (by rw [e 18 (by decide)]) (by rw [e 19 (by decide)]) (by rw [e 20 (by decide)])
theorem obeF_16 {ns c : Nat} {σ : Me} : obeF ns c σ 16 c 0 = tolO σ c (σ 25 0 0) := by
  unfold obeF
  split
  · rename_i h; exact h.symm
  · rw [setF_n (by decide) (by decide) (by decide) (by decide) (by decide) (by decide) (by decide), st3_v]
theorem obeF_16o {ns c c' : Nat} {σ : Me} (h : c' ≠ c) : obeF ns c σ 16 c' = σ 16 c' := by
  unfold obeF
  split
  · rfl
  · rw [setF_n (by decide) (by decide) (by decide) (by decide) (by decide) (by decide) (by decide), st3_i h]
theorem obeF_25 {ns c : Nat} {σ : Me} : obeF ns c σ 25 = σ 25 := obeF_n (by decide) (by decide) (by decide) (by decide) (by decide) (by decide) (by decide) (by decide)
theorem Ct_folF {ns : Nat} : ∀ (n c : Nat) (σ : Me), (∀ c', c' < c → σ 16 c' 0 = tolO σ c' (σ 25 0 0)) → ∀ c', c' < c + n → folF ns n c σ 16 c' 0 = tolO (folF ns n c σ) c' (folF ns n c σ 25 0 0)
  | 0, c, σ, h => fun c' hc => h c' (by omega)
  | n + 1, c, σ, h => fun c' hc => by
    refine Ct_folF n (c + 1) _ (fun q hq => ?_) c' (by omega)
    rw [obeF_t, obeF_25]
    by_cases hqc : q = c
    · subst hqc; exact obeF_16
    · rw [obeF_16o hqc]; exact h q (by omega)
theorem Ct_minF {g : GC} {σ : Me} : Ct g (minF g σ) := fun c hc => Ct_folF g.2.2 0 _ (fun q hq => absurd hq (Nat.not_lt_zero q)) c (by omega)
theorem Ct_to {g : GC} {σ σ' : Me} (h : Ct g σ) (e : ∀ a, a = 16 ∨ a = 17 ∨ a = 18 ∨ a = 19 ∨ a = 20 ∨ a = 25 → σ' a = σ a) : Ct g σ' := fun c hc => by
  rw [e 16 (by decide), e 25 (by decide), tolO_to (σ := σ) (σ' := σ') (by rw [e 17 (by decide)]) (by rw [e 18 (by decide)]) (by rw [e 19 (by decide)]) (by rw [e 20 (by decide)])]
  exact h c hc
