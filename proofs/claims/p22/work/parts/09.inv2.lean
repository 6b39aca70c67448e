/-! numbers (fa_eq, fb_.. as the kit gives them for pasting) -/
theorem fa_eq (a b : Int32) : a = b ↔ a.toInt = b.toInt := Int32.toInt_inj.symm
theorem fb_rng (x : Int32) : -2147483648 ≤ x.toInt ∧ x.toInt < 2147483648 := by
  have h1 := Int32.le_toInt x
  have h2 := Int32.toInt_lt x
  omega
theorem fb_bmod {z : Int} (h1 : -2147483648 ≤ z) (h2 : z < 2147483648) : z.bmod (2 ^ 32) = z := by
  rw [Int.bmod_eq_of_le (by omega) (by omega)]
theorem fb_addI {x y : Int32} (h1 : -2147483648 ≤ x.toInt + y.toInt) (h2 : x.toInt + y.toInt < 2147483648) : (x + y).toInt = x.toInt + y.toInt := by
  rw [Int32.toInt_add, fb_bmod h1 h2]
theorem fb_subI {x y : Int32} (h1 : -2147483648 ≤ x.toInt - y.toInt) (h2 : x.toInt - y.toInt < 2147483648) : (x - y).toInt = x.toInt - y.toInt := by
  rw [Int32.toInt_sub, fb_bmod h1 h2]
theorem far_eq {v w : Int32} (hv : rg v) (hw : rg w) : (if 0 ≤ v - w then v - w else 0 - (v - w)) = farO v w := by
  obtain ⟨v1, v2⟩ := hv
  obtain ⟨w1, w2⟩ := hw
  have e1 : (v - w).toInt = v.toInt - w.toInt := fb_subI (by omega) (by omega)
  have e2 : (w - v).toInt = w.toInt - v.toInt := fb_subI (by omega) (by omega)
  have e0 : (0 : Int32).toInt = 0 := by decide
  have e3 : (0 - (v - w)).toInt = 0 - (v.toInt - w.toInt) := by rw [fb_subI (by rw [e0, e1]; omega) (by rw [e0, e1]; omega), e0, e1]
  unfold farO
  by_cases h1 : 0 ≤ v - w
  · rw [if_pos h1]
    have h2 := Int32.le_iff_toInt_le.mp h1
    rw [e0, e1] at h2
    by_cases h3 : w < v
    · rw [if_pos h3]
    · rw [if_neg h3]
      have h4 : ¬ w.toInt < v.toInt := fun q => h3 (Int32.lt_iff_toInt_lt.mpr q)
      rw [fa_eq, e1, e2]
      omega
  · rw [if_neg h1]
    have h2 : ¬ (0 : Int32).toInt ≤ (v - w).toInt := fun q => h1 (Int32.le_iff_toInt_le.mpr q)
    rw [e0, e1] at h2
    have h3 : ¬ w < v := fun q => by
      have := Int32.lt_iff_toInt_lt.mp q
      omega
    rw [if_neg h3, fa_eq, e2, e3]
    omega
/-- what a schedule tells is nothing, or a value that its point can have -/
theorem latF_ok {w m t : Nat → Int32} {d x : Int32} {P : Int32 → Prop} : ∀ n, (∀ q, q < n → t q = nth ∨ P (t q)) → (latF w m t d x n).2 = nth ∨ P (latF w m t d x n).2
  | 0, h => Or.inl rfl
  | n + 1, h => by
    simp only [latF]
    split
    · exact h n (Nat.lt_succ_self n)
    · exact latF_ok n (fun q hq => h q (Nat.lt_succ_of_lt hq))
theorem tolO_ok {g : GC} {σ : Me} (hg : g.1 ≤ 16) (h : Ic g σ) {c : Nat} (hc : c < g.2.2) (t : Int32) : okV σ (nOf (σ 14 c 0)) (tolO σ c t) := by
  obtain ⟨i, j, n, n1, n2, h1, h2, h3, h4, h5, h6, h7, h8, h9, h10, h11, h12⟩ := h c hc
  have e1 : nOf (σ 14 c 0) = i := by rw [h2]; exact nI_clamp (by omega)
  have e2 : nOf (σ 17 c 0) = n := by rw [h6]; exact nI_clamp (by omega)
  unfold okV tolO tolF
  rw [e1, e2]
  exact latF_ok (P := inP σ i) n h11
theorem Ib_st {g : GC} {σ : Me} {a i j : Nat} {v : Int32} (h : Ib g σ) (hn : ∀ b ∈ [1, 2, 3, 6, 7, 8, 11, 13, 14, 15, 17, 18, 19, 20, 21, 22, 23, 24], b ≠ a) : Ib g (st3 σ a i j v) := by
  have e : ∀ b ∈ [1, 2, 3, 6, 7, 8, 11, 13, 14, 15, 17, 18, 19, 20, 21, 22, 23, 24], st3 σ a i j v b = σ b := fun b hb => st3_n (hn b hb)
  obtain ⟨h1, h2, h3, h4, h5, h6⟩ := h
  refine ⟨h1, h2, h3, fun k hk => ?_, Is_to h5 (e _ (by decide)) (e _ (by decide)) (e _ (by decide)), Ic_to h6 (e _ (by decide)) (e _ (by decide)) (e _ (by decide)) (e _ (by decide)) (e _ (by decide)) (e _ (by decide)) (e _ (by decide)) (e _ (by decide)) (e _ (by decide)) (e _ (by decide)) (e _ (by decide))⟩
  obtain ⟨q1, q2, q3, q4, q5⟩ := h4 k hk
  rw [vaO_eq, e 1 (by decide), e 2 (by decide), e 3 (by decide), e 6 (by decide), e 7 (by decide)]
  exact ⟨q1, inP_to q2 (e 1 (by decide)), q3, fun z hz => okV_to (q4 z hz) (e 1 (by decide)), q5⟩
theorem st3_self {σ : Me} {a i j : Nat} : st3 σ a i j (σ a i j) = σ := by
  funext a1 i1 j1
  unfold st3
  split
  · rename_i h
    obtain ⟨rfl, rfl, rfl⟩ := h
    rfl
  · rfl
/-! time: until when a point is held, until when a subscription goes on -/
def Tu (q : Nat) (σ : Me) (k : Nat) : Prop := ∃ u : Nat, σ 4 k 0 = nI u ∧ u ≤ 2000000 ∧ (u = 0 ∨ q ≤ u)
def To (q : Nat) (σ : Me) (s : Nat) : Prop := (σ 11 s 0 = 0 ∨ σ 11 s 0 = 1) ∧ ∃ v : Nat, σ 10 s 0 = nI v ∧ v ≤ 2000000 ∧ (σ 11 s 0 = 1 ∨ q ≤ v)
theorem chgF_7 {k : Nat} {d t : Int32} {σ : Me} : chgF k d t σ 7 k 0 = d := by
  unfold chgF
  split
  · rw [st3_n (by decide), st3_n (by decide), st3_n (by decide), st3_v]
  · rw [st3_n (by decide), st3_v]
theorem chgF_4 {k : Nat} {d t : Int32} {σ : Me} : chgF k d t σ 4 k 0 = if 0 < σ 3 k 0 then t + σ 3 k 0 else σ 4 k 0 := by
  unfold chgF
  split
  · rw [st3_v]
  · rw [st3_n (by decide), st3_n (by decide)]
theorem setF_4 {ns k j : Nat} {v : Int32} {σ : Me} : setF ns k j v σ 4 k 0 = σ 4 k 0 ∨ (0 < σ 3 k 0 ∧ setF ns k j v σ 4 k 0 = σ 25 0 0 + σ 3 k 0) := by
  unfold setF
  split
  · left; rw [st3_n (by decide)]
  · rw [infF_n (by decide) (by decide) (by decide), chgF_4, st3_n (by decide), st3_n (by decide)]
    by_cases h : 0 < σ 3 k 0
    · rw [if_pos h]; exact Or.inr ⟨h, rfl⟩
    · rw [if_neg h]; exact Or.inl rfl
theorem nI_of_toInt {x : Int32} (h : 0 ≤ x.toInt) : x = nI x.toInt.toNat := by
  have h2 := (fb_rng x).2
  rw [fa_eq, nI_toInt (by omega)]
  omega
theorem Tu_setF {g : GC} {q t ns k j i : Nat} {v : Int32} {σ : Me} (hp : Ip g σ) (hk : k < g.1) (ht : σ 25 0 0 = nI t) (ht2 : t ≤ 1000000) (hq : q ≤ t + 1) (h : Tu q σ i) : Tu q (setF ns k j v σ) i := by
  by_cases hik : i = k
  · subst hik
    rcases setF_4 (ns := ns) (k := i) (j := j) (v := v) (σ := σ) with e | ⟨h0, e⟩
    · unfold Tu; rw [e]; exact h
    · obtain ⟨-, -, ⟨h1, h2⟩, -⟩ := hp i hk
      have h3 := Int32.lt_iff_toInt_lt.mp h0
      have e0 : (0 : Int32).toInt = 0 := by decide
      rw [e0] at h3
      refine ⟨t + (σ 3 i 0).toInt.toNat, ?_, by omega, Or.inr (by omega)⟩
      rw [e, ht, ← nI_add, ← nI_of_toInt h1]
  · unfold Tu; rw [setF_i (by decide) (by decide) (by decide) hik]; exact h
/-- a point that this step has changed is held for longer than now -/
theorem Tu_setF0 {g : GC} {t ns k j : Nat} {v : Int32} {σ : Me} (hp : Ip g σ) (hk : k < g.1) (ht : σ 25 0 0 = nI t) (ht2 : t ≤ 1000000) (h : σ 4 k 0 = 0) : Tu (t + 1) (setF ns k j v σ) k :=
  Tu_setF hp hk ht ht2 (Nat.le_refl _) ⟨0, h, by omega, Or.inl rfl⟩
theorem relS_n {ns k a : Nat} {σ : Me} (h4 : a ≠ 4) (h5 : a ≠ 5) (h6 : a ≠ 6) (h7 : a ≠ 7) (h12 : a ≠ 12) (h13 : a ≠ 13) (h26 : a ≠ 26) : relS ns k σ a = σ a := by
  unfold relS
  split
  · rw [setF_n h4 h5 h6 h7 h12 h13 h26, st3_n h4]
  · rfl
theorem relS_i {ns k i : Nat} {σ : Me} (hi : i ≠ k) : relS ns k σ 4 i = σ 4 i := by
  unfold relS
  split
  · rw [setF_i (by decide) (by decide) (by decide) hi, st3_i hi]
  · rfl
theorem nth_ok (σ : Me) (k : Nat) : okV σ k nth := Or.inl rfl
theorem Ib_relS {g : GC} {ns k : Nat} {σ : Me} (h : Ib g σ) (hk : k < g.1) : Ib g (relS ns k σ) := by
  unfold relS
  split
  · exact Ib_setF (Ib_st h (by decide)) hk (by decide) (nth_ok _ _)
  · exact h
theorem Tu_relS {g : GC} {t ns k : Nat} {σ : Me} (hI : Ib g σ) (hk : k < g.1) (ht : σ 25 0 0 = nI t) (ht0 : 0 < t) (ht2 : t ≤ 1000000) (h : Tu t σ k) : Tu (t + 1) (relS ns k σ) k := by
  unfold relS
  split
  · exact Tu_setF0 (Ib_st hI (by decide)).2.2.2.1 hk (by rw [st3_n (by decide)]; exact ht) ht2 st3_v
  · rename_i hc
    obtain ⟨u, h1, h2, h3⟩ := h
    refine ⟨u, h1, h2, ?_⟩
    rcases h3 with q | q
    · exact Or.inl q
    · refine Or.inr ?_
      rcases Nat.eq_or_lt_of_le q with z | z
      · exact absurd (by rw [h1, ht, z]) hc
      · exact z
theorem Tu_mono {q q' : Nat} {σ : Me} {k : Nat} (h : Tu q σ k) (hq : q' ≤ q) : Tu q' σ k := by
  obtain ⟨u, h1, h2, h3⟩ := h
  exact ⟨u, h1, h2, h3.imp id (Nat.le_trans hq)⟩
theorem relF_n {a ns : Nat} (h4 : a ≠ 4) (h5 : a ≠ 5) (h6 : a ≠ 6) (h7 : a ≠ 7) (h12 : a ≠ 12) (h13 : a ≠ 13) (h26 : a ≠ 26) : ∀ (n k : Nat) (σ : Me), relF ns n k σ a = σ a
  | 0, k, σ => rfl
  | n + 1, k, σ => by
    show relF ns n (k + 1) (relS ns k σ) a = σ a
    rw [relF_n h4 h5 h6 h7 h12 h13 h26 n, relS_n h4 h5 h6 h7 h12 h13 h26]
theorem Ib_relF {g : GC} {ns : Nat} : ∀ (n k : Nat) (σ : Me), k + n ≤ g.1 → Ib g σ → Ib g (relF ns n k σ)
  | 0, k, σ, hk, h => h
  | n + 1, k, σ, hk, h => Ib_relF n (k + 1) _ (by omega) (Ib_relS h (by omega))
theorem Tu_relF {g : GC} {t ns : Nat} (ht0 : 0 < t) (ht2 : t ≤ 1000000) : ∀ (n k : Nat) (σ : Me), k + n = g.1 → Ib g σ → σ 25 0 0 = nI t → (∀ i, i < g.1 → Tu (if i < k then t + 1 else t) σ i) → ∀ i, i < g.1 → Tu (t + 1) (relF ns n k σ) i
  | 0, k, σ, hk, hI, ht, h => fun i hi => by
    have := h i hi
    rw [if_pos (by omega)] at this
    exact this
  | n + 1, k, σ, hk, hI, ht, h => by
    refine Tu_relF ht0 ht2 n (k + 1) _ (by omega) (Ib_relS hI (by omega)) ?_ ?_
    · rw [relS_n (by decide) (by decide) (by decide) (by decide) (by decide) (by decide) (by decide)]; exact ht
    · intro i hi
      by_cases hik : i = k
      · subst hik
        rw [if_pos (by omega)]
        have h1 := h i hi
        rw [if_neg (by omega)] at h1
        exact Tu_relS hI hi ht ht0 ht2 h1
      · have h1 := h i hi
        unfold Tu
        rw [relS_i hik]
        by_cases q : i < k
        · rw [if_pos (by omega)]; rw [if_pos q] at h1; exact h1
        · rw [if_neg (by omega)]; rw [if_neg q] at h1; exact h1
theorem endS_n {a s : Nat} {σ : Me} (h : a ≠ 11) : endS s σ a = σ a := st3_n h
theorem endF_n {a : Nat} (h : a ≠ 11) : ∀ (n s : Nat) (σ : Me), endF n s σ a = σ a
  | 0, s, σ => rfl
  | n + 1, s, σ => by
    show endF n (s + 1) (endS s σ) a = σ a
    rw [endF_n h n, endS_n h]
theorem Ib_endS {g : GC} {s : Nat} {σ : Me} (h : Ib g σ) : Ib g (endS s σ) := by
  obtain ⟨h1, h2, h3, h4, h5, h6⟩ := h
  refine ⟨h1, h2, h3, fun k hk => ?_, fun i hi => ?_, Ic_to h6 (endS_n (by decide)) (endS_n (by decide)) (endS_n (by decide)) (endS_n (by decide)) (endS_n (by decide)) (endS_n (by decide)) (endS_n (by decide)) (endS_n (by decide)) (endS_n (by decide)) (endS_n (by decide)) (endS_n (by decide))⟩
  · obtain ⟨q1, q2, q3, q4, q5⟩ := h4 k hk
    rw [vaO_eq, endS_n (by decide), endS_n (by decide), endS_n (by decide), endS_n (by decide), endS_n (by decide)]
    exact ⟨q1, inP_to q2 (endS_n (by decide)), q3, fun z hz => okV_to (q4 z hz) (endS_n (by decide)), q5⟩
  · obtain ⟨q1, q2, q3⟩ := h5 i hi
    rw [endS_n (a := 8) (by decide), endS_n (a := 13) (by decide)]
    refine ⟨?_, q2, q3⟩
    unfold endS
    by_cases z : i = s
    · subst z; rw [st3_v]; exact bI_01 _
    · rw [st3_i z]; exact q1
theorem Ib_endF {g : GC} : ∀ (n s : Nat) (σ : Me), Ib g σ → Ib g (endF n s σ)
  | 0, s, σ, h => h
  | n + 1, s, σ, h => Ib_endF n (s + 1) _ (Ib_endS h)
theorem To_endS {t s : Nat} {σ : Me} (ht : σ 25 0 0 = nI t) (ht2 : t ≤ 1000000) (h : To t σ s) : To (t + 1) (endS s σ) s := by
  obtain ⟨h0, v, h1, h2, h3⟩ := h
  have e11 : endS s σ 11 s 0 = bI (¬ σ 11 s 0 = 0 ∨ σ 10 s 0 = σ 25 0 0) := st3_v
  unfold To
  rw [e11, endS_n (by decide)]
  refine ⟨bI_01 _, v, h1, h2, ?_⟩
  by_cases hc : ¬ σ 11 s 0 = 0 ∨ σ 10 s 0 = σ 25 0 0
  · exact Or.inl (bI_t hc)
  · refine Or.inr ?_
    have c1 : σ 11 s 0 = 0 := Classical.not_not.mp (fun q => hc (Or.inl q))
    have c2 : ¬ σ 10 s 0 = σ 25 0 0 := fun q => hc (Or.inr q)
    rcases h3 with q | q
    · rw [c1] at q; exact absurd q (by decide)
    · rcases Nat.eq_or_lt_of_le q with z | z
      · exact absurd (by rw [h1, ht, z]) c2
      · exact z
theorem endS_i {s i : Nat} {σ : Me} (h : i ≠ s) : endS s σ 11 i = σ 11 i := st3_i h
theorem To_endF {g : GC} {t : Nat} (ht2 : t ≤ 1000000) : ∀ (n s : Nat) (σ : Me), s + n = g.2.1 → σ 25 0 0 = nI t → (∀ i, i < g.2.1 → To (if i < s then t + 1 else t) σ i) → ∀ i, i < g.2.1 → To (t + 1) (endF n s σ) i
  | 0, s, σ, hs, ht, h => fun i hi => by
    have := h i hi
    rw [if_pos (by omega)] at this
    exact this
  | n + 1, s, σ, hs, ht, h => by
    refine To_endF ht2 n (s + 1) _ (by omega) (by rw [endS_n (by decide)]; exact ht) ?_
    intro i hi
    by_cases his : i = s
    · subst his
      rw [if_pos (by omega)]
      have h1 := h i hi
      rw [if_neg (by omega)] at h1
      exact To_endS ht ht2 h1
    · have h1 := h i hi
      unfold To
      rw [endS_i his, endS_n (by decide)]
      by_cases q : i < s
      · rw [if_pos (by omega)]; rw [if_pos q] at h1; exact h1
      · rw [if_neg (by omega)]; rw [if_neg q] at h1; exact h1
theorem obeF_n {ns c a : Nat} {σ : Me} (h4 : a ≠ 4) (h5 : a ≠ 5) (h6 : a ≠ 6) (h7 : a ≠ 7) (h12 : a ≠ 12) (h13 : a ≠ 13) (h16 : a ≠ 16) (h26 : a ≠ 26) : obeF ns c σ a = σ a := by
  unfold obeF
  split
  · rfl
  · rw [setF_n h4 h5 h6 h7 h12 h13 h26, st3_n h16]
theorem Ib_obeF {g : GC} {ns c : Nat} {σ : Me} (h : Ib g σ) (hc : c < g.2.2) : Ib g (obeF ns c σ) := by
  unfold obeF
  split
  · exact h
  · have hok := tolO_ok h.1 h.2.2.2.2.2 hc (σ 25 0 0)
    obtain ⟨i, j, n, n1, n2, h1, h2, h3, h4, h5, -⟩ := h.2.2.2.2.2 c hc
    have e1 : nOf (σ 14 c 0) = i := by rw [h2]; exact nI_clamp (by have := h.1; omega)
    have e2 : nOf (σ 15 c 0) = j := by rw [h5]; exact nI_clamp (by omega)
    rw [e1] at hok
    rw [e1, e2]
    exact Ib_setF (Ib_st h (by decide)) h1 (by omega) (okV_to hok (st3_n (by decide)))
theorem Tu_obeF {g : GC} {q t ns c i : Nat} {σ : Me} (hI : Ib g σ) (hc : c < g.2.2) (ht : σ 25 0 0 = nI t) (ht2 : t ≤ 1000000) (hq : q ≤ t + 1) (h : Tu q σ i) : Tu q (obeF ns c σ) i := by
  unfold obeF
  split
  · exact h
  · obtain ⟨i1, j, n, n1, n2, h1, h2, -⟩ := hI.2.2.2.2.2 c hc
    have e1 : nOf (σ 14 c 0) = i1 := by rw [h2]; exact nI_clamp (by have := hI.1; omega)
    rw [e1]
    exact Tu_setF (Ib_st hI (by decide)).2.2.2.1 h1 (by rw [st3_n (by decide)]; exact ht) ht2 hq (by unfold Tu; rw [st3_n (by decide)]; exact h)
theorem folF_n {ns a : Nat} (h4 : a ≠ 4) (h5 : a ≠ 5) (h6 : a ≠ 6) (h7 : a ≠ 7) (h12 : a ≠ 12) (h13 : a ≠ 13) (h16 : a ≠ 16) (h26 : a ≠ 26) : ∀ (n c : Nat) (σ : Me), folF ns n c σ a = σ a
  | 0, c, σ => rfl
  | n + 1, c, σ => by
    show folF ns n (c + 1) (obeF ns c σ) a = σ a
    rw [folF_n h4 h5 h6 h7 h12 h13 h16 h26 n, obeF_n h4 h5 h6 h7 h12 h13 h16 h26]
theorem Ib_folF {g : GC} {ns : Nat} : ∀ (n c : Nat) (σ : Me), c + n ≤ g.2.2 → Ib g σ → Ib g (folF ns n c σ)
  | 0, c, σ, hc, h => h
  | n + 1, c, σ, hc, h => Ib_folF n (c + 1) _ (by omega) (Ib_obeF h (by omega))
theorem Tu_folF {g : GC} {q t ns i : Nat} (ht2 : t ≤ 1000000) (hq : q ≤ t + 1) : ∀ (n c : Nat) (σ : Me), c + n ≤ g.2.2 → Ib g σ → σ 25 0 0 = nI t → Tu q σ i → Tu q (folF ns n c σ) i
  | 0, c, σ, hc, hI, ht, h => h
  | n + 1, c, σ, hc, hI, ht, h => Tu_folF ht2 hq n (c + 1) _ (by omega) (Ib_obeF hI (by omega)) (by rw [obeF_n (by decide) (by decide) (by decide) (by decide) (by decide) (by decide) (by decide) (by decide)]; exact ht) (Tu_obeF hI (by omega) ht ht2 hq h)
theorem To_to {q s : Nat} {σ σ' : Me} (h : To q σ s) (e11 : σ' 11 = σ 11) (e10 : σ' 10 = σ 10) : To q σ' s := by
  unfold To
  rw [e11, e10]
  exact h
/-- a state at rest, at the minute t -/
def Rs (g : GC) (t : Nat) (σ : Me) : Prop := Ib g σ ∧ σ 25 0 0 = nI t ∧ t ≤ 1000000 ∧ (∀ k, k < g.1 → Tu (t + 1) σ k) ∧ (∀ s, s < g.2.1 → To (t + 1) σ s)
theorem Rs_min {g : GC} {t : Nat} {σ : Me} (h : Rs g t σ) (ht : t + 1 ≤ 1000000) : Rs g (t + 1) (minF g σ) := by
  obtain ⟨h1, h2, h3, h4, h5⟩ := h
  unfold minF
  have e0 : st3 σ 25 0 0 (σ 25 0 0 + 1) 25 0 0 = nI (t + 1) := by rw [st3_v, h2, nI_1]
  have i0 : Ib g (st3 σ 25 0 0 (σ 25 0 0 + 1)) := Ib_st h1 (by decide)
  have i1 := Ib_relF (ns := g.2.1) g.1 0 _ (by omega) i0
  have e1 : relF g.2.1 g.1 0 (st3 σ 25 0 0 (σ 25 0 0 + 1)) 25 0 0 = nI (t + 1) := by rw [relF_n (by decide) (by decide) (by decide) (by decide) (by decide) (by decide) (by decide)]; exact e0
  have u1 := Tu_relF (g := g) (ns := g.2.1) (Nat.succ_pos t) ht g.1 0 _ (by omega) i0 e0 (fun i hi => by rw [if_neg (by omega)]; unfold Tu; rw [st3_n (by decide)]; exact h4 i hi)
  have o1 : ∀ s, s < g.2.1 → To (t + 1) (relF g.2.1 g.1 0 (st3 σ 25 0 0 (σ 25 0 0 + 1))) s := fun s hs => To_to (h5 s hs) (by rw [relF_n (by decide) (by decide) (by decide) (by decide) (by decide) (by decide) (by decide), st3_n (by decide)]) (by rw [relF_n (by decide) (by decide) (by decide) (by decide) (by decide) (by decide) (by decide), st3_n (by decide)])
  have i2 := Ib_endF g.2.1 0 _ i1
  have e2 : endF g.2.1 0 (relF g.2.1 g.1 0 (st3 σ 25 0 0 (σ 25 0 0 + 1))) 25 0 0 = nI (t + 1) := by rw [endF_n (by decide)]; exact e1
  have o2 := To_endF (g := g) ht g.2.1 0 _ (by omega) e1 (fun i hi => by rw [if_neg (by omega)]; exact o1 i hi)
  refine ⟨Ib_folF g.2.2 0 _ (by omega) i2, ?_, ht, fun k hk => ?_, fun s hs => ?_⟩
  · rw [folF_n (by decide) (by decide) (by decide) (by decide) (by decide) (by decide) (by decide) (by decide)]; exact e2
  · refine Tu_folF ht (Nat.le_refl _) g.2.2 0 _ (by omega) i2 e2 ?_
    unfold Tu
    rw [endF_n (by decide)]
    exact u1 k hk
  · exact To_to (o2 s hs) (folF_n (by decide) (by decide) (by decide) (by decide) (by decide) (by decide) (by decide) (by decide) _ _ _) (folF_n (by decide) (by decide) (by decide) (by decide) (by decide) (by decide) (by decide) (by decide) _ _ _)
theorem Rs_pas {g : GC} : ∀ (n t : Nat) (σ : Me), Rs g t σ → t + n ≤ 1000000 → Rs g (t + n) (pasF g n σ)
  | 0, t, σ, h, hn => h
  | n + 1, t, σ, h, hn => by
    have := Rs_pas n (t + 1) _ (Rs_min h (by omega)) (by omega)
    rw [show t + (n + 1) = t + 1 + n by omega]
    exact this
/-- both sides' lists tell the same -/
theorem tol_eq {σ : Me} {c n n1 n2 t : Nat} (h6 : σ 17 c 0 = nI n) (hn : n ≤ 20) (hE : Ie σ c n n1 n2) (ht : t ≤ 1000000) : tolC σ c n1 n2 (nI t) = tolO σ c (nI t) := by
  obtain ⟨hA, hB, hC⟩ := hE
  have e1 : nI t / 1440 = nI (t / 1440) := pk_div (a := t) (d := 1440) (by omega) (by decide) (by decide)
  have e2 : remF (nI (t / 1440)) 7 = nI (t / 1440 % 7) := pk_rem (a := t / 1440) (d := 7) (by omega) (by decide) (by decide)
  have e3 : nOf (σ 17 c 0) = n := by rw [h6]; exact nI_clamp (by omega)
  have hd : t / 1440 ≤ 1000000 := by omega
  unfold tolC tolO tolF
  rw [e1, e2, e3]
  by_cases hc : hasF (σ 22 (2 * c + 1)) (nI (t / 1440)) n2
  · rw [if_pos hc, if_pos ((hA _ hd).mp hc), hB _ _ hd]
  · rw [if_neg hc, if_neg (fun z => hc ((hA _ hd).mpr z)), hC _ _ (Nat.mod_lt _ (by decide))]
