/-! what has not been made stays as it is; a state at rest stays one -/
theorem Fr_to {g : GC} {σ σ' : Me} (h : Fr g σ) (h4 : ∀ k, g.1 ≤ k → σ' 4 k = σ 4 k ∧ σ' 5 k = σ 5 k) (h11 : ∀ s, g.2.1 ≤ s → σ' 11 s = σ 11 s ∧ σ' 12 s = σ 12 s) (h17 : ∀ c, g.2.2 ≤ c → σ' 17 c = σ 17 c) (h22 : ∀ e, 2 * g.2.2 ≤ e → σ' 22 e = σ 22 e ∧ σ' 23 e = σ 23 e ∧ σ' 24 e = σ 24 e) : Fr g σ' := by
  refine ⟨fun k hk => ?_, fun s hs => ?_, fun c hc => ?_, fun e he => ?_⟩
  · rw [(h4 k hk).1, (h4 k hk).2]; exact h.1 k hk
  · rw [(h11 s hs).1, (h11 s hs).2]; exact h.2.1 s hs
  · rw [h17 c hc]; exact h.2.2.1 c hc
  · rw [(h22 e he).1, (h22 e he).2.1, (h22 e he).2.2]; exact h.2.2.2 e he
theorem Fr_st {g : GC} {σ : Me} {a i j : Nat} {v : Int32} (h : Fr g σ) (hn : ∀ b ∈ [4, 5, 11, 12, 17, 22, 23, 24], b ≠ a) : Fr g (st3 σ a i j v) := by
  have e : ∀ b ∈ [4, 5, 11, 12, 17, 22, 23, 24], st3 σ a i j v b = σ b := fun b hb => st3_n (hn b hb)
  exact Fr_to h (fun k _ => ⟨by rw [e 4 (by decide)], by rw [e 5 (by decide)]⟩) (fun s _ => ⟨by rw [e 11 (by decide)], by rw [e 12 (by decide)]⟩) (fun c _ => by rw [e 17 (by decide)]) (fun x _ => ⟨by rw [e 22 (by decide)], by rw [e 23 (by decide)], by rw [e 24 (by decide)]⟩)
theorem Fr_setF {g : GC} {k j : Nat} {v : Int32} {σ : Me} (h : Fr g σ) (hk : k < g.1) : Fr g (setF g.2.1 k j v σ) :=
  Fr_to h (fun i hi => ⟨setF_i (by decide) (by decide) (by decide) (by omega), setF_i (by decide) (by decide) (by decide) (by omega)⟩)
    (fun s hs => ⟨by rw [setF_n (by decide) (by decide) (by decide) (by decide) (by decide) (by decide) (by decide)], setF_s (by decide) (by decide) (by decide) (by decide) (by decide) hs⟩)
    (fun c _ => by rw [setF_n (by decide) (by decide) (by decide) (by decide) (by decide) (by decide) (by decide)])
    (fun x _ => ⟨by rw [setF_n (by decide) (by decide) (by decide) (by decide) (by decide) (by decide) (by decide)], by rw [setF_n (by decide) (by decide) (by decide) (by decide) (by decide) (by decide) (by decide)], by rw [setF_n (by decide) (by decide) (by decide) (by decide) (by decide) (by decide) (by decide)]⟩)
theorem Fr_st4 {g : GC} {k : Nat} {v : Int32} {σ : Me} (h : Fr g σ) (hk : k < g.1) : Fr g (st3 σ 4 k 0 v) :=
  Fr_to h (fun i hi => ⟨st3_i (by omega), by rw [st3_n (by decide)]⟩) (fun s hs => ⟨by rw [st3_n (by decide)], by rw [st3_n (by decide)]⟩) (fun c _ => by rw [st3_n (by decide)]) (fun x _ => ⟨by rw [st3_n (by decide)], by rw [st3_n (by decide)], by rw [st3_n (by decide)]⟩)
theorem Fr_st11 {g : GC} {s : Nat} {v : Int32} {σ : Me} (h : Fr g σ) (hs : s < g.2.1) : Fr g (st3 σ 11 s 0 v) :=
  Fr_to h (fun i hi => ⟨by rw [st3_n (by decide)], by rw [st3_n (by decide)]⟩) (fun s hs => ⟨st3_i (by omega), by rw [st3_n (by decide)]⟩) (fun c _ => by rw [st3_n (by decide)]) (fun x _ => ⟨by rw [st3_n (by decide)], by rw [st3_n (by decide)], by rw [st3_n (by decide)]⟩)
theorem Fr_relS {g : GC} {k : Nat} {σ : Me} (h : Fr g σ) (hk : k < g.1) : Fr g (relS g.2.1 k σ) := by
  unfold relS
  split
  · exact Fr_setF (Fr_st4 h hk) hk
  · exact h
theorem Fr_relF {g : GC} : ∀ (n k : Nat) (σ : Me), k + n ≤ g.1 → Fr g σ → Fr g (relF g.2.1 n k σ)
  | 0, _, _, _, h => h
  | n + 1, k, σ, hk, h => Fr_relF n (k + 1) _ (by omega) (Fr_relS h (by omega))
theorem Fr_endF {g : GC} : ∀ (n s : Nat) (σ : Me), s + n ≤ g.2.1 → Fr g σ → Fr g (endF n s σ)
  | 0, _, _, _, h => h
  | n + 1, s, σ, hs, h => Fr_endF n (s + 1) _ (by omega) (Fr_st11 h (by omega))
theorem Fr_obeF {g : GC} {c : Nat} {σ : Me} (hI : Ib g σ) (hc : c < g.2.2) (h : Fr g σ) : Fr g (obeF g.2.1 c σ) := by
  obtain ⟨i, j, n, n1, n2, h1, h2, -⟩ := hI.2.2.2.2.2 c hc
  have e : nOf (σ 14 c 0) = i := by rw [h2]; exact nI_clamp (by have := hI.1; omega)
  unfold obeF
  rw [e]
  split
  · exact h
  · exact Fr_setF (Fr_st h (by decide)) h1
theorem Fr_folF {g : GC} : ∀ (n c : Nat) (σ : Me), c + n ≤ g.2.2 → Ib g σ → Fr g σ → Fr g (folF g.2.1 n c σ)
  | 0, _, _, _, _, h => h
  | n + 1, c, σ, hc, hI, h => Fr_folF n (c + 1) _ (by omega) (Ib_obeF hI (by omega)) (Fr_obeF hI (by omega) h)
theorem Fr_minF {g : GC} {σ : Me} (hI : Ib g σ) (h : Fr g σ) : Fr g (minF g σ) := by
  unfold minF
  exact Fr_folF _ _ _ (by omega) (Ib_endF _ _ _ (Ib_relF _ _ _ (by omega) (Ib_st hI (by decide)))) (Fr_endF _ _ _ (by omega) (Fr_relF _ _ _ (by omega) (Fr_st h (by decide))))
theorem Fr_pasF {g : GC} : ∀ (n t : Nat) (σ : Me), Rs g t σ → t + n ≤ 1000000 → Fr g σ → Fr g (pasF g n σ)
  | 0, _, _, _, _, h => h
  | n + 1, t, σ, hR, ht, h => Fr_pasF n (t + 1) _ (Rs_min hR (by omega)) (by omega) (Fr_minF hR.1 h)
theorem Fr_ent {g : GC} {c e : Nat} {dm dc x v : Int32} {σ : Me} (h : Fr g σ) (hc : c < g.2.2) (he : e < 2 * g.2.2) : Fr g (entM c dm x v (entC e dc x v σ)) := by
  have fr : ∀ a, a ≠ 17 → a ≠ 18 → a ≠ 19 → a ≠ 20 → a ≠ 21 → a ≠ 22 → a ≠ 23 → a ≠ 24 → entM c dm x v (entC e dc x v σ) a = σ a := fun a q1 q2 q3 q4 q5 q6 q7 q8 => by rw [entM_n q1 q2 q3 q4, entC_n q5 q6 q7 q8]
  refine Fr_to h (fun k _ => ⟨by rw [fr 4 (by decide) (by decide) (by decide) (by decide) (by decide) (by decide) (by decide) (by decide)], by rw [fr 5 (by decide) (by decide) (by decide) (by decide) (by decide) (by decide) (by decide) (by decide)]⟩) (fun s _ => ⟨by rw [fr 11 (by decide) (by decide) (by decide) (by decide) (by decide) (by decide) (by decide) (by decide)], by rw [fr 12 (by decide) (by decide) (by decide) (by decide) (by decide) (by decide) (by decide) (by decide)]⟩) (fun q hq => ?_) (fun q hq => ?_)
  · rw [entM_i (by omega), entC_n (by decide) (by decide) (by decide) (by decide)]
  · have f : ∀ a, a = 22 ∨ a = 23 ∨ a = 24 → entM c dm x v (entC e dc x v σ) a q = σ a q := fun a ha => by rw [entM_n (by omega) (by omega) (by omega) (by omega), entC_i (by omega)]
    exact ⟨f 22 (by omega), f 23 (by omega), f 24 (by omega)⟩
theorem Fr_addF {np ns nc : Nat} {v sw ti : Int32} {σ : Me} (h : Fr (np, ns, nc) σ) : Fr (np + 1, ns, nc) (addF np v sw ti σ) := by
  have f : ∀ a, a ≠ 1 → a ≠ 2 → a ≠ 3 → a ≠ 6 → a ≠ 7 → addF np v sw ti σ a = σ a := fun a q1 q2 q3 q4 q5 => addF_n q1 q2 q3 q4 q5
  refine ⟨fun k hk => ?_, fun s hs => ?_, fun c hc => ?_, fun e he => ?_⟩
  · rw [f 4 (by decide) (by decide) (by decide) (by decide) (by decide), f 5 (by decide) (by decide) (by decide) (by decide) (by decide)]; exact h.1 k (by have : np + 1 ≤ k := hk; show np ≤ k; omega)
  · rw [f 11 (by decide) (by decide) (by decide) (by decide) (by decide), f 12 (by decide) (by decide) (by decide) (by decide) (by decide)]; exact h.2.1 s hs
  · rw [f 17 (by decide) (by decide) (by decide) (by decide) (by decide)]; exact h.2.2.1 c hc
  · rw [f 22 (by decide) (by decide) (by decide) (by decide) (by decide), f 23 (by decide) (by decide) (by decide) (by decide) (by decide), f 24 (by decide) (by decide) (by decide) (by decide) (by decide)]; exact h.2.2.2 e he
theorem Fr_subF {np ns nc : Nat} {pt by1 ov kp : Int32} {σ : Me} (h : Fr (np, ns, nc) σ) : Fr (np, ns + 1, nc) (subF ns pt by1 ov kp σ) := by
  have f : ∀ a, a ≠ 8 → a ≠ 9 → a ≠ 10 → a ≠ 13 → subF ns pt by1 ov kp σ a = σ a := fun a q1 q2 q3 q4 => subF_n q1 q2 q3 q4
  refine ⟨fun k hk => ?_, fun s hs => ?_, fun c hc => ?_, fun e he => ?_⟩
  · rw [f 4 (by decide) (by decide) (by decide) (by decide), f 5 (by decide) (by decide) (by decide) (by decide)]; exact h.1 k hk
  · rw [f 11 (by decide) (by decide) (by decide) (by decide), f 12 (by decide) (by decide) (by decide) (by decide)]; exact h.2.1 s (by have : ns + 1 ≤ s := hs; show ns ≤ s; omega)
  · rw [f 17 (by decide) (by decide) (by decide) (by decide)]; exact h.2.2.1 c hc
  · rw [f 22 (by decide) (by decide) (by decide) (by decide), f 23 (by decide) (by decide) (by decide) (by decide), f 24 (by decide) (by decide) (by decide) (by decide)]; exact h.2.2.2 e he
theorem Fr_schF {np ns nc : Nat} {pt pr : Int32} {σ : Me} (h : Fr (np, ns, nc) σ) : Fr (np, ns, nc + 1) (schF nc pt pr σ) := by
  have f : ∀ a, a ≠ 14 → a ≠ 15 → a ≠ 16 → a ≠ 21 → schF nc pt pr σ a = σ a := fun a q1 q2 q3 q4 => schF_n q1 q2 q3 q4
  refine ⟨fun k hk => ?_, fun s hs => ?_, fun c hc => ?_, fun e he => ?_⟩
  · rw [f 4 (by decide) (by decide) (by decide) (by decide), f 5 (by decide) (by decide) (by decide) (by decide)]; exact h.1 k hk
  · rw [f 11 (by decide) (by decide) (by decide) (by decide), f 12 (by decide) (by decide) (by decide) (by decide)]; exact h.2.1 s hs
  · rw [f 17 (by decide) (by decide) (by decide) (by decide)]; exact h.2.2.1 c (by have : nc + 1 ≤ c := hc; show nc ≤ c; omega)
  · rw [f 22 (by decide) (by decide) (by decide) (by decide), f 23 (by decide) (by decide) (by decide) (by decide), f 24 (by decide) (by decide) (by decide) (by decide)]; exact h.2.2.2 e (by have : 2 * (nc + 1) ≤ e := he; show 2 * nc ≤ e; omega)
/-- calls at rest -/
theorem Rs_setF {g : GC} {t k j : Nat} {v : Int32} {σ : Me} (h : Rs g t σ) (hk : k < g.1) (hj : j < 17) (hv : okV σ k v) : Rs g t (setF g.2.1 k j v σ) := by
  obtain ⟨h1, h2, h3, h4, h5⟩ := h
  refine ⟨Ib_setF h1 hk hj hv, ?_, h3, fun i hi => Tu_setF h1.2.2.2.1 hk h2 h3 (Nat.le_refl _) (h4 i hi), fun s hs => To_to (h5 s hs) ?_ ?_⟩
  · rw [setF_n (by decide) (by decide) (by decide) (by decide) (by decide) (by decide) (by decide)]; exact h2
  · exact setF_n (by decide) (by decide) (by decide) (by decide) (by decide) (by decide) (by decide)
  · exact setF_n (by decide) (by decide) (by decide) (by decide) (by decide) (by decide) (by decide)
theorem Rs_st11 {g : GC} {t s : Nat} {σ : Me} (h : Rs g t σ) : Rs g t (st3 σ 11 s 0 1) := by
  obtain ⟨h1, h2, h3, h4, h5⟩ := h
  obtain ⟨q1, q2, q3, q4, q5, q6⟩ := h1
  have f : ∀ a, a ≠ 11 → st3 σ 11 s 0 1 a = σ a := fun a q => st3_n q
  refine ⟨⟨q1, q2, q3, fun k hk => ?_, fun i hi => ?_, Ic_to q6 (f _ (by decide)) (f _ (by decide)) (f _ (by decide)) (f _ (by decide)) (f _ (by decide)) (f _ (by decide)) (f _ (by decide)) (f _ (by decide)) (f _ (by decide)) (f _ (by decide)) (f _ (by decide))⟩, by rw [f 25 (by decide)]; exact h2, h3, fun k hk => ?_, fun i hi => ?_⟩
  · obtain ⟨z1, z2, z3, z4, z5⟩ := q4 k hk
    have e1 := f 1 (by decide)
    rw [vaO_eq, e1, f 2 (by decide), f 3 (by decide), f 6 (by decide), f 7 (by decide)]
    exact ⟨z1, inP_to z2 e1, z3, fun z hz => okV_to (z4 z hz) e1, z5⟩
  · obtain ⟨z1, z2, z3⟩ := q5 i hi
    rw [f 8 (by decide), f 13 (by decide)]
    refine ⟨?_, z2, z3⟩
    by_cases hs : i = s
    · subst hs; rw [st3_v]; exact Or.inr rfl
    · rw [st3_i hs]; exact z1
  · unfold Tu
    rw [f 4 (by decide)]
    exact h4 k hk
  · obtain ⟨z1, v, z2, z3, z4⟩ := h5 i hi
    unfold To
    rw [f 10 (by decide)]
    by_cases hs : i = s
    · subst hs; rw [st3_v]; exact ⟨Or.inr rfl, v, z2, z3, Or.inl rfl⟩
    · rw [st3_i hs]; exact ⟨z1, v, z2, z3, z4⟩
theorem Rs_obeF {g : GC} {t c : Nat} {σ : Me} (h : Rs g t σ) (hc : c < g.2.2) : Rs g t (obeF g.2.1 c σ) := by
  obtain ⟨h1, h2, h3, h4, h5⟩ := h
  refine ⟨Ib_obeF h1 hc, ?_, h3, fun i hi => Tu_obeF h1 hc h2 h3 (Nat.le_refl _) (h4 i hi), fun s hs => To_to (h5 s hs) ?_ ?_⟩
  · rw [obeF_n (by decide) (by decide) (by decide) (by decide) (by decide) (by decide) (by decide) (by decide)]; exact h2
  · exact obeF_n (by decide) (by decide) (by decide) (by decide) (by decide) (by decide) (by decide) (by decide)
  · exact obeF_n (by decide) (by decide) (by decide) (by decide) (by decide) (by decide) (by decide) (by decide)
theorem Rs_to {g : GC} {t : Nat} {σ σ' : Me} (h : Rs g t σ) (hI : Ib g σ') (h25 : σ' 25 = σ 25) (h4 : σ' 4 = σ 4) (h10 : σ' 10 = σ 10) (h11 : σ' 11 = σ 11) : Rs g t σ' := by
  obtain ⟨h1, h2, h3, h5, h6⟩ := h
  refine ⟨hI, by rw [h25]; exact h2, h3, fun k hk => ?_, fun s hs => To_to (h6 s hs) h11 h10⟩
  unfold Tu
  rw [h4]
  exact h5 k hk
