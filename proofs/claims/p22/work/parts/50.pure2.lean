/-! p22: what holds of a state besides Ib, Rs and Fr: counts, parities, holds, what is kept -/
def smF (f : Nat → Int32) : Nat → Int32
  | 0 => 0
  | n + 1 => smF f n + f n
def sentO (σ : Me) (n : Nat) : Int32 := smF (fun s => σ 12 s 0) n
theorem smF_eq {f f' : Nat → Int32} : ∀ n, (∀ i, i < n → f' i = f i) → smF f' n = smF f n
  | 0, _ => rfl
  | n + 1, h => by
    show smF f' n + f' n = smF f n + f n
    rw [smF_eq n (fun i hi => h i (by omega)), h n (by omega)]
theorem smF_up {f f' : Nat → Int32} {i : Nat} (h1 : f' i = f i + 1) (h2 : ∀ j, j ≠ i → f' j = f j) : ∀ n, i < n → smF f' n = smF f n + 1
  | 0, h => absurd h (Nat.not_lt_zero i)
  | n + 1, h => by
    show smF f' n + f' n = smF f n + f n + 1
    by_cases hi : i = n
    · subst hi
      rw [smF_eq i (fun j hj => h2 j (by omega)), h1, Int32.add_assoc]
    · rw [smF_up h1 h2 n (by omega), h2 n (fun z => hi z.symm), Int32.add_assoc, Int32.add_comm 1 (f n), ← Int32.add_assoc]
def cnS (σ : Me) (k : Nat) (v : Int32) (i : Nat) : Prop := σ 8 i 0 = nI k ∧ σ 11 i 0 = 0 ∧ σ 9 i 0 ≤ farO v (σ 13 i 0)
theorem infS_y {k i : Nat} {v : Int32} {σ : Me} (h : cnS σ k v i) : infS k v i σ 12 i 0 = σ 12 i 0 + 1 ∧ infS k v i σ 13 i 0 = v ∧ infS k v i σ 26 0 0 = σ 26 0 0 + 1 := by
  unfold infS
  rw [if_pos (show σ 8 i 0 = nI k ∧ σ 11 i 0 = 0 ∧ σ 9 i 0 ≤ farO v (σ 13 i 0) from h)]
  exact ⟨by rw [st3_n (by decide), st3_v], by rw [st3_n (by decide), st3_n (by decide), st3_v], st3_v⟩
theorem infS_z {k i : Nat} {v : Int32} {σ : Me} (h : ¬ cnS σ k v i) : infS k v i σ = σ := by
  unfold infS
  exact if_neg h
theorem infF_lt {k a i : Nat} {v : Int32} (h : a ≠ 26) : ∀ (n s : Nat) (σ : Me), i < s → infF k v n s σ a i = σ a i
  | 0, _, _, _ => rfl
  | n + 1, s, σ, hi => by
    show infF k v n (s + 1) (infS k v s σ) a i = σ a i
    rw [infF_lt h n (s + 1) _ (by omega), infS_i h (by omega)]
theorem cnS_to {σ σ' : Me} {k i : Nat} {v : Int32} (e8 : σ' 8 i = σ 8 i) (e9 : σ' 9 i = σ 9 i) (e11 : σ' 11 i = σ 11 i) (e13 : σ' 13 i = σ 13 i) : cnS σ' k v i ↔ cnS σ k v i := by
  unfold cnS
  rw [e8, e9, e11, e13]
/-- what the informing of all leaves at a subscription -/
theorem infF_at {k i : Nat} {v : Int32} : ∀ (n s : Nat) (σ : Me), s ≤ i → i < s + n → (cnS σ k v i → infF k v n s σ 12 i 0 = σ 12 i 0 + 1 ∧ infF k v n s σ 13 i 0 = v) ∧ (¬ cnS σ k v i → infF k v n s σ 12 i 0 = σ 12 i 0 ∧ infF k v n s σ 13 i 0 = σ 13 i 0)
  | 0, s, σ, h1, h2 => absurd h2 (by omega)
  | n + 1, s, σ, h1, h2 => by
    show (cnS σ k v i → infF k v n (s + 1) (infS k v s σ) 12 i 0 = σ 12 i 0 + 1 ∧ infF k v n (s + 1) (infS k v s σ) 13 i 0 = v) ∧ (¬ cnS σ k v i → infF k v n (s + 1) (infS k v s σ) 12 i 0 = σ 12 i 0 ∧ infF k v n (s + 1) (infS k v s σ) 13 i 0 = σ 13 i 0)
    by_cases hi : i = s
    · subst hi
      rw [infF_lt (by decide) n (i + 1) _ (Nat.lt_succ_self i), infF_lt (by decide) n (i + 1) _ (Nat.lt_succ_self i)]
      exact ⟨fun h => ⟨(infS_y h).1, (infS_y h).2.1⟩, fun h => by rw [infS_z h]; exact ⟨rfl, rfl⟩⟩
    · have ih := infF_at (k := k) (v := v) (i := i) n (s + 1) (infS k v s σ) (by omega) (by omega)
      rw [infS_i (a := 12) (by decide) hi, infS_i (a := 13) (by decide) hi] at ih
      have e : cnS (infS k v s σ) k v i ↔ cnS σ k v i := cnS_to (infS_i (by decide) hi) (infS_i (by decide) hi) (infS_i (by decide) hi) (infS_i (by decide) hi)
      exact ⟨fun h => ih.1 (e.mpr h), fun h => ih.2 (fun z => h (e.mp z))⟩
theorem infF_26 {k M : Nat} {v : Int32} : ∀ (n s : Nat) (σ : Me), s + n ≤ M → σ 26 0 0 = sentO σ M → infF k v n s σ 26 0 0 = sentO (infF k v n s σ) M
  | 0, _, _, _, h => h
  | n + 1, s, σ, hM, h => by
    show infF k v n (s + 1) (infS k v s σ) 26 0 0 = sentO (infF k v n (s + 1) (infS k v s σ)) M
    refine infF_26 n (s + 1) _ (by omega) ?_
    by_cases hc : cnS σ k v s
    · rw [(infS_y hc).2.2, h]
      exact (smF_up (f := fun q => σ 12 q 0) (f' := fun q => infS k v s σ 12 q 0) (i := s) (infS_y hc).1 (fun j hj => by show infS k v s σ 12 j 0 = σ 12 j 0; rw [infS_i (by decide) hj]) M (by omega)).symm
    · rw [infS_z hc]; exact h
theorem chgF_5 {k : Nat} {d t : Int32} {σ : Me} : chgF k d t σ 5 k 0 = σ 5 k 0 + 1 := by
  unfold chgF
  split
  · rw [st3_n (by decide), st3_n (by decide), st3_v]
  · rw [st3_v]
theorem chgF_66 {k : Nat} {d t : Int32} {σ : Me} (h : 0 < σ 3 k 0) : chgF k d t σ 6 k 6 = d := by
  unfold chgF
  rw [if_pos h, st3_n (by decide), st3_v]
theorem chgF_6 {k a b : Nat} {d t : Int32} {σ : Me} (h : b ≠ 6) : chgF k d t σ 6 a b = σ 6 a b := by
  unfold chgF
  split
  · rw [st3_n (by decide), st3_j h, st3_n (by decide), st3_n (by decide)]
  · rw [st3_n (by decide), st3_n (by decide)]
theorem chgF_0 {k a : Nat} {d t : Int32} {σ : Me} (h : ¬ 0 < σ 3 k 0) (h7 : a ≠ 7) (h5 : a ≠ 5) : chgF k d t σ a = σ a := by
  unfold chgF
  rw [if_neg h, st3_n h5, st3_n h7]
/-- a point -/
def Pk (N : Nat) (σ : Me) (k : Nat) : Prop :=
  (σ 1 k 0 = 0 → σ 3 k 0 = 0) ∧ ∃ c : Nat, σ 5 k 0 = nI c ∧ c ≤ N ∧ (σ 1 k 0 = 1 → (σ 7 k 0).toInt = ((σ 2 k 0).toInt + c) % 2) ∧ (σ 4 k 0 = 0 ∨ (0 < σ 3 k 0 ∧ (σ 4 k 0).toInt ≤ (σ 25 0 0).toInt + (σ 3 k 0).toInt ∧ ¬ σ 6 k 6 = nth ∧ 1 ≤ c))
/-- a subscription -/
def Sk (N : Nat) (σ : Me) (s : Nat) : Prop :=
  (∃ r c : Nat, σ 12 s 0 = nI r ∧ σ 5 (nOf (σ 8 s 0)) 0 = nI c ∧ r ≤ c ∧ c ≤ N) ∧ 1 ≤ (σ 9 s 0).toInt ∧ (σ 11 s 0 = 0 → farO (σ 7 (nOf (σ 8 s 0)) 0) (σ 13 s 0) < σ 9 s 0)
def Ev (N : Nat) (g : GC) (σ : Me) : Prop := (∀ k, k < g.1 → Pk N σ k) ∧ (∀ s, s < g.2.1 → Sk N σ s) ∧ σ 26 0 0 = sentO σ g.2.1
theorem Pk_to {N : Nat} {σ σ' : Me} {k : Nat} (h : Pk N σ k) (e1 : σ' 1 k = σ 1 k) (e2 : σ' 2 k = σ 2 k) (e3 : σ' 3 k = σ 3 k) (e4 : σ' 4 k = σ 4 k) (e5 : σ' 5 k = σ 5 k) (e6 : σ' 6 k 6 = σ 6 k 6) (e7 : σ' 7 k = σ 7 k) (h25 : (σ 25 0 0).toInt ≤ (σ' 25 0 0).toInt) : Pk N σ' k := by
  obtain ⟨h1, c, h2, h3, h4, h5⟩ := h
  unfold Pk
  rw [e1, e2, e3, e4, e5, e6, e7]
  refine ⟨h1, c, h2, h3, h4, h5.imp id (fun z => ⟨z.1, by have := z.2.1; omega, z.2.2⟩)⟩
theorem Pk_N {N M : Nat} {σ : Me} {k : Nat} (h : Pk N σ k) (hN : N ≤ M) : Pk M σ k := by
  obtain ⟨h1, c, h2, h3, h4⟩ := h
  exact ⟨h1, c, h2, by omega, h4⟩
theorem Sk_N {N M : Nat} {σ : Me} {k : Nat} (h : Sk N σ k) (hN : N ≤ M) : Sk M σ k := by
  obtain ⟨⟨r, c, h1, h2, h3, h4⟩, h5⟩ := h
  exact ⟨⟨r, c, h1, h2, h3, by omega⟩, h5⟩
theorem Ev_N {N M : Nat} {g : GC} {σ : Me} (h : Ev N g σ) (hN : N ≤ M) : Ev M g σ := ⟨fun k hk => Pk_N (h.1 k hk) hN, fun s hs => Sk_N (h.2.1 s hs) hN, h.2.2⟩
/-- the same but for the clock, what has ended, and the schedules -/
theorem Ev_to {N : Nat} {g : GC} {σ σ' : Me} (h : Ev N g σ) (e : ∀ a, a = 1 ∨ a = 2 ∨ a = 3 ∨ a = 4 ∨ a = 5 ∨ a = 6 ∨ a = 7 ∨ a = 8 ∨ a = 9 ∨ a = 12 ∨ a = 13 ∨ a = 26 → σ' a = σ a) (h11 : ∀ s, s < g.2.1 → σ' 11 s 0 = 0 → σ 11 s 0 = 0) (h25 : (σ 25 0 0).toInt ≤ (σ' 25 0 0).toInt) : Ev N g σ' := by
  refine ⟨fun k hk => Pk_to (h.1 k hk) (by rw [e 1 (by decide)]) (by rw [e 2 (by decide)]) (by rw [e 3 (by decide)]) (by rw [e 4 (by decide)]) (by rw [e 5 (by decide)]) (by rw [e 6 (by decide)]) (by rw [e 7 (by decide)]) h25, fun s hs => ?_, ?_⟩
  · obtain ⟨h1, h2, h3⟩ := h.2.1 s hs
    unfold Sk
    rw [e 12 (by decide), e 5 (by decide), e 8 (by decide), e 9 (by decide), e 7 (by decide), e 13 (by decide)]
    exact ⟨h1, h2, fun z => h3 (h11 s hs z)⟩
  · rw [e 26 (by decide), h.2.2]
    unfold sentO
    rw [e 12 (by decide)]
theorem far_0 {v : Int32} : farO v v = 0 := by
  unfold farO
  split
  · exact Int32.sub_self v
  · exact Int32.sub_self v
theorem lt_toI {a b : Int32} : a < b ↔ a.toInt < b.toInt := Int32.lt_iff_toInt_lt
theorem le_toI {a b : Int32} : a ≤ b ↔ a.toInt ≤ b.toInt := Int32.le_iff_toInt_le
theorem inP_sw {σ : Me} {k : Nat} {x : Int32} (h : inP σ k x) (h1 : σ 1 k 0 = 1) : x.toInt = 0 ∨ x.toInt = 1 := by
  unfold inP at h
  rw [h1] at h
  have q1 := le_toI.mp h.1
  have q2 := le_toI.mp h.2
  rw [show (loF 1).toInt = 0 by decide] at q1
  rw [show (hiF 1).toInt = 1 by decide] at q2
  omega
theorem Ib_8' {g : GC} {σ : Me} (h : Ib g σ) {s : Nat} (hs : s < g.2.1) : ∃ i, i < g.1 ∧ σ 8 s 0 = nI i ∧ nOf (σ 8 s 0) = i := by
  obtain ⟨-, ⟨i, hi, e⟩, -⟩ := h.2.2.2.2.1 s hs
  exact ⟨i, hi, e, by rw [e]; exact nI_clamp (by have := h.1; omega)⟩
theorem bmod_le' {z : Int} (h : -2147483648 ≤ z) : z.bmod (2 ^ 32) ≤ z := by
  by_cases h2 : z < 2147483648
  · rw [fb_bmod h h2]; exact Int.le_refl _
  · have h3 : z.bmod (2 ^ 32) < (2 ^ 32 + 1) / 2 := Int.bmod_lt (by decide)
    omega
/-- a command written, and what follows from it -/
theorem Ev_setF {N : Nat} {g : GC} {k j : Nat} {v : Int32} {σ : Me} (hN : N < 1000000) (hI : Ib g σ) (h : Ev N g σ) (hk : k < g.1) (hj : j < 17) (hv : okV σ k v) (h6 : j ≠ 6 ∨ σ 4 k 0 = 0) : Ev (N + 1) g (setF g.2.1 k j v σ) := by
  by_cases hd : vaO (st3 σ 6 k j v) k = vaO σ k
  · unfold setF
    rw [if_pos hd]
    have e : ∀ a, a ≠ 6 → st3 σ 6 k j v a = σ a := fun a ha => st3_n ha
    refine ⟨fun i hi => ?_, fun s hs => ?_, ?_⟩
    · by_cases hc : i = k ∧ j = 6
      · obtain ⟨rfl, rfl⟩ := hc
        obtain ⟨q1, c, q2, q3, q4, q5⟩ := h.1 i hi
        unfold Pk
        rw [e 1 (by decide), e 2 (by decide), e 3 (by decide), e 4 (by decide), e 5 (by decide), e 7 (by decide)]
        exact ⟨q1, c, q2, by omega, q4, Or.inl (h6.elim (fun z => absurd rfl z) id)⟩
      · refine Pk_N (Pk_to (h.1 i hi) (by rw [e 1 (by decide)]) (by rw [e 2 (by decide)]) (by rw [e 3 (by decide)]) (by rw [e 4 (by decide)]) (by rw [e 5 (by decide)]) ?_ (by rw [e 7 (by decide)]) (by rw [e 25 (by decide)]; exact Int.le_refl _)) (by omega)
        by_cases hik : i = k
        · exact st3_j (fun z => hc ⟨hik, z.symm⟩)
        · rw [st3_i hik]
    · have q := Sk_N (h.2.1 s hs) (Nat.le_succ N)
      unfold Sk at q ⊢
      rw [e 12 (by decide), e 5 (by decide), e 8 (by decide), e 9 (by decide), e 11 (by decide), e 7 (by decide), e 13 (by decide)]
      exact q
    · rw [e 26 (by decide), h.2.2]
      unfold sentO
      rw [e 12 (by decide)]
  · generalize hd' : vaO (st3 σ 6 k j v) k = d at hd
    have hin : inP σ k d := by rw [← hd']; exact vaS_in hI.2.2.2.1 hk hv
    have hp := hI.2.2.2.1
    have hz : setF g.2.1 k j v σ = infF k d g.2.1 0 (chgF k d (σ 25 0 0) (st3 σ 6 k j v)) := by
      unfold setF
      rw [hd', if_neg hd]
    obtain ⟨q1, c, q2, q3, q4, q5⟩ := h.1 k hk
    have f7 : setF g.2.1 k j v σ 7 k 0 = d := by rw [hz, infF_n (by decide) (by decide) (by decide), chgF_7]
    have f5 : setF g.2.1 k j v σ 5 k 0 = nI (c + 1) := by
      rw [hz, infF_n (by decide) (by decide) (by decide), chgF_5, st3_n (by decide), q2]
      exact nI_add c 1
    have fn : ∀ a, a = 1 ∨ a = 2 ∨ a = 3 ∨ a = 8 ∨ a = 9 ∨ a = 11 ∨ a = 25 → setF g.2.1 k j v σ a = σ a := fun a ha => setF_n (by omega) (by omega) (by omega) (by omega) (by omega) (by omega) (by omega)
    have h7 : σ 7 k 0 = vaO σ k := (hp k hk).2.2.2.2
    have hold : inP σ k (vaO σ k) := vaO_in hp hk
    refine ⟨fun i hi => ?_, fun s hs => ?_, ?_⟩
    · by_cases hik : i = k
      · subst hik
        refine ⟨by rw [fn 1 (by decide), fn 3 (by decide)]; exact q1, c + 1, f5, by omega, fun z => ?_, ?_⟩
        · rw [fn 1 (by decide)] at z
          rw [f7, fn 2 (by decide)]
          have w1 := inP_sw hin z
          have w2 := inP_sw hold z
          have w3 := q4 z
          rw [h7] at w3
          have w4 : ¬ d.toInt = (vaO σ i).toInt := fun y => hd (Int32.toInt_inj.mp y)
          omega
        · by_cases h3 : 0 < σ 3 i 0
          · refine Or.inr ⟨by rw [fn 3 (by decide)]; exact h3, ?_, ?_, by omega⟩
            · rw [hz, infF_n (by decide) (by decide) (by decide), chgF_4, st3_n (by decide), if_pos h3, ← hz, fn 25 (by decide), fn 3 (by decide), Int32.toInt_add]
              exact bmod_le' (by have w1 := fb_rng (σ 25 0 0); have w2 := (hp i hi).2.2.1; omega)
            · rw [hz, infF_n (by decide) (by decide) (by decide), chgF_66 (by rw [st3_n (by decide)]; exact h3)]
              exact rg_nth (inP_rg hin)
          · refine Or.inl ?_
            rw [hz, infF_n (by decide) (by decide) (by decide), chgF_4, st3_n (by decide), if_neg h3, st3_n (by decide)]
            exact q5.elim id (fun z => absurd z.1 h3)
      · have ei : ∀ a, a ≠ 12 → a ≠ 13 → a ≠ 26 → setF g.2.1 k j v σ a i = σ a i := fun a e1 e2 e3 => setF_i e1 e2 e3 hik
        exact Pk_N (Pk_to (h.1 i hi) (ei _ (by decide) (by decide) (by decide)) (ei _ (by decide) (by decide) (by decide)) (ei _ (by decide) (by decide) (by decide)) (ei _ (by decide) (by decide) (by decide)) (ei _ (by decide) (by decide) (by decide)) (by rw [ei 6 (by decide) (by decide) (by decide)]) (ei _ (by decide) (by decide) (by decide)) (by rw [fn 25 (by decide)]; exact Int.le_refl _)) (by omega)
    · obtain ⟨⟨r, cs, s1, s2, s3, s4⟩, s5, s6⟩ := h.2.1 s hs
      obtain ⟨i, hi, e8, e8'⟩ := Ib_8' hI hs
      rw [e8'] at s2 s6
      have hat := infF_at (k := k) (i := s) (v := d) g.2.1 0 (chgF k d (σ 25 0 0) (st3 σ 6 k j v)) (Nat.zero_le _) (by omega)
      rw [← hz] at hat
      have ec : ∀ a, a = 8 ∨ a = 9 ∨ a = 11 ∨ a = 12 ∨ a = 13 → chgF k d (σ 25 0 0) (st3 σ 6 k j v) a = σ a := fun a ha => by rw [chgF_n (by omega) (by omega) (by omega) (by omega), st3_n (by omega)]
      rw [cnS_to (σ := σ) (by rw [ec 8 (by decide)]) (by rw [ec 9 (by decide)]) (by rw [ec 11 (by decide)]) (by rw [ec 13 (by decide)]), ec 12 (by decide), ec 13 (by decide)] at hat
      unfold Sk
      rw [fn 8 (by decide), fn 9 (by decide), fn 11 (by decide), e8']
      refine ⟨?_, s5, fun z => ?_⟩
      · by_cases hc : cnS σ k d s
        · have hik : i = k := nI_inj (by have := hI.1; omega) (by have := hI.1; omega) (e8.symm.trans hc.1)
          subst hik
          rw [(hat.1 hc).1, f5]
          have ecs : cs = c := nI_inj (by omega) (by omega) (s2.symm.trans q2)
          exact ⟨r + 1, c + 1, by rw [s1]; exact nI_add r 1, rfl, by omega, by omega⟩
        · rw [(hat.2 hc).1]
          by_cases hik : i = k
          · subst hik
            have ecs : cs = c := nI_inj (by omega) (by omega) (s2.symm.trans q2)
            exact ⟨r, c + 1, s1, f5, by omega, by omega⟩
          · exact ⟨r, cs, s1, by rw [setF_i (by decide) (by decide) (by decide) hik]; exact s2, s3, by omega⟩
      · by_cases hc : cnS σ k d s
        · have hik : i = k := nI_inj (by have := hI.1; omega) (by have := hI.1; omega) (e8.symm.trans hc.1)
          subst hik
          rw [(hat.1 hc).2, f7, far_0]
          exact lt_toI.mpr (by rw [show (0 : Int32).toInt = 0 by decide]; omega)
        · rw [(hat.2 hc).2]
          by_cases hik : i = k
          · subst hik
            rw [f7]
            have hn : ¬ σ 9 s 0 ≤ farO d (σ 13 s 0) := fun y => hc ⟨e8, z, y⟩
            exact lt_toI.mpr (by have := mt le_toI.mpr hn; omega)
          · rw [setF_i (by decide) (by decide) (by decide) hik]
            exact s6 z
    · rw [hz]
      refine infF_26 g.2.1 0 _ (by omega) ?_
      rw [chgF_n (by decide) (by decide) (by decide) (by decide), st3_n (by decide), h.2.2]
      unfold sentO
      rw [chgF_n (a := 12) (by decide) (by decide) (by decide) (by decide), st3_n (a1 := 12) (by decide)]
