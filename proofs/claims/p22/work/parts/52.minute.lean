/-! p22: one minute, seen at one point -/
theorem st_6 {c : Nat → Int32} (h : ¬ c 6 = nth) : stF c 16 1 ≤ 6 := by
  have h1 := (stF_spec c 16 1 rfl).1
  have h2 := stF_le c 16 1 rfl
  exact Nat.not_lt.mp (fun z => h (h1 6 (by decide) z))
/-- a command above 6 changes no value where 6 has one -/
theorem vaO_hi {σ : Me} {k j : Nat} {v : Int32} (h6 : ¬ σ 6 k 6 = nth) (hj : 7 ≤ j) : vaO (st3 σ 6 k j v) k = vaO σ k := by
  rw [vaO_eq, vaO_eq, st3_s, st3_n (by decide)]
  generalize σ 6 k = c at h6
  generalize σ 2 k 0 = f
  have hp := st_6 h6
  have hs := stF_spec c 16 1 rfl
  have hle := stF_le c 16 1 rfl
  have e : stF (upd c j v) 16 1 = stF c 16 1 := by
    refine stF_of _ 16 1 _ rfl hle.2 (by omega) (fun i h1 h2 => ?_) (fun h1 => ?_)
    · rw [show upd c j v i = c i by simp [upd, show i ≠ j by omega]]
      exact hs.1 i h1 h2
    · rw [show upd c j v (stF c 16 1) = c (stF c 16 1) by simp [upd, show stF c 16 1 ≠ j by omega]]
      exact hs.2 h1
  unfold vaC
  rw [e]
  split
  · simp [upd, show stF c 16 1 ≠ j by omega]
  · rfl
def heO (σ : Me) (k : Nat) : Int32 := if σ 4 k 0 = 0 then 0 else σ 4 k 0 - σ 25 0 0
/-- held for longer than this minute: nothing changes -/
def Ma (u c : Int32) (σ : Me) (k : Nat) : Prop := σ 4 k 0 = u ∧ σ 5 k 0 = c ∧ ¬ σ 6 k 6 = nth ∧ ¬ u = σ 25 0 0
theorem Ma_to {u c : Int32} {σ σ' : Me} {k : Nat} (h : Ma u c σ k) (e4 : σ' 4 k = σ 4 k) (e5 : σ' 5 k = σ 5 k) (e6 : σ' 6 k 6 = σ 6 k 6) (e25 : σ' 25 = σ 25) : Ma u c σ' k := by
  unfold Ma
  rw [e4, e5, e6, e25]
  exact h
theorem Ma_set {u c v : Int32} {g : GC} {k i j : Nat} {σ : Me} (h : Ma u c σ k) (hj : i = k → 7 ≤ j) : Ma u c (setF g.2.1 i j v σ) k := by
  by_cases hik : i = k
  · subst hik
    unfold setF
    rw [if_pos (vaO_hi h.2.2.1 (hj rfl))]
    exact Ma_to h (by rw [st3_n (by decide)]) (by rw [st3_n (by decide)]) (st3_j (by have := hj rfl; omega)) (st3_n (by decide))
  · have hk : k ≠ i := fun z => hik z.symm
    exact Ma_to h (setF_i (by decide) (by decide) (by decide) hk) (setF_i (by decide) (by decide) (by decide) hk) (by rw [setF_i (by decide) (by decide) (by decide) hk]) (setF_n (by decide) (by decide) (by decide) (by decide) (by decide) (by decide) (by decide))
theorem Ma_relF {u c : Int32} {g : GC} {k : Nat} : ∀ (n i : Nat) (σ : Me), Ma u c σ k → Ma u c (relF g.2.1 n i σ) k
  | 0, _, _, h => h
  | n + 1, i, σ, h => by
    refine Ma_relF n (i + 1) _ ?_
    unfold relS
    split
    · rename_i hc
      have hik : ¬ i = k := fun z => by subst z; exact h.2.2.2 (h.1.symm.trans hc)
      have hk : k ≠ i := fun z => hik z.symm
      exact Ma_set (Ma_to h (st3_i hk) (by rw [st3_n (by decide)]) (by rw [st3_n (by decide)]) (st3_n (by decide))) (fun z => absurd z hik)
    · exact h
theorem Ma_folF {u c : Int32} {g : GC} {k : Nat} : ∀ (n i : Nat) (σ : Me), i + n ≤ g.2.2 → Ib g σ → Ma u c σ k → Ma u c (folF g.2.1 n i σ) k
  | 0, _, _, _, _, h => h
  | n + 1, i, σ, hi, hI, h => by
    refine Ma_folF n (i + 1) _ (by omega) (Ib_obeF hI (by omega)) ?_
    unfold obeF
    split
    · exact h
    · obtain ⟨p, j, h1, h2, e1, h3, h4, h5, e2⟩ := Ic_at hI (c := i) (by omega)
      exact Ma_set (Ma_to h (by rw [st3_n (by decide)]) (by rw [st3_n (by decide)]) (by rw [st3_n (by decide)]) (st3_n (by decide))) (fun _ => by rw [e2]; exact h3)
/-- what a change in this minute leaves -/
def Mb (c : Int32) (σ : Me) (k : Nat) : Prop := σ 5 k 0 = c ∨ (0 < σ 3 k 0 → σ 4 k 0 = σ 25 0 0 + σ 3 k 0 ∧ ¬ σ 6 k 6 = nth)
theorem Mb_to {c : Int32} {σ σ' : Me} {k : Nat} (h : Mb c σ k) (e3 : σ' 3 k = σ 3 k) (e4 : σ' 4 k = σ 4 k) (e5 : σ' 5 k = σ 5 k) (e6 : σ' 6 k 6 = σ 6 k 6) (e25 : σ' 25 = σ 25) : Mb c σ' k := by
  unfold Mb
  rw [e3, e4, e5, e6, e25]
  exact h
theorem Mb_set {c v : Int32} {g : GC} {k i j : Nat} {σ : Me} (hI : Ib g σ) (hi : i < g.1) (hv : okV σ i v) (h : Mb c σ k) (hj : i = k → σ 5 k 0 = c ∨ ¬ 0 < σ 3 k 0 ∨ 7 ≤ j) : Mb c (setF g.2.1 i j v σ) k := by
  have e25 : setF g.2.1 i j v σ 25 = σ 25 := setF_n (by decide) (by decide) (by decide) (by decide) (by decide) (by decide) (by decide)
  have e3 : setF g.2.1 i j v σ 3 = σ 3 := setF_n (by decide) (by decide) (by decide) (by decide) (by decide) (by decide) (by decide)
  by_cases hik : i = k
  · subst hik
    by_cases h3 : 0 < σ 3 i 0
    · by_cases hd : vaO (st3 σ 6 i j v) i = vaO σ i
      · have e : setF g.2.1 i j v σ = st3 σ 6 i j v := by unfold setF; rw [if_pos hd]
        rw [e]
        rcases h with h | h
        · exact Or.inl (by rw [st3_n (by decide)]; exact h)
        · rcases hj rfl with q | q | q
          · exact Or.inl (by rw [st3_n (by decide)]; exact q)
          · exact absurd h3 q
          · exact Mb_to (Or.inr h) (by rw [st3_n (by decide)]) (by rw [st3_n (by decide)]) (by rw [st3_n (by decide)]) (st3_j (by omega)) (st3_n (by decide))
      · have hin : inP σ i (vaO (st3 σ 6 i j v) i) := vaS_in hI.2.2.2.1 hi hv
        have e : setF g.2.1 i j v σ = infF i (vaO (st3 σ 6 i j v) i) g.2.1 0 (chgF i (vaO (st3 σ 6 i j v) i) (σ 25 0 0) (st3 σ 6 i j v)) := by unfold setF; rw [if_neg hd]
        refine Or.inr (fun _ => ⟨?_, ?_⟩)
        · rw [e25, e3, e, infF_n (by decide) (by decide) (by decide), chgF_4, st3_n (by decide), if_pos h3]
        · rw [e, infF_n (by decide) (by decide) (by decide), chgF_66 (by rw [st3_n (by decide)]; exact h3)]
          exact rg_nth (inP_rg hin)
    · exact Or.inr (fun z => absurd (by rw [e3] at z; exact z) h3)
  · have hk : k ≠ i := fun z => hik z.symm
    exact Mb_to h (by rw [e3]) (setF_i (by decide) (by decide) (by decide) hk) (setF_i (by decide) (by decide) (by decide) hk) (by rw [setF_i (by decide) (by decide) (by decide) hk]) e25
theorem add_ne {a b : Int32} (h : 0 < b) : ¬ a + b = a := fun z => by
  have h2 : b = 0 := by
    have : a + b = a + 0 := by rw [z, Int32.add_zero]
    exact (Int32.add_right_inj a).mp this
  rw [h2] at h
  exact absurd h (by decide)
theorem Mb_relF {c : Int32} {g : GC} {k : Nat} : ∀ (n i : Nat) (σ : Me), i + n ≤ g.1 → Ib g σ → Mb c σ k → Mb c (relF g.2.1 n i σ) k
  | 0, _, _, _, _, h => h
  | n + 1, i, σ, hi, hI, h => by
    refine Mb_relF n (i + 1) _ (by omega) (Ib_relS hI (by omega)) ?_
    unfold relS
    split
    · rename_i hc
      by_cases hik : i = k
      · subst hik
        have hx : σ 5 i 0 = c ∨ ¬ 0 < σ 3 i 0 := by
          by_cases h3 : 0 < σ 3 i 0
          · rcases h with h | h
            · exact Or.inl h
            · exact absurd ((h h3).1.symm.trans hc) (add_ne h3)
          · exact Or.inr h3
        have hx' : st3 σ 4 i 0 0 5 i 0 = c ∨ ¬ 0 < st3 σ 4 i 0 0 3 i 0 := by rw [st3_n (by decide), st3_n (by decide)]; exact hx
        refine Mb_set (Ib_st hI (by decide)) (by omega) (nth_ok _ _) ?_ (fun _ => hx'.imp id Or.inl)
        rcases hx' with q | q
        · exact Or.inl q
        · exact Or.inr (fun z => absurd z q)
      · have hk : k ≠ i := fun z => hik z.symm
        exact Mb_set (Ib_st hI (by decide)) (by omega) (nth_ok _ _) (Mb_to h (by rw [st3_n (by decide)]) (st3_i hk) (by rw [st3_n (by decide)]) (by rw [st3_n (by decide)]) (st3_n (by decide))) (fun z => absurd z hik)
    · exact h
theorem Mb_folF {c : Int32} {g : GC} {k : Nat} : ∀ (n i : Nat) (σ : Me), i + n ≤ g.2.2 → Ib g σ → Mb c σ k → Mb c (folF g.2.1 n i σ) k
  | 0, _, _, _, _, h => h
  | n + 1, i, σ, hi, hI, h => by
    refine Mb_folF n (i + 1) _ (by omega) (Ib_obeF hI (by omega)) ?_
    unfold obeF
    split
    · exact h
    · obtain ⟨p, j, h1, h2, e1, h3, h4, h5, e2⟩ := Ic_at hI (c := i) (by omega)
      have hok := tolO_ok hI.1 hI.2.2.2.2.2 (show i < g.2.2 by omega) (σ 25 0 0)
      rw [e1] at hok ⊢
      exact Mb_set (Ib_st hI (by decide)) h1 (okV_to hok (st3_n (by decide))) (Mb_to h (by rw [st3_n (by decide)]) (by rw [st3_n (by decide)]) (by rw [st3_n (by decide)]) (by rw [st3_n (by decide)]) (st3_n (by decide))) (fun _ => Or.inr (Or.inr (by rw [e2]; exact h3)))
theorem minF_n {g : GC} {a : Nat} {σ : Me} (h4 : a ≠ 4) (h5 : a ≠ 5) (h6 : a ≠ 6) (h7 : a ≠ 7) (h11 : a ≠ 11) (h12 : a ≠ 12) (h13 : a ≠ 13) (h16 : a ≠ 16) (h25 : a ≠ 25) (h26 : a ≠ 26) : minF g σ a = σ a := by
  unfold minF
  rw [folF_n h4 h5 h6 h7 h12 h13 h16 h26, endF_n h11, relF_n h4 h5 h6 h7 h12 h13 h26, st3_n h25]
theorem minF_25 {g : GC} {σ : Me} : minF g σ 25 0 0 = σ 25 0 0 + 1 := by
  unfold minF
  rw [folF_n (by decide) (by decide) (by decide) (by decide) (by decide) (by decide) (by decide) (by decide), endF_n (by decide), relF_n (by decide) (by decide) (by decide) (by decide) (by decide) (by decide) (by decide), st3_v]
/-- held for two minutes or more: no change, and held for a minute less -/
theorem min_a {N t k : Nat} {g : GC} {σ : Me} (hR : Rs g t σ) (ht : t + 1 ≤ 1000000) (hE : Ev N g σ) (hk : k < g.1) (h2 : ¬ heO σ k < 2) : minF g σ 5 k 0 = σ 5 k 0 ∧ heO (minF g σ) k = heO σ k - 1 := by
  obtain ⟨hI, h25, -, hu, -⟩ := hR
  obtain ⟨u, hu1, hu2, hu3⟩ := hu k hk
  have hne : ¬ σ 4 k 0 = 0 := fun z => h2 (by unfold heO; rw [if_pos z]; decide)
  obtain ⟨-, c, -, -, -, hp⟩ := hE.1 k hk
  obtain ⟨-, -, h6, -⟩ := hp.resolve_left hne
  have hun : ¬ u = 0 := fun z => hne (by rw [hu1, z]; rfl)
  have hut : t + 1 < u := by
    rcases Nat.lt_or_ge (t + 1) u with z | z
    · exact z
    · exfalso
      have hu4 : u = t + 1 := by have := hu3.resolve_left hun; omega
      refine h2 ?_
      unfold heO
      rw [if_neg hne, hu1, h25, hu4, ← nI_add, show nI 1 = 1 from rfl, Int32.add_comm, Int32.add_sub_cancel]
      decide
  have h0 : Ma (σ 4 k 0) (σ 5 k 0) (st3 σ 25 0 0 (σ 25 0 0 + 1)) k := by
    refine ⟨by rw [st3_n (by decide)], by rw [st3_n (by decide)], by rw [st3_n (by decide)]; exact h6, ?_⟩
    rw [st3_v, hu1, h25, nI_1 t, nI_eq (by omega) (by omega)]
    omega
  have hI0 : Ib g (st3 σ 25 0 0 (σ 25 0 0 + 1)) := Ib_st hI (by decide)
  have h1 := Ma_relF (g := g) g.1 0 _ h0
  have hI1 := Ib_relF (ns := g.2.1) g.1 0 _ (by omega) hI0
  have h3 : Ma (σ 4 k 0) (σ 5 k 0) (endF g.2.1 0 (relF g.2.1 g.1 0 (st3 σ 25 0 0 (σ 25 0 0 + 1)))) k := Ma_to h1 (by rw [endF_n (by decide)]) (by rw [endF_n (by decide)]) (by rw [endF_n (by decide)]) (endF_n (by decide) _ _ _)
  obtain ⟨q1, q2, -, -⟩ : Ma (σ 4 k 0) (σ 5 k 0) (minF g σ) k := Ma_folF g.2.2 0 _ (by omega) (Ib_endF _ _ _ hI1) h3
  refine ⟨q2, ?_⟩
  unfold heO
  have e1 : nI u - nI (t + 1) = nI (u - (t + 1)) := pk_sub (by omega)
  have e2 : nI u - nI t = nI (u - t) := pk_sub (by omega)
  have e3 : nI (u - t) - 1 = nI (u - t - 1) := pk_sub (a := u - t) (b := 1) (by omega)
  rw [q1, if_neg hne, if_neg hne, minF_25, hu1, h25, nI_1 t, e1, e2, e3, Nat.sub_sub]
/-- changed in this minute: held for the whole least time -/
theorem min_b {N t k : Nat} {g : GC} {σ : Me} (hR : Rs g t σ) (ht : t + 1 ≤ 1000000) (hk : k < g.1) (hc : ¬ minF g σ 5 k 0 = σ 5 k 0) (h3 : 0 < σ 3 k 0) : heO (minF g σ) k = σ 3 k 0 := by
  obtain ⟨hI, h25, -, hu, -⟩ := hR
  have h0 : Mb (σ 5 k 0) (st3 σ 25 0 0 (σ 25 0 0 + 1)) k := Or.inl (by rw [st3_n (by decide)])
  have hI0 : Ib g (st3 σ 25 0 0 (σ 25 0 0 + 1)) := Ib_st hI (by decide)
  have h1 := Mb_relF (g := g) g.1 0 _ (by omega) hI0 h0
  have hI1 := Ib_relF (ns := g.2.1) g.1 0 _ (by omega) hI0
  have h2 : Mb (σ 5 k 0) (endF g.2.1 0 (relF g.2.1 g.1 0 (st3 σ 25 0 0 (σ 25 0 0 + 1)))) k := Mb_to h1 (by rw [endF_n (by decide)]) (by rw [endF_n (by decide)]) (by rw [endF_n (by decide)]) (by rw [endF_n (by decide)]) (endF_n (by decide) _ _ _)
  have h4 : Mb (σ 5 k 0) (minF g σ) k := Mb_folF g.2.2 0 _ (by omega) (Ib_endF _ _ _ hI1) h2
  have e3 : minF g σ 3 = σ 3 := minF_n (by decide) (by decide) (by decide) (by decide) (by decide) (by decide) (by decide) (by decide) (by decide) (by decide)
  rcases h4 with z | z
  · exact absurd z hc
  · obtain ⟨q, -⟩ := z (by rw [e3]; exact h3)
    rw [e3, minF_25] at q
    have hl := (hI.2.2.2.1 k hk).2.2.1
    have h3' := lt_toI.mp h3
    rw [show (0 : Int32).toInt = 0 by decide] at h3'
    have hne : ¬ σ 25 0 0 + 1 + σ 3 k 0 = 0 := by
      intro y
      have e : σ 3 k 0 = nI (σ 3 k 0).toInt.toNat := nI_of_toInt (by omega)
      rw [h25, e, nI_1 t, nI_add] at y
      exact nI_ne0 (by omega) (by omega) y
    unfold heO
    rw [q, if_neg hne, minF_25, Int32.add_comm (σ 25 0 0 + 1), Int32.add_sub_cancel]
theorem pasF_succ {g : GC} : ∀ (n : Nat) (σ : Me), pasF g (n + 1) σ = minF g (pasF g n σ)
  | 0, _ => rfl
  | n + 1, σ => pasF_succ n (minF g σ)
