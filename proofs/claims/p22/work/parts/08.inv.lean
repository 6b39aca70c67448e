/-! what holds of every state that is reached, and that a step keeps it -/
def rg (x : Int32) : Prop := -1000 ≤ x.toInt ∧ x.toInt ≤ 1000
def inP (σ : Me) (k : Nat) (x : Int32) : Prop := loF (σ 1 k 0) ≤ x ∧ x ≤ hiF (σ 1 k 0)
def okV (σ : Me) (k : Nat) (x : Int32) : Prop := x = nth ∨ inP σ k x
def vaC (c : Nat → Int32) (f : Int32) : Int32 := if stF c 16 1 < 17 then c (stF c 16 1) else f
theorem vaO_eq (σ : Me) (k : Nat) : vaO σ k = vaC (σ 6 k) (σ 2 k 0) := rfl
theorem stF_spec (c : Nat → Int32) : ∀ n i, i + n = 17 → (∀ j, i ≤ j → j < stF c n i → c j = nth) ∧ (stF c n i < 17 → ¬ c (stF c n i) = nth)
  | 0, i, h => by
    simp only [stF]
    exact ⟨fun j h1 h2 => by omega, fun h1 => by omega⟩
  | n + 1, i, h => by
    have ih := stF_spec c n (i + 1) (by omega)
    simp only [stF]
    split
    · rename_i hc
      refine ⟨fun j h1 h2 => ?_, ih.2⟩
      rcases Nat.eq_or_lt_of_le h1 with q | q
      · rw [← q]; exact hc
      · exact ih.1 j q h2
    · rename_i hc
      exact ⟨fun j h1 h2 => by omega, fun _ => hc⟩
theorem stF_of (c : Nat → Int32) : ∀ n i p, i + n = 17 → i ≤ p → p ≤ 17 → (∀ j, i ≤ j → j < p → c j = nth) → (p < 17 → ¬ c p = nth) → stF c n i = p
  | 0, i, p, h, h1, h2, h3, h4 => by simp only [stF]; omega
  | n + 1, i, p, h, h1, h2, h3, h4 => by
    simp only [stF]
    by_cases hc : c i = nth
    · rw [if_pos hc]
      have hip : i ≠ p := fun q => by
        subst q
        exact h4 (by omega) hc
      exact stF_of c n (i + 1) p (by omega) (by omega) h2 (fun j q1 q2 => h3 j (by omega) q2) h4
    · rw [if_neg hc]
      rcases Nat.eq_or_lt_of_le h1 with q | q
      · exact q
      · exact absurd (h3 i (Nat.le_refl i) q) hc
/-- a held command shows the value that there was -/
theorem vaC_hold {c : Nat → Int32} {f : Int32} (h : ¬ vaC c f = nth) : vaC (upd c 6 (vaC c f)) f = vaC c f := by
  generalize hw : vaC c f = w at h ⊢
  have hle := stF_le c 16 1 rfl
  have hsp := stF_spec c 16 1 rfl
  by_cases h6 : stF c 16 1 < 6
  · have hlt : stF c 16 1 < 17 := by omega
    have e : stF (upd c 6 w) 16 1 = stF c 16 1 := stF_of _ 16 1 _ rfl hle.2 hle.1 (fun j q1 q2 => by rw [show upd c 6 w j = c j by simp [upd, show j ≠ 6 by omega]]; exact hsp.1 j q1 q2) (fun q => by rw [show upd c 6 w (stF c 16 1) = c (stF c 16 1) by simp [upd, show stF c 16 1 ≠ 6 by omega]]; exact hsp.2 q)
    unfold vaC
    rw [e, if_pos hlt]
    unfold vaC at hw
    rw [if_pos hlt] at hw
    rw [← hw]
    simp [upd, show stF c 16 1 ≠ 6 by omega]
  · have e : stF (upd c 6 w) 16 1 = 6 := stF_of _ 16 1 6 rfl (by omega) (by omega) (fun j q1 q2 => by rw [show upd c 6 w j = c j by simp [upd, show j ≠ 6 by omega]]; exact hsp.1 j q1 (by omega)) (fun _ => by simpa [upd] using h)
    unfold vaC
    rw [e, if_pos (by decide)]
    simp [upd]
theorem nth_toInt : nth.toInt = -100000 := by decide
theorem lo_ge (x : Int32) : -1000 ≤ (loF x).toInt := by
  unfold loF
  split <;> decide
theorem hi_le (x : Int32) : (hiF x).toInt ≤ 1000 := by
  unfold hiF
  split <;> decide
theorem inP_rg {σ : Me} {k : Nat} {x : Int32} (h : inP σ k x) : rg x := by
  have h1 := Int32.le_iff_toInt_le.mp h.1
  have h2 := Int32.le_iff_toInt_le.mp h.2
  exact ⟨Int.le_trans (lo_ge _) h1, Int.le_trans h2 (hi_le _)⟩
theorem rg_nth {x : Int32} (h : rg x) : ¬ x = nth := fun q => by
  have := h.1
  rw [q, nth_toInt] at this
  omega
/-! frames of the steps -/
theorem infS_n {k s a : Nat} {v : Int32} {σ : Me} (h1 : a ≠ 13) (h2 : a ≠ 12) (h3 : a ≠ 26) : infS k v s σ a = σ a := by
  unfold infS
  split
  · rw [st3_n h3, st3_n h2, st3_n h1]
  · rfl
theorem infS_i {k s a i : Nat} {v : Int32} {σ : Me} (h3 : a ≠ 26) (hi : i ≠ s) : infS k v s σ a i = σ a i := by
  unfold infS
  split
  · rw [st3_n h3, st3_i hi, st3_i hi]
  · rfl
theorem infF_n {k a : Nat} {v : Int32} (h1 : a ≠ 13) (h2 : a ≠ 12) (h3 : a ≠ 26) : ∀ (n s : Nat) (σ : Me), infF k v n s σ a = σ a
  | 0, s, σ => rfl
  | n + 1, s, σ => by
    show infF k v n (s + 1) (infS k v s σ) a = σ a
    rw [infF_n h1 h2 h3 n (s + 1), infS_n h1 h2 h3]
theorem infF_i {k a i : Nat} {v : Int32} (h3 : a ≠ 26) : ∀ (n s : Nat) (σ : Me), s + n ≤ i → infF k v n s σ a i = σ a i
  | 0, s, σ, h => rfl
  | n + 1, s, σ, h => by
    show infF k v n (s + 1) (infS k v s σ) a i = σ a i
    rw [infF_i h3 n (s + 1) _ (by omega), infS_i h3 (by omega)]
theorem chgF_n {k a : Nat} {d t : Int32} {σ : Me} (h7 : a ≠ 7) (h5 : a ≠ 5) (h6 : a ≠ 6) (h4 : a ≠ 4) : chgF k d t σ a = σ a := by
  unfold chgF
  split
  · rw [st3_n h4, st3_n h6, st3_n h5, st3_n h7]
  · rw [st3_n h5, st3_n h7]
theorem chgF_i {k a i : Nat} {d t : Int32} {σ : Me} (hi : i ≠ k) : chgF k d t σ a i = σ a i := by
  unfold chgF
  split
  · rw [st3_i hi, st3_i hi, st3_i hi, st3_i hi]
  · rw [st3_i hi, st3_i hi]
theorem setF_n {ns k j a : Nat} {v : Int32} {σ : Me} (h4 : a ≠ 4) (h5 : a ≠ 5) (h6 : a ≠ 6) (h7 : a ≠ 7) (h12 : a ≠ 12) (h13 : a ≠ 13) (h26 : a ≠ 26) : setF ns k j v σ a = σ a := by
  unfold setF
  split
  · rw [st3_n h6]
  · rw [infF_n h13 h12 h26, chgF_n h7 h5 h6 h4, st3_n h6]
theorem setF_i {ns k j a i : Nat} {v : Int32} {σ : Me} (h12 : a ≠ 12) (h13 : a ≠ 13) (h26 : a ≠ 26) (hi : i ≠ k) : setF ns k j v σ a i = σ a i := by
  unfold setF
  split
  · rw [st3_i hi]
  · rw [infF_n h13 h12 h26, chgF_i hi, st3_i hi]
theorem setF_s {ns k j a i : Nat} {v : Int32} {σ : Me} (h4 : a ≠ 4) (h5 : a ≠ 5) (h6 : a ≠ 6) (h7 : a ≠ 7) (h26 : a ≠ 26) (hi : ns ≤ i) : setF ns k j v σ a i = σ a i := by
  unfold setF
  split
  · rw [st3_n h6]
  · rw [infF_i h26 ns 0 _ (by omega), chgF_n h7 h5 h6 h4, st3_n h6]
def Ip (g : GC) (σ : Me) : Prop := ∀ k, k < g.1 → (σ 1 k 0 = 0 ∨ σ 1 k 0 = 1) ∧ inP σ k (σ 2 k 0) ∧ (0 ≤ (σ 3 k 0).toInt ∧ (σ 3 k 0).toInt ≤ 1000) ∧ (∀ j, j < 17 → okV σ k (σ 6 k j)) ∧ σ 7 k 0 = vaO σ k
def Is (g : GC) (σ : Me) : Prop := ∀ s, s < g.2.1 → (σ 11 s 0 = 0 ∨ σ 11 s 0 = 1) ∧ (∃ i, i < g.1 ∧ σ 8 s 0 = nI i) ∧ rg (σ 13 s 0)
/-- the class's two lists say what the model's one list says -/
def Ie (σ : Me) (c n n1 n2 : Nat) : Prop :=
  (∀ d : Nat, d ≤ 1000000 → (hasF (σ 22 (2 * c + 1)) (nI d) n2 ↔ hasF (σ 18 c) (10 + nI d) n)) ∧
  (∀ (d : Nat) (x : Int32), d ≤ 1000000 → latF (σ 22 (2 * c + 1)) (σ 23 (2 * c + 1)) (σ 24 (2 * c + 1)) (nI d) x n2 = latF (σ 18 c) (σ 19 c) (σ 20 c) (10 + nI d) x n) ∧
  (∀ (d : Nat) (x : Int32), d < 7 → latF (σ 22 (2 * c)) (σ 23 (2 * c)) (σ 24 (2 * c)) (nI d) x n1 = latF (σ 18 c) (σ 19 c) (σ 20 c) (nI d) x n)
def Ic (g : GC) (σ : Me) : Prop := ∀ c, c < g.2.2 → ∃ i j n n1 n2 : Nat, i < g.1 ∧ σ 14 c 0 = nI i ∧ 7 ≤ j ∧ j ≤ 16 ∧ σ 15 c 0 = nI j ∧ σ 17 c 0 = nI n ∧ σ 21 (2 * c) 0 = nI n1 ∧ σ 21 (2 * c + 1) 0 = nI n2 ∧ n1 + n2 = n ∧ n ≤ 20 ∧ (∀ q, q < n → okV σ i (σ 20 c q)) ∧ Ie σ c n n1 n2
def Ib (g : GC) (σ : Me) : Prop := g.1 ≤ 16 ∧ g.2.1 ≤ 30 ∧ g.2.2 ≤ 4 ∧ Ip g σ ∧ Is g σ ∧ Ic g σ
theorem vaC_ok {c : Nat → Int32} {f : Int32} {P : Int32 → Prop} (hc : ∀ j, j < 17 → c j = nth ∨ P (c j)) (hf : P f) : P (vaC c f) := by
  unfold vaC
  split
  · rename_i h
    rcases hc _ h with q | q
    · exact absurd q ((stF_spec c 16 1 rfl).2 h)
    · exact q
  · exact hf
theorem vaO_in {g : GC} {σ : Me} (h : Ip g σ) {k : Nat} (hk : k < g.1) : inP σ k (vaO σ k) := by
  obtain ⟨-, h2, -, h4, -⟩ := h k hk
  exact vaC_ok (P := inP σ k) h4 h2
theorem okV_to {σ σ' : Me} {k : Nat} {x : Int32} (h : okV σ k x) (e : σ' 1 = σ 1) : okV σ' k x := by
  unfold okV inP at h ⊢
  rw [e]
  exact h
theorem inP_to {σ σ' : Me} {k : Nat} {x : Int32} (h : inP σ k x) (e : σ' 1 = σ 1) : inP σ' k x := by
  unfold inP at h ⊢
  rw [e]
  exact h
theorem vaS_in {g : GC} {σ : Me} (h : Ip g σ) {k j : Nat} {v : Int32} (hk : k < g.1) (hv : okV σ k v) : inP σ k (vaO (st3 σ 6 k j v) k) := by
  obtain ⟨-, h2, -, h4, -⟩ := h k hk
  rw [vaO_eq, st3_s, st3_n (by decide)]
  refine vaC_ok (P := inP σ k) (fun i hi => ?_) h2
  show okV σ k (upd (σ 6 k) j v i)
  by_cases q : i = j
  · subst q; simpa [upd] using hv
  · simpa [upd, q] using h4 i hi
theorem Is_to {g : GC} {σ σ' : Me} (h : Is g σ) (e11 : σ' 11 = σ 11) (e8 : σ' 8 = σ 8) (e13 : σ' 13 = σ 13) : Is g σ' := fun s hs => by
  rw [e11, e8, e13]
  exact h s hs
theorem Is_infS {g : GC} {σ : Me} {k s : Nat} {v : Int32} (h : Is g σ) (hv : rg v) : Is g (infS k v s σ) := fun i hi => by
  obtain ⟨h1, h2, h3⟩ := h i hi
  rw [infS_n (by decide) (by decide) (by decide), infS_n (by decide) (by decide) (by decide)]
  refine ⟨h1, h2, ?_⟩
  unfold infS
  split
  · rw [st3_n (by decide), st3_n (by decide)]
    by_cases q : i = s
    · subst q; rw [st3_v]; exact hv
    · rw [st3_i q]; exact h3
  · exact h3
theorem Is_infF {g : GC} {k : Nat} {v : Int32} (hv : rg v) : ∀ (n s : Nat) (σ : Me), Is g σ → Is g (infF k v n s σ)
  | 0, s, σ, h => h
  | n + 1, s, σ, h => Is_infF hv n (s + 1) _ (Is_infS h hv)
theorem Ie_to {σ σ' : Me} {c n n1 n2 : Nat} (h : Ie σ c n n1 n2) (e18 : σ' 18 = σ 18) (e19 : σ' 19 = σ 19) (e20 : σ' 20 = σ 20) (e22 : σ' 22 = σ 22) (e23 : σ' 23 = σ 23) (e24 : σ' 24 = σ 24) : Ie σ' c n n1 n2 := by
  unfold Ie
  rw [e18, e19, e20, e22, e23, e24]
  exact h
theorem Ic_to {g : GC} {σ σ' : Me} (h : Ic g σ) (e1 : σ' 1 = σ 1) (e14 : σ' 14 = σ 14) (e15 : σ' 15 = σ 15) (e17 : σ' 17 = σ 17) (e18 : σ' 18 = σ 18) (e19 : σ' 19 = σ 19) (e20 : σ' 20 = σ 20) (e21 : σ' 21 = σ 21) (e22 : σ' 22 = σ 22) (e23 : σ' 23 = σ 23) (e24 : σ' 24 = σ 24) : Ic g σ' := fun c hc => by
  obtain ⟨i, j, n, n1, n2, h1, h2, h3, h4, h5, h6, h7, h8, h9, h10, h11, h12⟩ := h c hc
  rw [e14, e15, e17, e20, e21]
  exact ⟨i, j, n, n1, n2, h1, h2, h3, h4, h5, h6, h7, h8, h9, h10, fun q hq => okV_to (h11 q hq) e1, Ie_to h12 e18 e19 e20 e22 e23 e24⟩
theorem Ip_setF {g : GC} {ns k j : Nat} {v : Int32} {σ : Me} (h : Ip g σ) (hk : k < g.1) (hj : j < 17) (hv : okV σ k v) : Ip g (setF ns k j v σ) := fun i hi => by
  have e1 : setF ns k j v σ 1 = σ 1 := setF_n (by decide) (by decide) (by decide) (by decide) (by decide) (by decide) (by decide)
  have e2 : setF ns k j v σ 2 = σ 2 := setF_n (by decide) (by decide) (by decide) (by decide) (by decide) (by decide) (by decide)
  have e3 : setF ns k j v σ 3 = σ 3 := setF_n (by decide) (by decide) (by decide) (by decide) (by decide) (by decide) (by decide)
  obtain ⟨h1, h2, h3, h4, h5⟩ := h i hi
  rw [e1, e2, e3]
  refine ⟨h1, inP_to h2 e1, h3, ?_, ?_⟩
  · intro q hq
    refine okV_to (σ := σ) ?_ e1
    by_cases hik : i = k
    · subst hik
      have hw : okV σ i (vaO (st3 σ 6 i j v) i) := Or.inr (vaS_in h hk hv)
      have h6 : okV σ i (st3 σ 6 i j v 6 i q) := by
        rw [st3_s]
        by_cases z : q = j
        · subst z; simpa [upd] using hv
        · simpa [upd, z] using h4 q hq
      unfold setF
      split
      · exact h6
      · rw [infF_n (by decide) (by decide) (by decide)]
        unfold chgF
        split
        · rw [st3_n (by decide)]
          by_cases z : q = 6
          · subst z; rw [st3_v]; exact hw
          · rw [st3_j z, st3_n (by decide), st3_n (by decide)]; exact h6
        · rw [st3_n (by decide), st3_n (by decide)]; exact h6
    · rw [setF_i (by decide) (by decide) (by decide) hik]
      exact h4 q hq
  · by_cases hik : i = k
    · subst hik
      have hw := rg_nth (inP_rg (vaS_in h hk hv (j := j)))
      rw [vaO_eq, e2]
      unfold setF
      split
      · rename_i hc
        rw [st3_n (by decide), h5, ← hc]
        rfl
      · rw [infF_n (by decide) (by decide) (by decide), infF_n (by decide) (by decide) (by decide)]
        unfold chgF
        split
        · rw [st3_n (by decide), st3_n (by decide), st3_n (by decide), st3_v]
          rw [st3_n (by decide), st3_s, st3_n (by decide), st3_n (by decide)]
          have := vaC_hold (c := st3 σ 6 i j v 6 i) (f := st3 σ 6 i j v 2 i 0) hw
          rw [st3_n (σ := σ) (a := 6) (a1 := 2) (by decide)] at this
          exact this.symm
        · rw [st3_n (by decide), st3_v, st3_n (by decide), st3_n (by decide)]
          rw [vaO_eq, st3_n (σ := σ) (a := 6) (a1 := 2) (by decide)]
    · rw [vaO_eq, e2, setF_i (by decide) (by decide) (by decide) hik, setF_i (by decide) (by decide) (by decide) hik]
      exact h5
theorem Is_setF {g : GC} {ns k j : Nat} {v : Int32} {σ : Me} (h : Is g σ) (hp : Ip g σ) (hk : k < g.1) (hv : okV σ k v) : Is g (setF ns k j v σ) := by
  unfold setF
  split
  · exact Is_to h (st3_n (by decide)) (st3_n (by decide)) (st3_n (by decide))
  · refine Is_infF (inP_rg (vaS_in hp hk hv)) ns 0 _ (Is_to h ?_ ?_ ?_) <;> rw [chgF_n (by decide) (by decide) (by decide) (by decide), st3_n (by decide)]
theorem Ic_setF {g : GC} {ns k j : Nat} {v : Int32} {σ : Me} (h : Ic g σ) : Ic g (setF ns k j v σ) := by
  refine Ic_to h ?_ ?_ ?_ ?_ ?_ ?_ ?_ ?_ ?_ ?_ ?_ <;> exact setF_n (by decide) (by decide) (by decide) (by decide) (by decide) (by decide) (by decide)
theorem Ib_setF {g : GC} {ns k j : Nat} {v : Int32} {σ : Me} (h : Ib g σ) (hk : k < g.1) (hj : j < 17) (hv : okV σ k v) : Ib g (setF ns k j v σ) :=
  ⟨h.1, h.2.1, h.2.2.1, Ip_setF h.2.2.2.1 hk hj hv, Is_setF h.2.2.2.2.1 h.2.2.2.1 hk hv, Ic_setF h.2.2.2.2.2⟩
