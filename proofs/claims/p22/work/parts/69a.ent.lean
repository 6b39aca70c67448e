/-! p22: an entry more, as the law adds it -/
section ENT
variable {t N ce i j n d : Nat} {g : GC} {σ μ : Me} {v x hi9 : Int32}
theorem en_n (J : Jt t N g σ μ) (hc : ce < g.2.2) : ∃ n : Nat, σ 17 ce 0 = nI n ∧ μ 2 0 (4 * ce + 3) = nI n ∧ n ≤ 20 := by
  obtain ⟨i, j, n, n1, n2, -, -, -, -, -, h, -, -, -, h2, -⟩ := (Jt_I J).2.2.2.2.2 ce hc
  exact ⟨n, h, ((J.2.2.2.2.2.1.2.2.2.2.2 ce hc).2.2.1).trans h, h2⟩
theorem eo_I (J : Jt t N g σ μ) (hc : ce < g.2.2) (h14 : σ 14 ce 0 = nI i) (hi : i < g.1) (h17 : σ 17 ce 0 = nI n) (hn : n < 20) (hv : okV σ i v) (hd : d ≤ 700) : Ib g (entM ce (10 + nI d) x v (entC (2 * ce + 1) (nI d) x v σ)) :=
  Ib_ent (Jt_I J) hc (Or.inr rfl) (by rw [h14, nOf_N (n := i) (by have := (Jt_I J).1; omega)]; exact hv) (fun m m1 m2 q1 q2 q3 q4 q5 q6 q7 => by rw [if_neg (by omega), if_neg (by omega)]; exact Ie_onc q7 (by rw [q1]; exact nI_clamp (by omega)) (by rw [q3]; exact nI_clamp (by omega)) (by omega)) (by rw [h17, nOf_N (n := n) (by omega)]; exact hn)
theorem ew_I (J : Jt t N g σ μ) (hc : ce < g.2.2) (h14 : σ 14 ce 0 = nI i) (hi : i < g.1) (h17 : σ 17 ce 0 = nI n) (hn : n < 20) (hv : okV σ i v) (hd : d < 7) : Ib g (entM ce (nI d) x v (entC (2 * ce) (nI d) x v σ)) :=
  Ib_ent (Jt_I J) hc (Or.inl rfl) (by rw [h14, nOf_N (n := i) (by have := (Jt_I J).1; omega)]; exact hv) (fun m m1 m2 q1 q2 q3 q4 q5 q6 q7 => by rw [if_pos rfl, if_pos rfl]; exact Ie_wee q7 (by rw [q1]; exact nI_clamp (by omega)) (by rw [q2]; exact nI_clamp (by omega)) (by omega)) (by rw [h17, nOf_N (n := n) (by omega)]; exact hn)
theorem en_J {e : Nat} {dm dc : Int32} (J : Jt t N g σ μ) (hN : N + 1 < 900000) (hc : ce < g.2.2) (he : e < 2 * g.2.2) (hI2 : Ib g (entM ce dm x v (entC e dc x v σ))) (h17 : σ 17 ce 0 = nI n) : Jt t (N + 1) g (obeF g.2.1 ce (entM ce dm x v (entC e dc x v σ))) (st3 μ 2 0 (4 * ce + 3) (nI (n + 1))) :=
  Jt_ent J hN hc he hI2 (fun a j z => st3_ne z) (by rw [st3_v, h17, nI_1])
theorem ee_0 (J : Jt t N g σ μ) (hc : ce < g.2.2) (h14 : σ 14 ce 0 = nI i) (hi : i < g.1) (h17 : σ 17 ce 0 = nI n) (hn : n < 20) (hv : okV σ i v) {x1 x2 : Int32} (h1 : bt x1 0 hi9) (h2 : bt x2 0 1439) : cdEnt g σ hi9 (nI ce) x1 x2 v = 0 := by
  unfold cdEnt
  rw [nOf_N (n := ce) (by have := (Jt_I J).2.2.1; omega), h14, nOf_N (n := i) (by have := (Jt_I J).1; omega), h17, nOf_N (n := n) (by omega)]
  exact cod3_0 ⟨ce, hc, rfl⟩ ⟨h1, h2, hv⟩ hn
theorem ee_3 (J : Jt t N g σ μ) (hc : ce < g.2.2) (h14 : σ 14 ce 0 = nI i) (hi : i < g.1) (h17 : σ 17 ce 0 = nI n) (hn2 : n ≤ 20) (hn : ¬ n < 20) (hv : okV σ i v) {x1 x2 : Int32} (h1 : bt x1 0 hi9) (h2 : bt x2 0 1439) : cdEnt g σ hi9 (nI ce) x1 x2 v = 3 := by
  unfold cdEnt
  rw [nOf_N (n := ce) (by have := (Jt_I J).2.2.1; omega), h14, nOf_N (n := i) (by have := (Jt_I J).1; omega), h17, nOf_N (n := n) (by omega)]
  exact cod3_3 ⟨ce, hc, rfl⟩ ⟨h1, h2, hv⟩ hn
theorem ee_2 {x1 x2 : Int32} (hc : ce < g.2.2) (h : ¬ (bt x1 0 hi9 ∧ bt x2 0 1439 ∧ okV σ (nOf (σ 14 (nOf (nI ce)) 0)) v)) : cdEnt g σ hi9 (nI ce) x1 x2 v = 2 := cod3_2 ⟨ce, hc, rfl⟩ h
theorem ee_1 {x0 x1 x2 : Int32} (h : ¬ isN g.2.2 x0) : cdEnt g σ hi9 x0 x1 x2 v = 1 := cod3_1 h
theorem ent_ct (J : Jt t N g σ μ) (hc : ce < g.2.2) : σ 16 ce 0 = tolO σ ce (nI t) := by
  rw [← J.1.2.1]
  exact J.2.2.2.1 ce hc
theorem st3_no {k : Nat} (h : μ 2 0 k = nI n) : st3 μ 2 0 k (nI (n + 0)) = μ := by
  rw [show nI (n + 0) = μ 2 0 k from h.symm]
  exact st3_self
end ENT
