/-! the law's loop: each call keeps a state at rest -/
theorem cod3_le (a b c : Prop) : cod3 a b c ≤ 3 := by
  unfold cod3
  split
  · omega
  · split
    · omega
    · split <;> omega
theorem nI_cod {a b c : Prop} (h : nI (cod3 a b c) = 0) : cod3 a b c = 0 := by
  have h1 := cod3_le a b c
  exact (nI_eq (a := cod3 a b c) (b := 0) (by omega) (by decide)).mp h
theorem nOf_N {n : Nat} (h : n < 2 ^ 31) : nOf (nI n) = n := nI_clamp h
/-- at rest, and nothing where nothing has been made -/
def Rf (g : GC) (σ : Me) : Prop := (∃ t : Nat, Rs g t σ) ∧ Fr g σ
theorem Rf_Ib {g : GC} {σ : Me} (h : Rf g σ) : Ib g σ := by
  obtain ⟨⟨t, hR⟩, -⟩ := h
  exact hR.1
theorem st_wri {g : GC} {σ : Me} {x0 x1 x2 : Int32} (h : Rf g σ) (hc : cdWri g σ x0 x1 x2 = 0) : Rf g (setF g.2.1 (nOf x0) (nOf x1) x2 σ) := by
  obtain ⟨⟨t, hR⟩, hF⟩ := h
  obtain ⟨⟨pi, hpi, rfl⟩, ⟨hb, hv⟩, -⟩ := cod3_z hc
  obtain ⟨pj, rfl, h1, h2⟩ := bt_nat (lo := 1) (hi := 16) (by decide) (by decide) (by decide) hb
  have e0 : nOf (nI pi) = pi := nOf_N (by have := hR.1.1; omega)
  have e1 : nOf (nI pj) = pj := nOf_N (by omega)
  rw [e0] at hv ⊢
  rw [e1]
  exact ⟨⟨t, Rs_setF hR hpi (by omega) hv⟩, Fr_setF hF hpi⟩
theorem st_end {g : GC} {σ : Me} {x0 : Int32} (h : Rf g σ) (hc : cdEnd g σ x0 = 0) : Rf g (st3 σ 11 (nOf x0) 0 1) := by
  obtain ⟨⟨t, hR⟩, hF⟩ := h
  obtain ⟨⟨pi, hpi, rfl⟩, -, -⟩ := cod3_z hc
  rw [nOf_N (n := pi) (by have := hR.1.2.1; omega)]
  exact ⟨⟨t, Rs_st11 hR⟩, Fr_st11 hF hpi⟩
theorem Rs_ent {g : GC} {t c e : Nat} {dm dc x v : Int32} {σ : Me} (h : Rs g t σ) (hI : Ib g (entM c dm x v (entC e dc x v σ))) : Rs g t (entM c dm x v (entC e dc x v σ)) := by
  have fr : ∀ a, a ≠ 17 → a ≠ 18 → a ≠ 19 → a ≠ 20 → a ≠ 21 → a ≠ 22 → a ≠ 23 → a ≠ 24 → entM c dm x v (entC e dc x v σ) a = σ a := fun a q1 q2 q3 q4 q5 q6 q7 q8 => by rw [entM_n q1 q2 q3 q4, entC_n q5 q6 q7 q8]
  exact Rs_to h hI (fr _ (by decide) (by decide) (by decide) (by decide) (by decide) (by decide) (by decide) (by decide)) (fr _ (by decide) (by decide) (by decide) (by decide) (by decide) (by decide) (by decide) (by decide)) (fr _ (by decide) (by decide) (by decide) (by decide) (by decide) (by decide) (by decide) (by decide)) (fr _ (by decide) (by decide) (by decide) (by decide) (by decide) (by decide) (by decide) (by decide))
theorem st_wee {g : GC} {σ : Me} {x0 x1 x2 x3 : Int32} (h : Rf g σ) (hc : cdEnt g σ 6 x0 x1 x2 x3 = 0) : Rf g (obeF g.2.1 (nOf x0) (entM (nOf x0) x1 x2 x3 (entC (2 * nOf x0) x1 x2 x3 σ))) := by
  obtain ⟨⟨t, hR⟩, hF⟩ := h
  have hI := hR.1
  obtain ⟨⟨pi, hpi, rfl⟩, ⟨hb, -, hv⟩, h20⟩ := cod3_z hc
  have e0 : nOf (nI pi) = pi := nOf_N (by have := hI.2.2.1; omega)
  rw [e0] at hv h20 ⊢
  obtain ⟨pj, rfl, h1, h2⟩ := bt_nat (lo := 0) (hi := 6) (by decide) (by decide) (by decide) hb
  have hI2 : Ib g (entM pi (nI pj) x2 x3 (entC (2 * pi) (nI pj) x2 x3 σ)) := Ib_ent hI hpi (Or.inl rfl) hv (fun m m1 m2 q1 q2 q3 q4 q5 q6 q7 => by rw [if_pos rfl, if_pos rfl]; exact Ie_wee q7 (by rw [q1]; exact nI_clamp (by omega)) (by rw [q2]; exact nI_clamp (by omega)) (by omega)) h20
  exact ⟨⟨t, Rs_obeF (Rs_ent hR hI2) hpi⟩, Fr_obeF hI2 hpi (Fr_ent hF hpi (by omega))⟩
theorem st_onc {g : GC} {σ : Me} {x0 x1 x2 x3 : Int32} (h : Rf g σ) (hc : cdEnt g σ 700 x0 x1 x2 x3 = 0) : Rf g (obeF g.2.1 (nOf x0) (entM (nOf x0) (10 + x1) x2 x3 (entC (2 * nOf x0 + 1) x1 x2 x3 σ))) := by
  obtain ⟨⟨t, hR⟩, hF⟩ := h
  have hI := hR.1
  obtain ⟨⟨pi, hpi, rfl⟩, ⟨hb, -, hv⟩, h20⟩ := cod3_z hc
  have e0 : nOf (nI pi) = pi := nOf_N (by have := hI.2.2.1; omega)
  rw [e0] at hv h20 ⊢
  obtain ⟨pj, rfl, h1, h2⟩ := bt_nat (lo := 0) (hi := 700) (by decide) (by decide) (by decide) hb
  have hI2 : Ib g (entM pi (10 + nI pj) x2 x3 (entC (2 * pi + 1) (nI pj) x2 x3 σ)) := Ib_ent hI hpi (Or.inr rfl) hv (fun m m1 m2 q1 q2 q3 q4 q5 q6 q7 => by rw [if_neg (by omega), if_neg (by omega)]; exact Ie_onc q7 (by rw [q1]; exact nI_clamp (by omega)) (by rw [q3]; exact nI_clamp (by omega)) (by omega)) h20
  exact ⟨⟨t, Rs_obeF (Rs_ent hR hI2) hpi⟩, Fr_obeF hI2 hpi (Fr_ent hF hpi (by omega))⟩
theorem nI_subI {a b : Nat} (hb : b ≤ a) (ha : a < 2 ^ 31) : (nI a - nI b).toInt = (a : Int) - b := by
  rw [Int32.toInt_sub, nI_toInt ha, nI_toInt (by omega)]
  exact Int.bmod_eq_of_le (by omega) (by omega)
theorem st_pas {g : GC} {σ : Me} {x0 : Int32} (h : Rf g σ) (hc : cdPas σ x0 = 0) : Rf g (pasF g (nOf x0) σ) := by
  obtain ⟨⟨t, hR⟩, hF⟩ := h
  obtain ⟨hb, hle, -⟩ := cod3_z hc
  obtain ⟨n, rfl, h1, h2⟩ := bt_nat (lo := 1) (hi := 5000) (by decide) (by decide) (by decide) hb
  have e0 : nOf (nI n) = n := nOf_N (by omega)
  have hle2 : t + n ≤ 1000000 := by
    rw [hR.2.1] at hle
    have q := Int32.le_iff_toInt_le.mp hle
    rw [nI_toInt (by omega), show (1000000 : Int32) = nI 1000000 from rfl, nI_subI hR.2.2.1 (by decide)] at q
    omega
  rw [e0]
  exact ⟨⟨t + n, Rs_pas n t σ hR hle2⟩, Fr_pasF n t σ hR hle2 hF⟩
theorem st_adM {np ns nc : Nat} {σ : Me} {x0 : Int32} (h : Rf (np, ns, nc) σ) (hc : cdAdM (np, ns, nc) x0 = 0) : Rf (np + 1, ns, nc) (addF np x0 0 0 σ) := by
  obtain ⟨⟨t, hR⟩, hF⟩ := h
  obtain ⟨hb, hn, -⟩ := cod3_z hc
  exact ⟨⟨t, Rs_addF hR hF hn (Or.inl rfl) hb (by decide)⟩, Fr_addF hF⟩
theorem st_adS {np ns nc : Nat} {σ : Me} {x0 x1 : Int32} (h : Rf (np, ns, nc) σ) (hc : cdAdS (np, ns, nc) x0 x1 = 0) : Rf (np + 1, ns, nc) (addF np x0 1 x1 σ) := by
  obtain ⟨⟨t, hR⟩, hF⟩ := h
  obtain ⟨⟨hb, hb2⟩, hn, -⟩ := cod3_z hc
  exact ⟨⟨t, Rs_addF hR hF hn (Or.inr rfl) hb ⟨Int32.le_iff_toInt_le.mp hb2.1, Int32.le_iff_toInt_le.mp hb2.2⟩⟩, Fr_addF hF⟩
theorem st_sub {np ns nc : Nat} {σ : Me} {x0 x1 x2 : Int32} (h : Rf (np, ns, nc) σ) (hc : cdSub (np, ns, nc) x0 x1 x2 = 0) : Rf (np, ns + 1, nc) (subF ns x0 x1 (σ 25 0 0 + x2) (σ 7 (nOf x0) 0) σ) := by
  obtain ⟨⟨t, hR⟩, hF⟩ := h
  obtain ⟨⟨pi, hpi, rfl⟩, ⟨-, hb⟩, hn⟩ := cod3_z hc
  have hI := hR.1
  have hpi' : pi < np := hpi
  obtain ⟨n2, rfl, h1, h2⟩ := bt_nat (lo := 1) (hi := 100000) (by decide) (by decide) (by decide) hb
  rw [nOf_N (n := pi) (by have := hI.1; omega), hR.2.1, nI_add]
  have hk : rg (σ 7 pi 0) := by
    rw [(hI.2.2.2.1 pi hpi).2.2.2.2]
    exact inP_rg (vaO_in hI.2.2.2.1 hpi)
  have ht := hR.2.2.1
  exact ⟨⟨t, Rs_subF hR hF hn hpi hk (by omega) (by omega)⟩, Fr_subF hF⟩
theorem st_adC {np ns nc : Nat} {σ : Me} {x0 x1 : Int32} (h : Rf (np, ns, nc) σ) (hc : cdAdC (np, ns, nc) x0 x1 = 0) : Rf (np, ns, nc + 1) (schF nc x0 x1 σ) := by
  obtain ⟨⟨t, hR⟩, hF⟩ := h
  obtain ⟨⟨pi, hpi, rfl⟩, hb, hn⟩ := cod3_z hc
  obtain ⟨j, rfl, h1, h2⟩ := bt_nat (lo := 7) (hi := 16) (by decide) (by decide) (by decide) hb
  exact ⟨⟨t, Rs_schF hR hF hn hpi h1 h2⟩, Fr_schF hF⟩
/-- the state before the first call -/
theorem Rf_0 : Rf (0, 0, 0) (fun _ _ _ => 0) :=
  ⟨⟨0, ⟨by decide, by decide, by decide, fun k h => absurd h (Nat.not_lt_zero k), fun s h => absurd h (Nat.not_lt_zero s), fun c h => absurd h (Nat.not_lt_zero c)⟩, rfl, by decide, fun k h => absurd h (Nat.not_lt_zero k), fun s h => absurd h (Nat.not_lt_zero s)⟩, fun _ _ => ⟨rfl, rfl⟩, fun _ _ => ⟨rfl, rfl⟩, fun _ _ => rfl, fun _ _ => ⟨rfl, rfl, rfl⟩⟩
