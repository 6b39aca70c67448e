/-! what each call asks, and what it does: the codes of its exceptions, its answer, its new memory -/
def bt (x lo hi : Int32) : Prop := lo ≤ x ∧ x ≤ hi
noncomputable def cdPt (n : Nat) (x0 : Int32) : Nat := cod3 (isN n x0) True True
noncomputable def cdCom (g : GC) (x0 x1 : Int32) : Nat := cod3 (isN g.1 x0) (bt x1 1 16) True
noncomputable def cdWri (g : GC) (σ : Me) (x0 x1 x2 : Int32) : Nat := cod3 (isN g.1 x0) (bt x1 1 16 ∧ okV σ (nOf x0) x2) (x1 = 6 → σ 4 (nOf x0) 0 = 0)
noncomputable def cdAdM (g : GC) (x0 : Int32) : Nat := cod3 (bt x0 (-1000) 1000) (g.1 < 16) True
noncomputable def cdAdS (g : GC) (x0 x1 : Int32) : Nat := cod3 (bt x0 0 1 ∧ bt x1 0 1000) (g.1 < 16) True
noncomputable def cdSub (g : GC) (x0 x1 x2 : Int32) : Nat := cod3 (isN g.1 x0) (bt x1 1 2000 ∧ bt x2 1 100000) (g.2.1 < 30)
noncomputable def cdEnd (g : GC) (σ : Me) (x0 : Int32) : Nat := cod3 (isN g.2.1 x0) (σ 11 (nOf x0) 0 = 0) True
noncomputable def cdAdC (g : GC) (x0 x1 : Int32) : Nat := cod3 (isN g.1 x0) (bt x1 7 16) (g.2.2 < 4)
noncomputable def cdEnt (g : GC) (σ : Me) (hi x0 x1 x2 x3 : Int32) : Nat := cod3 (isN g.2.2 x0) (bt x1 0 hi ∧ bt x2 0 1439 ∧ okV σ (nOf (σ 14 (nOf x0) 0)) x3) (nOf (σ 17 (nOf x0) 0) < 20)
noncomputable def cdTel (g : GC) (x0 x1 : Int32) : Nat := cod3 (isN g.2.2 x0) (bt x1 0 1000000) True
noncomputable def cdPas (σ : Me) (x0 : Int32) : Nat := cod3 (bt x0 1 5000) (x0 ≤ 1000000 - σ 25 0 0) True
/-- an entry more: the class keeps it in the list e (as the day dc), the model in its own list (as the day dm) -/
def entC (e : Nat) (dc x v : Int32) (σ : Me) : Me := st3 (st3 (st3 (st3 σ 22 e (nOf (σ 21 e 0)) dc) 23 e (nOf (σ 21 e 0)) x) 24 e (nOf (σ 21 e 0)) v) 21 e 0 (nI (nOf (σ 21 e 0) + 1))
def entM (c : Nat) (dm x v : Int32) (σ : Me) : Me := st3 (st3 (st3 (st3 σ 18 c (nOf (σ 17 c 0)) dm) 19 c (nOf (σ 17 c 0)) x) 20 c (nOf (σ 17 c 0)) v) 17 c 0 (nI (nOf (σ 17 c 0) + 1))
/-- the same cells: the class's don't tell what is the model's alone, nor the other way round -/
theorem cW_c {D : va_G} {ad : Ad} {g : GC} {σ : Me} {T : Wd} {o : Int64} {a i j : Nat} {v : Int32} (ha : a = 17 ∨ a = 18 ∨ a = 19 ∨ a = 20) : cW D ad (g, st3 σ a i j v) T o = cW D ad (g, σ) T o := by
  have e : ∀ b, b < 17 ∨ 20 < b → st3 σ a i j v b = σ b := fun b hb => st3_n (by omega)
  funext f k
  match f with
  | 0 => simp [cW, eEn, e 21]
  | 1 => simp [cW, ePt, e 1, e 2, e 3, e 7, e 4, e 5]
  | 2 => simp [cW, eSc, e 14, e 15, e 16]
  | 3 => simp [cW, eSu, e 8, e 9, e 10, e 13, e 12, e 11]
  | 4 => simp [cW, eBP, e 25, e 26]
  | 5 => simp only [cW]
  | 6 => simp only [cW]
  | 7 => simp only [cW]
  | 8 => simp [cW, e 6]
  | 9 => simp [cW, e 22]
  | 10 => simp [cW, e 23]
  | 11 => simp [cW, e 24]
  | 12 => simp only [cW]
  | n + 13 => simp only [cW]
theorem cW_entM {D : va_G} {ad : Ad} {g : GC} {σ : Me} {T : Wd} {o : Int64} {c : Nat} {dm x v : Int32} : cW D ad (g, entM c dm x v σ) T o = cW D ad (g, σ) T o := by
  unfold entM
  rw [cW_c (by omega), cW_c (by omega), cW_c (by omega), cW_c (by omega)]
/-! an entry more keeps what holds -/
theorem nI_inj {a b : Nat} (ha : a < 2 ^ 31) (hb : b < 2 ^ 31) (h : nI a = nI b) : a = b := (nI_eq ha hb).mp h
theorem hasF_new {w w' : Nat → Int32} {d : Int32} {n : Nat} (h : ∀ i, i < n → w' i = w i) : hasF w' d (n + 1) ↔ hasF w d n ∨ w' n = d := by
  constructor
  · rintro ⟨i, h1, h2⟩
    rcases Nat.lt_succ_iff_lt_or_eq.mp h1 with q | q
    · exact Or.inl ⟨i, q, by rw [← h i q]; exact h2⟩
    · exact Or.inr (by rw [← q]; exact h2)
  · rintro (⟨i, h1, h2⟩ | h1)
    · exact ⟨i, by omega, by rw [h i h1]; exact h2⟩
    · exact ⟨n, by omega, h1⟩
theorem latF_same {w m t w' m' t' : Nat → Int32} {d x : Int32} : ∀ n, (∀ i, i < n → w' i = w i ∧ m' i = m i ∧ t' i = t i) → latF w' m' t' d x n = latF w m t d x n
  | 0, h => rfl
  | n + 1, h => by
    obtain ⟨h1, h2, h3⟩ := h n (Nat.lt_succ_self n)
    simp only [latF]
    rw [latF_same n (fun i hi => h i (Nat.lt_succ_of_lt hi)), h1, h2, h3]
theorem upd_lt {f : Nat → Int32} {n i : Nat} {v : Int32} (h : i < n) : upd f n v i = f i := by simp [upd, Nat.ne_of_lt h]
theorem upd_at {f : Nat → Int32} {n : Nat} {v : Int32} : upd f n v n = v := by simp [upd]
theorem latF_new {w m t : Nat → Int32} {d x dn xn v : Int32} (n : Nat) : latF (upd w n dn) (upd m n xn) (upd t n v) d x (n + 1) = if dn = d ∧ xn ≤ x ∧ (latF w m t d x n).1 ≤ xn then (xn, v) else latF w m t d x n := by
  have e := latF_same (w := w) (m := m) (t := t) (w' := upd w n dn) (m' := upd m n xn) (t' := upd t n v) (d := d) (x := x) n (fun i hi => ⟨upd_lt hi, upd_lt hi, upd_lt hi⟩)
  simp only [latF]
  rw [e, upd_at, upd_at, upd_at]
theorem nI_add10 {d d' : Nat} (h1 : d ≤ 1000000) (h2 : d' ≤ 1000000) : (10 + nI d = 10 + nI d') ↔ nI d = nI d' := by
  have e : ∀ q : Nat, (10 : Int32) + nI q = nI (10 + q) := fun q => nI_add 10 q
  rw [e, e, nI_eq (by omega) (by omega), nI_eq (by omega) (by omega)]
  omega
theorem nI_ne10 {d d' : Nat} (h1 : d ≤ 1000000) (h2 : d' < 10) : ¬ (nI d' = 10 + nI d) := by
  rw [show (10 : Int32) + nI d = nI (10 + d) from nI_add 10 d, nI_eq (by omega) (by omega)]
  omega
/-- for a weekday -/
theorem Ie_wee {σ : Me} {c n n1 n2 d : Nat} {x v : Int32} (h : Ie σ c n n1 n2) (hn : nOf (σ 17 c 0) = n) (h1 : nOf (σ 21 (2 * c) 0) = n1) (hd : d < 7) : Ie (entM c (nI d) x v (entC (2 * c) (nI d) x v σ)) c (n + 1) (n1 + 1) n2 := by
  obtain ⟨hA, hB, hC⟩ := h
  have e17 : entC (2 * c) (nI d) x v σ 17 = σ 17 := by unfold entC; rw [st3_n (by decide), st3_n (by decide), st3_n (by decide), st3_n (by decide)]
  have m18 : entM c (nI d) x v (entC (2 * c) (nI d) x v σ) 18 c = upd (σ 18 c) n (nI d) := by
    unfold entM; rw [e17, hn, st3_n (by decide), st3_n (by decide), st3_n (by decide), st3_s]; unfold entC; rw [st3_n (by decide), st3_n (by decide), st3_n (by decide), st3_n (by decide)]
  have m19 : entM c (nI d) x v (entC (2 * c) (nI d) x v σ) 19 c = upd (σ 19 c) n x := by
    unfold entM; rw [e17, hn, st3_n (by decide), st3_n (by decide), st3_s, st3_n (by decide)]; unfold entC; rw [st3_n (by decide), st3_n (by decide), st3_n (by decide), st3_n (by decide)]
  have m20 : entM c (nI d) x v (entC (2 * c) (nI d) x v σ) 20 c = upd (σ 20 c) n v := by
    unfold entM; rw [e17, hn, st3_n (by decide), st3_s, st3_n (by decide), st3_n (by decide)]; unfold entC; rw [st3_n (by decide), st3_n (by decide), st3_n (by decide), st3_n (by decide)]
  have c22 : entM c (nI d) x v (entC (2 * c) (nI d) x v σ) 22 (2 * c) = upd (σ 22 (2 * c)) n1 (nI d) := by
    unfold entM; rw [st3_n (by decide), st3_n (by decide), st3_n (by decide), st3_n (by decide)]; unfold entC; rw [h1, st3_n (by decide), st3_n (by decide), st3_n (by decide), st3_s]
  have c23 : entM c (nI d) x v (entC (2 * c) (nI d) x v σ) 23 (2 * c) = upd (σ 23 (2 * c)) n1 x := by
    unfold entM; rw [st3_n (by decide), st3_n (by decide), st3_n (by decide), st3_n (by decide)]; unfold entC; rw [h1, st3_n (by decide), st3_n (by decide), st3_s, st3_n (by decide)]
  have c24 : entM c (nI d) x v (entC (2 * c) (nI d) x v σ) 24 (2 * c) = upd (σ 24 (2 * c)) n1 v := by
    unfold entM; rw [st3_n (by decide), st3_n (by decide), st3_n (by decide), st3_n (by decide)]; unfold entC; rw [h1, st3_n (by decide), st3_s, st3_n (by decide), st3_n (by decide)]
  have s22 : ∀ a, a = 22 ∨ a = 23 ∨ a = 24 → entM c (nI d) x v (entC (2 * c) (nI d) x v σ) a (2 * c + 1) = σ a (2 * c + 1) := by
    intro a ha
    unfold entM; rw [st3_n (by omega), st3_n (by omega), st3_n (by omega), st3_n (by omega)]; unfold entC; rw [st3_i (by omega), st3_i (by omega), st3_i (by omega), st3_i (by omega)]
  refine ⟨fun q hq => ?_, fun q y hq => ?_, fun q y hq => ?_⟩
  · rw [s22 22 (by omega), m18, hasF_new (w := σ 18 c) (fun i hi => upd_lt hi), upd_at, hA q hq]
    exact ⟨fun z => Or.inl z, fun z => z.elim id (fun z => absurd z (nI_ne10 hq (by omega)))⟩
  · rw [s22 22 (by omega), s22 23 (by omega), s22 24 (by omega), m18, m19, m20, latF_new, if_neg (fun z => nI_ne10 hq (by omega) z.1)]
    exact hB q y hq
  · rw [c22, c23, c24, m18, m19, m20, latF_new, latF_new, hC q y hq]
/-- for a single day -/
theorem Ie_onc {σ : Me} {c n n1 n2 d : Nat} {x v : Int32} (h : Ie σ c n n1 n2) (hn : nOf (σ 17 c 0) = n) (h2 : nOf (σ 21 (2 * c + 1) 0) = n2) (hd : d ≤ 700) : Ie (entM c (10 + nI d) x v (entC (2 * c + 1) (nI d) x v σ)) c (n + 1) n1 (n2 + 1) := by
  obtain ⟨hA, hB, hC⟩ := h
  have e17 : entC (2 * c + 1) (nI d) x v σ 17 = σ 17 := by unfold entC; rw [st3_n (by decide), st3_n (by decide), st3_n (by decide), st3_n (by decide)]
  have m18 : entM c (10 + nI d) x v (entC (2 * c + 1) (nI d) x v σ) 18 c = upd (σ 18 c) n (10 + nI d) := by
    unfold entM; rw [e17, hn, st3_n (by decide), st3_n (by decide), st3_n (by decide), st3_s]; unfold entC; rw [st3_n (by decide), st3_n (by decide), st3_n (by decide), st3_n (by decide)]
  have m19 : entM c (10 + nI d) x v (entC (2 * c + 1) (nI d) x v σ) 19 c = upd (σ 19 c) n x := by
    unfold entM; rw [e17, hn, st3_n (by decide), st3_n (by decide), st3_s, st3_n (by decide)]; unfold entC; rw [st3_n (by decide), st3_n (by decide), st3_n (by decide), st3_n (by decide)]
  have m20 : entM c (10 + nI d) x v (entC (2 * c + 1) (nI d) x v σ) 20 c = upd (σ 20 c) n v := by
    unfold entM; rw [e17, hn, st3_n (by decide), st3_s, st3_n (by decide), st3_n (by decide)]; unfold entC; rw [st3_n (by decide), st3_n (by decide), st3_n (by decide), st3_n (by decide)]
  have c22 : entM c (10 + nI d) x v (entC (2 * c + 1) (nI d) x v σ) 22 (2 * c + 1) = upd (σ 22 (2 * c + 1)) n2 (nI d) := by
    unfold entM; rw [st3_n (by decide), st3_n (by decide), st3_n (by decide), st3_n (by decide)]; unfold entC; rw [h2, st3_n (by decide), st3_n (by decide), st3_n (by decide), st3_s]
  have c23 : entM c (10 + nI d) x v (entC (2 * c + 1) (nI d) x v σ) 23 (2 * c + 1) = upd (σ 23 (2 * c + 1)) n2 x := by
    unfold entM; rw [st3_n (by decide), st3_n (by decide), st3_n (by decide), st3_n (by decide)]; unfold entC; rw [h2, st3_n (by decide), st3_n (by decide), st3_s, st3_n (by decide)]
  have c24 : entM c (10 + nI d) x v (entC (2 * c + 1) (nI d) x v σ) 24 (2 * c + 1) = upd (σ 24 (2 * c + 1)) n2 v := by
    unfold entM; rw [st3_n (by decide), st3_n (by decide), st3_n (by decide), st3_n (by decide)]; unfold entC; rw [h2, st3_n (by decide), st3_s, st3_n (by decide), st3_n (by decide)]
  have s22 : ∀ a, a = 22 ∨ a = 23 ∨ a = 24 → entM c (10 + nI d) x v (entC (2 * c + 1) (nI d) x v σ) a (2 * c) = σ a (2 * c) := by
    intro a ha
    unfold entM; rw [st3_n (by omega), st3_n (by omega), st3_n (by omega), st3_n (by omega)]; unfold entC; rw [st3_i (by omega), st3_i (by omega), st3_i (by omega), st3_i (by omega)]
  refine ⟨fun q hq => ?_, fun q y hq => ?_, fun q y hq => ?_⟩
  · rw [c22, m18, hasF_new (w := σ 18 c) (fun i hi => upd_lt hi), hasF_new (w := σ 22 (2 * c + 1)) (fun i hi => upd_lt hi), upd_at, upd_at, hA q hq, nI_add10 (by omega) hq]
  · rw [c22, c23, c24, m18, m19, m20, latF_new, latF_new, hB q y hq]
    simp only [nI_add10 (show d ≤ 1000000 by omega) hq]
  · rw [s22 22 (by omega), s22 23 (by omega), s22 24 (by omega), m18, m19, m20, latF_new, if_neg (fun z => nI_ne10 (by omega) (by omega) z.1.symm)]
    exact hC q y hq
theorem entM_n {c a : Nat} {dm x v : Int32} {σ : Me} (h17 : a ≠ 17) (h18 : a ≠ 18) (h19 : a ≠ 19) (h20 : a ≠ 20) : entM c dm x v σ a = σ a := by
  unfold entM; rw [st3_n h17, st3_n h20, st3_n h19, st3_n h18]
theorem entC_n {e a : Nat} {dc x v : Int32} {σ : Me} (h21 : a ≠ 21) (h22 : a ≠ 22) (h23 : a ≠ 23) (h24 : a ≠ 24) : entC e dc x v σ a = σ a := by
  unfold entC; rw [st3_n h21, st3_n h24, st3_n h23, st3_n h22]
theorem entM_i {c i a : Nat} {dm x v : Int32} {σ : Me} (h : i ≠ c) : entM c dm x v σ a i = σ a i := by
  unfold entM; rw [st3_i h, st3_i h, st3_i h, st3_i h]
theorem entC_i {e i a : Nat} {dc x v : Int32} {σ : Me} (h : i ≠ e) : entC e dc x v σ a i = σ a i := by
  unfold entC; rw [st3_i h, st3_i h, st3_i h, st3_i h]
theorem Ib_ent {g : GC} {σ : Me} {c e : Nat} {dm dc x v : Int32} (h : Ib g σ) (hc : c < g.2.2) (he : e = 2 * c ∨ e = 2 * c + 1) (hv : okV σ (nOf (σ 14 c 0)) v)
    (hE : ∀ n n1 n2, σ 17 c 0 = nI n → σ 21 (2 * c) 0 = nI n1 → σ 21 (2 * c + 1) 0 = nI n2 → n ≤ 20 → n1 ≤ 20 → n2 ≤ 20 → Ie σ c n n1 n2 → Ie (entM c dm x v (entC e dc x v σ)) c (n + 1) (if e = 2 * c then n1 + 1 else n1) (if e = 2 * c then n2 else n2 + 1)) (h20 : nOf (σ 17 c 0) < 20) : Ib g (entM c dm x v (entC e dc x v σ)) := by
  obtain ⟨h1, h2, h3, h4, h5, h6⟩ := h
  have fr : ∀ a, a ≠ 17 → a ≠ 18 → a ≠ 19 → a ≠ 20 → a ≠ 21 → a ≠ 22 → a ≠ 23 → a ≠ 24 → entM c dm x v (entC e dc x v σ) a = σ a := fun a q1 q2 q3 q4 q5 q6 q7 q8 => by rw [entM_n q1 q2 q3 q4, entC_n q5 q6 q7 q8]
  refine ⟨h1, h2, h3, fun k hk => ?_, Is_to h5 (fr _ (by decide) (by decide) (by decide) (by decide) (by decide) (by decide) (by decide) (by decide)) (fr _ (by decide) (by decide) (by decide) (by decide) (by decide) (by decide) (by decide) (by decide)) (fr _ (by decide) (by decide) (by decide) (by decide) (by decide) (by decide) (by decide) (by decide)), fun k hk => ?_⟩
  · obtain ⟨q1, q2, q3, q4, q5⟩ := h4 k hk
    have e1 := fr 1 (by decide) (by decide) (by decide) (by decide) (by decide) (by decide) (by decide) (by decide)
    rw [vaO_eq, e1, fr 2 (by decide) (by decide) (by decide) (by decide) (by decide) (by decide) (by decide) (by decide), fr 3 (by decide) (by decide) (by decide) (by decide) (by decide) (by decide) (by decide) (by decide), fr 6 (by decide) (by decide) (by decide) (by decide) (by decide) (by decide) (by decide) (by decide), fr 7 (by decide) (by decide) (by decide) (by decide) (by decide) (by decide) (by decide) (by decide)]
    exact ⟨q1, inP_to q2 e1, q3, fun z hz => okV_to (q4 z hz) e1, q5⟩
  · obtain ⟨i, j, n, n1, n2, q1, q2, q3, q4, q5, q6, q7, q8, q9, q10, q11, q12⟩ := h6 k hk
    have e1 := fr 1 (by decide) (by decide) (by decide) (by decide) (by decide) (by decide) (by decide) (by decide)
    rw [fr 14 (by decide) (by decide) (by decide) (by decide) (by decide) (by decide) (by decide) (by decide), fr 15 (by decide) (by decide) (by decide) (by decide) (by decide) (by decide) (by decide) (by decide)]
    by_cases hkc : k = c
    · subst hkc
      have en : nOf (σ 17 k 0) = n := by rw [q6]; exact nI_clamp (by omega)
      have e14 : nOf (σ 14 k 0) = i := by rw [q2]; exact nI_clamp (by omega)
      rw [en] at h20
      rw [e14] at hv
      have hE' := hE n n1 n2 q6 q7 q8 q10 (by omega) (by omega) q12
      have d17 : entC e dc x v σ 17 = σ 17 := entC_n (by decide) (by decide) (by decide) (by decide)
      have a17 : entM k dm x v (entC e dc x v σ) 17 k 0 = nI (n + 1) := by unfold entM; rw [d17, en, st3_v]
      have a20 : entM k dm x v (entC e dc x v σ) 20 k = upd (σ 20 k) n v := by unfold entM; rw [d17, en, st3_n (by decide), st3_s, st3_n (by decide), st3_n (by decide), entC_n (by decide) (by decide) (by decide) (by decide)]
      refine ⟨i, j, n + 1, (if e = 2 * k then n1 + 1 else n1), (if e = 2 * k then n2 else n2 + 1), q1, q2, q3, q4, q5, a17, ?_, ?_, ?_, by omega, ?_, hE'⟩
      · rw [entM_n (by decide) (by decide) (by decide) (by decide)]
        by_cases z : e = 2 * k
        · rw [if_pos z]; subst z; unfold entC; rw [st3_v, q7, show nOf (nI n1) = n1 from nI_clamp (by omega)]
        · rw [if_neg z, entC_i (by omega)]; exact q7
      · rw [entM_n (by decide) (by decide) (by decide) (by decide)]
        by_cases z : e = 2 * k
        · rw [if_pos z, entC_i (by omega)]; exact q8
        · rw [if_neg z]
          have z2 : e = 2 * k + 1 := by omega
          subst z2; unfold entC; rw [st3_v, q8, show nOf (nI n2) = n2 from nI_clamp (by omega)]
      · split <;> omega
      · intro q hq
        rw [a20]
        rcases Nat.lt_succ_iff_lt_or_eq.mp hq with z | z
        · rw [upd_lt z]; exact okV_to (q11 q z) e1
        · subst z; rw [upd_at]; exact okV_to hv e1
    · have f1 : ∀ a, entM c dm x v (entC e dc x v σ) a k = entC e dc x v σ a k := fun a => entM_i hkc
      have f2 : ∀ a, a = 21 ∨ a = 22 ∨ a = 23 ∨ a = 24 → ∀ i, i = 2 * k ∨ i = 2 * k + 1 → entM c dm x v (entC e dc x v σ) a i = σ a i := fun a ha i hi => by rw [entM_n (by omega) (by omega) (by omega) (by omega), entC_i (by omega)]
      have f3 : ∀ a, a = 17 ∨ a = 18 ∨ a = 19 ∨ a = 20 → entM c dm x v (entC e dc x v σ) a k = σ a k := fun a ha => by rw [f1, entC_n (by omega) (by omega) (by omega) (by omega)]
      rw [f3 17 (by omega), f3 20 (by omega), f2 21 (by omega) _ (Or.inl rfl), f2 21 (by omega) _ (Or.inr rfl)]
      refine ⟨i, j, n, n1, n2, q1, q2, q3, q4, q5, q6, q7, q8, q9, q10, fun q hq => okV_to (q11 q hq) e1, ?_⟩
      unfold Ie
      rw [f3 18 (by omega), f3 19 (by omega), f3 20 (by omega), f2 22 (by omega) _ (Or.inl rfl), f2 22 (by omega) _ (Or.inr rfl), f2 23 (by omega) _ (Or.inl rfl), f2 23 (by omega) _ (Or.inr rfl), f2 24 (by omega) _ (Or.inl rfl), f2 24 (by omega) _ (Or.inr rfl)]
      exact q12
/-- a number within bounds is one of the naturals -/
theorem bt_nat {x L U : Int32} {lo hi : Nat} (hl : L.toInt = lo) (hu : U.toInt = hi) (hh : hi < 2 ^ 31) (h : bt x L U) : ∃ n : Nat, x = nI n ∧ lo ≤ n ∧ n ≤ hi := by
  have h1 := Int32.le_iff_toInt_le.mp h.1
  have h2 := Int32.le_iff_toInt_le.mp h.2
  rw [hl] at h1
  rw [hu] at h2
  exact ⟨x.toInt.toNat, nI_of_toInt (by omega), by omega, by omega⟩
theorem le_sub {a b : Nat} (h : nI a ≤ 1000000 - nI b) (hb : b ≤ 1000000) (ha : a ≤ 5000) : b + a ≤ 1000000 := by
  have e : (1000000 : Int32) - nI b = nI (1000000 - b) := pk_sub (a := 1000000) (b := b) hb
  rw [e, nI_leI (by omega) (by omega)] at h
  omega
