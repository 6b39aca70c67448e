/-! p22: what the law's acts read -/
theorem hw_ado {D : va_G} {B : Nat} {ad ad9 : Ad} {S S' : SM} {L : Wd} {H : Heap} (h : hw D B ad9 (cW D ad9 S (tW D ad S' L) 0) H) (hk : ∀ f k, f = 4 ∨ 13 ≤ f → ad9 f k = ad f k) : hw D B ad9 (eW D ad9 S S' L) H := by
  show hw D B ad9 (cW D ad9 S (tW D ad9 S' L) 0) H
  rw [tW_to (ad := ad) (fun a b h1 _ => hk a b (Or.inr h1))]
  exact h
/-- how the acts leave the law: the objects and arrays where they were, the state with what holds -/
def kpA (ad ad9 : Ad) : Prop := ∀ f k, f = 4 ∨ f = 17 ∨ (f = 26 ∧ k < 4) → ad9 f k = ad f k
theorem kpA_r {ad : Ad} : kpA ad ad := fun _ _ _ => rfl
theorem kpA_o {ad ad1 ad9 : Ad} (h : kpA ad ad1) (hk : ∀ f k, f = 4 ∨ 13 ≤ f → ad9 f k = ad1 f k) : kpA ad ad9 := fun f k z => (hk f k (by omega)).trans (h f k z)
theorem kpA_t {ad ad1 ad9 : Ad} (h : kpA ad ad1) (hk : ∀ f k, f < 13 ∨ f = 17 ∨ 26 ≤ f → ad9 f k = ad1 f k) : kpA ad ad9 := fun f k z => (hk f k (by omega)).trans (h f k z)
theorem kpA_p {ad ad9 : Ad} (hk : ∀ f k, ¬ (f = 26 ∧ 4 ≤ k) → ad9 f k = ad f k) : kpA ad ad9 := fun f k z => hk f k (by omega)
abbrev rmA : Room := { frames := 11, cells := 60, slots := 700, locals := 260 }
def AcA (p : Program) (l : Launch) (s : State) (m : MethodId) (args : Array Value) (c : Code) (D : va_G) (B : Nat) : Prop := l.stackTraces = false ∧ p.tables.exec = Jvm.exec ∧ c.code = cL_acts ∧ c.maxLocals = 20 ∧ s.vm.findClass RL = some m.cls ∧ (∀ w ∈ wsL_acts, w.before args s = true) ∧ cx D B s
def AcK (p : Program) (l : Launch) (e : Env) (s : State) (m : MethodId) (args : Array Value) (below : List Frame) (meth : Method) (c : Code) (D : va_G) (B : Nat) (ad : Ad) (t N : Nat) (Q : State → Prop) : Prop :=
  ∀ (pc : Nat) (H : Heap) (locs : List Loc) (ls : Array Slot) (ad9 : Ad) (g9 : GC) (σ9 μ9 : Me) (t9 N9 : Nat), decode cL_acts pc = .ok (.ireturn, 1) → hw D B ad9 (eW D ad9 (g9, σ9) (g9, σ9) (lW D 4 μ9)) H → va_S (ab B) s.heap H locs → kpA ad ad9 → Jt t9 N9 g9 σ9 μ9 → t9 ≤ t + 200 → N9 ≤ N + 4001 → W p l e (headSpec wsL_acts rmA).room s m args below meth c H locs 60 700 Q (F0 m pc ls [.int 1])
section AF
variable {t N k np ns nc : Nat} {g : GC} {σ μ : Me}
theorem lo_me {i : Nat} (h : i < 2001) : bt (nI i - 1000) (-1000) 1000 := by
  have e : (nI i - 1000).toInt = (i : Int) - 1000 := by
    rw [fb_subI (by rw [nI_toInt (by omega), show (1000 : Int32).toInt = 1000 by decide]; omega) (by rw [nI_toInt (by omega), show (1000 : Int32).toInt = 1000 by decide]; omega), nI_toInt (by omega), show (1000 : Int32).toInt = 1000 by decide]
  refine ⟨le_toI.mpr ?_, le_toI.mpr ?_⟩
  · rw [e, show (-1000 : Int32).toInt = -1000 by decide]; omega
  · rw [e, show (1000 : Int32).toInt = 1000 by decide]; omega
theorem lo_20 {i : Nat} (h : i < 41) : bt (nI i - 20) (-1000) 1000 := by
  have e : (nI i - 20).toInt = (i : Int) - 20 := by
    rw [fb_subI (by rw [nI_toInt (by omega), show (20 : Int32).toInt = 20 by decide]; omega) (by rw [nI_toInt (by omega), show (20 : Int32).toInt = 20 by decide]; omega), nI_toInt (by omega), show (20 : Int32).toInt = 20 by decide]
  refine ⟨le_toI.mpr ?_, le_toI.mpr ?_⟩
  · rw [e, show (-1000 : Int32).toInt = -1000 by decide]; omega
  · rw [e, show (1000 : Int32).toInt = 1000 by decide]; omega
theorem lo_sw {i : Nat} (h : i < 2) : bt (nI i) 0 1 := ⟨(nI_leI (a := 0) (b := i) (by decide) (by omega)).mpr (Nat.zero_le _), (nI_leI (a := i) (b := 1) (by omega) (by decide)).mpr (by omega)⟩
theorem lo_bt {i n : Nat} (h : i ≤ n) (hn : n < 2 ^ 31) : bt (nI i) 0 (nI n) := ⟨(nI_leI (a := 0) (b := i) (by decide) (by omega)).mpr (Nat.zero_le _), (nI_leI (by omega) hn).mpr h⟩
theorem lo_b1 {i n : Nat} (h1 : 1 ≤ i) (h : i ≤ n) (hn : n < 2 ^ 31) : bt (nI i) 1 (nI n) := ⟨(nI_leI (a := 1) (b := i) (by decide) (by omega)).mpr h1, (nI_leI (by omega) hn).mpr h⟩
theorem ok_me {x : Int32} (h1 : σ 1 k 0 = 0) (h : bt x (-1000) 1000) : okV σ k x := by
  refine Or.inr ?_
  unfold inP
  rw [h1, show loF 0 = -1000 by decide, show hiF 0 = 1000 by decide]
  exact h
theorem ok_sw {x : Int32} (h1 : σ 1 k 0 = 1) (h : bt x 0 1) : okV σ k x := by
  refine Or.inr ?_
  unfold inP
  rw [h1, show loF 1 = 0 by decide, show hiF 1 = 1 by decide]
  exact h
theorem no_1001 : ¬ okV σ k 1001 := by
  rintro (h | h)
  · exact absurd h (by decide)
  · have h2 := le_toI.mp h.2
    have h3 := hi_le (σ 1 k 0)
    rw [show (1001 : Int32).toInt = 1001 by decide] at h2
    omega
theorem no_2 (h1 : σ 1 k 0 = 1) : ¬ okV σ k 2 := by
  rintro (h | h)
  · exact absurd h (by decide)
  · unfold inP at h
    rw [h1] at h
    exact absurd h.2 (by decide)
/-- adds: room, and what is refused -/
theorem am_0 {v : Int32} (hb : bt v (-1000) 1000) (h : np < 16) : cdAdM (np, ns, nc) v = 0 := cod3_0 hb h trivial
theorem am_2 {v : Int32} (hb : bt v (-1000) 1000) (h : ¬ np < 16) : cdAdM (np, ns, nc) v = 2 := cod3_2 hb h
theorem am_1 {v : Int32} (hb : ¬ bt v (-1000) 1000) : cdAdM (np, ns, nc) v = 1 := cod3_1 hb
theorem as_0 {v w : Int32} (hb : bt v 0 1) (hw9 : bt w 0 1000) (h : np < 16) : cdAdS (np, ns, nc) v w = 0 := cod3_0 ⟨hb, hw9⟩ h trivial
theorem as_2 {v w : Int32} (hb : bt v 0 1) (hw9 : bt w 0 1000) (h : ¬ np < 16) : cdAdS (np, ns, nc) v w = 2 := cod3_2 ⟨hb, hw9⟩ h
theorem as_1 {v w : Int32} (hb : ¬ (bt v 0 1 ∧ bt w 0 1000)) : cdAdS (np, ns, nc) v w = 1 := cod3_1 hb
theorem sb_0 {x1 x2 : Int32} (hk : k < np) (h1 : bt x1 1 2000) (h2 : bt x2 1 100000) (h : ns < 30) : cdSub (np, ns, nc) (nI k) x1 x2 = 0 := cod3_0 ⟨k, hk, rfl⟩ ⟨h1, h2⟩ h
theorem sb_2 {x1 x2 : Int32} (hk : k < np) (h1 : ¬ (bt x1 1 2000 ∧ bt x2 1 100000)) : cdSub (np, ns, nc) (nI k) x1 x2 = 2 := cod3_2 ⟨k, hk, rfl⟩ h1
theorem sb_1 {x0 x1 x2 : Int32} (h : ¬ isN np x0) : cdSub (np, ns, nc) x0 x1 x2 = 1 := cod3_1 h
theorem ac_0 {x1 : Int32} (hk : k < np) (h1 : bt x1 7 16) (h : nc < 4) : cdAdC (np, ns, nc) (nI k) x1 = 0 := cod3_0 ⟨k, hk, rfl⟩ h1 h
theorem ac_3 {x1 : Int32} (hk : k < np) (h1 : bt x1 7 16) (h : ¬ nc < 4) : cdAdC (np, ns, nc) (nI k) x1 = 3 := cod3_3 ⟨k, hk, rfl⟩ h1 h
theorem ac_2 {x1 : Int32} (hk : k < np) (h1 : ¬ bt x1 7 16) : cdAdC (np, ns, nc) (nI k) x1 = 2 := cod3_2 ⟨k, hk, rfl⟩ h1
theorem ac_1 {x0 x1 : Int32} (h : ¬ isN np x0) : cdAdC (np, ns, nc) x0 x1 = 1 := cod3_1 h
theorem en_1 {x : Nat} (h : x = 1) {l : List Int32} {v : Int32} : an x l v = l.getD 0 0 := by rw [h]; rfl
theorem en_2 {x : Nat} (h : x = 2) {l : List Int32} {v : Int32} : an x l v = l.getD 1 0 := by rw [h]; rfl
theorem en_3 {x : Nat} (h : x = 3) {l : List Int32} {v : Int32} : an x l v = l.getD 2 0 := by rw [h]; rfl
theorem ne_1 {x : Nat} (h : x = 1) : ¬ x = 0 := by omega
theorem ne_2 {x : Nat} (h : x = 2) : ¬ x = 0 := by omega
theorem ne_3 {x : Nat} (h : x = 3) : ¬ x = 0 := by omega
theorem wq_2 {x1 x2 : Int32} (hg : g.1 ≤ 16) (hk : k < g.1) (h : ¬ (bt x1 1 16 ∧ okV σ k x2)) : cdWri g σ (nI k) x1 x2 = 2 := by
  unfold cdWri
  rw [nOf_N (n := k) (by omega)]
  exact cod3_2 ⟨k, hk, rfl⟩ h
theorem wq_1 {x0 x1 x2 : Int32} (h : ¬ isN g.1 x0) : cdWri g σ x0 x1 x2 = 1 := cod3_1 h
theorem ed_1 {x0 : Int32} (h : ¬ isN g.2.1 x0) : cdEnd g σ x0 = 1 := cod3_1 h
theorem ed_0 {q : Nat} (hg : g.2.1 ≤ 30) (hq : q < g.2.1) (h : σ 11 q 0 = 0) : cdEnd g σ (nI q) = 0 := by
  unfold cdEnd
  rw [nOf_N (n := q) (by omega)]
  exact cod3_0 ⟨q, hq, rfl⟩ h trivial
theorem ed_2 {q : Nat} (hg : g.2.1 ≤ 30) (hq : q < g.2.1) (h : ¬ σ 11 q 0 = 0) : cdEnd g σ (nI q) = 2 := by
  unfold cdEnd
  rw [nOf_N (n := q) (by omega)]
  exact cod3_2 ⟨q, hq, rfl⟩ h
theorem nI_inc (n : Nat) : nI n + 1 = nI (n + 1) := nI_1 n
end AF
section SBF
variable {t N k np ns nc : Nat} {σ μ μ2 : Me} {a b c : Int32}
theorem sb_13 (J2 : Jt t N (np, ns + 1, nc) (subF ns a b c (σ 7 k 0) σ) μ2) (hk : k < np) : subF ns a b c (σ 7 k 0) σ 13 ns 0 = vaO (subF ns a b c (σ 7 k 0) σ) k := by
  rw [← pt_val J2 hk, subF_n (a := 7) (by decide) (by decide) (by decide) (by decide)]
  unfold subF
  rw [st3_v]
theorem sb_12 (J : Jt t N (np, ns, nc) σ μ) : subF ns a b c (σ 7 k 0) σ 12 ns 0 = 0 := by
  rw [subF_n (by decide) (by decide) (by decide) (by decide)]
  exact (J.2.1.2.1 ns (Nat.le_refl ns)).2
theorem sb_11 (J : Jt t N (np, ns, nc) σ μ) : 1 - subF ns a b c (σ 7 k 0) σ 11 ns 0 = 1 := by
  rw [subF_n (by decide) (by decide) (by decide) (by decide), (J.2.1.2.1 ns (Nat.le_refl ns)).1]
  rfl
end SBF
def AcP (D : va_G) (ad : Ad) (t N : Nat) : Int32 → Ad × Wd → Prop := fun r u => r = 1 ∧ ∃ (ad9 : Ad) (g9 : GC) (σ9 μ9 : Me) (t9 N9 : Nat), u = (ad9, eW D ad9 (g9, σ9) (g9, σ9) (lW D 4 μ9)) ∧ kpA ad ad9 ∧ Jt t9 N9 g9 σ9 μ9 ∧ t9 ≤ t + 200 ∧ N9 ≤ N + 4001
