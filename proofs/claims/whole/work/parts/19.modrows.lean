/-! what the model's walk needs -/
theorem bI_n0 {c : Prop} (h : ¬ bI c = 0) : c := Classical.not_not.mp (fun z => h (bI_0.mpr z))
theorem cod3_z {a b c : Prop} (h : cod3 a b c = 0) : a ∧ b ∧ c := by
  by_cases h1 : a
  · by_cases h2 : b
    · by_cases h3 : c
      · exact ⟨h1, h2, h3⟩
      · rw [cod3_3 h1 h2 h3] at h; exact absurd h (by decide)
    · rw [cod3_2 h1 h2] at h; exact absurd h (by decide)
  · rw [cod3_1 h1] at h; exact absurd h (by decide)
theorem in_isN {n : Nat} {x : Int32} (hn : n ≤ 30) : bt x 0 (nI n - 1) ↔ isN n x := by
  rw [isN_iff (by omega)]
  have e1 : (1 : Int32).toInt = 1 := by decide
  have e0 : (0 : Int32).toInt = 0 := by decide
  have en : (nI n).toInt = n := nI_toInt (by omega)
  have e : (nI n - 1).toInt = (n : Int) - 1 := by rw [fb_subI (by rw [en, e1]; omega) (by rw [en, e1]; omega), en, e1]
  unfold bt
  rw [Int32.le_iff_toInt_le, Int32.le_iff_toInt_le, e, e0]
  omega
theorem pA5k {D : va_G} {ad : Ad} {S : GC × Me} {h : GC} {τ : Me} {th : Int32} {o : Int64} {p k : Nat} (h1 : 1 ≤ k) (h2 : k ≤ 16) (v : Int32) : u2 (cW D ad S (h, τ, th) o) 12 5 (eI D 256 (upd (fun q => τ 6 (q / 16) (q % 16 + 1)) (16 * p + k - 1) v)) = cW D ad S (h, st3 τ 6 p k v, th) o := by
  obtain ⟨j, rfl⟩ : ∃ j, k = j + 1 := ⟨k - 1, by omega⟩
  exact pA5 (p := p) (j := j) (by omega) v
section WJ
variable {p : Program} {l : Launch} {e : Env} {R : Room} {s : State} {m : MethodId} {args : Array Value} {below : List Frame} {meth : Method} {c : Code} {H : Heap} {locs : List Loc} {cells slots : Nat} {Q : State → Prop}
variable {g : JFrame} {ls : Array Slot} {rest : List Value} {D : va_G} {B : Nat} {ad : Ad} {w : Wd} {H0 : Heap}
/-- several roads meet at pcJ, each with the same value on the stack -/
theorem w_join {pcJ : Nat} (v0 : Int32) (k : ∀ (H : Heap) (locs : List Loc), hw D B ad w H → va_S (ab B) H0 H locs → W p l e R s m args below meth c H locs cells slots Q (F0 m pcJ ls (.int v0 :: rest)))
    (f : (∀ (v : Int32) (H : Heap) (locs : List Loc), v = v0 → hw D B ad w H → va_S (ab B) H0 H locs → W p l e R s m args below meth c H locs cells slots Q (F0 m pcJ ls (.int v :: rest))) → W p l e R s m args below meth c H locs cells slots Q g)
    (_ : hw D B ad w H) (_ : va_S (ab B) H0 H locs) : W p l e R s m args below meth c H locs cells slots Q g :=
  f (fun v H locs hv hP hS => hv ▸ k H locs hP hS)
end WJ
/-- the day that counts for a schedule at a time -/
noncomputable def dayF (τ : Me) (c n : Nat) (t : Int32) : Int32 := by classical exact if hasF (τ 18 c) (10 + t / 1440) n then 10 + t / 1440 else remF (t / 1440) 7
theorem dayF_t {τ : Me} {c n : Nat} {t : Int32} (h : hasF (τ 18 c) (10 + t / 1440) n) : dayF τ c n t = 10 + t / 1440 := by unfold dayF; rw [if_pos h]
theorem dayF_f {τ : Me} {c n : Nat} {t : Int32} (h : ¬ hasF (τ 18 c) (10 + t / 1440) n) : dayF τ c n t = remF (t / 1440) 7 := by unfold dayF; rw [if_neg h]
theorem tolF_eq {τ : Me} {c n : Nat} {t : Int32} : tolF τ c n t = (latF (τ 18 c) (τ 19 c) (τ 20 c) (dayF τ c n t) (remF t 1440) n).2 := by
  unfold tolF dayF
  rfl
theorem hasF_0 {w : Nat → Int32} {d : Int32} : ¬ hasF w d 0 := fun ⟨_, z, _⟩ => absurd z (Nat.not_lt_zero _)
theorem hasF_s {w : Nat → Int32} {d : Int32} {n : Nat} : hasF w d (n + 1) ↔ hasF w d n ∨ w n = d := hasF_new (fun _ _ => rfl)
theorem tolO_n {τ : Me} {c n : Nat} {t : Int32} (h : τ 17 c 0 = nI n) (hn : n ≤ 20) : tolF τ c n t = tolO τ c t := by
  unfold tolO
  rw [h, show nOf (nI n) = n from nI_clamp (by omega)]
theorem Rs_26 {g : GC} {t : Nat} {σ : Me} {v : Int32} (h : Rs g t σ) : Rs g t (st3 σ 26 0 0 v) := by
  obtain ⟨h1, h2, h3, h4, h5⟩ := h
  refine ⟨Ib_st h1 (by decide), by rw [st3_n (by decide)]; exact h2, h3, fun k hk => ?_, fun s hs => To_to (h5 s hs) (st3_n (by decide)) (st3_n (by decide))⟩
  unfold Tu
  rw [st3_n (by decide)]
  exact h4 k hk
theorem le_add {x0 c : Int32} {t : Nat} (h : bt x0 1 5000) (hc : c = nI t) (ht : t ≤ 1000000) : c + x0 ≤ 1000000 ↔ x0 ≤ 1000000 - c := by
  obtain ⟨n, rfl, h1, h2⟩ := bt_nat (lo := 1) (hi := 5000) (by decide) (by decide) (by decide) h
  subst hc
  have e : (1000000 : Int32) - nI t = nI (1000000 - t) := pk_sub (a := 1000000) (b := t) ht
  have e2 : nI (t + n) ≤ (1000000 : Int32) ↔ t + n ≤ 1000000 := nI_leI (a := t + n) (b := 1000000) (by omega) (by omega)
  rw [e, nI_add, e2, nI_leI (by omega) (by omega)]
  omega
