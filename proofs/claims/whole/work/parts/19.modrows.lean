/-! what the model's walk needs -/
theorem bI_n0 {c : Prop} (h : ¬ bI c = 0) : c := Classical.not_not.mp (fun z => h (bI_0.mpr z))
theorem cod3_z {a b c : Prop} (h : cod3 a b c = 0) : a ∧ b ∧ c := by
  by_cases h1 : a
  · by_cases h2 : b
    · by_cases h3 : c
      · exact ⟨h1, h2, h3⟩
      · rw [cod3_3 h1 h2 h3] at h; exact absurd h (by decide)
    · rw [cod3_2 h1 h2] at h; exact absurd h (by decide)
  · rw [cod3_1 h1] at h; exact absurd h (by decide)
theorem in_isN {n : Nat} {x : Int32} (hn : n ≤ 30) : bt x 0 (nI n - 1) ↔ isN n x := by
  rw [isN_iff (by omega)]
  have e1 : (1 : Int32).toInt = 1 := by decide
  have e0 : (0 : Int32).toInt = 0 := by decide
  have en : (nI n).toInt = n := nI_toInt (by omega)
  have e : (nI n - 1).toInt = (n : Int) - 1 := by rw [fb_subI (by rw [en, e1]; omega) (by rw [en, e1]; omega), en, e1]
  unfold bt
  rw [Int32.le_iff_toInt_le, Int32.le_iff_toInt_le, e, e0]
  omega
theorem pA5k {D : va_G} {ad : Ad} {S : GC × Me} {h : GC} {τ : Me} {th : Int32} {o : Int64} {p k : Nat} (h1 : 1 ≤ k) (h2 : k ≤ 16) (v : Int32) : u2 (cW D ad S (h, τ, th) o) 12 5 (eI D 256 (upd (fun q => τ 6 (q / 16) (q % 16 + 1)) (16 * p + k - 1) v)) = cW D ad S (h, st3 τ 6 p k v, th) o := by
  obtain ⟨j, rfl⟩ : ∃ j, k = j + 1 := ⟨k - 1, by omega⟩
  exact pA5 (p := p) (j := j) (by omega) v
section WJ
variable {p : Program} {l : Launch} {e : Env} {R : Room} {s : State} {m : MethodId} {args : Array Value} {below : List Frame} {meth : Method} {c : Code} {H : Heap} {locs : List Loc} {cells slots : Nat} {Q : State → Prop}
variable {g : JFrame} {ls : Array Slot} {rest : List Value} {D : va_G} {B : Nat} {ad : Ad} {w : Wd} {H0 : Heap}
/-- several roads meet at pcJ, each with the same value on the stack -/
theorem w_join {pcJ : Nat} (v0 : Int32) (k : ∀ (H : Heap) (locs : List Loc), hw D B ad w H → va_S (ab B) H0 H locs → W p l e R s m args below meth c H locs cells slots Q (F0 m pcJ ls (.int v0 :: rest)))
    (f : (∀ (v : Int32) (H : Heap) (locs : List Loc), v = v0 → hw D B ad w H → va_S (ab B) H0 H locs → W p l e R s m args below meth c H locs cells slots Q (F0 m pcJ ls (.int v :: rest))) → W p l e R s m args below meth c H locs cells slots Q g)
    (_ : hw D B ad w H) (_ : va_S (ab B) H0 H locs) : W p l e R s m args below meth c H locs cells slots Q g :=
  f (fun v H locs hv hP hS => hv ▸ k H locs hP hS)
end WJ
