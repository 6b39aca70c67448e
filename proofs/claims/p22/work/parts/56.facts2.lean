/-! p22: what the law's check of all, and of minutes, reads -/
theorem i_tel (a b c : Int32) : (b - a) + (c - b) = c - a := by
  apply Int32.toBitVec_inj.mp
  simp only [Int32.toBitVec_add, Int32.toBitVec_sub]
  bv_omega
theorem i_sub (x y : Int32) : (0 - x) - y = 0 - (x + y) := by
  apply Int32.toBitVec_inj.mp
  simp only [Int32.toBitVec_add, Int32.toBitVec_sub]
  bv_omega
theorem i_snt (x y : Int32) : (0 - x) + y = y - x := by
  apply Int32.toBitVec_inj.mp
  simp only [Int32.toBitVec_add, Int32.toBitVec_sub, show (0 : Int32).toBitVec = 0#32 from rfl]
  bv_omega
theorem i_asc (x y z : Int32) : (0 - x) + y + z = (0 - x) + (y + z) := Int32.add_assoc _ _ _
theorem eW_mu {D : va_G} {ad : Ad} {S S' : SM} {n : Nat} {m m' : Me} (h : ∀ k, k < n → m' k 0 = m k 0) : eW D ad S S' (lW D n m) = eW D ad S S' (lW D n m') := by
  have e : lW D n m = lW D n m' := by
    funext f k
    unfold lW
    by_cases hc : f = 0 ∧ k < n
    · rw [if_pos hc, if_pos hc, h k hc.2]
    · rw [if_neg hc, if_neg hc]
  rw [e]
section SC
variable {t N c : Nat} {g : GC} {σ μ : Me}
theorem sc_at (J : Jt t N g σ μ) (hc : c < g.2.2) : ∃ i j : Nat, i < g.1 ∧ 7 ≤ j ∧ j ≤ 16 ∧ μ 2 0 (4 * c) = nI i ∧ μ 2 0 (4 * c + 1) = nI j ∧ σ 14 c 0 = nI i ∧ σ 15 c 0 = nI j := by
  obtain ⟨i, j, h1, h2, -, h3, h4, h5, -⟩ := Ic_at (Jt_I J) hc
  obtain ⟨w1, w2, -⟩ := J.2.2.2.2.2.1.2.2.2.2.2 c hc
  exact ⟨i, j, h1, h3, h4, w1.trans h2, w2.trans h5, h2, h5⟩
theorem sc_com (J : Jt t N g σ μ) (hc : c < g.2.2) {i j : Nat} (hi : i < g.1) (hj : j ≤ 16) (h14 : σ 14 c 0 = nI i) (h15 : σ 15 c 0 = nI j) (hf : μ 2 0 (4 * c + 2) = 0) : σ 6 i j = tolO σ c (nI t) := by
  obtain ⟨h1, -⟩ := J.2.2.2.2.1 c hc hf
  rw [h14, h15, nOf_N (n := i) (by have := (Jt_I J).1; omega), nOf_N (n := j) (by omega), J.2.2.2.1 c hc, J.1.2.1] at h1
  exact h1
theorem sc_none (J : Jt t N g σ μ) (hc : c < g.2.2) (h : μ 2 0 (4 * c + 3) = 0) {x : Int32} : tolO σ c x = nth := by
  obtain ⟨-, -, w3, -⟩ := J.2.2.2.2.2.1.2.2.2.2.2 c hc
  unfold tolO tolF
  rw [← w3, h, show nOf (0 : Int32) = 0 by decide]
  rfl
end SC
theorem no_self {n : Nat} (hn : n < 2 ^ 31) : ¬ isN n (nI n) := fun ⟨i, h1, h2⟩ => by
  have := nI_inj hn (by omega) h2
  omega
theorem no_m1 {n : Nat} (hn : n < 2 ^ 31) : ¬ isN n (-1) := fun ⟨i, h1, h2⟩ => by
  have h3 : ¬ nI i < 0 := nI_pos (by omega)
  rw [← h2] at h3
  exact h3 (by decide)
theorem pt_no {n : Nat} {x v : Int32} (h : ¬ isN n x) : an (cdPt n x) [-1000001] v = -1000001 := by
  have e : cdPt n x = 1 := cod3_1 h
  rw [e]; rfl
theorem te_no {g : GC} {x y v : Int32} (h : ¬ isN g.2.2 x) : an (cdTel g x y) [-1000001, -1000002] v = -1000001 := by
  have e : cdTel g x y = 1 := cod3_1 h
  rw [e]; rfl
theorem te_bad {g : GC} {x y v : Int32} (h : isN g.2.2 x) (hy : ¬ bt y 0 1000000) : an (cdTel g x y) [-1000001, -1000002] v = -1000002 := by
  have e : cdTel g x y = 2 := cod3_2 h hy
  rw [e]; rfl
theorem is0 {n : Nat} (h : ¬ nI n = 0) (hn : n < 2 ^ 31) : isN n 0 := ⟨0, by
  rcases Nat.eq_zero_or_pos n with z | z
  · exact absurd (by rw [z]; rfl) h
  · exact z, rfl⟩
section PS
variable {t N k : Nat} {g : GC} {σ μ : Me}
/-- what is reported in a minute -/
theorem ps_snt (J : Jt t N g σ μ) (J2 : Jt (t + 1) (N + 20) g (minF g σ) μ) : (0 - smF (fun s9 => σ 12 s9 0) g.2.1) + smF (fun s9 => minF g σ 12 s9 0) g.2.1 = minF g σ 26 0 0 - σ 26 0 0 := by
  rw [i_snt]
  have h1 : σ 26 0 0 = smF (fun s9 => σ 12 s9 0) g.2.1 := J.2.2.1.2.2
  have h2 : minF g σ 26 0 0 = smF (fun s9 => minF g σ 12 s9 0) g.2.1 := J2.2.2.1.2.2
  rw [h1, h2]
theorem ps_a (J : Jt t N g σ μ) (hk : k < g.1) (ht : t + 1 ≤ 1000000) (h : ¬ heO σ k < 2) : minF g σ 5 k 0 - σ 5 k 0 = 0 ∧ heO (minF g σ) k = heO σ k - 1 := by
  obtain ⟨h1, h2⟩ := min_a J.1 ht J.2.2.1 hk h
  exact ⟨by rw [h1]; exact Int32.sub_self _, h2⟩
theorem ps_b (J : Jt t N g σ μ) (hk : k < g.1) (ht : t + 1 ≤ 1000000) (h : ¬ minF g σ 5 k 0 - σ 5 k 0 = 0) (hd : ¬ μ 0 0 (16 + k) < 1) : heO (minF g σ) k = μ 0 0 (16 + k) := by
  have h9 : (1 : Int32) ≤ μ 0 0 (16 + k) := Int32.not_lt.mp hd
  have h8 := le_toI.mp h9
  rw [show (1 : Int32).toInt = 1 by decide] at h8
  obtain ⟨-, e⟩ := pt_ge J hk (le_toI.mpr (by rw [toI_0]; omega))
  rw [e]
  exact min_b (N := N) J.1 ht hk (fun z => h (by rw [z]; exact Int32.sub_self _)) (lt_toI.mpr (by rw [← e, toI_0]; omega))
theorem pa_bad {x : Int32} (h : ¬ bt x 1 5000) : ¬ cdPas σ x = 0 ∧ an (cdPas σ x) [-1000002, -1000003] 0 = -1000002 := by
  have e : cdPas σ x = 1 := cod3_1 h
  rw [e]
  exact ⟨by decide, rfl⟩
theorem mz_a (m : Me) : ∀ k, k < 4 → rowF (rowF m 4 0 (fun _ => 0)) 5 0 (fun _ => 0) k 0 = m k 0 := fun k hk => by
  rw [rowF_n (by omega), rowF_n (by omega)]
end PS
