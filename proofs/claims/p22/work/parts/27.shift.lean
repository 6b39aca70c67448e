/-! what the class told and what the model told differ by a number: no step minds; and what has not been made stays as it is -/
def sh (d : Int32) (σ : Me) : Me := st3 σ 26 0 0 (σ 26 0 0 + d)
theorem sh_n {d : Int32} {σ : Me} {a : Nat} (h : a ≠ 26) : sh d σ a = σ a := st3_n h
theorem sh_v {d : Int32} {σ : Me} : sh d σ 26 0 0 = σ 26 0 0 + d := st3_v
theorem st3_comm {σ : Me} {a i j b i1 j1 : Nat} {v w : Int32} (h : a ≠ b) : st3 (st3 σ a i j v) b i1 j1 w = st3 (st3 σ b i1 j1 w) a i j v := by
  funext x y z
  unfold st3
  by_cases h1 : x = b ∧ y = i1 ∧ z = j1
  · rw [if_pos h1, if_neg (fun q => h (q.1.symm.trans h1.1)), if_pos h1]
  · rw [if_neg h1]
    by_cases h2 : x = a ∧ y = i ∧ z = j
    · rw [if_pos h2, if_pos h2]
    · rw [if_neg h2, if_neg h2, if_neg h1]
theorem st3_two {σ : Me} {a i j : Nat} {v w : Int32} : st3 (st3 σ a i j v) a i j w = st3 σ a i j w := by
  funext x y z
  unfold st3
  by_cases h : x = a ∧ y = i ∧ z = j
  · rw [if_pos h, if_pos h]
  · rw [if_neg h, if_neg h, if_neg h]
theorem sh_st {d : Int32} {σ : Me} {a i j : Nat} {v : Int32} (h : a ≠ 26) : st3 (sh d σ) a i j v = sh d (st3 σ a i j v) := by
  unfold sh
  rw [st3_n (σ := σ) (a := a) (a1 := 26) (fun q => h q.symm), st3_comm (fun q => h q.symm)]
theorem sh_1 {d x : Int32} {σ : Me} : st3 (sh d σ) 26 0 0 (sh d σ 26 0 0 + x) = sh d (st3 σ 26 0 0 (σ 26 0 0 + x)) := by
  unfold sh
  rw [st3_two, st3_two, st3_v, st3_v, Int32.add_assoc, Int32.add_assoc, Int32.add_comm d x]
theorem sh_0 {σ : Me} : sh 0 σ = σ := by
  unfold sh
  rw [Int32.add_zero]
  funext x y z
  unfold st3
  by_cases h : x = 26 ∧ y = 0 ∧ z = 0
  · rw [if_pos h, h.1, h.2.1, h.2.2]
  · rw [if_neg h]
theorem sh_set {d v : Int32} {σ : Me} : st3 (sh d σ) 26 0 0 v = st3 σ 26 0 0 v := st3_two
theorem sh_of {σ : Me} {v : Int32} : st3 σ 26 0 0 v = sh (v - σ 26 0 0) σ := by
  unfold sh
  congr 1
  rw [Int32.add_comm, Int32.sub_add_cancel]
theorem sh_sh {d d1 : Int32} {σ : Me} : sh d (sh d1 σ) = sh (d1 + d) σ := by
  unfold sh
  rw [st3_two, st3_v, Int32.add_assoc]
theorem infS_sh {k s : Nat} {v d : Int32} {σ : Me} : infS k v s (sh d σ) = sh d (infS k v s σ) := by
  unfold infS
  rw [sh_n (a := 8) (by decide), sh_n (a := 9) (by decide), sh_n (a := 11) (by decide), sh_n (a := 13) (by decide), sh_n (a := 12) (by decide)]
  by_cases h : σ 8 s 0 = nI k ∧ σ 11 s 0 = 0 ∧ σ 9 s 0 ≤ farO v (σ 13 s 0)
  · rw [if_pos h, if_pos h, sh_st (by decide), sh_st (by decide)]
    have e : sh d σ 26 0 0 = sh d (st3 (st3 σ 13 s 0 v) 12 s 0 (σ 12 s 0 + 1)) 26 0 0 := by rw [sh_v, sh_v, st3_n (by decide), st3_n (by decide)]
    have e2 : σ 26 0 0 = st3 (st3 σ 13 s 0 v) 12 s 0 (σ 12 s 0 + 1) 26 0 0 := by rw [st3_n (by decide), st3_n (by decide)]
    rw [e, sh_1, ← e2]
  · rw [if_neg h, if_neg h]
theorem infF_sh {k : Nat} {v d : Int32} : ∀ (n s : Nat) (σ : Me), infF k v n s (sh d σ) = sh d (infF k v n s σ)
  | 0, _, _ => rfl
  | n + 1, s, σ => by
    simp only [infF]
    rw [infS_sh]
    exact infF_sh n (s + 1) _
theorem chgF_sh {k : Nat} {x t d : Int32} {σ : Me} : chgF k x t (sh d σ) = sh d (chgF k x t σ) := by
  unfold chgF
  rw [sh_n (a := 3) (by decide), sh_n (a := 5) (by decide)]
  by_cases h : 0 < σ 3 k 0
  · rw [if_pos h, if_pos h, sh_st (by decide), sh_st (by decide), sh_st (by decide), sh_st (by decide)]
  · rw [if_neg h, if_neg h, sh_st (by decide), sh_st (by decide)]
theorem vaO_sh {k : Nat} {d : Int32} {σ : Me} : vaO (sh d σ) k = vaO σ k := by
  rw [vaO_eq, vaO_eq, sh_n (by decide), sh_n (by decide)]
theorem setF_sh {ns k j : Nat} {v d : Int32} {σ : Me} : setF ns k j v (sh d σ) = sh d (setF ns k j v σ) := by
  unfold setF
  rw [sh_st (by decide), vaO_sh, vaO_sh, sh_n (a := 25) (by decide)]
  by_cases h : vaO (st3 σ 6 k j v) k = vaO σ k
  · rw [if_pos h, if_pos h]
  · rw [if_neg h, if_neg h, chgF_sh, infF_sh]
theorem tolO_to {σ σ' : Me} {c : Nat} {t : Int32} (h : ∀ a, a = 17 ∨ a = 18 ∨ a = 19 ∨ a = 20 → σ' a = σ a) : tolO σ' c t = tolO σ c t := by
  unfold tolO tolF
  rw [h 17 (by omega), h 18 (by omega), h 19 (by omega), h 20 (by omega)]
theorem tolO_sh {c : Nat} {t d : Int32} {σ : Me} : tolO (sh d σ) c t = tolO σ c t := tolO_to fun a h => sh_n (by omega)
theorem obeF_sh {ns c : Nat} {d : Int32} {σ : Me} : obeF ns c (sh d σ) = sh d (obeF ns c σ) := by
  unfold obeF
  rw [sh_n (a := 25) (by decide), tolO_sh, sh_n (a := 16) (by decide), sh_n (a := 14) (by decide), sh_n (a := 15) (by decide)]
  by_cases h : tolO σ c (σ 25 0 0) = σ 16 c 0
  · rw [if_pos h, if_pos h]
  · rw [if_neg h, if_neg h, sh_st (by decide), setF_sh]
theorem relS_sh {ns k : Nat} {d : Int32} {σ : Me} : relS ns k (sh d σ) = sh d (relS ns k σ) := by
  unfold relS
  rw [sh_n (a := 4) (by decide), sh_n (a := 25) (by decide)]
  by_cases h : σ 4 k 0 = σ 25 0 0
  · rw [if_pos h, if_pos h, sh_st (by decide), setF_sh]
  · rw [if_neg h, if_neg h]
theorem relF_sh {ns : Nat} {d : Int32} : ∀ (n k : Nat) (σ : Me), relF ns n k (sh d σ) = sh d (relF ns n k σ)
  | 0, _, _ => rfl
  | n + 1, k, σ => by
    simp only [relF]
    rw [relS_sh]
    exact relF_sh n (k + 1) _
theorem endS_sh {s : Nat} {d : Int32} {σ : Me} : endS s (sh d σ) = sh d (endS s σ) := by
  unfold endS
  rw [sh_n (a := 11) (by decide), sh_n (a := 10) (by decide), sh_n (a := 25) (by decide), sh_st (by decide)]
theorem endF_sh {d : Int32} : ∀ (n s : Nat) (σ : Me), endF n s (sh d σ) = sh d (endF n s σ)
  | 0, _, _ => rfl
  | n + 1, s, σ => by
    simp only [endF]
    rw [endS_sh]
    exact endF_sh n (s + 1) _
theorem folF_sh {ns : Nat} {d : Int32} : ∀ (n c : Nat) (σ : Me), folF ns n c (sh d σ) = sh d (folF ns n c σ)
  | 0, _, _ => rfl
  | n + 1, c, σ => by
    simp only [folF]
    rw [obeF_sh]
    exact folF_sh n (c + 1) _
theorem minF_sh {g : GC} {d : Int32} {σ : Me} : minF g (sh d σ) = sh d (minF g σ) := by
  unfold minF
  rw [sh_n (a := 25) (by decide), sh_st (by decide), relF_sh, endF_sh, folF_sh]
theorem pasF_sh {g : GC} {d : Int32} : ∀ (n : Nat) (σ : Me), pasF g n (sh d σ) = sh d (pasF g n σ)
  | 0, _ => rfl
  | n + 1, σ => by
    simp only [pasF]
    rw [minF_sh]
    exact pasF_sh n _
theorem entC_sh {e : Nat} {dc x v d : Int32} {σ : Me} : entC e dc x v (sh d σ) = sh d (entC e dc x v σ) := by
  unfold entC
  rw [sh_n (a := 21) (by decide), sh_st (by decide), sh_st (by decide), sh_st (by decide), sh_st (by decide)]
theorem entM_sh {c : Nat} {dm x v d : Int32} {σ : Me} : entM c dm x v (sh d σ) = sh d (entM c dm x v σ) := by
  unfold entM
  rw [sh_n (a := 17) (by decide), sh_st (by decide), sh_st (by decide), sh_st (by decide), sh_st (by decide)]
theorem Ib_sh {g : GC} {d : Int32} {σ : Me} (h : Ib g σ) : Ib g (sh d σ) := Ib_st h (by decide)
theorem Rs_sh {g : GC} {t : Nat} {d : Int32} {σ : Me} (h : Rs g t σ) : Rs g t (sh d σ) := Rs_26 h
