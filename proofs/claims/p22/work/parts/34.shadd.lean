/-! what adds does not mind what was told -/
theorem rowF_sh {d : Int32} {σ : Me} {a i : Nat} {f : Nat → Int32} (h : a ≠ 26) : rowF (sh d σ) a i f = sh d (rowF σ a i f) := by
  have e : rowF σ a i f 26 = σ 26 := rowF_n (fun q => h q.symm)
  unfold sh
  rw [e]
  funext a1 i1
  by_cases h1 : a1 = a ∧ i1 = i
  · obtain ⟨rfl, rfl⟩ := h1
    rw [rowF_s, st3_n h, rowF_s]
  · funext j1
    unfold rowF st3
    rw [if_neg h1]
    by_cases h2 : a1 = 26 ∧ i1 = 0 ∧ j1 = 0
    · rw [if_pos h2, if_pos h2]
    · rw [if_neg h2, if_neg h2]; exact (congrFun (show rowF σ a i f a1 i1 = σ a1 i1 from by unfold rowF; rw [if_neg h1]) j1).symm
theorem addF_sh {n : Nat} {v sw ti d : Int32} {σ : Me} : addF n v sw ti (sh d σ) = sh d (addF n v sw ti σ) := by
  unfold addF
  rw [sh_st (by decide), sh_st (by decide), sh_st (by decide), sh_st (by decide), rowF_sh (by decide)]
theorem subF_sh {n : Nat} {pt by1 ov kp d : Int32} {σ : Me} : subF n pt by1 ov kp (sh d σ) = sh d (subF n pt by1 ov kp σ) := by
  unfold subF
  rw [sh_st (by decide), sh_st (by decide), sh_st (by decide), sh_st (by decide)]
theorem schF_sh {n : Nat} {pt pr d : Int32} {σ : Me} : schF n pt pr (sh d σ) = sh d (schF n pt pr σ) := by
  unfold schF
  rw [sh_st (by decide), sh_st (by decide), sh_st (by decide), sh_st (by decide), sh_st (by decide)]
/-- the codes do not read what was told -/
theorem cdWri_sh {g : GC} {d x0 x1 x2 : Int32} {σ : Me} : cdWri g (sh d σ) x0 x1 x2 = cdWri g σ x0 x1 x2 := by
  unfold cdWri okV inP
  rw [sh_n (by decide), sh_n (by decide)]
theorem cdEnd_sh {g : GC} {d x0 : Int32} {σ : Me} : cdEnd g (sh d σ) x0 = cdEnd g σ x0 := by
  unfold cdEnd
  rw [sh_n (by decide)]
theorem cdEnt_sh {g : GC} {d hi x0 x1 x2 x3 : Int32} {σ : Me} : cdEnt g (sh d σ) hi x0 x1 x2 x3 = cdEnt g σ hi x0 x1 x2 x3 := by
  unfold cdEnt okV inP
  rw [sh_n (a := 14) (by decide), sh_n (a := 17) (by decide), sh_n (a := 1) (by decide)]
theorem cdPas_sh {d x0 : Int32} {σ : Me} : cdPas (sh d σ) x0 = cdPas σ x0 := by
  unfold cdPas
  rw [sh_n (by decide)]
theorem stO_sh {k : Nat} {d : Int32} {σ : Me} : stO (sh d σ) k = stO σ k := by
  unfold stO
  rw [sh_n (by decide)]
/-- a pass: what the class answers and what the model answers -/
theorem pas_told {g : GC} {n : Nat} {d : Int32} {σ : Me} : pasF g n (st3 (sh d σ) 26 0 0 0) = sh (0 - σ 26 0 0) (pasF g n σ) ∧ pasF g n (st3 (sh d σ) 26 0 0 0) 26 0 0 = pasF g n σ 26 0 0 - σ 26 0 0 := by
  have e : pasF g n (st3 (sh d σ) 26 0 0 0) = sh (0 - σ 26 0 0) (pasF g n σ) := by rw [sh_set, sh_of, pasF_sh]
  refine ⟨e, ?_⟩
  rw [e, sh_v, Int32.zero_sub, Int32.sub_eq_add_neg]
