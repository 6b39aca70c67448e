/-! p22: the law's loop -/
section LRW
variable {p : Program} {l : Launch} {e : Env} {R : Room} {s : State} {m : MethodId} {args : Array Value} {below : List Frame} {meth : Method} {c : Code} {H : Heap} {locs : List Loc} {cells slots : Nat} {Q : State → Prop}
end LRW
theorem lg_cmp_self (x : Int64) : lg_cmp x x = 0 := by simp [lg_cmp]
def LoA (p : Program) (l : Launch) (s : State) (m : MethodId) (c : Code) (b L : Nat) (xs : Nat → Int32) (D : va_G) (B : Nat) : Prop := l.stackTraces = false ∧ p.tables.exec = Jvm.exec ∧ c.code = cL_law ∧ c.maxLocals = 10 ∧ s.vm.findClass RL = some m.cls ∧ (∀ w ∈ wsL_law, w.before #[Value.ref b] s = true) ∧ va_X b L xs s s.heap ∧ b < B ∧ L ≤ 260 ∧ cx D B s
def z0 : Me := fun _ _ _ => 0
theorem low_20 {i : Nat} (hi : i < 24) (h : lowO 20 (nI 24) = nI i) : i = 20 := by
  have e : lowO 20 (nI 24) = nI 20 := by decide
  exact (nI_inj (by decide) (by omega) (e.symm.trans h)).symm
theorem low_is {x : Int32} {i j : Nat} (hi : i < 24) (hj : lowO x (nI 24) = nI j) (h : lowO x (nI 24) = nI i) (hj2 : j < 24) : i = j := nI_inj (by omega) (by omega) (h.symm.trans hj)
theorem low_lt24 {x : Int32} {i : Nat} (h : lowO x (nI 24) = nI i) : True := trivial
