/-! the law's loop: what holds at its head, and behind each case -/
section LRW
variable {p : Program} {l : Launch} {e : Env} {R : Room} {s : State} {m : MethodId} {args : Array Value} {below : List Frame} {meth : Method} {c : Code} {H : Heap} {locs : List Loc} {cells slots : Nat} {Q : State → Prop}
variable {cc : ByteArray} {pc : Nat} {ls : Array Slot} {rest : List Value} {D : va_G} {B : Nat} {ad : Ad} {w : Wd} {H0 : Heap}
theorem w_sld {b L : Nat} {xs : Nat → Int32} (hx : p.tables.exec = Jvm.exec) (hb : c.code = cc) (hX : va_X b L xs s H0) (hbl : b < H0.size) (hB : B = H0.size) (hS : va_S (ab B) H0 H locs) {j : Nat} (hj : j < L) (hL : L ≤ 2560) (hdg : decode cc pc = .ok (.iaload, 1))
    (kk : W p l e R s m args below meth c H locs cells slots Q (F0 m (pc + 1) ls (.int (xs j) :: rest))) : W p l e R s m args below meth c H locs cells slots Q (F0 m pc ls (.int (nI j) :: .ref b :: rest)) := by
  refine va_sld hx hb hX hbl (by subst hB; exact Nat.not_le.mpr hbl) hS (vp_in_nI hj (by omega)) hdg ?_
  rw [nI_clamp (show j < 2 ^ 31 by omega)]
  exact kk
theorem w_laldV (hx : p.tables.exec = Jvm.exec) (hb : c.code = cc) (hC : cx D B s) (hP : hw D B ad w H) {a k n : Nat} {f : Nat → Int64} (he : w a k = some (eL D n f)) {i : Int32} {v : Int64} (hin : vp_in i n) (hv : f i.toNatClampNeg = v) (hdg : decode cc pc = .ok (.laload, 1))
    (kk : W p l e R s m args below meth c H locs cells slots Q (F0 m (pc + 1) ls (.long v :: rest))) : W p l e R s m args below meth c H locs cells slots Q (F0 m pc ls (.int i :: .ref (ad a k) :: rest)) := by
  subst hv
  exact va_lald hx hb hC.1 (hw_one hP he) 0 2 rfl rfl hin hdg kk
end LRW
theorem lg_cmp_self (x : Int64) : lg_cmp x x = 0 := by simp [lg_cmp]
/-- what does not change in the loop -/
def LoA (p : Program) (l : Launch) (s : State) (m : MethodId) (c : Code) (b L : Nat) (xs : Nat → Int32) (D : va_G) : Prop := l.stackTraces = false ∧ p.tables.exec = Jvm.exec ∧ c.code = cL_law ∧ c.maxLocals = 7 ∧ s.vm.findClass RL = some m.cls ∧ (∀ w ∈ wsL_law, w.before #[Value.ref b] s = true) ∧ va_X b L xs s s.heap ∧ b < s.heap.size ∧ L ≤ 2560 ∧ cx D s.heap.size s
abbrev lvs (ad : Ad) (b i : Nat) : List (Nat × Value) := [(4, .int (nI i)), (3, .ref (ad 6 0)), (2, .ref (ad 5 0)), (1, .ref (ad 4 0)), (0, .ref b)]
def LoS (D : va_G) (s : State) (b i : Nat) (ad : Ad) (g : GC) (σ : Me) (d th : Int32) (o : Int64) (H : Heap) (locs : List Loc) (ls : Array Slot) : Prop := hw D s.heap.size ad (cW D ad (g, σ) (g, sh d σ, th) o) H ∧ va_S (ab s.heap.size) s.heap H locs ∧ Rf g σ ∧ lv_has ls 7 (lvs ad b i)
def LoK (p : Program) (l : Launch) (e : Env) (s : State) (m : MethodId) (below : List Frame) (meth : Method) (c : Code) (b i : Nat) (D : va_G) (cells slots : Nat) (Q : State → Prop) : Prop := ∀ (ad : Ad) (g : GC) (σ : Me) (d th : Int32) (o : Int64) (H : Heap) (locs : List Loc) (ls : Array Slot), LoS D s b i ad g σ d th o H locs ls → W p l e room_1 s m #[Value.ref b] below meth c H locs (cells + 12) (slots + 151) Q (F0 m 1304 ls [])
theorem go_one {g : GC} {σ : Me} {x0 : Int32} (hR : Rf g σ) (c9 : cdPt g.2.1 x0 = 0) (c4 : ¬ 1 - σ 11 (nOf x0) 0 = 0) : 1 - σ 11 (nOf x0) 0 = 1 := by
  have hI := Rf_Ib hR
  obtain ⟨pi, hpi, rfl⟩ := (cod3_z c9).1
  rw [nOf_N (n := pi) (by have := hI.2.1; omega)] at c4 ⊢
  rcases (hI.2.2.2.2.1 pi hpi).1 with z | z
  · rw [z]; decide
  · rw [z] at c4; exact absurd (by decide) c4
