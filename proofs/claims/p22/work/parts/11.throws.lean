/-! throws: new X(text), thrown out of the method; the world stays -/
theorem no_IA : ∀ w ∈ (vx_atS RX4 156 exIA ["java/lang/RuntimeException", "java/lang/Exception"]).filter (fun w => !goodWord w), w ∈ [Cond.castable exIA exIA, .declares (Bundle.initS "java/lang/RuntimeException"), .declares (Bundle.initS "java/lang/Exception"), .declares (Bundle.initS "java/lang/Throwable")] := by decide +kernel
theorem no_IS : ∀ w ∈ (vx_atS RX4 58 exIS ["java/lang/RuntimeException", "java/lang/Exception"]).filter (fun w => !goodWord w), w ∈ [Cond.castable exIS exIS, .declares (Bundle.initS "java/lang/RuntimeException"), .declares (Bundle.initS "java/lang/Exception"), .declares (Bundle.initS "java/lang/Throwable")] := by decide +kernel
theorem no_IO : ∀ w ∈ (vx_atS RX4 177 exIO ["java/lang/RuntimeException", "java/lang/Exception"]).filter (fun w => !goodWord w), w ∈ [Cond.castable exIO exIO, .declares (Bundle.initS "java/lang/RuntimeException"), .declares (Bundle.initS "java/lang/Exception"), .declares (Bundle.initS "java/lang/Throwable")] := by decide +kernel
section WT
variable {p : Program} {l : Launch} {e : Env} {R : Room} {s : State} {m : MethodId} {args : Array Value} {below : List Frame} {meth : Method} {c : Code} {H : Heap} {locs : List Loc} {cells slots : Nat}
variable {cc : ByteArray} {pc : Nat} {ls : Array Slot} {rest : List Value} {D : va_G} {B : Nat} {ad : Ad} {w : Wd} {Qc : Array Value → State → Outcome → State → Prop} {px : String → Ad × Wd → Prop} {mc ms : Nat}
set_option maxRecDepth 100000 in
theorem w_thIA (hexec : p.tables.exec = Jvm.exec) (hb : c.code = cc) (hns : l.stackTraces = false) {is : Nat} {text : String} (hq : (is, text) ∈ strs) (hown : s.vm.findClass RX4 = some m.cls) (hk : (Cond.classLink RX4 152 exIA).before args s = true) (hini : (Cond.initialized exIA).before args s = true) (hat : ∀ w ∈ (vx_atS RX4 156 exIA ["java/lang/RuntimeException", "java/lang/Exception"]).filter goodWord, w.before args s = true)
    (hC : cx D B s) (hP : hw D B ad w H) (hS : va_S (ab B) s.heap H locs) (hsize : ls.size = c.maxLocals) (hnt : ∀ x ∈ c.exceptionTable.toList, False) (d0 : decode cc pc = .ok (.new 152, 3)) (d3 : decode cc (pc + 3) = .ok (.dup, 1)) (d4 : decode cc (pc + 4) = .ok (.ldc is, 2)) (d6 : decode cc (pc + 6) = .ok (.invokespecial 156, 3)) (d9 : decode cc (pc + 9) = .ok (.athrow, 1))
    (hRframes : 5 < R.frames) (hRlocals : (rest.map fun v => v.category).sum + 82 ≤ R.locals) (hRcells : cells + 1 ≤ R.cells) (hRslots : slots + 6 ≤ R.slots) (hlocks : meth.locks = false) (hx : px exIA (ad, w)) (hc : cells + 1 ≤ mc) (hs : slots + 6 ≤ ms) :
    W p l e R s m args below meth c H locs cells slots (vx_MQ below Qc (Xc D B px) args s mc ms (ab B)) (F0 m pc ls rest) := by
  obtain ⟨-, -, hU, hN, hX⟩ := id hC
  obtain ⟨sa, hstr⟩ := hX.1 _ hq
  exact vx_throwS (names := ["java/lang/RuntimeException", "java/lang/Exception"]) hexec hb hns hown (by decide +kernel) (by decide +kernel) hk hini hstr
    (vx_hat hat no_IA (vx_c (va_Nw.use rfl (hX.2.1 exIA (by decide))) (vx_c (va_Nw.use rfl (hX.2.2.2 _ (by decide))) (vx_c (va_Nw.use rfl (hX.2.2.2 _ (by decide))) (vx_c (va_Nw.use rfl (hX.2.2.2 _ (by decide))) vx_n))))) (by decide +kernel) hU hN hS hsize d0 d3 d4 d6 d9 (fun x hx => absurd (hnt x hx) id) hRframes hRlocals hRcells hRslots hlocks
    (fun t _ hz hkp => Xc_of hx (hw_kept hP hkp) hS hz hkp) hS.2.2 hc hs
set_option maxRecDepth 100000 in
theorem w_thIS (hexec : p.tables.exec = Jvm.exec) (hb : c.code = cc) (hns : l.stackTraces = false) {is : Nat} {text : String} (hq : (is, text) ∈ strs) (hown : s.vm.findClass RX4 = some m.cls) (hk : (Cond.classLink RX4 54 exIS).before args s = true) (hini : (Cond.initialized exIS).before args s = true) (hat : ∀ w ∈ (vx_atS RX4 58 exIS ["java/lang/RuntimeException", "java/lang/Exception"]).filter goodWord, w.before args s = true)
    (hC : cx D B s) (hP : hw D B ad w H) (hS : va_S (ab B) s.heap H locs) (hsize : ls.size = c.maxLocals) (hnt : ∀ x ∈ c.exceptionTable.toList, False) (d0 : decode cc pc = .ok (.new 54, 3)) (d3 : decode cc (pc + 3) = .ok (.dup, 1)) (d4 : decode cc (pc + 4) = .ok (.ldc is, 2)) (d6 : decode cc (pc + 6) = .ok (.invokespecial 58, 3)) (d9 : decode cc (pc + 9) = .ok (.athrow, 1))
    (hRframes : 5 < R.frames) (hRlocals : (rest.map fun v => v.category).sum + 82 ≤ R.locals) (hRcells : cells + 1 ≤ R.cells) (hRslots : slots + 6 ≤ R.slots) (hlocks : meth.locks = false) (hx : px exIS (ad, w)) (hc : cells + 1 ≤ mc) (hs : slots + 6 ≤ ms) :
    W p l e R s m args below meth c H locs cells slots (vx_MQ below Qc (Xc D B px) args s mc ms (ab B)) (F0 m pc ls rest) := by
  obtain ⟨-, -, hU, hN, hX⟩ := id hC
  obtain ⟨sa, hstr⟩ := hX.1 _ hq
  exact vx_throwS (names := ["java/lang/RuntimeException", "java/lang/Exception"]) hexec hb hns hown (by decide +kernel) (by decide +kernel) hk hini hstr
    (vx_hat hat no_IS (vx_c (va_Nw.use rfl (hX.2.1 exIS (by decide))) (vx_c (va_Nw.use rfl (hX.2.2.2 _ (by decide))) (vx_c (va_Nw.use rfl (hX.2.2.2 _ (by decide))) (vx_c (va_Nw.use rfl (hX.2.2.2 _ (by decide))) vx_n))))) (by decide +kernel) hU hN hS hsize d0 d3 d4 d6 d9 (fun x hx => absurd (hnt x hx) id) hRframes hRlocals hRcells hRslots hlocks
    (fun t _ hz hkp => Xc_of hx (hw_kept hP hkp) hS hz hkp) hS.2.2 hc hs
set_option maxRecDepth 100000 in
theorem w_thIO (hexec : p.tables.exec = Jvm.exec) (hb : c.code = cc) (hns : l.stackTraces = false) {is : Nat} {text : String} (hq : (is, text) ∈ strs) (hown : s.vm.findClass RX4 = some m.cls) (hk : (Cond.classLink RX4 173 exIO).before args s = true) (hini : (Cond.initialized exIO).before args s = true) (hat : ∀ w ∈ (vx_atS RX4 177 exIO ["java/lang/RuntimeException", "java/lang/Exception"]).filter goodWord, w.before args s = true)
    (hC : cx D B s) (hP : hw D B ad w H) (hS : va_S (ab B) s.heap H locs) (hsize : ls.size = c.maxLocals) (hnt : ∀ x ∈ c.exceptionTable.toList, False) (d0 : decode cc pc = .ok (.new 173, 3)) (d3 : decode cc (pc + 3) = .ok (.dup, 1)) (d4 : decode cc (pc + 4) = .ok (.ldc is, 2)) (d6 : decode cc (pc + 6) = .ok (.invokespecial 177, 3)) (d9 : decode cc (pc + 9) = .ok (.athrow, 1))
    (hRframes : 5 < R.frames) (hRlocals : (rest.map fun v => v.category).sum + 82 ≤ R.locals) (hRcells : cells + 1 ≤ R.cells) (hRslots : slots + 6 ≤ R.slots) (hlocks : meth.locks = false) (hx : px exIO (ad, w)) (hc : cells + 1 ≤ mc) (hs : slots + 6 ≤ ms) :
    W p l e R s m args below meth c H locs cells slots (vx_MQ below Qc (Xc D B px) args s mc ms (ab B)) (F0 m pc ls rest) := by
  obtain ⟨-, -, hU, hN, hX⟩ := id hC
  obtain ⟨sa, hstr⟩ := hX.1 _ hq
  exact vx_throwS (names := ["java/lang/RuntimeException", "java/lang/Exception"]) hexec hb hns hown (by decide +kernel) (by decide +kernel) hk hini hstr
    (vx_hat hat no_IO (vx_c (va_Nw.use rfl (hX.2.1 exIO (by decide))) (vx_c (va_Nw.use rfl (hX.2.2.2 _ (by decide))) (vx_c (va_Nw.use rfl (hX.2.2.2 _ (by decide))) (vx_c (va_Nw.use rfl (hX.2.2.2 _ (by decide))) vx_n))))) (by decide +kernel) hU hN hS hsize d0 d3 d4 d6 d9 (fun x hx => absurd (hnt x hx) id) hRframes hRlocals hRcells hRslots hlocks
    (fun t _ hz hkp => Xc_of hx (hw_kept hP hkp) hS hz hkp) hS.2.2 hc hs
/-- what a callee has thrown goes on -/
theorem w_thru {E : String} {ce : Cell} {q : Addr} {free : Addr → Prop} (hfree : ∀ q, ab B q → free q) (hnt : ∀ x ∈ c.exceptionTable.toList, False) (hlocks : meth.locks = false) (hP : hw D B ad w H) (hS : va_S (ab B) s.heap H locs) (hcell : H[q]? = some ce) (hv : ce.vm = .none) (hcl : s.vm.findClass E = some ce.cls) (hx : px E (ad, w)) (hc : cells ≤ mc) (hs : slots ≤ ms) :
    vx_W p l e R s m args below meth c H locs cells slots (vx_MQ below Qc (Xc D B px) args s mc ms free) (F0 m pc ls rest) q :=
  vx_out (fun x hx => absurd (hnt x hx) id) hlocks hcell hv hcl (fun t ht _ => Xc_of hx (by rw [ht]; exact hP) hS (by rw [ht]; exact Nat.le_refl _) (fun q _ => by rw [ht])) (fun z hz => hfree _ (hS.2.2 z hz)) hc hs
end WT
/-- which exception a call answers with: 0 none; by the first condition that does not hold -/
noncomputable def cod3 (a b c : Prop) : Nat := by classical exact if ¬ a then 1 else if ¬ b then 2 else if ¬ c then 3 else 0
theorem cod3_1 {a b c : Prop} (h : ¬ a) : cod3 a b c = 1 := by unfold cod3; rw [if_pos h]
theorem cod3_2 {a b c : Prop} (ha : a) (h : ¬ b) : cod3 a b c = 2 := by unfold cod3; rw [if_neg (fun z => z ha), if_pos h]
theorem cod3_3 {a b c : Prop} (ha : a) (hb : b) (h : ¬ c) : cod3 a b c = 3 := by unfold cod3; rw [if_neg (fun z => z ha), if_neg (fun z => z hb), if_pos h]
theorem cod3_0 {a b c : Prop} (ha : a) (hb : b) (hc : c) : cod3 a b c = 0 := by unfold cod3; rw [if_neg (fun z => z ha), if_neg (fun z => z hb), if_neg (fun z => z hc)]
theorem cod3_eq {a b c a' b' c' : Prop} (ha : a ↔ a') (hb : a → (b ↔ b')) (hc : a → b → (c ↔ c')) : cod3 a b c = cod3 a' b' c' := by
  by_cases h1 : a
  · by_cases h2 : b
    · by_cases h3 : c
      · rw [cod3_0 h1 h2 h3, cod3_0 (ha.mp h1) ((hb h1).mp h2) ((hc h1 h2).mp h3)]
      · rw [cod3_3 h1 h2 h3, cod3_3 (ha.mp h1) ((hb h1).mp h2) (fun z => h3 ((hc h1 h2).mpr z))]
    · rw [cod3_2 h1 h2, cod3_2 (ha.mp h1) (fun z => h2 ((hb h1).mpr z))]
  · rw [cod3_1 h1, cod3_1 (fun z => h1 (ha.mpr z))]
/-- a call of the code k answers with this one of its exceptions -/
def exA (l : List String) (k : Nat) (E : String) : Prop := 0 < k ∧ l[k - 1]? = some E
/-- a number that something bears -/
def isN (n : Nat) (x : Int32) : Prop := ∃ i, i < n ∧ x = nI i
theorem isN_iff {n : Nat} {x : Int32} (hn : n < 2 ^ 30) : isN n x ↔ 0 ≤ x.toInt ∧ x.toInt < n := by
  constructor
  · rintro ⟨i, h1, rfl⟩
    rw [nI_toInt (by omega)]
    omega
  · rintro ⟨h1, h2⟩
    exact ⟨x.toInt.toNat, by omega, nI_of_toInt h1⟩
