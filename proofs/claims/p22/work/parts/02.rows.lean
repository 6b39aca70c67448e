/-! rows over a labelled world: w f k says what the cell of the label (f, k) holds, ad f k is its address; what lies under B is never touched -/
abbrev Wd : Type := Nat → Nat → Option va_E
abbrev Ad : Type := Nat → Nat → Nat
abbrev Me : Type := Nat → Nat → Nat → Int32
def u2 (w : Wd) (f k : Nat) (e : va_E) : Wd := fun a b => if a = f ∧ b = k then some e else w a b
def a2 (ad : Ad) (f k q : Nat) : Ad := fun a b => if a = f ∧ b = k then q else ad a b
def st3 (σ : Me) (a i j : Nat) (v : Int32) : Me := fun a' i' j' => if a' = a ∧ i' = i ∧ j' = j then v else σ a' i' j'
def ab (B : Nat) : Nat → Prop := fun q => B ≤ q
def hw (D : va_G) (B : Nat) (ad : Ad) (w : Wd) (H : Heap) : Prop :=
  (∀ (f k : Nat) (e : va_E), w f k = some e → va_at D vwCl (ad f k, e) H ∧ B ≤ ad f k) ∧
  (∀ (f k f' k' : Nat) (e e' : va_E), w f k = some e → w f' k' = some e' → ad f k = ad f' k' → f = f' ∧ k = k')
theorem u2_self (w : Wd) (f k : Nat) (e : va_E) : u2 w f k e f k = some e := by simp [u2]
theorem u2_f (w : Wd) {f k f' k' : Nat} (e : va_E) (h : f' ≠ f) : u2 w f k e f' k' = w f' k' := by simp [u2, h]
theorem u2_k (w : Wd) {f k f' k' : Nat} (e : va_E) (h : k' ≠ k) : u2 w f k e f' k' = w f' k' := by simp [u2, h]
theorem hw_one {D : va_G} {B : Nat} {ad : Ad} {w : Wd} {H : Heap} (h : hw D B ad w H) {f k : Nat} {e : va_E} (he : w f k = some e) : va_P D vwCl [(ad f k, e)] H := by
  intro i q hq
  match i, hq with
  | 0, hq => cases hq; exact (h.1 f k e he).1
  | i + 1, hq => simp at hq
theorem hw_two {D : va_G} {B : Nat} {ad : Ad} {w : Wd} {H : Heap} (h : hw D B ad w H) {f k f' k' : Nat} {e e' : va_E} (he : w f k = some e) (he' : w f' k' = some e') : va_P D vwCl [(ad f k, e), (ad f' k', e')] H := by
  intro i q hq
  match i, hq with
  | 0, hq => cases hq; exact (h.1 f k e he).1
  | 1, hq => cases hq; exact (h.1 f' k' e' he').1
  | i + 2, hq => simp at hq
theorem hw_put {D : va_G} {B : Nat} {ad : Ad} {w : Wd} {H H1 : Heap} (h : hw D B ad w H) {f k : Nat} {e0 e : va_E} (he : w f k = some e0) (h1 : va_at D vwCl (ad f k, e) H1) (oq : ∀ q : Nat, q ≠ ad f k → H1[q]? = H[q]?) : hw D B ad (u2 w f k e) H1 := by
  have key : ∀ (a b : Nat) (x : va_E), u2 w f k e a b = some x → (a = f ∧ b = k ∧ x = e) ∨ (¬ (a = f ∧ b = k) ∧ w a b = some x) := by
    intro a b x hx
    unfold u2 at hx
    by_cases hc : a = f ∧ b = k
    · rw [if_pos hc] at hx
      exact Or.inl ⟨hc.1, hc.2, (Option.some.inj hx).symm⟩
    · rw [if_neg hc] at hx
      exact Or.inr ⟨hc, hx⟩
  refine ⟨fun a b x hx => ?_, fun a b a' b' x x' hx hx' hq => ?_⟩
  · rcases key a b x hx with ⟨rfl, rfl, rfl⟩ | ⟨hc, hx⟩
    · exact ⟨h1, (h.1 _ _ _ he).2⟩
    · refine ⟨(h.1 _ _ _ hx).1.kept (oq _ (fun z => hc (h.2 _ _ _ _ _ _ hx he z))), (h.1 _ _ _ hx).2⟩
  · rcases key a b x hx with ⟨e1, e2, -⟩ | ⟨hc, h3⟩ <;> rcases key a' b' x' hx' with ⟨e1', e2', -⟩ | ⟨hc', h3'⟩
    · exact ⟨e1.trans e1'.symm, e2.trans e2'.symm⟩
    · rw [e1, e2] at hq ⊢
      exact h.2 _ _ _ _ _ _ he h3' hq
    · rw [e1', e2'] at hq ⊢
      exact h.2 _ _ _ _ _ _ h3 he hq
    · exact h.2 _ _ _ _ _ _ h3 h3' hq
theorem hw_new {D : va_G} {B : Nat} {ad : Ad} {w : Wd} {H H1 : Heap} (h : hw D B ad w H) {f k : Nat} {e : va_E} (h1 : va_at D vwCl (H.size, e) H1) (hB : B ≤ H.size) (oq : ∀ q : Nat, q < H.size → H1[q]? = H[q]?) (hn : w f k = none) : hw D B (a2 ad f k H.size) (u2 w f k e) H1 := by
  have key : ∀ (a b : Nat) (x : va_E), u2 w f k e a b = some x → (a = f ∧ b = k ∧ x = e ∧ a2 ad f k H.size a b = H.size) ∨ (w a b = some x ∧ a2 ad f k H.size a b = ad a b) := by
    intro a b x hx
    unfold u2 at hx
    unfold a2
    by_cases hc : a = f ∧ b = k
    · rw [if_pos hc] at hx
      rw [if_pos hc]
      exact Or.inl ⟨hc.1, hc.2, (Option.some.inj hx).symm, rfl⟩
    · rw [if_neg hc] at hx
      rw [if_neg hc]
      exact Or.inr ⟨hx, rfl⟩
  have lt : ∀ (a b : Nat) (x : va_E), w a b = some x → ad a b < H.size := fun a b x hx => (h.1 a b x hx).1.lt
  refine ⟨fun a b x hx => ?_, fun a b a' b' x x' hx hx' hq => ?_⟩
  · rcases key a b x hx with ⟨-, -, e1, e2⟩ | ⟨hx, e2⟩
    · rw [e2, e1]; exact ⟨h1, hB⟩
    · rw [e2]; exact ⟨(h.1 _ _ _ hx).1.kept (oq _ (lt _ _ _ hx)), (h.1 _ _ _ hx).2⟩
  · rcases key a b x hx with ⟨e1, e3, -, e2⟩ | ⟨hx, e2⟩ <;> rcases key a' b' x' hx' with ⟨e1', e3', -, e2'⟩ | ⟨hx', e2'⟩ <;> rw [e2, e2'] at hq
    · exact ⟨e1.trans e1'.symm, e3.trans e3'.symm⟩
    · exact absurd hq (Nat.ne_of_gt (lt _ _ _ hx'))
    · exact absurd hq (Nat.ne_of_lt (lt _ _ _ hx))
    · exact h.2 _ _ _ _ _ _ hx hx' hq
theorem hw_eq {D : va_G} {B : Nat} {ad : Ad} {w w' : Wd} {H : Heap} (h : hw D B ad w H) (e : w = w') : hw D B ad w' H := e ▸ h
theorem hw_lt {D : va_G} {B : Nat} {ad : Ad} {w : Wd} {H : Heap} (h : hw D B ad w H) {f k : Nat} {e : va_E} (he : w f k = some e) : ad f k < H.size := (h.1 f k e he).1.lt
theorem ab_put {B a i : Nat} {H0 H H1 : Heap} {locs : List Loc} (h : va_S (ab B) H0 H locs) (z : H1.size = H.size) (o : ∀ q : Nat, q ≠ a → H1[q]? = H[q]?) (ha : B ≤ a) : va_S (ab B) H0 H1 (locs ++ [⟨a, i⟩]) := h.put z o ha
theorem ab_new {B : Nat} {H0 H H1 : Heap} {locs : List Loc} (h : va_S (ab B) H0 H locs) (z : H.size ≤ H1.size) (o : ∀ q : Nat, q < H.size → H1[q]? = H[q]?) : va_S (ab B) H0 H1 locs := ⟨Nat.le_trans h.1 z, fun x h1 h2 => (o x (Nat.lt_of_lt_of_le h1 h.1)).trans (h.2.1 x h1 h2), h.2.2⟩
/-- the classes of the arrays: ints, ints, ints, points, subscriptions, schedules -/
def tysD (D : va_G) : List (ClassId × FieldType) := [(D.1 100, .int), (D.1 100, .int), (D.1 100, .int), (D.1 103, .object RX1), (D.1 104, .object RX3), (D.1 105, .object RX2)]
abbrev eI (D : va_G) (n : Nat) (f : Nat → Int32) : va_E := .inl (D.1 100, n, .inl f)
abbrev eR (D : va_G) (t n : Nat) (f : Nat → Option Nat) : va_E := .inl (D.1 t, n, .inr (.inr (.inr (.inr f))))
/-- the texts that the class's exceptions bear, by their entries -/
def strs : List (Nat × String) := [(144, "the clock would be too high"), (154, "an argument is out of range"), (162, "the point cannot have this value"), (164, "there are as many as there may be"), (175, "there is no such point"), (178, "there is no such subscription"), (180, "there is no such schedule"), (56, "a command is held at this priority"), (99, "the subscription has ended")]
def exIA : String := "java/lang/IllegalArgumentException"
def exIS : String := "java/lang/IllegalStateException"
def exIO : String := "java/lang/IndexOutOfBoundsException"
def excs : List String := [exIA, exIS, exIO]
def sups : List String := ["java/lang/RuntimeException", "java/lang/Exception", "java/lang/Throwable"]
/-- what the tables say of the texts and of the exceptions' classes -/
def cxX (U : State) : Prop := (∀ q ∈ strs, ∃ a, vk_R RX4 q.1 q.2 a U) ∧ (∀ X ∈ excs, va_Nw (.castable X X) U) ∧ (∀ X ∈ excs, ∀ Y ∈ excs, X ≠ Y → va_Nc X Y U) ∧ ∀ X ∈ sups, va_Nw (.declares (Bundle.initS X)) U
theorem cxX_warm {s U : State} (hW : s.WarmedH U.vm) (h : cxX s) : cxX U :=
  ⟨fun q hq => (h.1 q hq).imp fun a ha => ha.warm hW, fun X hX => va_Nw.warmC hW (h.2.1 X hX), fun X hX Y hY hn => (h.2.2.1 X hX Y hY hn).moved hW.alike, fun X hX => va_Nw.warmD hW (h.2.2.2 X hX)⟩
theorem cxX_same {s U : State} (hv : U.vm = s.vm) (h : cxX s) : cxX U :=
  ⟨fun q hq => (h.1 q hq).imp fun a ha => vk_R.same hv ha, fun X hX => va_Nw.same rfl hv.symm (h.2.1 X hX), fun X hX Y hY hn => (h.2.2.1 X hX Y hY hn).moved (hv ▸ Vm.Alike.refl s.vm), fun X hX => va_Nw.same rfl hv.symm (h.2.2.2 X hX)⟩
/-- what every method of the system may take as given of its start -/
def cx (D : va_G) (B : Nat) (U : State) : Prop := va_K D vwCl (tysD D) U ∧ B ≤ U.heap.size ∧ vx_Zq Bundle.tN "UNASSIGNED_STACK" Bundle.steD (ab B) U U.heap ∧ vx_Zq Bundle.tN "SUPPRESSED_SENTINEL" Bundle.listD (ab B) U U.heap ∧ cxX U
def Pre (D : va_G) (B : Nat) (ad : Ad) (w : Wd) (av : List Value) : Array Value → State → Prop := va_Pc av (fun U => cx D B U ∧ hw D B ad w U.heap)
theorem cx_to {D : va_G} {B : Nat} {s U : State} {H : Heap} {locs : List Loc} (h : cx D B s) (hS : va_S (ab B) s.heap H locs) (hU : U.heap = H) (hW : s.WarmedH U.vm) : cx D B U := by
  obtain ⟨h1, h2, h3, h4, h5⟩ := h
  have hvm := hW.alike
  have keep : ∀ a : Nat, a < s.heap.size → ¬ ab B a → U.heap[a]? = s.heap[a]? := fun a q1 q2 => by rw [hU]; exact hS.2.1 a q1 q2
  exact ⟨va_K.moved hvm h1, Nat.le_trans h2 (by rw [hU]; exact hS.1), (h3.moved hvm).kept keep, (h4.moved hvm).kept keep, cxX_warm hW h5⟩
theorem pre_blind {D : va_G} {B : Nat} {ad : Ad} {w : Wd} {av : List Value} : FrameBlind (Pre D B ad w av) := by
  intro a U g mk h
  obtain ⟨h0, ⟨h1, h2, h3, h4, h6⟩, h5⟩ := h
  have hvm : U.vm.Alike (U.calling g mk a).vm := Vm.Alike.refl U.vm
  exact ⟨h0, ⟨va_K.moved hvm h1, h2, h3.moved hvm, h4.moved hvm, cxX_same rfl h6⟩, h5⟩
theorem w_preS {D : va_G} {B : Nat} {s : State} {ad : Ad} {w : Wd} {H : Heap} {locs : List Loc} {As : List Value} (hC : cx D B s) (hP : hw D B ad w H) (hS : va_S (ab B) s.heap H locs) : PreS s H (Pre D B ad w As) As :=
  ⟨pre_blind, fun U hU hW => ⟨rfl, cx_to hC hS hU hW, by rw [hU]; exact hP⟩⟩
theorem w_preV {D : va_G} {B : Nat} {s : State} {ad : Ad} {w : Wd} {H : Heap} {locs : List Loc} {As : List Value} {f k ci : Nat} {fs : List Value} {q : vw_C} (hC : cx D B s) (hP : hw D B ad w H) (hS : va_S (ab B) s.heap H locs) (he : w f k = some (.inr (ci, fs))) (hc : vwCl[ci]? = some q) : PreV s H q.1 (ad f k) (Pre D B ad w (.ref (ad f k) :: As)) As :=
  ⟨pre_blind, va_recv hC.1 (hw_one hP he) (q0 := 0) hc rfl, fun U hU hW => ⟨rfl, cx_to hC hS hU hW, by rw [hU]; exact hP⟩⟩
/-- the ends: an int (or boolean), nothing, a reference; the world behind it -/
abbrev Qi (D : va_G) (B : Nat) (post : Int32 → Ad × Wd → Prop) : Array Value → State → Outcome → State → Prop := va_Qi post (fun u t => hw D B u.1 u.2 t.heap) (ab B)
abbrev Qv (D : va_G) (B : Nat) (post : Ad × Wd → Prop) : Array Value → State → Outcome → State → Prop := va_Qv post (fun u t => hw D B u.1 u.2 t.heap) (ab B)
abbrev Qr (D : va_G) (B : Nat) (post : Nat → Ad × Wd → Prop) : Array Value → State → Outcome → State → Prop := va_Qr (fun _ : Ad × Wd => True) (fun u a t => hw D B u.1 u.2 t.heap ∧ post a u) (ab B)
/-- the throws: which class, in which world -/
abbrev Xc (D : va_G) (B : Nat) (post : String → Ad × Wd → Prop) : String → State → State → Prop := vx_X (fun _ : Ad × Wd => True) (fun E u t => hw D B u.1 u.2 t.heap ∧ post E u) (ab B)
theorem Qi_of {D : va_G} {B : Nat} {post : Int32 → Ad × Wd → Prop} {ad : Ad} {w : Wd} {a : Array Value} {s t : State} {H : Heap} {locs : List Loc} {r : Int32} (hp : post r (ad, w)) (hP : hw D B ad w H) (hS : va_S (ab B) s.heap H locs) (ht : t.heap = H) : Qi D B post a s (.returned (some (.int r))) t :=
  ⟨⟨r, (ad, w), rfl, hp, by show hw D B ad w t.heap; rw [ht]; exact hP⟩, hS.F ht⟩
theorem Qv_of {D : va_G} {B : Nat} {post : Ad × Wd → Prop} {ad : Ad} {w : Wd} {a : Array Value} {s t : State} {H : Heap} {locs : List Loc} (hp : post (ad, w)) (hP : hw D B ad w H) (hS : va_S (ab B) s.heap H locs) (ht : t.heap = H) : Qv D B post a s (.returned none) t :=
  ⟨⟨(ad, w), rfl, hp, by show hw D B ad w t.heap; rw [ht]; exact hP⟩, hS.F ht⟩
theorem Qr_of {D : va_G} {B : Nat} {post : Nat → Ad × Wd → Prop} {ad : Ad} {w : Wd} {a : Array Value} {s t : State} {H : Heap} {locs : List Loc} {r : Nat} (hp : post r (ad, w)) (hP : hw D B ad w H) (hS : va_S (ab B) s.heap H locs) (ht : t.heap = H) : Qr D B post a s (.returned (some (.ref r))) t :=
  ⟨⟨(ad, w), r, rfl, trivial, (by show hw D B ad w t.heap; rw [ht]; exact hP), hp⟩, hS.F ht⟩
theorem Xc_of {D : va_G} {B : Nat} {post : String → Ad × Wd → Prop} {ad : Ad} {w : Wd} {s t : State} {H : Heap} {locs : List Loc} {E : String} (hp : post E (ad, w)) (hP : hw D B ad w t.heap) (hS : va_S (ab B) s.heap H locs) (hz : H.size ≤ t.heap.size) (hk : ∀ q : Nat, q < H.size → t.heap[q]? = H[q]?) : Xc D B post E s t :=
  ⟨(ad, w), trivial, ⟨hP, hp⟩, Nat.le_trans hS.1 hz, fun q h1 h2 => (hk q (Nat.lt_of_lt_of_le h1 hS.1)).trans (hS.2.1 q h1 h2)⟩
theorem hw_kept {D : va_G} {B : Nat} {ad : Ad} {w : Wd} {H H1 : Heap} (h : hw D B ad w H) (hk : ∀ q : Nat, q < H.size → H1[q]? = H[q]?) : hw D B ad w H1 :=
  ⟨fun f k e he => ⟨(h.1 f k e he).1.kept (hk _ (hw_lt h he)), (h.1 f k e he).2⟩, h.2⟩
section WR
variable {p : Program} {l : Launch} {e : Env} {R : Room} {s : State} {m : MethodId} {args : Array Value} {below : List Frame} {meth : Method} {c : Code} {H : Heap} {locs : List Loc} {cells slots : Nat} {Q : State → Prop}
variable {cc : ByteArray} {pc : Nat} {ls : Array Slot} {rest : List Value} {D : va_G} {B : Nat} {ad : Ad} {w : Wd} {H0 : Heap}
theorem w_get (hexec : p.tables.exec = Jvm.exec) (hb : c.code = cc) {own C : String} {T : u_T} {N ci index : Nat} {Ts : List Cond} (hts : ∀ w ∈ Ts, w.before args s = true) (hin : ∀ w ∈ u_ws C T N, w ∈ Ts) (hown : s.vm.findClass own = some m.cls)
    (hC : cx D B s) (hP : hw D B ad w H) {f k : Nat} {fs : List Value} (he : w f k = some (.inr (ci, fs))) (hc : vwCl[ci]? = some (C, T, N)) (j : Nat) (hj : j < N) (hlink : (Cond.fieldLink own index (T j).1 (T j).2.1 (T j).2.2.1).before args s = true)
    {v : Value} (hv : fs[j]? = some v) (hdg : decode cc pc = .ok (.getfield index, 3)) (kk : W p l e R s m args below meth c H locs cells slots Q (F0 m (pc + 3) ls (v :: rest))) : W p l e R s m args below meth c H locs cells slots Q (F0 m pc ls (.ref (ad f k) :: rest)) :=
  va_get hexec hb hts hin hown hC.1 (hw_one hP he) 0 rfl hc j hj hlink (fun _ h => h) hv hdg kk
theorem w_put (hexec : p.tables.exec = Jvm.exec) (hb : c.code = cc) {own C : String} {T : u_T} {N ci index : Nat} {Ts : List Cond} (hts : ∀ w ∈ Ts, w.before args s = true) (hin : ∀ w ∈ u_ws C T N, w ∈ Ts) (ty0 : Nat → FieldType) (hty : ∀ k, k < N → parseFieldDescriptor (T k).2.2.1 = some (ty0 k)) (hnm : ∀ a, a < N → ∀ b, b < N → a ≠ b → (T a).2.1 ≠ (T b).2.1) (hown : s.vm.findClass own = some m.cls)
    (hC : cx D B s) (hP : hw D B ad w H) (hS : va_S (ab B) H0 H locs) {f k : Nat} {fs : List Value} (he : w f k = some (.inr (ci, fs))) (hc : vwCl[ci]? = some (C, T, N)) (j : Nat) (hj : j < N) (hlink : (Cond.fieldLink own index (T j).1 (T j).2.1 (T j).2.2.1).before args s = true) (hfin : (T j).2.2.2 = false)
    {v : Value} (hn : narrow (ty0 j) v = v) (hfit : fits (ty0 j) v = true) (hl : j < fs.length) {fs' : List Value} (hf : fs.set j v = fs') (hdg : decode cc pc = .ok (.putfield index, 3))
    (kk : ∀ (H1 : Heap) (locs1 : List Loc), hw D B ad (u2 w f k (.inr (ci, fs'))) H1 → va_S (ab B) H0 H1 locs1 → W p l e R s m args below meth c H1 locs1 cells slots Q (F0 m (pc + 3) ls rest)) : W p l e R s m args below meth c H locs cells slots Q (F0 m pc ls (v :: .ref (ad f k) :: rest)) := by
  subst hf
  have hK := hC.1
  have hap := va_apart (own := own) hts hin ty0 hty hnm hK hc
  obtain ⟨⟨r, h1, cell, q1, q2, q3, q4⟩, hBa⟩ := hP.1 f k _ he
  have hr : r = (C, T, N) := Option.some.inj (h1.symm.trans hc)
  subst hr
  obtain ⟨hSl, hfc, kC, hkC, hkind⟩ := hK.1 ci _ hc
  obtain ⟨cf, kf, fi, fd, hi, hsl⟩ := hSl j hj
  have hlay := hts _ (hin _ (u_in_lay hj))
  unfold u_lay at hlay
  rw [if_neg (by rw [hfin]; decide)] at hlay
  have hst := (u_facts hfc hkC (u_lays hts hin hj) hi).1
  have h6 := u_store hfc hkC hkind hlay hi (hty j hj) hn hfit
  refine W.putK hexec hb (f := fd) ⟨hown, hlink, ⟨_, _, _, hi⟩, hst⟩ (by rw [q2]; exact h6) q1 q3 (by rw [hsl]; exact k2_hasslot (q4 j hj)) rfl rfl hdg fun H' e1 e2 e3 => ?_
  rw [hsl] at e1 ⊢
  exact kk H' _ (hw_put hP he ⟨_, hc, t_OB.to (V := updV (vp_V fs) j v) ⟨_, e1, q2, q3, t_set q4 hap hj v⟩ (fun i _ => vp_updV_set hl v i)⟩ e3) (ab_put hS e2 e3 hBa)
theorem w_putF (hexec : p.tables.exec = Jvm.exec) (hb : c.code = cc) {own C : String} {T : u_T} {N ci index : Nat} {Ts : List Cond} (hts : ∀ w ∈ Ts, w.before args s = true) (hin : ∀ w ∈ u_ws C T N, w ∈ Ts) (ty0 : Nat → FieldType) (hty : ∀ k, k < N → parseFieldDescriptor (T k).2.2.1 = some (ty0 k)) (hnm : ∀ a, a < N → ∀ b, b < N → a ≠ b → (T a).2.1 ≠ (T b).2.1) (hown : s.vm.findClass own = some m.cls)
    (hC : cx D B s) (hP : hw D B ad w H) (hS : va_S (ab B) H0 H locs) {f k : Nat} {fs : List Value} (he : w f k = some (.inr (ci, fs))) (hc : vwCl[ci]? = some (C, T, N)) (j : Nat) (hj : j < N) (hlink : (Cond.fieldLink own index (T j).1 (T j).2.1 (T j).2.2.1).before args s = true) (hfin : (T j).2.2.2 = true) (hin2 : meth.name = "<init>") (hdecl : (T j).1 = own)
    {v : Value} (hn : narrow (ty0 j) v = v) (hfit : fits (ty0 j) v = true) (hl : j < fs.length) {fs' : List Value} (hf : fs.set j v = fs') (hdg : decode cc pc = .ok (.putfield index, 3))
    (kk : ∀ (H1 : Heap) (locs1 : List Loc), hw D B ad (u2 w f k (.inr (ci, fs'))) H1 → va_S (ab B) H0 H1 locs1 → W p l e R s m args below meth c H1 locs1 cells slots Q (F0 m (pc + 3) ls rest)) : W p l e R s m args below meth c H locs cells slots Q (F0 m pc ls (v :: .ref (ad f k) :: rest)) := by
  subst hf
  have hK := hC.1
  have hap := va_apart (own := own) hts hin ty0 hty hnm hK hc
  obtain ⟨⟨r, h1, cell, q1, q2, q3, q4⟩, hBa⟩ := hP.1 f k _ he
  have hr : r = (C, T, N) := Option.some.inj (h1.symm.trans hc)
  subst hr
  obtain ⟨hSl, hfc, kC, hkC, hkind⟩ := hK.1 ci _ hc
  obtain ⟨cf, kf, fi, fd, hi, hsl⟩ := hSl j hj
  have hlay := hts _ (hin _ (u_in_lay hj))
  unfold u_lay at hlay
  rw [if_pos hfin] at hlay
  have hst := (u_facts hfc hkC (u_lays hts hin hj) hi).1
  have hcf : m.cls = cf := by
    obtain ⟨_, _, c', _, _, _, -, -, hf', -, -, -, hown2, -⟩ := Cond.laysFinal_spec hlay
    have e1 : c' = cf := by have := hi.symm.trans hf'; simp at this; exact this.1.symm
    rw [hdecl] at hown2
    rw [← e1]; exact Option.some.inj (hown.symm.trans hown2)
  have h6 := u_fits hfc hkC hkind (Or.inr hlay) hi (hty j hj) hn hfit
  refine W.putFinK hexec hb hown hlink hi hst hcf hin2 (by rw [q2]; exact h6) q1 q3 (by rw [hsl]; exact k2_hasslot (q4 j hj)) rfl rfl hdg fun H' e1 e2 e3 => ?_
  rw [hsl] at e1 ⊢
  exact kk H' _ (hw_put hP he ⟨_, hc, t_OB.to (V := updV (vp_V fs) j v) ⟨_, e1, q2, q3, t_set q4 hap hj v⟩ (fun i _ => vp_updV_set hl v i)⟩ e3) (ab_put hS e2 e3 hBa)
theorem w_iald (hexec : p.tables.exec = Jvm.exec) (hb : c.code = cc) (hC : cx D B s) (hP : hw D B ad w H) {a k n : Nat} {f : Nat → Int32} (he : w a k = some (eI D n f)) {i : Int32} (hin : vp_in i n) (hdg : decode cc pc = .ok (.iaload, 1))
    (kk : W p l e R s m args below meth c H locs cells slots Q (F0 m (pc + 1) ls (.int (f i.toNatClampNeg) :: rest))) : W p l e R s m args below meth c H locs cells slots Q (F0 m pc ls (.int i :: .ref (ad a k) :: rest)) :=
  va_iald hexec hb hC.1 (hw_one hP he) 0 0 rfl rfl hin hdg kk
theorem w_aald (hexec : p.tables.exec = Jvm.exec) (hb : c.code = cc) (hC : cx D B s) (hP : hw D B ad w H) (t : Nat) {C : String} (ht : (tysD D)[t]? = some (D.1 (100 + t), .object C)) {a k n : Nat} {f : Nat → Option Nat} (he : w a k = some (eR D (100 + t) n f)) {i : Int32} (hin : vp_in i n) (hdg : decode cc pc = .ok (.aaload, 1)) {r : Value} (hr : va_rf (f i.toNatClampNeg) = r)
    (kk : W p l e R s m args below meth c H locs cells slots Q (F0 m (pc + 1) ls (r :: rest))) : W p l e R s m args below meth c H locs cells slots Q (F0 m pc ls (.int i :: .ref (ad a k) :: rest)) := by
  subst hr
  exact va_aldq hexec hb hC.1 (hw_one hP he) 0 t rfl ht hin hdg kk
theorem w_alen (hexec : p.tables.exec = Jvm.exec) (hb : c.code = cc) (hC : cx D B s) (hP : hw D B ad w H) (t : Nat) {ty : FieldType} (ht : (tysD D)[t]? = some (D.1 (100 + t), ty)) {a k : Nat} {x : vp_A} (he : w a k = some (.inl (D.1 (100 + t), x))) {v : Int32} (hv : Int32.ofNat x.1 = v) (hdg : decode cc pc = .ok (.arraylength, 1))
    (kk : W p l e R s m args below meth c H locs cells slots Q (F0 m (pc + 1) ls (.int v :: rest))) : W p l e R s m args below meth c H locs cells slots Q (F0 m pc ls (.ref (ad a k) :: rest)) :=
  va_alen hexec hb hC.1 (hw_one hP he) 0 t rfl ht hv hdg kk
theorem w_iast (hexec : p.tables.exec = Jvm.exec) (hb : c.code = cc) (hC : cx D B s) (hP : hw D B ad w H) (hS : va_S (ab B) H0 H locs) {a k n : Nat} {f : Nat → Int32} (he : w a k = some (eI D n f)) {i x : Int32} (hin : vp_in i n) (hdg : decode cc pc = .ok (.iastore, 1))
    (kk : ∀ (H1 : Heap) (locs1 : List Loc), hw D B ad (u2 w a k (eI D n (upd f i.toNatClampNeg x))) H1 → va_S (ab B) H0 H1 locs1 → W p l e R s m args below meth c H1 locs1 cells slots Q (F0 m (pc + 1) ls rest)) : W p l e R s m args below meth c H locs cells slots Q (F0 m pc ls (.int x :: .int i :: .ref (ad a k) :: rest)) := by
  obtain ⟨hat, hBa⟩ := hP.1 a k _ he
  refine W.iast hexec hb hat ((hC.1.2 0 _ rfl).1 n (fun j => .int (f j))) (fun q => by cases q) (by show ¬ (i < 0 ∨ (arrV _ _ _).slots.size ≤ _); rw [arrV_size]; exact hin) rfl rfl hdg fun H1 e1 z oq => ?_
  refine kk H1 _ (hw_put hP he ?_ oq) (ab_put hS z oq hBa)
  show H1[ad a k]? = some (vp_cell _ _)
  rw [e1, vp_cell_i, vp_cell_i, arrV_store]
  congr 2
  funext q
  by_cases hq : q = i.toNatClampNeg
  · subst hq; simp [updV, upd]
  · simp [updV, upd, hq]
theorem w_aast (hexec : p.tables.exec = Jvm.exec) (hb : c.code = cc) (hC : cx D B s) (hP : hw D B ad w H) (hS : va_S (ab B) H0 H locs) (t ci : Nat) {r : vw_C} (ht : (tysD D)[t]? = some (D.1 (100 + t), .object r.1)) (hc : vwCl[ci]? = some r) {a k n f' k' : Nat} {f : Nat → Option Nat} {vs : List Value} (he : w a k = some (eR D (100 + t) n f)) (hv : w f' k' = some (.inr (ci, vs))) {i : Int32} (hin : vp_in i n) (hdg : decode cc pc = .ok (.aastore, 1))
    (kk : ∀ (H1 : Heap) (locs1 : List Loc), hw D B ad (u2 w a k (eR D (100 + t) n (va_up f i.toNatClampNeg (some (ad f' k'))))) H1 → va_S (ab B) H0 H1 locs1 → W p l e R s m args below meth c H1 locs1 cells slots Q (F0 m (pc + 1) ls rest)) : W p l e R s m args below meth c H locs cells slots Q (F0 m pc ls (.ref (ad f' k') :: .int i :: .ref (ad a k) :: rest)) := by
  obtain ⟨hat, hBa⟩ := hP.1 a k _ he
  have hlt : i.toNatClampNeg < n := Nat.not_le.mp fun q => hin (Or.inr q)
  have h0 : ¬ i < 0 := fun q => hin (Or.inl q)
  obtain ⟨⟨r', hr', cellV, g1, g2, g3, -⟩, -⟩ := hP.1 f' k' _ hv
  have hcls := (hC.1.1 ci r hc).2
  obtain ⟨kA, comp, k1, k2, k3, -⟩ := (hC.1.2 t _ ht).2
  have hcomp : comp = D.1 ci := Option.some.inj (k3.symm.trans hcls.1)
  subst hcomp
  obtain ⟨kC, hkC, -⟩ := hcls.2
  refine W.aast hexec hb hat (fun q h => by cases h) (fun h => by cases h) k1 k2 rfl hkC ⟨h0, by show _ < (arrV _ _ _).slots.size; rw [arrV_size]; exact hlt⟩ g1 (fun q h => by rw [g3] at h; cases h) (by rw [g2]; exact hkC) (by rw [g2]; exact va_assign hcls) rfl rfl hdg fun H1 e1 z oq => ?_
  refine kk H1 _ (hw_put hP he ?_ oq) (ab_put hS z oq hBa)
  show H1[ad a k]? = some (vp_cell _ _)
  rw [e1, vp_cell_q, vp_cell_q, arrV_store]
  congr 2
  funext q
  by_cases hq : q = i.toNatClampNeg
  · subst hq; simp [updV, va_up, va_rf]
  · simp [updV, va_up, hq]
theorem w_new (hexec : p.tables.exec = Jvm.exec) (hb : c.code = cc) {own C : String} {T : u_T} {N ci index : Nat} {Ts : List Cond} (hts : ∀ w ∈ Ts, w.before args s = true) (hin : ∀ w ∈ u_ws C T N, w ∈ Ts) (ty : Nat → FieldType) (hty : ∀ k, k < N → parseFieldDescriptor (T k).2.2.1 = some (ty k)) (hown : s.vm.findClass own = some m.cls) (hcl : (Cond.classLink own index C).before args s = true) (hinst : (Cond.instantiable C N).before args s = true) (hini : (Cond.initialized C).before args s = true)
    (hC : cx D B s) (hP : hw D B ad w H) (hS : va_S (ab B) s.heap H locs) (hc : vwCl[ci]? = some (C, T, N)) {fs : List Value} (hfs : ∀ j, j < N → defaultValue (ty j) = vp_V fs j) (hcells : cells + 1 ≤ R.cells) (hslots : slots + N ≤ R.slots) (f k : Nat) (hn : w f k = none) (hdg : decode cc pc = .ok (.new index, 3))
    (kk : ∀ (q : Nat) (H1 : Heap), a2 ad f k q f k = q → hw D B (a2 ad f k q) (u2 w f k (.inr (ci, fs))) H1 → va_S (ab B) s.heap H1 locs → W p l e R s m args below meth c H1 locs (cells + 1) (slots + N) Q (F0 m (pc + 3) ls (.ref q :: rest))) : W p l e R s m args below meth c H locs cells slots Q (F0 m pc ls rest) := by
  have hKn := hC.1.1 ci _ hc
  refine W.newcK hexec hb hown hcl hinst hini rfl hdg hcells hslots hKn.2.1 rfl fun H1 kC hkC e1 z1 o1 => ?_
  refine kk H.size H1 (by simp [a2]) (hw_new hP ⟨_, hc, (u_born ty hts hin hKn hkC e1 hty).to hfs⟩ (Nat.le_trans hC.2.1 hS.1) o1 hn) (ab_new hS (by omega) o1)
theorem w_newa (hexec : p.tables.exec = Jvm.exec) (hb : c.code = cc) {atype : ArrayType} (harr : (Cond.arrayClass (newarray.typeOf atype)).before args s = true) (t : Nat) (ht : (tysD D)[t]? = some (D.1 (100 + t), newarray.typeOf atype)) (hre : ∀ C, newarray.typeOf atype ≠ .object C) (hC : cx D B s) (hP : hw D B ad w H) (hS : va_S (ab B) s.heap H locs)
    {n : Int32} {N' : Nat} {a0 : vp_A} (ha : ∀ cA : ClassId, vp_cell cA a0 = arrV cA N' (fun _ => defaultValue (newarray.typeOf atype))) (hn : ¬ n < 0) (hN : n.toNatClampNeg = N') (hbytes : N' * componentBytes (newarray.typeOf atype) ≤ 536870912) (hcells : cells + 1 ≤ R.cells) (hslots : slots + N' ≤ R.slots) (f k : Nat) (hno : w f k = none) (hdg : decode cc pc = .ok (.newarray atype, 2))
    (kk : ∀ (q : Nat) (H1 : Heap), a2 ad f k q f k = q → hw D B (a2 ad f k q) (u2 w f k (.inl (D.1 (100 + t), a0))) H1 → va_S (ab B) s.heap H1 locs → W p l e R s m args below meth c H1 locs (cells + 1) (slots + N') Q (F0 m (pc + 2) ls (.ref q :: rest))) : W p l e R s m args below meth c H locs cells slots Q (F0 m pc ls (.int n :: rest)) := by
  refine va_newaK hexec hb harr rfl hdg rfl hn hN hbytes hcells hslots rfl fun H1 cA e1 z1 o1 hAr hNm => ?_
  have hcA : cA = D.1 (100 + t) := by
    have h2 := (hC.1.2 t _ ht).2
    cases atype <;> exact Option.some.inj (hNm.symm.trans h2)
  subst hcA
  refine kk H.size H1 (by simp [a2]) (hw_new hP ?_ (Nat.le_trans hC.2.1 hS.1) o1 hno) (ab_new hS (by omega) o1)
  show H1[H.size]? = some (vp_cell _ _)
  rw [ha]
  exact e1
theorem w_newq (hexec : p.tables.exec = Jvm.exec) (hb : c.code = cc) {own C : String} {index : Nat} (hown : s.vm.findClass own = some m.cls) (hclink : (Cond.classLink own index C).before args s = true) (hover : (Cond.arrayOver (.object C)).before args s = true) (t : Nat) (ht : (tysD D)[t]? = some (D.1 (100 + t), .object C)) (hC : cx D B s) (hP : hw D B ad w H) (hS : va_S (ab B) s.heap H locs)
    {n : Int32} {N' : Nat} (hn : ¬ n < 0) (hN : n.toNatClampNeg = N') (hbytes : N' * 4 ≤ 536870912) (hcells : cells + 1 ≤ R.cells) (hslots : slots + N' ≤ R.slots) (f k : Nat) (hno : w f k = none) (hdg : decode cc pc = .ok (.anewarray index, 3))
    (kk : ∀ (q : Nat) (H1 : Heap), a2 ad f k q f k = q → hw D B (a2 ad f k q) (u2 w f k (eR D (100 + t) N' (fun _ => none))) H1 → va_S (ab B) s.heap H1 locs → W p l e R s m args below meth c H1 locs (cells + 1) (slots + N') Q (F0 m (pc + 3) ls (.ref q :: rest))) : W p l e R s m args below meth c H locs cells slots Q (F0 m pc ls (.int n :: rest)) := by
  subst hN
  refine W.anew hexec hb hown hclink hover rfl hdg rfl hn hbytes hcells hslots fun cA kA comp f1 f2 f3 f4 => ?_
  have hcA : cA = D.1 (100 + t) := by
    obtain ⟨kA', comp', -, -, -, h2⟩ := (hC.1.2 t _ ht).2
    exact Option.some.inj (f1.symm.trans h2)
  subst hcA
  generalize hH1 : H.push ({ cls := D.1 (100 + t), slots := Array.replicate n.toNatClampNeg .null, vm := .none } : Cell) = H1
  have z1 : H1.size = H.size + 1 := by rw [← hH1, Array.size_push]
  have e1 : H1[H.size]? = some (arrV (D.1 (100 + t)) n.toNatClampNeg (fun _ => .null)) := by rw [← hH1, Array.getElem?_push_size, ← arrV_new]
  have o1 : ∀ q : Nat, q < H.size → H1[q]? = H[q]? := fun q hq => by rw [← hH1, Array.getElem?_push, if_neg (Nat.ne_of_lt hq)]
  refine kk H.size H1 (by simp [a2]) (hw_new hP ?_ (Nat.le_trans hC.2.1 hS.1) o1 hno) (ab_new hS (by omega) o1)
  show H1[H.size]? = some (vp_cell _ _)
  rw [vp_cell_q]
  exact e1
theorem w_calli {post : Int32 → Ad × Wd → Prop} {st0 : List Value} {a : Array Value} {mc ms : Nat} (hr : va_Run p l e R s m args below meth c H locs cells slots mc ms (F0 m pc ls st0) rest (Qi D B post a) (ab B)) (hS : va_S (ab B) H0 H locs)
    (kk : ∀ (r : Int32) (ad1 : Ad) (w1 : Wd) (H1 : Heap) (locs1 : List Loc), post r (ad1, w1) → hw D B ad1 w1 H1 → va_S (ab B) H0 H1 locs1 → W p l e R s m args below meth c H1 locs1 (cells + mc) (slots + ms) Q (F0 m (pc + 3) ls (.int r :: rest))) : W p l e R s m args below meth c H locs cells slots Q (F0 m pc ls st0) :=
  va_calli hr hS (fun _ _ h => h) (fun _ h => h) (fun r u t H1 locs1 ht _ hp hB _ _ hS1 => kk r u.1 u.2 H1 locs1 hp (ht ▸ hB) hS1)
theorem w_callv {post : Ad × Wd → Prop} {st0 : List Value} {a : Array Value} {mc ms : Nat} (hr : va_Run p l e R s m args below meth c H locs cells slots mc ms (F0 m pc ls st0) rest (Qv D B post a) (ab B)) (hS : va_S (ab B) H0 H locs)
    (kk : ∀ (ad1 : Ad) (w1 : Wd) (H1 : Heap) (locs1 : List Loc), post (ad1, w1) → hw D B ad1 w1 H1 → va_S (ab B) H0 H1 locs1 → W p l e R s m args below meth c H1 locs1 (cells + mc) (slots + ms) Q (F0 m (pc + 3) ls rest)) : W p l e R s m args below meth c H locs cells slots Q (F0 m pc ls st0) :=
  va_callv hr hS (fun _ _ h => h) (fun _ h => h) (fun u t H1 locs1 ht _ hp hB _ _ hS1 => kk u.1 u.2 H1 locs1 hp (ht ▸ hB) hS1)
theorem w_callr {post : Nat → Ad × Wd → Prop} {st0 : List Value} {a : Array Value} {mc ms : Nat} (hr : va_Run p l e R s m args below meth c H locs cells slots mc ms (F0 m pc ls st0) rest (Qr D B post a) (ab B)) (hS : va_S (ab B) H0 H locs)
    (kk : ∀ (r : Nat) (ad1 : Ad) (w1 : Wd) (H1 : Heap) (locs1 : List Loc), post r (ad1, w1) → hw D B ad1 w1 H1 → va_S (ab B) H0 H1 locs1 → W p l e R s m args below meth c H1 locs1 (cells + mc) (slots + ms) Q (F0 m (pc + 3) ls (.ref r :: rest))) : W p l e R s m args below meth c H locs cells slots Q (F0 m pc ls st0) :=
  va_callr hr hS (fun _ _ h => h) (fun _ h => h) (fun u r t H1 locs1 ht _ _ hB _ _ hS1 => kk r u.1 u.2 H1 locs1 hB.2 (ht ▸ hB.1) hS1)
/-- calls that may throw: behind a throw, the world that it leaves -/
theorem y_calli {post : Int32 → Ad × Wd → Prop} {px : String → Ad × Wd → Prop} {st0 : List Value} {a : Array Value} {mc ms : Nat} (hr : vx_Run p l e R s m args below meth c H locs cells slots mc ms (F0 m pc ls st0) rest (Qi D B post a) (Xc D B px) (ab B)) (hS : va_S (ab B) H0 H locs)
    (kx : ∀ (E : String) (ce : Cell) (q9 : Addr) (ad1 : Ad) (w1 : Wd) (H1 : Heap) (locs1 : List Loc), px E (ad1, w1) → hw D B ad1 w1 H1 → va_S (ab B) H0 H1 locs1 → H1[q9]? = some ce → ce.vm = .none → s.vm.findClass E = some ce.cls → vx_W p l e R s m args below meth c H1 locs1 (cells + mc) (slots + ms) Q (F0 m pc ls rest) q9)
    (kk : ∀ (r : Int32) (ad1 : Ad) (w1 : Wd) (H1 : Heap) (locs1 : List Loc), post r (ad1, w1) → hw D B ad1 w1 H1 → va_S (ab B) H0 H1 locs1 → W p l e R s m args below meth c H1 locs1 (cells + mc) (slots + ms) Q (F0 m (pc + 3) ls (.int r :: rest))) : W p l e R s m args below meth c H locs cells slots Q (F0 m pc ls st0) :=
  vx_calli hr hS (fun _ _ h => h) (fun _ h => h) (fun _ _ h => h) (fun E ce q9 u t H1 locs1 ht _ _ hB _ _ hS1 h1 h2 h3 => kx E ce q9 u.1 u.2 H1 locs1 hB.2 (ht ▸ hB.1) hS1 h1 h2 h3) (fun r u t H1 locs1 ht _ hp hB _ _ hS1 => kk r u.1 u.2 H1 locs1 hp (ht ▸ hB) hS1)
theorem y_callv {post : Ad × Wd → Prop} {px : String → Ad × Wd → Prop} {st0 : List Value} {a : Array Value} {mc ms : Nat} (hr : vx_Run p l e R s m args below meth c H locs cells slots mc ms (F0 m pc ls st0) rest (Qv D B post a) (Xc D B px) (ab B)) (hS : va_S (ab B) H0 H locs)
    (kx : ∀ (E : String) (ce : Cell) (q9 : Addr) (ad1 : Ad) (w1 : Wd) (H1 : Heap) (locs1 : List Loc), px E (ad1, w1) → hw D B ad1 w1 H1 → va_S (ab B) H0 H1 locs1 → H1[q9]? = some ce → ce.vm = .none → s.vm.findClass E = some ce.cls → vx_W p l e R s m args below meth c H1 locs1 (cells + mc) (slots + ms) Q (F0 m pc ls rest) q9)
    (kk : ∀ (ad1 : Ad) (w1 : Wd) (H1 : Heap) (locs1 : List Loc), post (ad1, w1) → hw D B ad1 w1 H1 → va_S (ab B) H0 H1 locs1 → W p l e R s m args below meth c H1 locs1 (cells + mc) (slots + ms) Q (F0 m (pc + 3) ls rest)) : W p l e R s m args below meth c H locs cells slots Q (F0 m pc ls st0) :=
  vx_callv hr hS (fun _ _ h => h) (fun _ h => h) (fun _ _ h => h) (fun E ce q9 u t H1 locs1 ht _ _ hB _ _ hS1 h1 h2 h3 => kx E ce q9 u.1 u.2 H1 locs1 hB.2 (ht ▸ hB.1) hS1 h1 h2 h3) (fun u t H1 locs1 ht _ hp hB _ _ hS1 => kk u.1 u.2 H1 locs1 hp (ht ▸ hB) hS1)
theorem y_callr {post : Nat → Ad × Wd → Prop} {px : String → Ad × Wd → Prop} {st0 : List Value} {a : Array Value} {mc ms : Nat} (hr : vx_Run p l e R s m args below meth c H locs cells slots mc ms (F0 m pc ls st0) rest (Qr D B post a) (Xc D B px) (ab B)) (hS : va_S (ab B) H0 H locs)
    (kx : ∀ (E : String) (ce : Cell) (q9 : Addr) (ad1 : Ad) (w1 : Wd) (H1 : Heap) (locs1 : List Loc), px E (ad1, w1) → hw D B ad1 w1 H1 → va_S (ab B) H0 H1 locs1 → H1[q9]? = some ce → ce.vm = .none → s.vm.findClass E = some ce.cls → vx_W p l e R s m args below meth c H1 locs1 (cells + mc) (slots + ms) Q (F0 m pc ls rest) q9)
    (kk : ∀ (r : Nat) (ad1 : Ad) (w1 : Wd) (H1 : Heap) (locs1 : List Loc), post r (ad1, w1) → hw D B ad1 w1 H1 → va_S (ab B) H0 H1 locs1 → W p l e R s m args below meth c H1 locs1 (cells + mc) (slots + ms) Q (F0 m (pc + 3) ls (.ref r :: rest))) : W p l e R s m args below meth c H locs cells slots Q (F0 m pc ls st0) :=
  by
  intro T hT X
  rcases hr T hT X with ⟨v, st₀, t, T', L, h0, X', hL, e1, e2, ⟨⟨u, r, hv, -, hb⟩, hF⟩, st⟩ | ⟨q, st₀, t, T', L, E, ce, h0, X', hL, e1, e2, ⟨u, -, hb, hF⟩, hce, hcv, hcl, st⟩
  · cases hv
    obtain ⟨-, -, k3⟩ := vx_keep h0 e1 hS (fun _ _ h => h) (fun _ h => h) hL hF
    obtain ⟨t2, a1, b1⟩ := kk r u.1 u.2 T'.heap (locs ++ L) hb.2 (by rw [e1]; exact hb.1) k3 T' rfl X'
    exact ⟨t2, st t2 a1, b1⟩
  · obtain ⟨-, -, k3⟩ := vx_keep h0 e1 hS (fun _ _ h => h) (fun _ h => h) hL hF
    obtain ⟨t2, a1, b1⟩ := kx E ce q u.1 u.2 T'.heap (locs ++ L) hb.2 (by rw [e1]; exact hb.1) k3 (by rw [e1]; exact hce) hcv hcl T' rfl X'
    exact ⟨t2, st.trans a1, b1⟩
end WR
