/-! the document's steps, as functions of a memory: both the class and the model are held against these -/
def nth : Int32 := -100000
/-- the lowest priority from i on that has a command; 17 -/
def stF (c : Nat → Int32) : Nat → Nat → Nat
  | 0, _ => 17
  | n + 1, i => if c i = nth then stF c n (i + 1) else i
def stO (σ : Me) (k : Nat) : Nat := stF (σ 6 k) 16 1
def vaO (σ : Me) (k : Nat) : Int32 := if stO σ k < 17 then σ 6 k (stO σ k) else σ 2 k 0
theorem stF_le (c : Nat → Int32) : ∀ n i, i + n = 17 → stF c n i ≤ 17 ∧ i ≤ stF c n i
  | 0, i, h => by simp only [stF]; omega
  | n + 1, i, h => by
    have ih := stF_le c n (i + 1) (by omega)
    simp only [stF]
    split <;> omega
theorem stO_le (σ : Me) (k : Nat) : stO σ k ≤ 17 ∧ 1 ≤ stO σ k := stF_le _ 16 1 rfl
/-- how far a value lies from the one that is kept -/
def farO (v w : Int32) : Int32 := if w < v then v - w else w - v
def infS (k : Nat) (v : Int32) (s : Nat) (σ : Me) : Me :=
  if σ 8 s 0 = nI k ∧ σ 11 s 0 = 0 ∧ σ 9 s 0 ≤ farO v (σ 13 s 0) then st3 (st3 (st3 σ 13 s 0 v) 12 s 0 (σ 12 s 0 + 1)) 26 0 0 (σ 26 0 0 + 1) else σ
def infF (k : Nat) (v : Int32) : Nat → Nat → Me → Me
  | 0, _, σ => σ
  | n + 1, s, σ => infF k v n (s + 1) (infS k v s σ)
/-- a value that is another one: kept, counted, held -/
def chgF (k : Nat) (d t : Int32) (σ : Me) : Me :=
  if 0 < σ 3 k 0 then st3 (st3 (st3 (st3 σ 7 k 0 d) 5 k 0 (σ 5 k 0 + 1)) 6 k 6 d) 4 k 0 (t + σ 3 k 0) else st3 (st3 σ 7 k 0 d) 5 k 0 (σ 5 k 0 + 1)
def setF (ns k j : Nat) (v : Int32) (σ : Me) : Me :=
  if vaO (st3 σ 6 k j v) k = vaO σ k then st3 σ 6 k j v
  else infF k (vaO (st3 σ 6 k j v) k) ns 0 (chgF k (vaO (st3 σ 6 k j v) k) (σ 25 0 0) (st3 σ 6 k j v))
/-- lists of entries: is one for this day; the latest, and what it tells -/
def hasF (w : Nat → Int32) (d : Int32) (n : Nat) : Prop := ∃ i, i < n ∧ w i = d
def latF (w m t : Nat → Int32) (d x : Int32) : Nat → Int32 × Int32
  | 0 => (-1, nth)
  | n + 1 => if w n = d ∧ m n ≤ x ∧ (latF w m t d x n).1 ≤ m n then (m n, t n) else latF w m t d x n
noncomputable def bI (c : Prop) : Int32 := by classical exact if c then 1 else 0
theorem bI_t {c : Prop} (h : c) : bI c = 1 := by unfold bI; rw [if_pos h]
theorem bI_f {c : Prop} (h : ¬ c) : bI c = 0 := by unfold bI; rw [if_neg h]
theorem bI_01 (c : Prop) : bI c = 0 ∨ bI c = 1 := by
  by_cases h : c
  · exact Or.inr (bI_t h)
  · exact Or.inl (bI_f h)
theorem bI_0 {c : Prop} : bI c = 0 ↔ ¬ c := by
  by_cases h : c
  · rw [bI_t h]; exact ⟨fun q => absurd q (by decide), fun q => absurd h q⟩
  · rw [bI_f h]; exact ⟨fun _ => h, fun _ => rfl⟩
theorem bI_eq {a b : Prop} (h : a ↔ b) : bI a = bI b := by rw [propext h]
def remF (x y : Int32) : Int32 := x - x / y * y
/-- what the class's lists tell, of n1 and n2 entries -/
noncomputable def tolC (σ : Me) (c n1 n2 : Nat) (t : Int32) : Int32 := by
  classical exact if hasF (σ 22 (2 * c + 1)) (t / 1440) n2 then (latF (σ 22 (2 * c + 1)) (σ 23 (2 * c + 1)) (σ 24 (2 * c + 1)) (t / 1440) (remF t 1440) n2).2 else (latF (σ 22 (2 * c)) (σ 23 (2 * c)) (σ 24 (2 * c)) (remF (t / 1440) 7) (remF t 1440) n1).2
/-- what the model's list tells, of n entries -/
noncomputable def tolF (σ : Me) (c n : Nat) (t : Int32) : Int32 := by
  classical exact (latF (σ 18 c) (σ 19 c) (σ 20 c) (if hasF (σ 18 c) (10 + t / 1440) n then 10 + t / 1440 else remF (t / 1440) 7) (remF t 1440) n).2
abbrev nOf (x : Int32) : Nat := x.toNatClampNeg
noncomputable def tolO (σ : Me) (c : Nat) (t : Int32) : Int32 := tolF σ c (nOf (σ 17 c 0)) t
noncomputable def obeF (ns c : Nat) (σ : Me) : Me :=
  if tolO σ c (σ 25 0 0) = σ 16 c 0 then σ
  else setF ns (nOf (σ 14 c 0)) (nOf (σ 15 c 0)) (tolO σ c (σ 25 0 0)) (st3 σ 16 c 0 (tolO σ c (σ 25 0 0)))
/-- a minute: held commands whose time has passed, subscriptions, schedules -/
def relS (ns k : Nat) (σ : Me) : Me := if σ 4 k 0 = σ 25 0 0 then setF ns k 6 nth (st3 σ 4 k 0 0) else σ
def relF (ns : Nat) : Nat → Nat → Me → Me
  | 0, _, σ => σ
  | n + 1, k, σ => relF ns n (k + 1) (relS ns k σ)
noncomputable def endS (s : Nat) (σ : Me) : Me := st3 σ 11 s 0 (bI (¬ σ 11 s 0 = 0 ∨ σ 10 s 0 = σ 25 0 0))
noncomputable def endF : Nat → Nat → Me → Me
  | 0, _, σ => σ
  | n + 1, s, σ => endF n (s + 1) (endS s σ)
noncomputable def folF (ns : Nat) : Nat → Nat → Me → Me
  | 0, _, σ => σ
  | n + 1, c, σ => folF ns n (c + 1) (obeF ns c σ)
noncomputable def minF (g : GC) (σ : Me) : Me := folF g.2.1 g.2.2 0 (endF g.2.1 0 (relF g.2.1 g.1 0 (st3 σ 25 0 0 (σ 25 0 0 + 1))))
noncomputable def pasF (g : GC) : Nat → Me → Me
  | 0, σ => σ
  | n + 1, σ => pasF g n (minF g σ)
section W2
variable {p : Program} {l : Launch} {e : Env} {R : Room} {s : State} {m : MethodId} {args : Array Value} {below : List Frame} {meth : Method} {c : Code} {H : Heap} {locs : List Loc} {cells slots : Nat} {Q : State → Prop}
variable {cc : ByteArray} {pc : Nat} {ls : Array Slot} {rest : List Value} {D : va_G} {B : Nat} {ad : Ad} {w : Wd} {H0 : Heap}
theorem w_top {x v : Int32} (h : x = v) (k : W p l e R s m args below meth c H locs cells slots Q (F0 m pc ls (.int v :: rest))) : W p l e R s m args below meth c H locs cells slots Q (F0 m pc ls (.int x :: rest)) := h ▸ k
theorem w_ildN (hexec : p.tables.exec = Jvm.exec) (hb : c.code = cc) (hC : cx D B s) (hP : hw D B ad w H) {a k n : Nat} {f : Nat → Int32} (he : w a k = some (eI D n f)) {j : Nat} (hj : j < n) (hn : n < 2 ^ 31) {v : Int32} (hv : f j = v) (hdg : decode cc pc = .ok (.iaload, 1))
    (kk : W p l e R s m args below meth c H locs cells slots Q (F0 m (pc + 1) ls (.int v :: rest))) : W p l e R s m args below meth c H locs cells slots Q (F0 m pc ls (.int (nI j) :: .ref (ad a k) :: rest)) :=
  w_iald hexec hb hC hP he (vp_in_nI hj hn) hdg (by rw [nI_clamp (Nat.lt_trans hj hn), hv]; exact kk)
theorem w_aldN (hexec : p.tables.exec = Jvm.exec) (hb : c.code = cc) (hC : cx D B s) (hP : hw D B ad w H) (t : Nat) {C : String} (ht : (tysD D)[t]? = some (D.1 (100 + t), .object C)) {a k n : Nat} {f : Nat → Option Nat} (he : w a k = some (eR D (100 + t) n f)) {j : Nat} (hj : j < n) (hn : n < 2 ^ 31) (hdg : decode cc pc = .ok (.aaload, 1)) {r : Value} (hr : va_rf (f j) = r)
    (kk : W p l e R s m args below meth c H locs cells slots Q (F0 m (pc + 1) ls (r :: rest))) : W p l e R s m args below meth c H locs cells slots Q (F0 m pc ls (.int (nI j) :: .ref (ad a k) :: rest)) :=
  w_aald hexec hb hC hP t ht he (vp_in_nI hj hn) hdg (by rw [nI_clamp (Nat.lt_trans hj hn), hr]) kk
theorem w_istN (hexec : p.tables.exec = Jvm.exec) (hb : c.code = cc) (hC : cx D B s) (hP : hw D B ad w H) (hS : va_S (ab B) H0 H locs) {a k n : Nat} {f : Nat → Int32} (he : w a k = some (eI D n f)) {j : Nat} {x : Int32} (hj : j < n) (hn : n < 2 ^ 31) (hdg : decode cc pc = .ok (.iastore, 1))
    (kk : ∀ (H1 : Heap) (locs1 : List Loc), hw D B ad (u2 w a k (eI D n (upd f j x))) H1 → va_S (ab B) H0 H1 locs1 → W p l e R s m args below meth c H1 locs1 cells slots Q (F0 m (pc + 1) ls rest)) : W p l e R s m args below meth c H locs cells slots Q (F0 m pc ls (.int x :: .int (nI j) :: .ref (ad a k) :: rest)) :=
  w_iast hexec hb hC hP hS he (vp_in_nI hj hn) hdg (by rw [nI_clamp (Nat.lt_trans hj hn)]; exact kk)
/-- two references of one kind: the same just if their places are -/
theorem hw_inj {f i j : Nat} {e1 e2 : va_E} (hP : hw D B ad w H) (h1 : w f i = some e1) (h2 : w f j = some e2) : (some (ad f i) = some (ad f j)) ↔ i = j :=
  ⟨fun h => (hP.2 _ _ _ _ _ _ h1 h2 (Option.some.inj h)).2, fun h => by rw [h]⟩
end W2
section W3
variable {p : Program} {l : Launch} {e : Env} {R : Room} {s : State} {m : MethodId} {args : Array Value} {below : List Frame} {meth : Method} {c : Code} {H : Heap} {locs : List Loc} {cells slots : Nat} {Q : State → Prop}
variable {pc : Nat} {ls : Array Slot} {rest : List Value}
theorem w_top2 {x v : Int32} {a : Value} (h : x = v) (k : W p l e R s m args below meth c H locs cells slots Q (F0 m pc ls (a :: .int v :: rest))) : W p l e R s m args below meth c H locs cells slots Q (F0 m pc ls (a :: .int x :: rest)) := h ▸ k
/-- a loop: at its head, with an invariant and a measure that falls -/
theorem w_ind (Inv : Nat → Heap → List Loc → Array Slot → Prop)
    (step : ∀ (n : Nat) (H : Heap) (locs : List Loc) (ls : Array Slot), Inv n H locs ls → (∀ (n' : Nat) (H' : Heap) (locs' : List Loc) (ls' : Array Slot), n' < n → Inv n' H' locs' ls' → W p l e R s m args below meth c H' locs' cells slots Q (F0 m pc ls' [])) → W p l e R s m args below meth c H locs cells slots Q (F0 m pc ls [])) :
    ∀ (n : Nat) (H : Heap) (locs : List Loc) (ls : Array Slot), Inv n H locs ls → W p l e R s m args below meth c H locs cells slots Q (F0 m pc ls []) := by
  have key : ∀ (k n : Nat), n < k → ∀ (H : Heap) (locs : List Loc) (ls : Array Slot), Inv n H locs ls → W p l e R s m args below meth c H locs cells slots Q (F0 m pc ls []) := by
    intro k
    induction k with
    | zero => intro n hn; exact absurd hn (Nat.not_lt_zero n)
    | succ k ih => intro n hn H locs ls h; exact step n H locs ls h (fun n' H' locs' ls' h1 h2 => ih n' (by omega) H' locs' ls' h2)
  exact fun n H locs ls h => key (n + 1) n (by omega) H locs ls h
end W3
