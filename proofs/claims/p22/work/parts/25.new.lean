/-! what is made: rows by the address, and the worlds behind a new point, subscription, schedule -/
section WN
variable {p : Program} {l : Launch} {e : Env} {R : Room} {s : State} {m : MethodId} {args : Array Value} {below : List Frame} {meth : Method} {c : Code} {H : Heap} {locs : List Loc} {cells slots : Nat} {Q : State → Prop}
variable {cc : ByteArray} {pc : Nat} {ls : Array Slot} {rest : List Value} {D : va_G} {B : Nat} {ad : Ad} {w : Wd} {H0 : Heap} {a : Nat}
theorem w_getA (hexec : p.tables.exec = Jvm.exec) (hb : c.code = cc) {own C : String} {T : u_T} {N ci index : Nat} {Ts : List Cond} (hts : ∀ w ∈ Ts, w.before args s = true) (hin : ∀ w ∈ u_ws C T N, w ∈ Ts) (hown : s.vm.findClass own = some m.cls)
    (hC : cx D B s) (hP : hw D B ad w H) {f k : Nat} {fs : List Value} (ha : ad f k = a) (he : w f k = some (.inr (ci, fs))) (hc : vwCl[ci]? = some (C, T, N)) (j : Nat) (hj : j < N) (hlink : (Cond.fieldLink own index (T j).1 (T j).2.1 (T j).2.2.1).before args s = true)
    {v : Value} (hv : fs[j]? = some v) (hdg : decode cc pc = .ok (.getfield index, 3)) (kk : W p l e R s m args below meth c H locs cells slots Q (F0 m (pc + 3) ls (v :: rest))) : W p l e R s m args below meth c H locs cells slots Q (F0 m pc ls (.ref a :: rest)) := by
  subst ha
  exact w_get hexec hb hts hin hown hC hP he hc j hj hlink hv hdg kk
theorem w_putA (hexec : p.tables.exec = Jvm.exec) (hb : c.code = cc) {own C : String} {T : u_T} {N ci index : Nat} {Ts : List Cond} (hts : ∀ w ∈ Ts, w.before args s = true) (hin : ∀ w ∈ u_ws C T N, w ∈ Ts) (ty0 : Nat → FieldType) (hty : ∀ k, k < N → parseFieldDescriptor (T k).2.2.1 = some (ty0 k)) (hnm : ∀ a, a < N → ∀ b, b < N → a ≠ b → (T a).2.1 ≠ (T b).2.1) (hown : s.vm.findClass own = some m.cls)
    (hC : cx D B s) (hP : hw D B ad w H) (hS : va_S (ab B) H0 H locs) {f k : Nat} {fs : List Value} (ha : ad f k = a) (he : w f k = some (.inr (ci, fs))) (hc : vwCl[ci]? = some (C, T, N)) (j : Nat) (hj : j < N) (hlink : (Cond.fieldLink own index (T j).1 (T j).2.1 (T j).2.2.1).before args s = true) (hfin : (T j).2.2.2 = false)
    {v : Value} (hn : narrow (ty0 j) v = v) (hfit : fits (ty0 j) v = true) (hl : j < fs.length) {fs' : List Value} (hf : fs.set j v = fs') (hdg : decode cc pc = .ok (.putfield index, 3))
    (kk : ∀ (H1 : Heap) (locs1 : List Loc), hw D B ad (u2 w f k (.inr (ci, fs'))) H1 → va_S (ab B) H0 H1 locs1 → W p l e R s m args below meth c H1 locs1 cells slots Q (F0 m (pc + 3) ls rest)) : W p l e R s m args below meth c H locs cells slots Q (F0 m pc ls (v :: .ref a :: rest)) := by
  subst ha
  exact w_put hexec hb hts hin ty0 hty hnm hown hC hP hS he hc j hj hlink hfin hn hfit hl hf hdg kk
theorem w_putFA (hexec : p.tables.exec = Jvm.exec) (hb : c.code = cc) {own C : String} {T : u_T} {N ci index : Nat} {Ts : List Cond} (hts : ∀ w ∈ Ts, w.before args s = true) (hin : ∀ w ∈ u_ws C T N, w ∈ Ts) (ty0 : Nat → FieldType) (hty : ∀ k, k < N → parseFieldDescriptor (T k).2.2.1 = some (ty0 k)) (hnm : ∀ a, a < N → ∀ b, b < N → a ≠ b → (T a).2.1 ≠ (T b).2.1) (hown : s.vm.findClass own = some m.cls)
    (hC : cx D B s) (hP : hw D B ad w H) (hS : va_S (ab B) H0 H locs) {f k : Nat} {fs : List Value} (ha : ad f k = a) (he : w f k = some (.inr (ci, fs))) (hc : vwCl[ci]? = some (C, T, N)) (j : Nat) (hj : j < N) (hlink : (Cond.fieldLink own index (T j).1 (T j).2.1 (T j).2.2.1).before args s = true) (hfin : (T j).2.2.2 = true) (hin2 : meth.name = "<init>") (hdecl : (T j).1 = own)
    {v : Value} (hn : narrow (ty0 j) v = v) (hfit : fits (ty0 j) v = true) (hl : j < fs.length) {fs' : List Value} (hf : fs.set j v = fs') (hdg : decode cc pc = .ok (.putfield index, 3))
    (kk : ∀ (H1 : Heap) (locs1 : List Loc), hw D B ad (u2 w f k (.inr (ci, fs'))) H1 → va_S (ab B) H0 H1 locs1 → W p l e R s m args below meth c H1 locs1 cells slots Q (F0 m (pc + 3) ls rest)) : W p l e R s m args below meth c H locs cells slots Q (F0 m pc ls (v :: .ref a :: rest)) := by
  subst ha
  exact w_putF hexec hb hts hin ty0 hty hnm hown hC hP hS he hc j hj hlink hfin hin2 hdecl hn hfit hl hf hdg kk
theorem w_aastA (hexec : p.tables.exec = Jvm.exec) (hb : c.code = cc) (hC : cx D B s) (hP : hw D B ad w H) (hS : va_S (ab B) H0 H locs) (t ci : Nat) {r : vw_C} (ht : (tysD D)[t]? = some (D.1 (100 + t), .object r.1)) (hc : vwCl[ci]? = some r) {a1 k n f' k' v j : Nat} {f : Nat → Option Nat} {vs : List Value} (ha : ad a1 k = a) (hv' : ad f' k' = v) (he : w a1 k = some (eR D (100 + t) n f)) (hv : w f' k' = some (.inr (ci, vs))) (hj : j < n) (hn : n < 2 ^ 31) (hdg : decode cc pc = .ok (.aastore, 1))
    (kk : ∀ (H1 : Heap) (locs1 : List Loc), hw D B ad (u2 w a1 k (eR D (100 + t) n (va_up f j (some v)))) H1 → va_S (ab B) H0 H1 locs1 → W p l e R s m args below meth c H1 locs1 cells slots Q (F0 m (pc + 1) ls rest)) : W p l e R s m args below meth c H locs cells slots Q (F0 m pc ls (.ref v :: .int (nI j) :: .ref a :: rest)) := by
  subst ha
  subst hv'
  exact w_aast hexec hb hC hP hS t ci ht hc he hv (vp_in_nI hj hn) hdg (by rw [nI_clamp (Nat.lt_trans hj hn)]; exact kk)
end WN
def rowF (σ : Me) (a i : Nat) (f : Nat → Int32) : Me := fun a1 i1 => if a1 = a ∧ i1 = i then f else σ a1 i1
theorem rowF_n {σ : Me} {a i a1 : Nat} {f : Nat → Int32} (h : a1 ≠ a) : rowF σ a i f a1 = σ a1 := by funext i1; simp [rowF, h]
theorem rowF_i {σ : Me} {a i a1 i1 : Nat} {f : Nat → Int32} (h : i1 ≠ i) : rowF σ a i f a1 i1 = σ a1 i1 := by simp [rowF, h]
theorem rowF_s {σ : Me} {a i : Nat} {f : Nat → Int32} : rowF σ a i f a i = f := by simp [rowF]
/-- a new point: its default value, whether it is a switch, its least time -/
def addF (n : Nat) (v sw ti : Int32) (σ : Me) : Me := rowF (st3 (st3 (st3 (st3 σ 2 n 0 v) 1 n 0 sw) 3 n 0 ti) 7 n 0 v) 6 n (fun j => if j < 17 then nth else 0)
theorem addF_i {n a i : Nat} {v sw ti : Int32} {σ : Me} (h : i ≠ n) : addF n v sw ti σ a i = σ a i := by
  unfold addF; rw [rowF_i h, st3_i h, st3_i h, st3_i h, st3_i h]
theorem addF_n {n a : Nat} {v sw ti : Int32} {σ : Me} (h1 : a ≠ 1) (h2 : a ≠ 2) (h3 : a ≠ 3) (h6 : a ≠ 6) (h7 : a ≠ 7) : addF n v sw ti σ a = σ a := by
  unfold addF; rw [rowF_n h6, st3_n h7, st3_n h3, st3_n h1, st3_n h2]
theorem addF_1 {n : Nat} {v sw ti : Int32} {σ : Me} : addF n v sw ti σ 1 n 0 = sw := by
  unfold addF; rw [rowF_n (by decide), st3_n (by decide), st3_n (by decide), st3_v]
theorem addF_2 {n : Nat} {v sw ti : Int32} {σ : Me} : addF n v sw ti σ 2 n 0 = v := by
  unfold addF; rw [rowF_n (by decide), st3_n (by decide), st3_n (by decide), st3_n (by decide), st3_v]
theorem addF_3 {n : Nat} {v sw ti : Int32} {σ : Me} : addF n v sw ti σ 3 n 0 = ti := by
  unfold addF; rw [rowF_n (by decide), st3_n (by decide), st3_v]
theorem addF_7 {n : Nat} {v sw ti : Int32} {σ : Me} : addF n v sw ti σ 7 n 0 = v := by
  unfold addF; rw [rowF_n (by decide), st3_v]
theorem addF_6 {n : Nat} {v sw ti : Int32} {σ : Me} : addF n v sw ti σ 6 n = fun j => if j < 17 then nth else 0 := by
  unfold addF; rw [rowF_s]
/-- a new subscription -/
def subF (n : Nat) (pt by1 ov kp : Int32) (σ : Me) : Me := st3 (st3 (st3 (st3 σ 8 n 0 pt) 9 n 0 by1) 10 n 0 ov) 13 n 0 kp
theorem subF_i {n a i : Nat} {pt by1 ov kp : Int32} {σ : Me} (h : i ≠ n) : subF n pt by1 ov kp σ a i = σ a i := by
  unfold subF; rw [st3_i h, st3_i h, st3_i h, st3_i h]
theorem subF_n {n a : Nat} {pt by1 ov kp : Int32} {σ : Me} (h1 : a ≠ 8) (h2 : a ≠ 9) (h3 : a ≠ 10) (h4 : a ≠ 13) : subF n pt by1 ov kp σ a = σ a := by
  unfold subF; rw [st3_n h4, st3_n h3, st3_n h2, st3_n h1]
/-- a new schedule, with two lists that are empty -/
def schF (n : Nat) (pt pr : Int32) (σ : Me) : Me := st3 (st3 (st3 (st3 (st3 σ 14 n 0 pt) 15 n 0 pr) 16 n 0 nth) 21 (2 * n) 0 0) 21 (2 * n + 1) 0 0
/-- nothing has been there yet -/
def Fr (g : GC) (σ : Me) : Prop := (∀ k, g.1 ≤ k → σ 4 k 0 = 0 ∧ σ 5 k 0 = 0) ∧ (∀ s, g.2.1 ≤ s → σ 11 s 0 = 0 ∧ σ 12 s 0 = 0) ∧ (∀ c, g.2.2 ≤ c → σ 17 c 0 = 0) ∧ (∀ e, 2 * g.2.2 ≤ e → σ 22 e = (fun _ => 0) ∧ σ 23 e = (fun _ => 0) ∧ σ 24 e = (fun _ => 0))
section NEW
variable {D : va_G} {ad ad' : Ad} {np ns nc : Nat} {σ : Me} {T : Wd} {o : Int64}
/-- the world behind a new point -/
theorem cW_addP {q1 q2 : Nat} {v sw ti : Int32} {w' : Wd} (hF : Fr (np, ns, nc) σ) (hs : ∀ s, s < ns → nOf (σ 8 s 0) < np) (hc : ∀ c, c < nc → nOf (σ 14 c 0) < np) (ha : ad' = a2 (a2 ad 1 np q1) 8 np q2)
    (h1 : w' 1 np = some (.inr (1, [.int (loF sw), .int (hiF sw), .int v, .int ti, .ref q2, .int v, .int 0, .int 0]))) (h8 : w' 8 np = some (eI D 17 (fun j => if j < 17 then nth else 0)))
    (h7 : w' 7 0 = some (eR D 103 16 (va_up (fP ad 1 np) np (some q1)))) (h4 : w' 4 0 = some (.inr (4, [.ref (ad 7 0), .ref (ad 7 1), .ref (ad 7 2), .int (nI (np + 1)), .int (nI ns), .int (nI nc), .int (σ 25 0 0), .int (σ 26 0 0)])))
    (ho : ∀ f k, ¬ (f = 1 ∧ k = np) → ¬ (f = 8 ∧ k = np) → ¬ (f = 7 ∧ k = 0) → ¬ (f = 4 ∧ k = 0) → w' f k = cW D ad ((np, ns, nc), σ) T o f k) :
    w' = cW D ad' ((np + 1, ns, nc), addF np v sw ti σ) T o := by
  have a1 : ∀ f k, (f ≠ 1 ∧ f ≠ 8) ∨ k ≠ np → ad' f k = ad f k := by
    intro f k h
    rw [ha]; unfold a2
    rw [if_neg (by omega), if_neg (by omega)]
  have aq1 : ad' 1 np = q1 := by rw [ha]; simp [a2]
  have aq2 : ad' 8 np = q2 := by rw [ha]; simp [a2]
  funext f k
  match f with
  | 0 => rw [ho 0 k (by omega) (by omega) (by omega) (by omega)]; simp [cW, eEn, addF_n, a1 9 k (by omega), a1 10 k (by omega), a1 11 k (by omega)]
  | 1 =>
    by_cases hk : k = np
    · subst hk
      rw [h1]
      simp [cW, ePt, addF_1, addF_2, addF_3, addF_7, aq2, addF_n, (hF.1 k (Nat.le_refl k)).1, (hF.1 k (Nat.le_refl k)).2]
    · rw [ho 1 k (by omega) (by omega) (by omega) (by omega)]
      by_cases hl : k < np
      · simp [cW, ePt, addF_i hk, a1 8 k (Or.inr hk), hl, show k < np + 1 by omega]
      · simp [cW, hl, show ¬ k < np + 1 by omega]
  | 2 =>
    rw [ho 2 k (by omega) (by omega) (by omega) (by omega)]
    by_cases hl : k < nc
    · simp [cW, eSc, addF_n, a1 1 _ (Or.inr (Nat.ne_of_lt (hc k hl))), a1 0 _ (by omega), hl]
    · simp [cW, hl]
  | 3 =>
    rw [ho 3 k (by omega) (by omega) (by omega) (by omega)]
    by_cases hl : k < ns
    · simp [cW, eSu, addF_n, a1 1 _ (Or.inr (Nat.ne_of_lt (hs k hl))), hl]
    · simp [cW, hl]
  | 4 =>
    by_cases hk : k = 0
    · subst hk; rw [h4]; simp [cW, eBP, addF_n, a1 7 _ (by omega)]
    · rw [ho 4 k (by omega) (by omega) (by omega) (by omega)]; simp [cW, hk]
  | 5 => rw [ho 5 k (by omega) (by omega) (by omega) (by omega)]; simp only [cW]
  | 6 => rw [ho 6 k (by omega) (by omega) (by omega) (by omega)]; simp only [cW]
  | 7 =>
    by_cases hk : k = 0
    · subst hk; rw [h7]
      have e : va_up (fP ad 1 np) np (some q1) = fP ad' 1 (np + 1) := by
        funext j
        unfold va_up fP
        by_cases hj : j = np
        · subst hj; rw [if_pos rfl, if_pos (by omega), aq1]
        · rw [if_neg hj]
          by_cases hl : j < np
          · rw [if_pos hl, if_pos (by omega), a1 1 j (Or.inr hj)]
          · rw [if_neg hl, if_neg (by omega)]
      rw [e]; simp [cW]
    · rw [ho 7 k (by omega) (by omega) (by omega) (by omega)]
      have e3 : fP ad 3 ns = fP ad' 3 ns := by funext j; simp only [fP, a1 3 j (by omega)]
      have e2 : fP ad 2 nc = fP ad' 2 nc := by funext j; simp only [fP, a1 2 j (by omega)]
      simp only [cW, if_neg hk, e3, e2]
  | 8 =>
    by_cases hk : k = np
    · subst hk; rw [h8]; simp [cW, addF_6]
    · rw [ho 8 k (by omega) (by omega) (by omega) (by omega)]
      by_cases hl : k < np
      · simp [cW, addF_i hk, hl, show k < np + 1 by omega]
      · simp [cW, hl, show ¬ k < np + 1 by omega]
  | 9 => rw [ho 9 k (by omega) (by omega) (by omega) (by omega)]; simp [cW, addF_n]
  | 10 => rw [ho 10 k (by omega) (by omega) (by omega) (by omega)]; simp [cW, addF_n]
  | 11 => rw [ho 11 k (by omega) (by omega) (by omega) (by omega)]; simp [cW, addF_n]
  | 12 => rw [ho 12 k (by omega) (by omega) (by omega) (by omega)]; simp only [cW]
  | n + 13 => rw [ho (n + 13) k (by omega) (by omega) (by omega) (by omega)]; simp only [cW]
/-- the world behind a new subscription -/
theorem cW_addS {q1 : Nat} {pt by1 ov kp : Int32} {w' : Wd} (hF : Fr (np, ns, nc) σ) (ha : ad' = a2 ad 3 ns q1)
    (h3 : w' 3 ns = some (.inr (3, [.ref (ad 1 (nOf pt)), .int by1, .int ov, .int kp, .int 0, .int 1])))
    (h7 : w' 7 1 = some (eR D 104 30 (va_up (fP ad 3 ns) ns (some q1)))) (h4 : w' 4 0 = some (.inr (4, [.ref (ad 7 0), .ref (ad 7 1), .ref (ad 7 2), .int (nI np), .int (nI (ns + 1)), .int (nI nc), .int (σ 25 0 0), .int (σ 26 0 0)])))
    (ho : ∀ f k, ¬ (f = 3 ∧ k = ns) → ¬ (f = 7 ∧ k = 1) → ¬ (f = 4 ∧ k = 0) → w' f k = cW D ad ((np, ns, nc), σ) T o f k) :
    w' = cW D ad' ((np, ns + 1, nc), subF ns pt by1 ov kp σ) T o := by
  have a1 : ∀ f k, f ≠ 3 ∨ k ≠ ns → ad' f k = ad f k := by
    intro f k h
    rw [ha]; unfold a2
    rw [if_neg (by omega)]
  have aq1 : ad' 3 ns = q1 := by rw [ha]; simp [a2]
  funext f k
  match f with
  | 0 => rw [ho 0 k (by omega) (by omega) (by omega)]; simp [cW, eEn, subF_n, a1 9 k (by omega), a1 10 k (by omega), a1 11 k (by omega)]
  | 1 => rw [ho 1 k (by omega) (by omega) (by omega)]; simp [cW, ePt, subF_n, a1 8 k (by omega)]
  | 2 => rw [ho 2 k (by omega) (by omega) (by omega)]; simp [cW, eSc, subF_n, a1 1 _ (by omega), a1 0 _ (by omega)]
  | 3 =>
    by_cases hk : k = ns
    · subst hk
      rw [h3]
      have e8 : subF k pt by1 ov kp σ 8 k 0 = pt := by unfold subF; rw [st3_n (by decide), st3_n (by decide), st3_n (by decide), st3_v]
      have e9 : subF k pt by1 ov kp σ 9 k 0 = by1 := by unfold subF; rw [st3_n (by decide), st3_n (by decide), st3_v]
      have e10 : subF k pt by1 ov kp σ 10 k 0 = ov := by unfold subF; rw [st3_n (by decide), st3_v]
      have e13 : subF k pt by1 ov kp σ 13 k 0 = kp := by unfold subF; rw [st3_v]
      have e1 : (1 : Int32) - 0 = 1 := by decide
      simp [cW, eSu, e8, e9, e10, e13, subF_n, (hF.2.1 k (Nat.le_refl k)).1, (hF.2.1 k (Nat.le_refl k)).2, a1 1 _ (by omega), e1]
    · rw [ho 3 k (by omega) (by omega) (by omega)]
      by_cases hl : k < ns
      · simp [cW, eSu, subF_i hk, a1 1 _ (by omega), hl, show k < ns + 1 by omega]
      · simp [cW, hl, show ¬ k < ns + 1 by omega]
  | 4 =>
    by_cases hk : k = 0
    · subst hk; rw [h4]; simp [cW, eBP, subF_n, a1 7 _ (by omega)]
    · rw [ho 4 k (by omega) (by omega) (by omega)]; simp [cW, hk]
  | 5 => rw [ho 5 k (by omega) (by omega) (by omega)]; simp only [cW]
  | 6 => rw [ho 6 k (by omega) (by omega) (by omega)]; simp only [cW]
  | 7 =>
    by_cases hk : k = 1
    · subst hk; rw [h7]
      have e : va_up (fP ad 3 ns) ns (some q1) = fP ad' 3 (ns + 1) := by
        funext j
        unfold va_up fP
        by_cases hj : j = ns
        · subst hj; rw [if_pos rfl, if_pos (by omega), aq1]
        · rw [if_neg hj]
          by_cases hl : j < ns
          · rw [if_pos hl, if_pos (by omega), a1 3 j (Or.inr hj)]
          · rw [if_neg hl, if_neg (by omega)]
      rw [e]; simp [cW]
    · rw [ho 7 k (by omega) (by omega) (by omega)]
      have e3 : fP ad 1 np = fP ad' 1 np := by funext j; simp only [fP, a1 1 j (by omega)]
      have e2 : fP ad 2 nc = fP ad' 2 nc := by funext j; simp only [fP, a1 2 j (by omega)]
      simp only [cW, if_neg hk, e3, e2]
  | 8 => rw [ho 8 k (by omega) (by omega) (by omega)]; simp [cW, subF_n]
  | 9 => rw [ho 9 k (by omega) (by omega) (by omega)]; simp [cW, subF_n]
  | 10 => rw [ho 10 k (by omega) (by omega) (by omega)]; simp [cW, subF_n]
  | 11 => rw [ho 11 k (by omega) (by omega) (by omega)]; simp [cW, subF_n]
  | 12 => rw [ho 12 k (by omega) (by omega) (by omega)]; simp only [cW]
  | n + 13 => rw [ho (n + 13) k (by omega) (by omega) (by omega)]; simp only [cW]
end NEW
theorem schF_n {n a : Nat} {pt pr : Int32} {σ : Me} (h1 : a ≠ 14) (h2 : a ≠ 15) (h3 : a ≠ 16) (h4 : a ≠ 21) : schF n pt pr σ a = σ a := by
  unfold schF; rw [st3_n h4, st3_n h4, st3_n h3, st3_n h2, st3_n h1]
theorem schF_i {n a i : Nat} {pt pr : Int32} {σ : Me} (h : i ≠ n) (ha : a ≠ 21) : schF n pt pr σ a i = σ a i := by
  unfold schF; rw [st3_n ha, st3_n ha, st3_i h, st3_i h, st3_i h]
theorem schF_21 {n i : Nat} {pt pr : Int32} {σ : Me} (h1 : i ≠ 2 * n) (h2 : i ≠ 2 * n + 1) : schF n pt pr σ 21 i = σ 21 i := by
  unfold schF; rw [st3_i h2, st3_i h1, st3_n (by decide), st3_n (by decide), st3_n (by decide)]
section NEW2
variable {D : va_G} {ad ad' : Ad} {np ns nc : Nat} {σ : Me} {T : Wd} {o : Int64}
/-- the world behind a new schedule -/
theorem cW_addC {q1 : Nat} {pt pr : Int32} {w' : Wd} (hF : Fr (np, ns, nc) σ)
    (ha : ∀ f k, ¬ (f = 2 ∧ k = nc) → ¬ ((f = 0 ∨ f = 9 ∨ f = 10 ∨ f = 11) ∧ (k = 2 * nc ∨ k = 2 * nc + 1)) → ad' f k = ad f k) (hq : ad' 2 nc = q1)
    (h2 : w' 2 nc = some (.inr (2, [.ref (ad 1 (nOf pt)), .int pr, .ref (ad' 0 (2 * nc)), .ref (ad' 0 (2 * nc + 1)), .int nth])))
    (h0 : ∀ e, e = 2 * nc ∨ e = 2 * nc + 1 → w' 0 e = some (.inr (0, [.ref (ad' 9 e), .ref (ad' 10 e), .ref (ad' 11 e), .int 0])) ∧ w' 9 e = some (eI D 20 (fun _ => 0)) ∧ w' 10 e = some (eI D 20 (fun _ => 0)) ∧ w' 11 e = some (eI D 20 (fun _ => 0)))
    (h7 : w' 7 2 = some (eR D 105 4 (va_up (fP ad 2 nc) nc (some q1)))) (h4 : w' 4 0 = some (.inr (4, [.ref (ad 7 0), .ref (ad 7 1), .ref (ad 7 2), .int (nI np), .int (nI ns), .int (nI (nc + 1)), .int (σ 25 0 0), .int (σ 26 0 0)])))
    (ho : ∀ f k, ¬ (f = 2 ∧ k = nc) → ¬ ((f = 0 ∨ f = 9 ∨ f = 10 ∨ f = 11) ∧ (k = 2 * nc ∨ k = 2 * nc + 1)) → ¬ (f = 7 ∧ k = 2) → ¬ (f = 4 ∧ k = 0) → w' f k = cW D ad ((np, ns, nc), σ) T o f k) :
    w' = cW D ad' ((np, ns, nc + 1), schF nc pt pr σ) T o := by
  have s21 : ∀ e, e = 2 * nc ∨ e = 2 * nc + 1 → schF nc pt pr σ 21 e 0 = 0 := by
    intro e he
    unfold schF
    rcases he with he | he
    · rw [st3_i (by omega), he, st3_v]
    · rw [he, st3_v]
  have e14 : schF nc pt pr σ 14 nc 0 = pt := by unfold schF; rw [st3_n (by decide), st3_n (by decide), st3_n (by decide), st3_n (by decide), st3_v]
  have e15 : schF nc pt pr σ 15 nc 0 = pr := by unfold schF; rw [st3_n (by decide), st3_n (by decide), st3_n (by decide), st3_v]
  have hFe : ∀ e, 2 * nc ≤ e → σ 22 e = (fun _ => 0) ∧ σ 23 e = (fun _ => 0) ∧ σ 24 e = (fun _ => 0) := hF.2.2.2
  have e16 : schF nc pt pr σ 16 nc 0 = nth := by unfold schF; rw [st3_n (by decide), st3_n (by decide), st3_v]
  funext f k
  match f with
  | 0 =>
    by_cases hk : k = 2 * nc ∨ k = 2 * nc + 1
    · rw [(h0 k hk).1]; simp [cW, eEn, s21 k hk, show k < 2 * (nc + 1) by omega]
    · rw [ho 0 k (by omega) (by omega) (by omega) (by omega)]
      by_cases hl : k < 2 * nc
      · simp [cW, eEn, schF_21 (show k ≠ 2 * nc by omega) (show k ≠ 2 * nc + 1 by omega), ha 9 k (by omega) (by omega), ha 10 k (by omega) (by omega), ha 11 k (by omega) (by omega), hl, show k < 2 * (nc + 1) by omega]
      · simp [cW, hl, show ¬ k < 2 * (nc + 1) by omega]
  | 1 => rw [ho 1 k (by omega) (by omega) (by omega) (by omega)]; simp [cW, ePt, schF_n, ha 8 k (by omega) (by omega)]
  | 2 =>
    by_cases hk : k = nc
    · subst hk
      rw [h2]; simp [cW, eSc, e14, e15, e16, ha 1 _ (by omega) (by omega)]
    · rw [ho 2 k (by omega) (by omega) (by omega) (by omega)]
      by_cases hl : k < nc
      · simp [cW, eSc, schF_i hk, ha 1 _ (by omega) (by omega), ha 0 (2 * k) (by omega) (by omega), ha 0 (2 * k + 1) (by omega) (by omega), hl, show k < nc + 1 by omega]
      · simp [cW, hl, show ¬ k < nc + 1 by omega]
  | 3 => rw [ho 3 k (by omega) (by omega) (by omega) (by omega)]; simp [cW, eSu, schF_n, ha 1 _ (by omega) (by omega)]
  | 4 =>
    by_cases hk : k = 0
    · subst hk; rw [h4]; simp [cW, eBP, schF_n, ha 7 _ (by omega) (by omega)]
    · rw [ho 4 k (by omega) (by omega) (by omega) (by omega)]; simp [cW, hk]
  | 5 => rw [ho 5 k (by omega) (by omega) (by omega) (by omega)]; simp only [cW]
  | 6 => rw [ho 6 k (by omega) (by omega) (by omega) (by omega)]; simp only [cW]
  | 7 =>
    by_cases hk : k = 2
    · subst hk; rw [h7]
      have e : va_up (fP ad 2 nc) nc (some q1) = fP ad' 2 (nc + 1) := by
        funext j
        unfold va_up fP
        by_cases hj : j = nc
        · subst hj; rw [if_pos rfl, if_pos (by omega), hq]
        · rw [if_neg hj]
          by_cases hl : j < nc
          · rw [if_pos hl, if_pos (by omega), ha 2 j (by omega) (by omega)]
          · rw [if_neg hl, if_neg (by omega)]
      rw [e]; simp [cW]
    · rw [ho 7 k (by omega) (by omega) (by omega) (by omega)]
      have e3 : fP ad 1 np = fP ad' 1 np := by funext j; simp only [fP, ha 1 j (by omega) (by omega)]
      have e2 : fP ad 3 ns = fP ad' 3 ns := by funext j; simp only [fP, ha 3 j (by omega) (by omega)]
      simp only [cW, if_neg hk, e3, e2]
  | 8 => rw [ho 8 k (by omega) (by omega) (by omega) (by omega)]; simp [cW, schF_n]
  | 9 =>
    by_cases hk : k = 2 * nc ∨ k = 2 * nc + 1
    · rw [(h0 k hk).2.1]; simp [cW, schF_n, (hFe k (by omega)).1, show k < 2 * (nc + 1) by omega]
    · rw [ho 9 k (by omega) (by omega) (by omega) (by omega)]
      by_cases hl : k < 2 * nc
      · simp [cW, schF_n, hl, show k < 2 * (nc + 1) by omega]
      · simp [cW, hl, show ¬ k < 2 * (nc + 1) by omega]
  | 10 =>
    by_cases hk : k = 2 * nc ∨ k = 2 * nc + 1
    · rw [(h0 k hk).2.2.1]; simp [cW, schF_n, (hFe k (by omega)).2.1, show k < 2 * (nc + 1) by omega]
    · rw [ho 10 k (by omega) (by omega) (by omega) (by omega)]
      by_cases hl : k < 2 * nc
      · simp [cW, schF_n, hl, show k < 2 * (nc + 1) by omega]
      · simp [cW, hl, show ¬ k < 2 * (nc + 1) by omega]
  | 11 =>
    by_cases hk : k = 2 * nc ∨ k = 2 * nc + 1
    · rw [(h0 k hk).2.2.2]; simp [cW, schF_n, (hFe k (by omega)).2.2, show k < 2 * (nc + 1) by omega]
    · rw [ho 11 k (by omega) (by omega) (by omega) (by omega)]
      by_cases hl : k < 2 * nc
      · simp [cW, schF_n, hl, show k < 2 * (nc + 1) by omega]
      · simp [cW, hl, show ¬ k < 2 * (nc + 1) by omega]
  | 12 => rw [ho 12 k (by omega) (by omega) (by omega) (by omega)]; simp only [cW]
  | n + 13 => rw [ho (n + 13) k (by omega) (by omega) (by omega) (by omega)]; simp only [cW]
end NEW2
