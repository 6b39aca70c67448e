/-! what a state of the system is: memories by attribute, object and place; the cells as functions of them.
attributes: 1 isSwitch 2 first 3 least 4 until 5 changed 6 commands (by priority) 7 present; 8 of 9 increment 10 over 11 ended 12 sent 13 kept; 14 to 15 at 16 last 17 entries 18 when 19 minute 20 tells; 21 count 22 days 23 minutes 24 told (of the class's lists of entries: 2c, 2c+1); 25 clock 26 told -/
abbrev GC : Type := Nat × Nat × Nat
def loF (x : Int32) : Int32 := if x = 1 then 0 else -1000
def hiF (x : Int32) : Int32 := if x = 1 then 1 else 1000
abbrev eEn (ad : Ad) (σ : Me) (k : Nat) : va_E := .inr (0, [.ref (ad 9 k), .ref (ad 10 k), .ref (ad 11 k), .int (σ 21 k 0)])
abbrev ePt (ad : Ad) (σ : Me) (k : Nat) : va_E := .inr (1, [.int (loF (σ 1 k 0)), .int (hiF (σ 1 k 0)), .int (σ 2 k 0), .int (σ 3 k 0), .ref (ad 8 k), .int (σ 7 k 0), .int (σ 4 k 0), .int (σ 5 k 0)])
abbrev eSc (ad : Ad) (σ : Me) (k : Nat) : va_E := .inr (2, [.ref (ad 1 (σ 14 k 0).toNatClampNeg), .int (σ 15 k 0), .ref (ad 0 (2 * k)), .ref (ad 0 (2 * k + 1)), .int (σ 16 k 0)])
abbrev eSu (ad : Ad) (σ : Me) (k : Nat) : va_E := .inr (3, [.ref (ad 1 (σ 8 k 0).toNatClampNeg), .int (σ 9 k 0), .int (σ 10 k 0), .int (σ 13 k 0), .int (σ 12 k 0), .int (1 - σ 11 k 0)])
abbrev eBP (ad : Ad) (g : GC) (σ : Me) : va_E := .inr (4, [.ref (ad 7 0), .ref (ad 7 1), .ref (ad 7 2), .int (nI g.1), .int (nI g.2.1), .int (nI g.2.2), .int (σ 25 0 0), .int (σ 26 0 0)])
abbrev fP (ad : Ad) (f n : Nat) : Nat → Option Nat := fun j => if j < n then some (ad f j) else none
/-- the world: this object's cells (families 0 to 11), and any other cells (13 and on) -/
def cW (D : va_G) (ad : Ad) (S : GC × Me) (T : Wd) (o : Int64) : Wd := fun f k =>
  match f with
  | 0 => if k < 2 * S.1.2.2 then some (eEn ad S.2 k) else none
  | 1 => if k < S.1.1 then some (ePt ad S.2 k) else none
  | 2 => if k < S.1.2.2 then some (eSc ad S.2 k) else none
  | 3 => if k < S.1.2.1 then some (eSu ad S.2 k) else none
  | 4 => if k = 0 then some (eBP ad S.1 S.2) else none
  | 5 => none
  | 6 => none
  | 7 => if k = 0 then some (eR D 103 16 (fP ad 1 S.1.1)) else if k = 1 then some (eR D 104 30 (fP ad 3 S.1.2.1)) else if k = 2 then some (eR D 105 4 (fP ad 2 S.1.2.2)) else none
  | 8 => if k < S.1.1 then some (eI D 17 (S.2 6 k)) else none
  | 9 => if k < 2 * S.1.2.2 then some (eI D 20 (S.2 22 k)) else none
  | 10 => if k < 2 * S.1.2.2 then some (eI D 20 (S.2 23 k)) else none
  | 11 => if k < 2 * S.1.2.2 then some (eI D 20 (S.2 24 k)) else none
  | 12 => none
  | n + 13 => T n k
theorem st3_n {σ : Me} {a i j a1 : Nat} {v : Int32} (h : a1 ≠ a) : st3 σ a i j v a1 = σ a1 := by funext i1 j1; simp [st3, h]
theorem st3_i {σ : Me} {a i j a1 i1 : Nat} {v : Int32} (h : i1 ≠ i) : st3 σ a i j v a1 i1 = σ a1 i1 := by funext j1; simp [st3, h]
theorem st3_s {σ : Me} {a i j : Nat} {v : Int32} : st3 σ a i j v a i = upd (σ a i) j v := by funext j1; simp [st3, upd]
theorem st3_v {σ : Me} {a i j : Nat} {v : Int32} : st3 σ a i j v a i j = v := by simp [st3]
theorem st3_j {σ : Me} {a i j a1 i1 j1 : Nat} {v : Int32} (h : j1 ≠ j) : st3 σ a i j v a1 i1 j1 = σ a1 i1 j1 := by simp [st3, h]
section CW
variable {D : va_G} {ad : Ad} {g h : GC} {σ τ : Me} {S : GC × Me} {T : Wd} {o : Int64} {k : Nat}
theorem cW_0 (hk : k < 2 * g.2.2) : cW D ad (g, σ) T o 0 k = some (eEn ad σ k) := by show (if k < 2 * g.2.2 then _ else _) = _; rw [if_pos hk]
theorem cW_1 (hk : k < g.1) : cW D ad (g, σ) T o 1 k = some (ePt ad σ k) := by show (if k < g.1 then _ else _) = _; rw [if_pos hk]
theorem cW_2 (hk : k < g.2.2) : cW D ad (g, σ) T o 2 k = some (eSc ad σ k) := by show (if k < g.2.2 then _ else _) = _; rw [if_pos hk]
theorem cW_3 (hk : k < g.2.1) : cW D ad (g, σ) T o 3 k = some (eSu ad σ k) := by show (if k < g.2.1 then _ else _) = _; rw [if_pos hk]
theorem cW_8 (hk : k < g.1) : cW D ad (g, σ) T o 8 k = some (eI D 17 (σ 6 k)) := by show (if k < g.1 then _ else _) = _; rw [if_pos hk]
theorem cW_9 (hk : k < 2 * g.2.2) : cW D ad (g, σ) T o 9 k = some (eI D 20 (σ 22 k)) := by show (if k < 2 * g.2.2 then _ else _) = _; rw [if_pos hk]
theorem cW_10 (hk : k < 2 * g.2.2) : cW D ad (g, σ) T o 10 k = some (eI D 20 (σ 23 k)) := by show (if k < 2 * g.2.2 then _ else _) = _; rw [if_pos hk]
theorem cW_11 (hk : k < 2 * g.2.2) : cW D ad (g, σ) T o 11 k = some (eI D 20 (σ 24 k)) := by show (if k < 2 * g.2.2 then _ else _) = _; rw [if_pos hk]
theorem cW_4 : cW D ad (g, σ) T o 4 0 = some (eBP ad g σ) := rfl
theorem cW_70 : cW D ad (g, σ) T o 7 0 = some (eR D 103 16 (fP ad 1 g.1)) := rfl
theorem cW_71 : cW D ad (g, σ) T o 7 1 = some (eR D 104 30 (fP ad 3 g.2.1)) := rfl
theorem cW_72 : cW D ad (g, σ) T o 7 2 = some (eR D 105 4 (fP ad 2 g.2.2)) := rfl
theorem pE3 (hk : k < 2 * g.2.2) (v : Int32) : u2 (cW D ad (g, σ) T o) 0 k (.inr (0, [.ref (ad 9 k), .ref (ad 10 k), .ref (ad 11 k), .int v])) = cW D ad (g, st3 σ 21 k 0 v) T o := by
  funext f1 k1
  unfold u2
  split
  · rename_i h1
    obtain ⟨rfl, rfl⟩ := h1
    simp only [cW, if_pos hk]
    simp [eEn, ePt, eSc, eSu, st3_n, st3_v]
  · rename_i h1
    match f1, h1 with
    | 0, h1 => have hk1 : k1 ≠ k := fun z => h1 ⟨rfl, z⟩; simp [cW, eEn, ePt, eSc, eSu, eBP, st3_n, st3_i hk1]
    | 1, h1 => simp [cW, eEn, ePt, eSc, eSu, eBP, st3_n, st3_v]
    | 2, h1 => simp [cW, eEn, ePt, eSc, eSu, eBP, st3_n, st3_v]
    | 3, h1 => simp [cW, eEn, ePt, eSc, eSu, eBP, st3_n, st3_v]
    | 4, h1 => simp [cW, eEn, ePt, eSc, eSu, eBP, st3_n, st3_v]
    | 5, h1 => rfl
    | 6, h1 => rfl
    | 7, h1 => rfl
    | 8, h1 => simp [cW, eEn, ePt, eSc, eSu, eBP, st3_n, st3_v]
    | 9, h1 => simp [cW, eEn, ePt, eSc, eSu, eBP, st3_n, st3_v]
    | 10, h1 => simp [cW, eEn, ePt, eSc, eSu, eBP, st3_n, st3_v]
    | 11, h1 => simp [cW, eEn, ePt, eSc, eSu, eBP, st3_n, st3_v]
    | 12, h1 => rfl
    | n + 13, h1 => rfl
theorem pP5 (hk : k < g.1) (v : Int32) : u2 (cW D ad (g, σ) T o) 1 k (.inr (1, [.int (loF (σ 1 k 0)), .int (hiF (σ 1 k 0)), .int (σ 2 k 0), .int (σ 3 k 0), .ref (ad 8 k), .int v, .int (σ 4 k 0), .int (σ 5 k 0)])) = cW D ad (g, st3 σ 7 k 0 v) T o := by
  funext f1 k1
  unfold u2
  split
  · rename_i h1
    obtain ⟨rfl, rfl⟩ := h1
    simp only [cW, if_pos hk]
    simp [eEn, ePt, eSc, eSu, st3_n, st3_v]
  · rename_i h1
    match f1, h1 with
    | 0, h1 => simp [cW, eEn, ePt, eSc, eSu, eBP, st3_n, st3_v]
    | 1, h1 => have hk1 : k1 ≠ k := fun z => h1 ⟨rfl, z⟩; simp [cW, eEn, ePt, eSc, eSu, eBP, st3_n, st3_i hk1]
    | 2, h1 => simp [cW, eEn, ePt, eSc, eSu, eBP, st3_n, st3_v]
    | 3, h1 => simp [cW, eEn, ePt, eSc, eSu, eBP, st3_n, st3_v]
    | 4, h1 => simp [cW, eEn, ePt, eSc, eSu, eBP, st3_n, st3_v]
    | 5, h1 => rfl
    | 6, h1 => rfl
    | 7, h1 => rfl
    | 8, h1 => simp [cW, eEn, ePt, eSc, eSu, eBP, st3_n, st3_v]
    | 9, h1 => simp [cW, eEn, ePt, eSc, eSu, eBP, st3_n, st3_v]
    | 10, h1 => simp [cW, eEn, ePt, eSc, eSu, eBP, st3_n, st3_v]
    | 11, h1 => simp [cW, eEn, ePt, eSc, eSu, eBP, st3_n, st3_v]
    | 12, h1 => rfl
    | n + 13, h1 => rfl
theorem pP6 (hk : k < g.1) (v : Int32) : u2 (cW D ad (g, σ) T o) 1 k (.inr (1, [.int (loF (σ 1 k 0)), .int (hiF (σ 1 k 0)), .int (σ 2 k 0), .int (σ 3 k 0), .ref (ad 8 k), .int (σ 7 k 0), .int v, .int (σ 5 k 0)])) = cW D ad (g, st3 σ 4 k 0 v) T o := by
  funext f1 k1
  unfold u2
  split
  · rename_i h1
    obtain ⟨rfl, rfl⟩ := h1
    simp only [cW, if_pos hk]
    simp [eEn, ePt, eSc, eSu, st3_n, st3_v]
  · rename_i h1
    match f1, h1 with
    | 0, h1 => simp [cW, eEn, ePt, eSc, eSu, eBP, st3_n, st3_v]
    | 1, h1 => have hk1 : k1 ≠ k := fun z => h1 ⟨rfl, z⟩; simp [cW, eEn, ePt, eSc, eSu, eBP, st3_n, st3_i hk1]
    | 2, h1 => simp [cW, eEn, ePt, eSc, eSu, eBP, st3_n, st3_v]
    | 3, h1 => simp [cW, eEn, ePt, eSc, eSu, eBP, st3_n, st3_v]
    | 4, h1 => simp [cW, eEn, ePt, eSc, eSu, eBP, st3_n, st3_v]
    | 5, h1 => rfl
    | 6, h1 => rfl
    | 7, h1 => rfl
    | 8, h1 => simp [cW, eEn, ePt, eSc, eSu, eBP, st3_n, st3_v]
    | 9, h1 => simp [cW, eEn, ePt, eSc, eSu, eBP, st3_n, st3_v]
    | 10, h1 => simp [cW, eEn, ePt, eSc, eSu, eBP, st3_n, st3_v]
    | 11, h1 => simp [cW, eEn, ePt, eSc, eSu, eBP, st3_n, st3_v]
    | 12, h1 => rfl
    | n + 13, h1 => rfl
theorem pP7 (hk : k < g.1) (v : Int32) : u2 (cW D ad (g, σ) T o) 1 k (.inr (1, [.int (loF (σ 1 k 0)), .int (hiF (σ 1 k 0)), .int (σ 2 k 0), .int (σ 3 k 0), .ref (ad 8 k), .int (σ 7 k 0), .int (σ 4 k 0), .int v])) = cW D ad (g, st3 σ 5 k 0 v) T o := by
  funext f1 k1
  unfold u2
  split
  · rename_i h1
    obtain ⟨rfl, rfl⟩ := h1
    simp only [cW, if_pos hk]
    simp [eEn, ePt, eSc, eSu, st3_n, st3_v]
  · rename_i h1
    match f1, h1 with
    | 0, h1 => simp [cW, eEn, ePt, eSc, eSu, eBP, st3_n, st3_v]
    | 1, h1 => have hk1 : k1 ≠ k := fun z => h1 ⟨rfl, z⟩; simp [cW, eEn, ePt, eSc, eSu, eBP, st3_n, st3_i hk1]
    | 2, h1 => simp [cW, eEn, ePt, eSc, eSu, eBP, st3_n, st3_v]
    | 3, h1 => simp [cW, eEn, ePt, eSc, eSu, eBP, st3_n, st3_v]
    | 4, h1 => simp [cW, eEn, ePt, eSc, eSu, eBP, st3_n, st3_v]
    | 5, h1 => rfl
    | 6, h1 => rfl
    | 7, h1 => rfl
    | 8, h1 => simp [cW, eEn, ePt, eSc, eSu, eBP, st3_n, st3_v]
    | 9, h1 => simp [cW, eEn, ePt, eSc, eSu, eBP, st3_n, st3_v]
    | 10, h1 => simp [cW, eEn, ePt, eSc, eSu, eBP, st3_n, st3_v]
    | 11, h1 => simp [cW, eEn, ePt, eSc, eSu, eBP, st3_n, st3_v]
    | 12, h1 => rfl
    | n + 13, h1 => rfl
theorem pC4 (hk : k < g.2.2) (v : Int32) : u2 (cW D ad (g, σ) T o) 2 k (.inr (2, [.ref (ad 1 (σ 14 k 0).toNatClampNeg), .int (σ 15 k 0), .ref (ad 0 (2 * k)), .ref (ad 0 (2 * k + 1)), .int v])) = cW D ad (g, st3 σ 16 k 0 v) T o := by
  funext f1 k1
  unfold u2
  split
  · rename_i h1
    obtain ⟨rfl, rfl⟩ := h1
    simp only [cW, if_pos hk]
    simp [eEn, ePt, eSc, eSu, st3_n, st3_v]
  · rename_i h1
    match f1, h1 with
    | 0, h1 => simp [cW, eEn, ePt, eSc, eSu, eBP, st3_n, st3_v]
    | 1, h1 => simp [cW, eEn, ePt, eSc, eSu, eBP, st3_n, st3_v]
    | 2, h1 => have hk1 : k1 ≠ k := fun z => h1 ⟨rfl, z⟩; simp [cW, eEn, ePt, eSc, eSu, eBP, st3_n, st3_i hk1]
    | 3, h1 => simp [cW, eEn, ePt, eSc, eSu, eBP, st3_n, st3_v]
    | 4, h1 => simp [cW, eEn, ePt, eSc, eSu, eBP, st3_n, st3_v]
    | 5, h1 => rfl
    | 6, h1 => rfl
    | 7, h1 => rfl
    | 8, h1 => simp [cW, eEn, ePt, eSc, eSu, eBP, st3_n, st3_v]
    | 9, h1 => simp [cW, eEn, ePt, eSc, eSu, eBP, st3_n, st3_v]
    | 10, h1 => simp [cW, eEn, ePt, eSc, eSu, eBP, st3_n, st3_v]
    | 11, h1 => simp [cW, eEn, ePt, eSc, eSu, eBP, st3_n, st3_v]
    | 12, h1 => rfl
    | n + 13, h1 => rfl
theorem pS3 (hk : k < g.2.1) (v : Int32) : u2 (cW D ad (g, σ) T o) 3 k (.inr (3, [.ref (ad 1 (σ 8 k 0).toNatClampNeg), .int (σ 9 k 0), .int (σ 10 k 0), .int v, .int (σ 12 k 0), .int (1 - σ 11 k 0)])) = cW D ad (g, st3 σ 13 k 0 v) T o := by
  funext f1 k1
  unfold u2
  split
  · rename_i h1
    obtain ⟨rfl, rfl⟩ := h1
    simp only [cW, if_pos hk]
    simp [eEn, ePt, eSc, eSu, st3_n, st3_v]
  · rename_i h1
    match f1, h1 with
    | 0, h1 => simp [cW, eEn, ePt, eSc, eSu, eBP, st3_n, st3_v]
    | 1, h1 => simp [cW, eEn, ePt, eSc, eSu, eBP, st3_n, st3_v]
    | 2, h1 => simp [cW, eEn, ePt, eSc, eSu, eBP, st3_n, st3_v]
    | 3, h1 => have hk1 : k1 ≠ k := fun z => h1 ⟨rfl, z⟩; simp [cW, eEn, ePt, eSc, eSu, eBP, st3_n, st3_i hk1]
    | 4, h1 => simp [cW, eEn, ePt, eSc, eSu, eBP, st3_n, st3_v]
    | 5, h1 => rfl
    | 6, h1 => rfl
    | 7, h1 => rfl
    | 8, h1 => simp [cW, eEn, ePt, eSc, eSu, eBP, st3_n, st3_v]
    | 9, h1 => simp [cW, eEn, ePt, eSc, eSu, eBP, st3_n, st3_v]
    | 10, h1 => simp [cW, eEn, ePt, eSc, eSu, eBP, st3_n, st3_v]
    | 11, h1 => simp [cW, eEn, ePt, eSc, eSu, eBP, st3_n, st3_v]
    | 12, h1 => rfl
    | n + 13, h1 => rfl
theorem pS4 (hk : k < g.2.1) (v : Int32) : u2 (cW D ad (g, σ) T o) 3 k (.inr (3, [.ref (ad 1 (σ 8 k 0).toNatClampNeg), .int (σ 9 k 0), .int (σ 10 k 0), .int (σ 13 k 0), .int v, .int (1 - σ 11 k 0)])) = cW D ad (g, st3 σ 12 k 0 v) T o := by
  funext f1 k1
  unfold u2
  split
  · rename_i h1
    obtain ⟨rfl, rfl⟩ := h1
    simp only [cW, if_pos hk]
    simp [eEn, ePt, eSc, eSu, st3_n, st3_v]
  · rename_i h1
    match f1, h1 with
    | 0, h1 => simp [cW, eEn, ePt, eSc, eSu, eBP, st3_n, st3_v]
    | 1, h1 => simp [cW, eEn, ePt, eSc, eSu, eBP, st3_n, st3_v]
    | 2, h1 => simp [cW, eEn, ePt, eSc, eSu, eBP, st3_n, st3_v]
    | 3, h1 => have hk1 : k1 ≠ k := fun z => h1 ⟨rfl, z⟩; simp [cW, eEn, ePt, eSc, eSu, eBP, st3_n, st3_i hk1]
    | 4, h1 => simp [cW, eEn, ePt, eSc, eSu, eBP, st3_n, st3_v]
    | 5, h1 => rfl
    | 6, h1 => rfl
    | 7, h1 => rfl
    | 8, h1 => simp [cW, eEn, ePt, eSc, eSu, eBP, st3_n, st3_v]
    | 9, h1 => simp [cW, eEn, ePt, eSc, eSu, eBP, st3_n, st3_v]
    | 10, h1 => simp [cW, eEn, ePt, eSc, eSu, eBP, st3_n, st3_v]
    | 11, h1 => simp [cW, eEn, ePt, eSc, eSu, eBP, st3_n, st3_v]
    | 12, h1 => rfl
    | n + 13, h1 => rfl
theorem pS5 (hk : k < g.2.1) (v : Int32) : u2 (cW D ad (g, σ) T o) 3 k (.inr (3, [.ref (ad 1 (σ 8 k 0).toNatClampNeg), .int (σ 9 k 0), .int (σ 10 k 0), .int (σ 13 k 0), .int (σ 12 k 0), .int (1 - v)])) = cW D ad (g, st3 σ 11 k 0 v) T o := by
  funext f1 k1
  unfold u2
  split
  · rename_i h1
    obtain ⟨rfl, rfl⟩ := h1
    simp only [cW, if_pos hk]
    simp [eEn, ePt, eSc, eSu, st3_n, st3_v]
  · rename_i h1
    match f1, h1 with
    | 0, h1 => simp [cW, eEn, ePt, eSc, eSu, eBP, st3_n, st3_v]
    | 1, h1 => simp [cW, eEn, ePt, eSc, eSu, eBP, st3_n, st3_v]
    | 2, h1 => simp [cW, eEn, ePt, eSc, eSu, eBP, st3_n, st3_v]
    | 3, h1 => have hk1 : k1 ≠ k := fun z => h1 ⟨rfl, z⟩; simp [cW, eEn, ePt, eSc, eSu, eBP, st3_n, st3_i hk1]
    | 4, h1 => simp [cW, eEn, ePt, eSc, eSu, eBP, st3_n, st3_v]
    | 5, h1 => rfl
    | 6, h1 => rfl
    | 7, h1 => rfl
    | 8, h1 => simp [cW, eEn, ePt, eSc, eSu, eBP, st3_n, st3_v]
    | 9, h1 => simp [cW, eEn, ePt, eSc, eSu, eBP, st3_n, st3_v]
    | 10, h1 => simp [cW, eEn, ePt, eSc, eSu, eBP, st3_n, st3_v]
    | 11, h1 => simp [cW, eEn, ePt, eSc, eSu, eBP, st3_n, st3_v]
    | 12, h1 => rfl
    | n + 13, h1 => rfl
theorem pB6 (v : Int32) : u2 (cW D ad (g, σ) T o) 4 0 (.inr (4, [.ref (ad 7 0), .ref (ad 7 1), .ref (ad 7 2), .int (nI g.1), .int (nI g.2.1), .int (nI g.2.2), .int v, .int (σ 26 0 0)])) = cW D ad (g, st3 σ 25 0 0 v) T o := by
  funext f1 k1
  unfold u2
  split
  · rename_i h1
    obtain ⟨rfl, rfl⟩ := h1
    simp [cW, eEn, ePt, eSc, eSu, eBP, st3_n, st3_v]
  · rename_i h1
    match f1, h1 with
    | 0, h1 => simp [cW, eEn, ePt, eSc, eSu, eBP, st3_n, st3_v]
    | 1, h1 => simp [cW, eEn, ePt, eSc, eSu, eBP, st3_n, st3_v]
    | 2, h1 => simp [cW, eEn, ePt, eSc, eSu, eBP, st3_n, st3_v]
    | 3, h1 => simp [cW, eEn, ePt, eSc, eSu, eBP, st3_n, st3_v]
    | 4, h1 => have hk1 : k1 ≠ 0 := fun z => h1 ⟨rfl, z⟩; simp only [cW, if_neg hk1]
    | 5, h1 => rfl
    | 6, h1 => rfl
    | 7, h1 => rfl
    | 8, h1 => simp [cW, eEn, ePt, eSc, eSu, eBP, st3_n, st3_v]
    | 9, h1 => simp [cW, eEn, ePt, eSc, eSu, eBP, st3_n, st3_v]
    | 10, h1 => simp [cW, eEn, ePt, eSc, eSu, eBP, st3_n, st3_v]
    | 11, h1 => simp [cW, eEn, ePt, eSc, eSu, eBP, st3_n, st3_v]
    | 12, h1 => rfl
    | n + 13, h1 => rfl
theorem pB7 (v : Int32) : u2 (cW D ad (g, σ) T o) 4 0 (.inr (4, [.ref (ad 7 0), .ref (ad 7 1), .ref (ad 7 2), .int (nI g.1), .int (nI g.2.1), .int (nI g.2.2), .int (σ 25 0 0), .int v])) = cW D ad (g, st3 σ 26 0 0 v) T o := by
  funext f1 k1
  unfold u2
  split
  · rename_i h1
    obtain ⟨rfl, rfl⟩ := h1
    simp [cW, eEn, ePt, eSc, eSu, eBP, st3_n, st3_v]
  · rename_i h1
    match f1, h1 with
    | 0, h1 => simp [cW, eEn, ePt, eSc, eSu, eBP, st3_n, st3_v]
    | 1, h1 => simp [cW, eEn, ePt, eSc, eSu, eBP, st3_n, st3_v]
    | 2, h1 => simp [cW, eEn, ePt, eSc, eSu, eBP, st3_n, st3_v]
    | 3, h1 => simp [cW, eEn, ePt, eSc, eSu, eBP, st3_n, st3_v]
    | 4, h1 => have hk1 : k1 ≠ 0 := fun z => h1 ⟨rfl, z⟩; simp only [cW, if_neg hk1]
    | 5, h1 => rfl
    | 6, h1 => rfl
    | 7, h1 => rfl
    | 8, h1 => simp [cW, eEn, ePt, eSc, eSu, eBP, st3_n, st3_v]
    | 9, h1 => simp [cW, eEn, ePt, eSc, eSu, eBP, st3_n, st3_v]
    | 10, h1 => simp [cW, eEn, ePt, eSc, eSu, eBP, st3_n, st3_v]
    | 11, h1 => simp [cW, eEn, ePt, eSc, eSu, eBP, st3_n, st3_v]
    | 12, h1 => rfl
    | n + 13, h1 => rfl
theorem pK8 (hk : k < g.1) (j : Nat) (v : Int32) : u2 (cW D ad (g, σ) T o) 8 k (eI D 17 (upd (σ 6 k) j v)) = cW D ad (g, st3 σ 6 k j v) T o := by
  funext f1 k1
  unfold u2
  split
  · rename_i h1
    obtain ⟨rfl, rfl⟩ := h1
    simp only [cW, if_pos hk]
    rw [st3_s]
  · rename_i h1
    match f1, h1 with
    | 0, h1 => simp [cW, eEn, ePt, eSc, eSu, eBP, st3_n, st3_v]
    | 1, h1 => simp [cW, eEn, ePt, eSc, eSu, eBP, st3_n, st3_v]
    | 2, h1 => simp [cW, eEn, ePt, eSc, eSu, eBP, st3_n, st3_v]
    | 3, h1 => simp [cW, eEn, ePt, eSc, eSu, eBP, st3_n, st3_v]
    | 4, h1 => simp [cW, eEn, ePt, eSc, eSu, eBP, st3_n, st3_v]
    | 5, h1 => rfl
    | 6, h1 => rfl
    | 7, h1 => rfl
    | 8, h1 => have hk1 : k1 ≠ k := fun z => h1 ⟨rfl, z⟩; simp [cW, eEn, ePt, eSc, eSu, eBP, st3_n, st3_i hk1]
    | 9, h1 => simp [cW, eEn, ePt, eSc, eSu, eBP, st3_n, st3_v]
    | 10, h1 => simp [cW, eEn, ePt, eSc, eSu, eBP, st3_n, st3_v]
    | 11, h1 => simp [cW, eEn, ePt, eSc, eSu, eBP, st3_n, st3_v]
    | 12, h1 => rfl
    | n + 13, h1 => rfl
theorem pK9 (hk : k < 2 * g.2.2) (j : Nat) (v : Int32) : u2 (cW D ad (g, σ) T o) 9 k (eI D 20 (upd (σ 22 k) j v)) = cW D ad (g, st3 σ 22 k j v) T o := by
  funext f1 k1
  unfold u2
  split
  · rename_i h1
    obtain ⟨rfl, rfl⟩ := h1
    simp only [cW, if_pos hk]
    rw [st3_s]
  · rename_i h1
    match f1, h1 with
    | 0, h1 => simp [cW, eEn, ePt, eSc, eSu, eBP, st3_n, st3_v]
    | 1, h1 => simp [cW, eEn, ePt, eSc, eSu, eBP, st3_n, st3_v]
    | 2, h1 => simp [cW, eEn, ePt, eSc, eSu, eBP, st3_n, st3_v]
    | 3, h1 => simp [cW, eEn, ePt, eSc, eSu, eBP, st3_n, st3_v]
    | 4, h1 => simp [cW, eEn, ePt, eSc, eSu, eBP, st3_n, st3_v]
    | 5, h1 => rfl
    | 6, h1 => rfl
    | 7, h1 => rfl
    | 8, h1 => simp [cW, eEn, ePt, eSc, eSu, eBP, st3_n, st3_v]
    | 9, h1 => have hk1 : k1 ≠ k := fun z => h1 ⟨rfl, z⟩; simp [cW, eEn, ePt, eSc, eSu, eBP, st3_n, st3_i hk1]
    | 10, h1 => simp [cW, eEn, ePt, eSc, eSu, eBP, st3_n, st3_v]
    | 11, h1 => simp [cW, eEn, ePt, eSc, eSu, eBP, st3_n, st3_v]
    | 12, h1 => rfl
    | n + 13, h1 => rfl
theorem pK10 (hk : k < 2 * g.2.2) (j : Nat) (v : Int32) : u2 (cW D ad (g, σ) T o) 10 k (eI D 20 (upd (σ 23 k) j v)) = cW D ad (g, st3 σ 23 k j v) T o := by
  funext f1 k1
  unfold u2
  split
  · rename_i h1
    obtain ⟨rfl, rfl⟩ := h1
    simp only [cW, if_pos hk]
    rw [st3_s]
  · rename_i h1
    match f1, h1 with
    | 0, h1 => simp [cW, eEn, ePt, eSc, eSu, eBP, st3_n, st3_v]
    | 1, h1 => simp [cW, eEn, ePt, eSc, eSu, eBP, st3_n, st3_v]
    | 2, h1 => simp [cW, eEn, ePt, eSc, eSu, eBP, st3_n, st3_v]
    | 3, h1 => simp [cW, eEn, ePt, eSc, eSu, eBP, st3_n, st3_v]
    | 4, h1 => simp [cW, eEn, ePt, eSc, eSu, eBP, st3_n, st3_v]
    | 5, h1 => rfl
    | 6, h1 => rfl
    | 7, h1 => rfl
    | 8, h1 => simp [cW, eEn, ePt, eSc, eSu, eBP, st3_n, st3_v]
    | 9, h1 => simp [cW, eEn, ePt, eSc, eSu, eBP, st3_n, st3_v]
    | 10, h1 => have hk1 : k1 ≠ k := fun z => h1 ⟨rfl, z⟩; simp [cW, eEn, ePt, eSc, eSu, eBP, st3_n, st3_i hk1]
    | 11, h1 => simp [cW, eEn, ePt, eSc, eSu, eBP, st3_n, st3_v]
    | 12, h1 => rfl
    | n + 13, h1 => rfl
theorem pK11 (hk : k < 2 * g.2.2) (j : Nat) (v : Int32) : u2 (cW D ad (g, σ) T o) 11 k (eI D 20 (upd (σ 24 k) j v)) = cW D ad (g, st3 σ 24 k j v) T o := by
  funext f1 k1
  unfold u2
  split
  · rename_i h1
    obtain ⟨rfl, rfl⟩ := h1
    simp only [cW, if_pos hk]
    rw [st3_s]
  · rename_i h1
    match f1, h1 with
    | 0, h1 => simp [cW, eEn, ePt, eSc, eSu, eBP, st3_n, st3_v]
    | 1, h1 => simp [cW, eEn, ePt, eSc, eSu, eBP, st3_n, st3_v]
    | 2, h1 => simp [cW, eEn, ePt, eSc, eSu, eBP, st3_n, st3_v]
    | 3, h1 => simp [cW, eEn, ePt, eSc, eSu, eBP, st3_n, st3_v]
    | 4, h1 => simp [cW, eEn, ePt, eSc, eSu, eBP, st3_n, st3_v]
    | 5, h1 => rfl
    | 6, h1 => rfl
    | 7, h1 => rfl
    | 8, h1 => simp [cW, eEn, ePt, eSc, eSu, eBP, st3_n, st3_v]
    | 9, h1 => simp [cW, eEn, ePt, eSc, eSu, eBP, st3_n, st3_v]
    | 10, h1 => simp [cW, eEn, ePt, eSc, eSu, eBP, st3_n, st3_v]
    | 11, h1 => have hk1 : k1 ≠ k := fun z => h1 ⟨rfl, z⟩; simp [cW, eEn, ePt, eSc, eSu, eBP, st3_n, st3_i hk1]
    | 12, h1 => rfl
    | n + 13, h1 => rfl
end CW
