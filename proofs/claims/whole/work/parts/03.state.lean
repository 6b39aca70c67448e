/-! what a state of the system is: memories by attribute, object and place; the cells as functions of them.
attributes: 1 isSwitch 2 first 3 least 4 until 5 changed 6 commands (by priority) 7 present; 8 of 9 increment 10 over 11 ended 12 sent 13 kept; 14 to 15 at 16 last 17 entries 18 when 19 minute 20 tells; 21 count 22 days 23 minutes 24 told (of the class's lists of entries: 2c, 2c+1); 25 clock 26 told -/
abbrev GC : Type := Nat × Nat × Nat
def loF (x : Int32) : Int32 := if x = 1 then 0 else -1000
def hiF (x : Int32) : Int32 := if x = 1 then 1 else 1000
abbrev eEn (ad : Ad) (σ : Me) (k : Nat) : va_E := .inr (0, [.ref (ad 9 k), .ref (ad 10 k), .ref (ad 11 k), .int (σ 21 k 0)])
abbrev ePt (ad : Ad) (σ : Me) (k : Nat) : va_E := .inr (1, [.int (loF (σ 1 k 0)), .int (hiF (σ 1 k 0)), .int (σ 2 k 0), .int (σ 3 k 0), .ref (ad 8 k), .int (σ 7 k 0), .int (σ 4 k 0), .int (σ 5 k 0)])
abbrev eSc (ad : Ad) (σ : Me) (k : Nat) : va_E := .inr (2, [.ref (ad 1 (σ 14 k 0).toNatClampNeg), .int (σ 15 k 0), .ref (ad 0 (2 * k)), .ref (ad 0 (2 * k + 1)), .int (σ 16 k 0)])
abbrev eSu (ad : Ad) (σ : Me) (k : Nat) : va_E := .inr (3, [.ref (ad 1 (σ 8 k 0).toNatClampNeg), .int (σ 9 k 0), .int (σ 10 k 0), .int (σ 13 k 0), .int (σ 12 k 0), .int (1 - σ 11 k 0)])
abbrev eBP (ad : Ad) (g : GC) (σ : Me) : va_E := .inr (4, [.ref (ad 7 0), .ref (ad 7 1), .ref (ad 7 2), .int (nI g.1), .int (nI g.2.1), .int (nI g.2.2), .int (σ 25 0 0), .int (σ 26 0 0)])
abbrev eMo (ad : Ad) (h : GC) (τ : Me) (th : Int32) : va_E := .inr (5, [.int (τ 25 0 0), .int (nI h.1), .int (nI h.2.1), .int (nI h.2.2), .int (τ 26 0 0), .ref (ad 12 0), .ref (ad 12 1), .ref (ad 12 2), .ref (ad 12 3), .ref (ad 12 4), .ref (ad 12 5), .ref (ad 12 6), .ref (ad 12 7), .ref (ad 12 8), .ref (ad 12 9), .ref (ad 12 10), .ref (ad 12 11), .ref (ad 12 12), .ref (ad 12 13), .ref (ad 12 14), .ref (ad 12 15), .ref (ad 12 16), .ref (ad 12 17), .ref (ad 12 18), .int th])
abbrev eOu (D : va_G) (o : Int64) : va_E := eL D 1 (fun j => if j = 0 then o else 0)
abbrev fP (ad : Ad) (f n : Nat) : Nat → Option Nat := fun j => if j < n then some (ad f j) else none
def mAr (D : va_G) (τ : Me) (k : Nat) : Option va_E :=
  match k with
  | 0 => some (eZ D 16 (fun q => τ 1 q 0))
  | 1 => some (eI D 16 (fun q => τ 2 q 0))
  | 2 => some (eI D 16 (fun q => τ 3 q 0))
  | 3 => some (eI D 16 (fun q => τ 4 q 0))
  | 4 => some (eI D 16 (fun q => τ 5 q 0))
  | 5 => some (eI D 256 (fun q => τ 6 (q / 16) (q % 16 + 1)))
  | 6 => some (eI D 30 (fun q => τ 8 q 0))
  | 7 => some (eI D 30 (fun q => τ 9 q 0))
  | 8 => some (eI D 30 (fun q => τ 10 q 0))
  | 9 => some (eZ D 30 (fun q => τ 11 q 0))
  | 10 => some (eI D 30 (fun q => τ 12 q 0))
  | 11 => some (eI D 30 (fun q => τ 13 q 0))
  | 12 => some (eI D 4 (fun q => τ 14 q 0))
  | 13 => some (eI D 4 (fun q => τ 15 q 0))
  | 14 => some (eI D 4 (fun q => τ 16 q 0))
  | 15 => some (eI D 4 (fun q => τ 17 q 0))
  | 16 => some (eI D 80 (fun q => τ 18 (q / 20) (q % 20)))
  | 17 => some (eI D 80 (fun q => τ 19 (q / 20) (q % 20)))
  | 18 => some (eI D 80 (fun q => τ 20 (q / 20) (q % 20)))
  | _ => none
def cW (D : va_G) (ad : Ad) (S : GC × Me) (T : GC × Me × Int32) (o : Int64) : Wd := fun f k =>
  match f with
  | 0 => if k < 2 * S.1.2.2 then some (eEn ad S.2 k) else none
  | 1 => if k < S.1.1 then some (ePt ad S.2 k) else none
  | 2 => if k < S.1.2.2 then some (eSc ad S.2 k) else none
  | 3 => if k < S.1.2.1 then some (eSu ad S.2 k) else none
  | 4 => if k = 0 then some (eBP ad S.1 S.2) else none
  | 5 => if k = 0 then some (eMo ad T.1 T.2.1 T.2.2) else none
  | 6 => if k = 0 then some (eOu D o) else none
  | 7 => if k = 0 then some (eR D 103 16 (fP ad 1 S.1.1)) else if k = 1 then some (eR D 104 30 (fP ad 3 S.1.2.1)) else if k = 2 then some (eR D 105 4 (fP ad 2 S.1.2.2)) else none
  | 8 => if k < S.1.1 then some (eI D 17 (S.2 6 k)) else none
  | 9 => if k < 2 * S.1.2.2 then some (eI D 20 (S.2 22 k)) else none
  | 10 => if k < 2 * S.1.2.2 then some (eI D 20 (S.2 23 k)) else none
  | 11 => if k < 2 * S.1.2.2 then some (eI D 20 (S.2 24 k)) else none
  | 12 => mAr D T.2.1 k
  | _ => none
theorem st3_n {σ : Me} {a i j a1 : Nat} {v : Int32} (h : a1 ≠ a) : st3 σ a i j v a1 = σ a1 := by funext i1 j1; simp [st3, h]
theorem st3_i {σ : Me} {a i j a1 i1 : Nat} {v : Int32} (h : i1 ≠ i) : st3 σ a i j v a1 i1 = σ a1 i1 := by funext j1; simp [st3, h]
theorem st3_s {σ : Me} {a i j : Nat} {v : Int32} : st3 σ a i j v a i = upd (σ a i) j v := by funext j1; simp [st3, upd]
theorem st3_v {σ : Me} {a i j : Nat} {v : Int32} : st3 σ a i j v a i j = v := by simp [st3]
theorem st3_j {σ : Me} {a i j a1 i1 j1 : Nat} {v : Int32} (h : j1 ≠ j) : st3 σ a i j v a1 i1 j1 = σ a1 i1 j1 := by simp [st3, h]
section CW
variable {D : va_G} {ad : Ad} {g h : GC} {σ τ : Me} {S : GC × Me} {T : GC × Me × Int32} {th : Int32} {o : Int64} {k : Nat}
theorem cW_0 (hk : k < 2 * g.2.2) : cW D ad (g, σ) T o 0 k = some (eEn ad σ k) := by show (if k < 2 * g.2.2 then _ else _) = _; rw [if_pos hk]
theorem cW_1 (hk : k < g.1) : cW D ad (g, σ) T o 1 k = some (ePt ad σ k) := by show (if k < g.1 then _ else _) = _; rw [if_pos hk]
theorem cW_2 (hk : k < g.2.2) : cW D ad (g, σ) T o 2 k = some (eSc ad σ k) := by show (if k < g.2.2 then _ else _) = _; rw [if_pos hk]
theorem cW_3 (hk : k < g.2.1) : cW D ad (g, σ) T o 3 k = some (eSu ad σ k) := by show (if k < g.2.1 then _ else _) = _; rw [if_pos hk]
theorem cW_8 (hk : k < g.1) : cW D ad (g, σ) T o 8 k = some (eI D 17 (σ 6 k)) := by show (if k < g.1 then _ else _) = _; rw [if_pos hk]
theorem cW_9 (hk : k < 2 * g.2.2) : cW D ad (g, σ) T o 9 k = some (eI D 20 (σ 22 k)) := by show (if k < 2 * g.2.2 then _ else _) = _; rw [if_pos hk]
theorem cW_10 (hk : k < 2 * g.2.2) : cW D ad (g, σ) T o 10 k = some (eI D 20 (σ 23 k)) := by show (if k < 2 * g.2.2 then _ else _) = _; rw [if_pos hk]
theorem cW_11 (hk : k < 2 * g.2.2) : cW D ad (g, σ) T o 11 k = some (eI D 20 (σ 24 k)) := by show (if k < 2 * g.2.2 then _ else _) = _; rw [if_pos hk]
theorem cW_4 : cW D ad (g, σ) T o 4 0 = some (eBP ad g σ) := rfl
theorem cW_5 : cW D ad S (h, τ, th) o 5 0 = some (eMo ad h τ th) := rfl
theorem cW_6 : cW D ad S T o 6 0 = some (eOu D o) := rfl
theorem cW_70 : cW D ad (g, σ) T o 7 0 = some (eR D 103 16 (fP ad 1 g.1)) := rfl
theorem cW_71 : cW D ad (g, σ) T o 7 1 = some (eR D 104 30 (fP ad 3 g.2.1)) := rfl
theorem cW_72 : cW D ad (g, σ) T o 7 2 = some (eR D 105 4 (fP ad 2 g.2.2)) := rfl
theorem cW_12_0 : cW D ad S (h, τ, th) o 12 0 = some (eZ D 16 (fun q => τ 1 q 0)) := rfl
theorem cW_12_1 : cW D ad S (h, τ, th) o 12 1 = some (eI D 16 (fun q => τ 2 q 0)) := rfl
theorem cW_12_2 : cW D ad S (h, τ, th) o 12 2 = some (eI D 16 (fun q => τ 3 q 0)) := rfl
theorem cW_12_3 : cW D ad S (h, τ, th) o 12 3 = some (eI D 16 (fun q => τ 4 q 0)) := rfl
theorem cW_12_4 : cW D ad S (h, τ, th) o 12 4 = some (eI D 16 (fun q => τ 5 q 0)) := rfl
theorem cW_12_5 : cW D ad S (h, τ, th) o 12 5 = some (eI D 256 (fun q => τ 6 (q / 16) (q % 16 + 1))) := rfl
theorem cW_12_6 : cW D ad S (h, τ, th) o 12 6 = some (eI D 30 (fun q => τ 8 q 0)) := rfl
theorem cW_12_7 : cW D ad S (h, τ, th) o 12 7 = some (eI D 30 (fun q => τ 9 q 0)) := rfl
theorem cW_12_8 : cW D ad S (h, τ, th) o 12 8 = some (eI D 30 (fun q => τ 10 q 0)) := rfl
theorem cW_12_9 : cW D ad S (h, τ, th) o 12 9 = some (eZ D 30 (fun q => τ 11 q 0)) := rfl
theorem cW_12_10 : cW D ad S (h, τ, th) o 12 10 = some (eI D 30 (fun q => τ 12 q 0)) := rfl
theorem cW_12_11 : cW D ad S (h, τ, th) o 12 11 = some (eI D 30 (fun q => τ 13 q 0)) := rfl
theorem cW_12_12 : cW D ad S (h, τ, th) o 12 12 = some (eI D 4 (fun q => τ 14 q 0)) := rfl
theorem cW_12_13 : cW D ad S (h, τ, th) o 12 13 = some (eI D 4 (fun q => τ 15 q 0)) := rfl
theorem cW_12_14 : cW D ad S (h, τ, th) o 12 14 = some (eI D 4 (fun q => τ 16 q 0)) := rfl
theorem cW_12_15 : cW D ad S (h, τ, th) o 12 15 = some (eI D 4 (fun q => τ 17 q 0)) := rfl
theorem cW_12_16 : cW D ad S (h, τ, th) o 12 16 = some (eI D 80 (fun q => τ 18 (q / 20) (q % 20))) := rfl
theorem cW_12_17 : cW D ad S (h, τ, th) o 12 17 = some (eI D 80 (fun q => τ 19 (q / 20) (q % 20))) := rfl
theorem cW_12_18 : cW D ad S (h, τ, th) o 12 18 = some (eI D 80 (fun q => τ 20 (q / 20) (q % 20))) := rfl
theorem pE3 (hk : k < 2 * g.2.2) (v : Int32) : u2 (cW D ad (g, σ) T o) 0 k (.inr (0, [.ref (ad 9 k), .ref (ad 10 k), .ref (ad 11 k), .int v])) = cW D ad (g, st3 σ 21 k 0 v) T o := by
  funext f1 k1
  unfold u2
  split
  · rename_i h1
    obtain ⟨rfl, rfl⟩ := h1
    simp only [cW, if_pos hk]
    simp [eEn, ePt, eSc, eSu, st3_n, st3_v]
  · rename_i h1
    match f1, h1 with
    | 0, h1 => have hk1 : k1 ≠ k := fun z => h1 ⟨rfl, z⟩; simp [cW, eEn, ePt, eSc, eSu, eBP, eMo, st3_n, st3_i hk1]
    | 1, h1 => simp [cW, eEn, ePt, eSc, eSu, eBP, eMo, st3_n, st3_v]
    | 2, h1 => simp [cW, eEn, ePt, eSc, eSu, eBP, eMo, st3_n, st3_v]
    | 3, h1 => simp [cW, eEn, ePt, eSc, eSu, eBP, eMo, st3_n, st3_v]
    | 4, h1 => simp [cW, eEn, ePt, eSc, eSu, eBP, eMo, st3_n, st3_v]
    | 5, h1 => rfl
    | 6, h1 => rfl
    | 7, h1 => rfl
    | 8, h1 => simp [cW, eEn, ePt, eSc, eSu, eBP, eMo, st3_n, st3_v]
    | 9, h1 => simp [cW, eEn, ePt, eSc, eSu, eBP, eMo, st3_n, st3_v]
    | 10, h1 => simp [cW, eEn, ePt, eSc, eSu, eBP, eMo, st3_n, st3_v]
    | 11, h1 => simp [cW, eEn, ePt, eSc, eSu, eBP, eMo, st3_n, st3_v]
    | 12, h1 => rfl
    | n + 13, h1 => rfl
theorem pP5 (hk : k < g.1) (v : Int32) : u2 (cW D ad (g, σ) T o) 1 k (.inr (1, [.int (loF (σ 1 k 0)), .int (hiF (σ 1 k 0)), .int (σ 2 k 0), .int (σ 3 k 0), .ref (ad 8 k), .int v, .int (σ 4 k 0), .int (σ 5 k 0)])) = cW D ad (g, st3 σ 7 k 0 v) T o := by
  funext f1 k1
  unfold u2
  split
  · rename_i h1
    obtain ⟨rfl, rfl⟩ := h1
    simp only [cW, if_pos hk]
    simp [eEn, ePt, eSc, eSu, st3_n, st3_v]
  · rename_i h1
    match f1, h1 with
    | 0, h1 => simp [cW, eEn, ePt, eSc, eSu, eBP, eMo, st3_n, st3_v]
    | 1, h1 => have hk1 : k1 ≠ k := fun z => h1 ⟨rfl, z⟩; simp [cW, eEn, ePt, eSc, eSu, eBP, eMo, st3_n, st3_i hk1]
    | 2, h1 => simp [cW, eEn, ePt, eSc, eSu, eBP, eMo, st3_n, st3_v]
    | 3, h1 => simp [cW, eEn, ePt, eSc, eSu, eBP, eMo, st3_n, st3_v]
    | 4, h1 => simp [cW, eEn, ePt, eSc, eSu, eBP, eMo, st3_n, st3_v]
    | 5, h1 => rfl
    | 6, h1 => rfl
    | 7, h1 => rfl
    | 8, h1 => simp [cW, eEn, ePt, eSc, eSu, eBP, eMo, st3_n, st3_v]
    | 9, h1 => simp [cW, eEn, ePt, eSc, eSu, eBP, eMo, st3_n, st3_v]
    | 10, h1 => simp [cW, eEn, ePt, eSc, eSu, eBP, eMo, st3_n, st3_v]
    | 11, h1 => simp [cW, eEn, ePt, eSc, eSu, eBP, eMo, st3_n, st3_v]
    | 12, h1 => rfl
    | n + 13, h1 => rfl
theorem pP6 (hk : k < g.1) (v : Int32) : u2 (cW D ad (g, σ) T o) 1 k (.inr (1, [.int (loF (σ 1 k 0)), .int (hiF (σ 1 k 0)), .int (σ 2 k 0), .int (σ 3 k 0), .ref (ad 8 k), .int (σ 7 k 0), .int v, .int (σ 5 k 0)])) = cW D ad (g, st3 σ 4 k 0 v) T o := by
  funext f1 k1
  unfold u2
  split
  · rename_i h1
    obtain ⟨rfl, rfl⟩ := h1
    simp only [cW, if_pos hk]
    simp [eEn, ePt, eSc, eSu, st3_n, st3_v]
  · rename_i h1
    match f1, h1 with
    | 0, h1 => simp [cW, eEn, ePt, eSc, eSu, eBP, eMo, st3_n, st3_v]
    | 1, h1 => have hk1 : k1 ≠ k := fun z => h1 ⟨rfl, z⟩; simp [cW, eEn, ePt, eSc, eSu, eBP, eMo, st3_n, st3_i hk1]
    | 2, h1 => simp [cW, eEn, ePt, eSc, eSu, eBP, eMo, st3_n, st3_v]
    | 3, h1 => simp [cW, eEn, ePt, eSc, eSu, eBP, eMo, st3_n, st3_v]
    | 4, h1 => simp [cW, eEn, ePt, eSc, eSu, eBP, eMo, st3_n, st3_v]
    | 5, h1 => rfl
    | 6, h1 => rfl
    | 7, h1 => rfl
    | 8, h1 => simp [cW, eEn, ePt, eSc, eSu, eBP, eMo, st3_n, st3_v]
    | 9, h1 => simp [cW, eEn, ePt, eSc, eSu, eBP, eMo, st3_n, st3_v]
    | 10, h1 => simp [cW, eEn, ePt, eSc, eSu, eBP, eMo, st3_n, st3_v]
    | 11, h1 => simp [cW, eEn, ePt, eSc, eSu, eBP, eMo, st3_n, st3_v]
    | 12, h1 => rfl
    | n + 13, h1 => rfl
theorem pP7 (hk : k < g.1) (v : Int32) : u2 (cW D ad (g, σ) T o) 1 k (.inr (1, [.int (loF (σ 1 k 0)), .int (hiF (σ 1 k 0)), .int (σ 2 k 0), .int (σ 3 k 0), .ref (ad 8 k), .int (σ 7 k 0), .int (σ 4 k 0), .int v])) = cW D ad (g, st3 σ 5 k 0 v) T o := by
  funext f1 k1
  unfold u2
  split
  · rename_i h1
    obtain ⟨rfl, rfl⟩ := h1
    simp only [cW, if_pos hk]
    simp [eEn, ePt, eSc, eSu, st3_n, st3_v]
  · rename_i h1
    match f1, h1 with
    | 0, h1 => simp [cW, eEn, ePt, eSc, eSu, eBP, eMo, st3_n, st3_v]
    | 1, h1 => have hk1 : k1 ≠ k := fun z => h1 ⟨rfl, z⟩; simp [cW, eEn, ePt, eSc, eSu, eBP, eMo, st3_n, st3_i hk1]
    | 2, h1 => simp [cW, eEn, ePt, eSc, eSu, eBP, eMo, st3_n, st3_v]
    | 3, h1 => simp [cW, eEn, ePt, eSc, eSu, eBP, eMo, st3_n, st3_v]
    | 4, h1 => simp [cW, eEn, ePt, eSc, eSu, eBP, eMo, st3_n, st3_v]
    | 5, h1 => rfl
    | 6, h1 => rfl
    | 7, h1 => rfl
    | 8, h1 => simp [cW, eEn, ePt, eSc, eSu, eBP, eMo, st3_n, st3_v]
    | 9, h1 => simp [cW, eEn, ePt, eSc, eSu, eBP, eMo, st3_n, st3_v]
    | 10, h1 => simp [cW, eEn, ePt, eSc, eSu, eBP, eMo, st3_n, st3_v]
    | 11, h1 => simp [cW, eEn, ePt, eSc, eSu, eBP, eMo, st3_n, st3_v]
    | 12, h1 => rfl
    | n + 13, h1 => rfl
theorem pC4 (hk : k < g.2.2) (v : Int32) : u2 (cW D ad (g, σ) T o) 2 k (.inr (2, [.ref (ad 1 (σ 14 k 0).toNatClampNeg), .int (σ 15 k 0), .ref (ad 0 (2 * k)), .ref (ad 0 (2 * k + 1)), .int v])) = cW D ad (g, st3 σ 16 k 0 v) T o := by
  funext f1 k1
  unfold u2
  split
  · rename_i h1
    obtain ⟨rfl, rfl⟩ := h1
    simp only [cW, if_pos hk]
    simp [eEn, ePt, eSc, eSu, st3_n, st3_v]
  · rename_i h1
    match f1, h1 with
    | 0, h1 => simp [cW, eEn, ePt, eSc, eSu, eBP, eMo, st3_n, st3_v]
    | 1, h1 => simp [cW, eEn, ePt, eSc, eSu, eBP, eMo, st3_n, st3_v]
    | 2, h1 => have hk1 : k1 ≠ k := fun z => h1 ⟨rfl, z⟩; simp [cW, eEn, ePt, eSc, eSu, eBP, eMo, st3_n, st3_i hk1]
    | 3, h1 => simp [cW, eEn, ePt, eSc, eSu, eBP, eMo, st3_n, st3_v]
    | 4, h1 => simp [cW, eEn, ePt, eSc, eSu, eBP, eMo, st3_n, st3_v]
    | 5, h1 => rfl
    | 6, h1 => rfl
    | 7, h1 => rfl
    | 8, h1 => simp [cW, eEn, ePt, eSc, eSu, eBP, eMo, st3_n, st3_v]
    | 9, h1 => simp [cW, eEn, ePt, eSc, eSu, eBP, eMo, st3_n, st3_v]
    | 10, h1 => simp [cW, eEn, ePt, eSc, eSu, eBP, eMo, st3_n, st3_v]
    | 11, h1 => simp [cW, eEn, ePt, eSc, eSu, eBP, eMo, st3_n, st3_v]
    | 12, h1 => rfl
    | n + 13, h1 => rfl
theorem pS3 (hk : k < g.2.1) (v : Int32) : u2 (cW D ad (g, σ) T o) 3 k (.inr (3, [.ref (ad 1 (σ 8 k 0).toNatClampNeg), .int (σ 9 k 0), .int (σ 10 k 0), .int v, .int (σ 12 k 0), .int (1 - σ 11 k 0)])) = cW D ad (g, st3 σ 13 k 0 v) T o := by
  funext f1 k1
  unfold u2
  split
  · rename_i h1
    obtain ⟨rfl, rfl⟩ := h1
    simp only [cW, if_pos hk]
    simp [eEn, ePt, eSc, eSu, st3_n, st3_v]
  · rename_i h1
    match f1, h1 with
    | 0, h1 => simp [cW, eEn, ePt, eSc, eSu, eBP, eMo, st3_n, st3_v]
    | 1, h1 => simp [cW, eEn, ePt, eSc, eSu, eBP, eMo, st3_n, st3_v]
    | 2, h1 => simp [cW, eEn, ePt, eSc, eSu, eBP, eMo, st3_n, st3_v]
    | 3, h1 => have hk1 : k1 ≠ k := fun z => h1 ⟨rfl, z⟩; simp [cW, eEn, ePt, eSc, eSu, eBP, eMo, st3_n, st3_i hk1]
    | 4, h1 => simp [cW, eEn, ePt, eSc, eSu, eBP, eMo, st3_n, st3_v]
    | 5, h1 => rfl
    | 6, h1 => rfl
    | 7, h1 => rfl
    | 8, h1 => simp [cW, eEn, ePt, eSc, eSu, eBP, eMo, st3_n, st3_v]
    | 9, h1 => simp [cW, eEn, ePt, eSc, eSu, eBP, eMo, st3_n, st3_v]
    | 10, h1 => simp [cW, eEn, ePt, eSc, eSu, eBP, eMo, st3_n, st3_v]
    | 11, h1 => simp [cW, eEn, ePt, eSc, eSu, eBP, eMo, st3_n, st3_v]
    | 12, h1 => rfl
    | n + 13, h1 => rfl
theorem pS4 (hk : k < g.2.1) (v : Int32) : u2 (cW D ad (g, σ) T o) 3 k (.inr (3, [.ref (ad 1 (σ 8 k 0).toNatClampNeg), .int (σ 9 k 0), .int (σ 10 k 0), .int (σ 13 k 0), .int v, .int (1 - σ 11 k 0)])) = cW D ad (g, st3 σ 12 k 0 v) T o := by
  funext f1 k1
  unfold u2
  split
  · rename_i h1
    obtain ⟨rfl, rfl⟩ := h1
    simp only [cW, if_pos hk]
    simp [eEn, ePt, eSc, eSu, st3_n, st3_v]
  · rename_i h1
    match f1, h1 with
    | 0, h1 => simp [cW, eEn, ePt, eSc, eSu, eBP, eMo, st3_n, st3_v]
    | 1, h1 => simp [cW, eEn, ePt, eSc, eSu, eBP, eMo, st3_n, st3_v]
    | 2, h1 => simp [cW, eEn, ePt, eSc, eSu, eBP, eMo, st3_n, st3_v]
    | 3, h1 => have hk1 : k1 ≠ k := fun z => h1 ⟨rfl, z⟩; simp [cW, eEn, ePt, eSc, eSu, eBP, eMo, st3_n, st3_i hk1]
    | 4, h1 => simp [cW, eEn, ePt, eSc, eSu, eBP, eMo, st3_n, st3_v]
    | 5, h1 => rfl
    | 6, h1 => rfl
    | 7, h1 => rfl
    | 8, h1 => simp [cW, eEn, ePt, eSc, eSu, eBP, eMo, st3_n, st3_v]
    | 9, h1 => simp [cW, eEn, ePt, eSc, eSu, eBP, eMo, st3_n, st3_v]
    | 10, h1 => simp [cW, eEn, ePt, eSc, eSu, eBP, eMo, st3_n, st3_v]
    | 11, h1 => simp [cW, eEn, ePt, eSc, eSu, eBP, eMo, st3_n, st3_v]
    | 12, h1 => rfl
    | n + 13, h1 => rfl
theorem pS5 (hk : k < g.2.1) (v : Int32) : u2 (cW D ad (g, σ) T o) 3 k (.inr (3, [.ref (ad 1 (σ 8 k 0).toNatClampNeg), .int (σ 9 k 0), .int (σ 10 k 0), .int (σ 13 k 0), .int (σ 12 k 0), .int (1 - v)])) = cW D ad (g, st3 σ 11 k 0 v) T o := by
  funext f1 k1
  unfold u2
  split
  · rename_i h1
    obtain ⟨rfl, rfl⟩ := h1
    simp only [cW, if_pos hk]
    simp [eEn, ePt, eSc, eSu, st3_n, st3_v]
  · rename_i h1
    match f1, h1 with
    | 0, h1 => simp [cW, eEn, ePt, eSc, eSu, eBP, eMo, st3_n, st3_v]
    | 1, h1 => simp [cW, eEn, ePt, eSc, eSu, eBP, eMo, st3_n, st3_v]
    | 2, h1 => simp [cW, eEn, ePt, eSc, eSu, eBP, eMo, st3_n, st3_v]
    | 3, h1 => have hk1 : k1 ≠ k := fun z => h1 ⟨rfl, z⟩; simp [cW, eEn, ePt, eSc, eSu, eBP, eMo, st3_n, st3_i hk1]
    | 4, h1 => simp [cW, eEn, ePt, eSc, eSu, eBP, eMo, st3_n, st3_v]
    | 5, h1 => rfl
    | 6, h1 => rfl
    | 7, h1 => rfl
    | 8, h1 => simp [cW, eEn, ePt, eSc, eSu, eBP, eMo, st3_n, st3_v]
    | 9, h1 => simp [cW, eEn, ePt, eSc, eSu, eBP, eMo, st3_n, st3_v]
    | 10, h1 => simp [cW, eEn, ePt, eSc, eSu, eBP, eMo, st3_n, st3_v]
    | 11, h1 => simp [cW, eEn, ePt, eSc, eSu, eBP, eMo, st3_n, st3_v]
    | 12, h1 => rfl
    | n + 13, h1 => rfl
theorem pB6 (v : Int32) : u2 (cW D ad (g, σ) T o) 4 0 (.inr (4, [.ref (ad 7 0), .ref (ad 7 1), .ref (ad 7 2), .int (nI g.1), .int (nI g.2.1), .int (nI g.2.2), .int v, .int (σ 26 0 0)])) = cW D ad (g, st3 σ 25 0 0 v) T o := by
  funext f1 k1
  unfold u2
  split
  · rename_i h1
    obtain ⟨rfl, rfl⟩ := h1
    simp [cW, eEn, ePt, eSc, eSu, eBP, eMo, st3_n, st3_v]
  · rename_i h1
    match f1, h1 with
    | 0, h1 => simp [cW, eEn, ePt, eSc, eSu, eBP, eMo, st3_n, st3_v]
    | 1, h1 => simp [cW, eEn, ePt, eSc, eSu, eBP, eMo, st3_n, st3_v]
    | 2, h1 => simp [cW, eEn, ePt, eSc, eSu, eBP, eMo, st3_n, st3_v]
    | 3, h1 => simp [cW, eEn, ePt, eSc, eSu, eBP, eMo, st3_n, st3_v]
    | 4, h1 => have hk1 : k1 ≠ 0 := fun z => h1 ⟨rfl, z⟩; simp only [cW, if_neg hk1]
    | 5, h1 => rfl
    | 6, h1 => rfl
    | 7, h1 => rfl
    | 8, h1 => simp [cW, eEn, ePt, eSc, eSu, eBP, eMo, st3_n, st3_v]
    | 9, h1 => simp [cW, eEn, ePt, eSc, eSu, eBP, eMo, st3_n, st3_v]
    | 10, h1 => simp [cW, eEn, ePt, eSc, eSu, eBP, eMo, st3_n, st3_v]
    | 11, h1 => simp [cW, eEn, ePt, eSc, eSu, eBP, eMo, st3_n, st3_v]
    | 12, h1 => rfl
    | n + 13, h1 => rfl
theorem pB7 (v : Int32) : u2 (cW D ad (g, σ) T o) 4 0 (.inr (4, [.ref (ad 7 0), .ref (ad 7 1), .ref (ad 7 2), .int (nI g.1), .int (nI g.2.1), .int (nI g.2.2), .int (σ 25 0 0), .int v])) = cW D ad (g, st3 σ 26 0 0 v) T o := by
  funext f1 k1
  unfold u2
  split
  · rename_i h1
    obtain ⟨rfl, rfl⟩ := h1
    simp [cW, eEn, ePt, eSc, eSu, eBP, eMo, st3_n, st3_v]
  · rename_i h1
    match f1, h1 with
    | 0, h1 => simp [cW, eEn, ePt, eSc, eSu, eBP, eMo, st3_n, st3_v]
    | 1, h1 => simp [cW, eEn, ePt, eSc, eSu, eBP, eMo, st3_n, st3_v]
    | 2, h1 => simp [cW, eEn, ePt, eSc, eSu, eBP, eMo, st3_n, st3_v]
    | 3, h1 => simp [cW, eEn, ePt, eSc, eSu, eBP, eMo, st3_n, st3_v]
    | 4, h1 => have hk1 : k1 ≠ 0 := fun z => h1 ⟨rfl, z⟩; simp only [cW, if_neg hk1]
    | 5, h1 => rfl
    | 6, h1 => rfl
    | 7, h1 => rfl
    | 8, h1 => simp [cW, eEn, ePt, eSc, eSu, eBP, eMo, st3_n, st3_v]
    | 9, h1 => simp [cW, eEn, ePt, eSc, eSu, eBP, eMo, st3_n, st3_v]
    | 10, h1 => simp [cW, eEn, ePt, eSc, eSu, eBP, eMo, st3_n, st3_v]
    | 11, h1 => simp [cW, eEn, ePt, eSc, eSu, eBP, eMo, st3_n, st3_v]
    | 12, h1 => rfl
    | n + 13, h1 => rfl
theorem pK8 (hk : k < g.1) (j : Nat) (v : Int32) : u2 (cW D ad (g, σ) T o) 8 k (eI D 17 (upd (σ 6 k) j v)) = cW D ad (g, st3 σ 6 k j v) T o := by
  funext f1 k1
  unfold u2
  split
  · rename_i h1
    obtain ⟨rfl, rfl⟩ := h1
    simp only [cW, if_pos hk]
    rw [st3_s]
  · rename_i h1
    match f1, h1 with
    | 0, h1 => simp [cW, eEn, ePt, eSc, eSu, eBP, eMo, st3_n, st3_v]
    | 1, h1 => simp [cW, eEn, ePt, eSc, eSu, eBP, eMo, st3_n, st3_v]
    | 2, h1 => simp [cW, eEn, ePt, eSc, eSu, eBP, eMo, st3_n, st3_v]
    | 3, h1 => simp [cW, eEn, ePt, eSc, eSu, eBP, eMo, st3_n, st3_v]
    | 4, h1 => simp [cW, eEn, ePt, eSc, eSu, eBP, eMo, st3_n, st3_v]
    | 5, h1 => rfl
    | 6, h1 => rfl
    | 7, h1 => rfl
    | 8, h1 => have hk1 : k1 ≠ k := fun z => h1 ⟨rfl, z⟩; simp [cW, eEn, ePt, eSc, eSu, eBP, eMo, st3_n, st3_i hk1]
    | 9, h1 => simp [cW, eEn, ePt, eSc, eSu, eBP, eMo, st3_n, st3_v]
    | 10, h1 => simp [cW, eEn, ePt, eSc, eSu, eBP, eMo, st3_n, st3_v]
    | 11, h1 => simp [cW, eEn, ePt, eSc, eSu, eBP, eMo, st3_n, st3_v]
    | 12, h1 => rfl
    | n + 13, h1 => rfl
theorem pK9 (hk : k < 2 * g.2.2) (j : Nat) (v : Int32) : u2 (cW D ad (g, σ) T o) 9 k (eI D 20 (upd (σ 22 k) j v)) = cW D ad (g, st3 σ 22 k j v) T o := by
  funext f1 k1
  unfold u2
  split
  · rename_i h1
    obtain ⟨rfl, rfl⟩ := h1
    simp only [cW, if_pos hk]
    rw [st3_s]
  · rename_i h1
    match f1, h1 with
    | 0, h1 => simp [cW, eEn, ePt, eSc, eSu, eBP, eMo, st3_n, st3_v]
    | 1, h1 => simp [cW, eEn, ePt, eSc, eSu, eBP, eMo, st3_n, st3_v]
    | 2, h1 => simp [cW, eEn, ePt, eSc, eSu, eBP, eMo, st3_n, st3_v]
    | 3, h1 => simp [cW, eEn, ePt, eSc, eSu, eBP, eMo, st3_n, st3_v]
    | 4, h1 => simp [cW, eEn, ePt, eSc, eSu, eBP, eMo, st3_n, st3_v]
    | 5, h1 => rfl
    | 6, h1 => rfl
    | 7, h1 => rfl
    | 8, h1 => simp [cW, eEn, ePt, eSc, eSu, eBP, eMo, st3_n, st3_v]
    | 9, h1 => have hk1 : k1 ≠ k := fun z => h1 ⟨rfl, z⟩; simp [cW, eEn, ePt, eSc, eSu, eBP, eMo, st3_n, st3_i hk1]
    | 10, h1 => simp [cW, eEn, ePt, eSc, eSu, eBP, eMo, st3_n, st3_v]
    | 11, h1 => simp [cW, eEn, ePt, eSc, eSu, eBP, eMo, st3_n, st3_v]
    | 12, h1 => rfl
    | n + 13, h1 => rfl
theorem pK10 (hk : k < 2 * g.2.2) (j : Nat) (v : Int32) : u2 (cW D ad (g, σ) T o) 10 k (eI D 20 (upd (σ 23 k) j v)) = cW D ad (g, st3 σ 23 k j v) T o := by
  funext f1 k1
  unfold u2
  split
  · rename_i h1
    obtain ⟨rfl, rfl⟩ := h1
    simp only [cW, if_pos hk]
    rw [st3_s]
  · rename_i h1
    match f1, h1 with
    | 0, h1 => simp [cW, eEn, ePt, eSc, eSu, eBP, eMo, st3_n, st3_v]
    | 1, h1 => simp [cW, eEn, ePt, eSc, eSu, eBP, eMo, st3_n, st3_v]
    | 2, h1 => simp [cW, eEn, ePt, eSc, eSu, eBP, eMo, st3_n, st3_v]
    | 3, h1 => simp [cW, eEn, ePt, eSc, eSu, eBP, eMo, st3_n, st3_v]
    | 4, h1 => simp [cW, eEn, ePt, eSc, eSu, eBP, eMo, st3_n, st3_v]
    | 5, h1 => rfl
    | 6, h1 => rfl
    | 7, h1 => rfl
    | 8, h1 => simp [cW, eEn, ePt, eSc, eSu, eBP, eMo, st3_n, st3_v]
    | 9, h1 => simp [cW, eEn, ePt, eSc, eSu, eBP, eMo, st3_n, st3_v]
    | 10, h1 => have hk1 : k1 ≠ k := fun z => h1 ⟨rfl, z⟩; simp [cW, eEn, ePt, eSc, eSu, eBP, eMo, st3_n, st3_i hk1]
    | 11, h1 => simp [cW, eEn, ePt, eSc, eSu, eBP, eMo, st3_n, st3_v]
    | 12, h1 => rfl
    | n + 13, h1 => rfl
theorem pK11 (hk : k < 2 * g.2.2) (j : Nat) (v : Int32) : u2 (cW D ad (g, σ) T o) 11 k (eI D 20 (upd (σ 24 k) j v)) = cW D ad (g, st3 σ 24 k j v) T o := by
  funext f1 k1
  unfold u2
  split
  · rename_i h1
    obtain ⟨rfl, rfl⟩ := h1
    simp only [cW, if_pos hk]
    rw [st3_s]
  · rename_i h1
    match f1, h1 with
    | 0, h1 => simp [cW, eEn, ePt, eSc, eSu, eBP, eMo, st3_n, st3_v]
    | 1, h1 => simp [cW, eEn, ePt, eSc, eSu, eBP, eMo, st3_n, st3_v]
    | 2, h1 => simp [cW, eEn, ePt, eSc, eSu, eBP, eMo, st3_n, st3_v]
    | 3, h1 => simp [cW, eEn, ePt, eSc, eSu, eBP, eMo, st3_n, st3_v]
    | 4, h1 => simp [cW, eEn, ePt, eSc, eSu, eBP, eMo, st3_n, st3_v]
    | 5, h1 => rfl
    | 6, h1 => rfl
    | 7, h1 => rfl
    | 8, h1 => simp [cW, eEn, ePt, eSc, eSu, eBP, eMo, st3_n, st3_v]
    | 9, h1 => simp [cW, eEn, ePt, eSc, eSu, eBP, eMo, st3_n, st3_v]
    | 10, h1 => simp [cW, eEn, ePt, eSc, eSu, eBP, eMo, st3_n, st3_v]
    | 11, h1 => have hk1 : k1 ≠ k := fun z => h1 ⟨rfl, z⟩; simp [cW, eEn, ePt, eSc, eSu, eBP, eMo, st3_n, st3_i hk1]
    | 12, h1 => rfl
    | n + 13, h1 => rfl
theorem pM0 (v : Int32) : u2 (cW D ad S (h, τ, th) o) 5 0 (.inr (5, [.int v, .int (nI h.1), .int (nI h.2.1), .int (nI h.2.2), .int (τ 26 0 0), .ref (ad 12 0), .ref (ad 12 1), .ref (ad 12 2), .ref (ad 12 3), .ref (ad 12 4), .ref (ad 12 5), .ref (ad 12 6), .ref (ad 12 7), .ref (ad 12 8), .ref (ad 12 9), .ref (ad 12 10), .ref (ad 12 11), .ref (ad 12 12), .ref (ad 12 13), .ref (ad 12 14), .ref (ad 12 15), .ref (ad 12 16), .ref (ad 12 17), .ref (ad 12 18), .int th])) = cW D ad S (h, st3 τ 25 0 0 v, th) o := by
  funext f1 k1
  unfold u2
  split
  · rename_i h1
    obtain ⟨rfl, rfl⟩ := h1
    simp [cW, eMo, st3_n, st3_v]
  · rename_i h1
    match f1, h1 with
    | 0, h1 => rfl
    | 1, h1 => rfl
    | 2, h1 => rfl
    | 3, h1 => rfl
    | 4, h1 => rfl
    | 5, h1 => have hk1 : k1 ≠ 0 := fun z => h1 ⟨rfl, z⟩; simp [cW, hk1]
    | 6, h1 => rfl
    | 7, h1 => rfl
    | 8, h1 => rfl
    | 9, h1 => rfl
    | 10, h1 => rfl
    | 11, h1 => rfl
    | 12, h1 =>
      show mAr D _ k1 = mAr D _ k1
      match k1 with
      | 0 => simp [mAr, st3_n]
      | 1 => simp [mAr, st3_n]
      | 2 => simp [mAr, st3_n]
      | 3 => simp [mAr, st3_n]
      | 4 => simp [mAr, st3_n]
      | 5 => simp [mAr, st3_n]
      | 6 => simp [mAr, st3_n]
      | 7 => simp [mAr, st3_n]
      | 8 => simp [mAr, st3_n]
      | 9 => simp [mAr, st3_n]
      | 10 => simp [mAr, st3_n]
      | 11 => simp [mAr, st3_n]
      | 12 => simp [mAr, st3_n]
      | 13 => simp [mAr, st3_n]
      | 14 => simp [mAr, st3_n]
      | 15 => simp [mAr, st3_n]
      | 16 => simp [mAr, st3_n]
      | 17 => simp [mAr, st3_n]
      | 18 => simp [mAr, st3_n]
      | n + 19 => rfl
    | n + 13, h1 => rfl
theorem pM4 (v : Int32) : u2 (cW D ad S (h, τ, th) o) 5 0 (.inr (5, [.int (τ 25 0 0), .int (nI h.1), .int (nI h.2.1), .int (nI h.2.2), .int v, .ref (ad 12 0), .ref (ad 12 1), .ref (ad 12 2), .ref (ad 12 3), .ref (ad 12 4), .ref (ad 12 5), .ref (ad 12 6), .ref (ad 12 7), .ref (ad 12 8), .ref (ad 12 9), .ref (ad 12 10), .ref (ad 12 11), .ref (ad 12 12), .ref (ad 12 13), .ref (ad 12 14), .ref (ad 12 15), .ref (ad 12 16), .ref (ad 12 17), .ref (ad 12 18), .int th])) = cW D ad S (h, st3 τ 26 0 0 v, th) o := by
  funext f1 k1
  unfold u2
  split
  · rename_i h1
    obtain ⟨rfl, rfl⟩ := h1
    simp [cW, eMo, st3_n, st3_v]
  · rename_i h1
    match f1, h1 with
    | 0, h1 => rfl
    | 1, h1 => rfl
    | 2, h1 => rfl
    | 3, h1 => rfl
    | 4, h1 => rfl
    | 5, h1 => have hk1 : k1 ≠ 0 := fun z => h1 ⟨rfl, z⟩; simp [cW, hk1]
    | 6, h1 => rfl
    | 7, h1 => rfl
    | 8, h1 => rfl
    | 9, h1 => rfl
    | 10, h1 => rfl
    | 11, h1 => rfl
    | 12, h1 =>
      show mAr D _ k1 = mAr D _ k1
      match k1 with
      | 0 => simp [mAr, st3_n]
      | 1 => simp [mAr, st3_n]
      | 2 => simp [mAr, st3_n]
      | 3 => simp [mAr, st3_n]
      | 4 => simp [mAr, st3_n]
      | 5 => simp [mAr, st3_n]
      | 6 => simp [mAr, st3_n]
      | 7 => simp [mAr, st3_n]
      | 8 => simp [mAr, st3_n]
      | 9 => simp [mAr, st3_n]
      | 10 => simp [mAr, st3_n]
      | 11 => simp [mAr, st3_n]
      | 12 => simp [mAr, st3_n]
      | 13 => simp [mAr, st3_n]
      | 14 => simp [mAr, st3_n]
      | 15 => simp [mAr, st3_n]
      | 16 => simp [mAr, st3_n]
      | 17 => simp [mAr, st3_n]
      | 18 => simp [mAr, st3_n]
      | n + 19 => rfl
    | n + 13, h1 => rfl
theorem pM24 (v : Int32) : u2 (cW D ad S (h, τ, th) o) 5 0 (.inr (5, [.int (τ 25 0 0), .int (nI h.1), .int (nI h.2.1), .int (nI h.2.2), .int (τ 26 0 0), .ref (ad 12 0), .ref (ad 12 1), .ref (ad 12 2), .ref (ad 12 3), .ref (ad 12 4), .ref (ad 12 5), .ref (ad 12 6), .ref (ad 12 7), .ref (ad 12 8), .ref (ad 12 9), .ref (ad 12 10), .ref (ad 12 11), .ref (ad 12 12), .ref (ad 12 13), .ref (ad 12 14), .ref (ad 12 15), .ref (ad 12 16), .ref (ad 12 17), .ref (ad 12 18), .int v])) = cW D ad S (h, τ, v) o := by
  funext f1 k1
  unfold u2
  split
  · rename_i h1
    obtain ⟨rfl, rfl⟩ := h1
    simp [cW, eMo, st3_n, st3_v]
  · rename_i h1
    match f1, h1 with
    | 0, h1 => rfl
    | 1, h1 => rfl
    | 2, h1 => rfl
    | 3, h1 => rfl
    | 4, h1 => rfl
    | 5, h1 => have hk1 : k1 ≠ 0 := fun z => h1 ⟨rfl, z⟩; simp [cW, hk1]
    | 6, h1 => rfl
    | 7, h1 => rfl
    | 8, h1 => rfl
    | 9, h1 => rfl
    | 10, h1 => rfl
    | 11, h1 => rfl
    | 12, h1 => rfl
    | n + 13, h1 => rfl
theorem pM1 (v : Nat) : u2 (cW D ad S (h, τ, th) o) 5 0 (.inr (5, [.int (τ 25 0 0), .int (nI v), .int (nI h.2.1), .int (nI h.2.2), .int (τ 26 0 0), .ref (ad 12 0), .ref (ad 12 1), .ref (ad 12 2), .ref (ad 12 3), .ref (ad 12 4), .ref (ad 12 5), .ref (ad 12 6), .ref (ad 12 7), .ref (ad 12 8), .ref (ad 12 9), .ref (ad 12 10), .ref (ad 12 11), .ref (ad 12 12), .ref (ad 12 13), .ref (ad 12 14), .ref (ad 12 15), .ref (ad 12 16), .ref (ad 12 17), .ref (ad 12 18), .int th])) = cW D ad S ((v, h.2), τ, th) o := by
  funext f1 k1
  unfold u2
  split
  · rename_i h1
    obtain ⟨rfl, rfl⟩ := h1
    simp [cW, eMo, st3_n, st3_v]
  · rename_i h1
    match f1, h1 with
    | 0, h1 => rfl
    | 1, h1 => rfl
    | 2, h1 => rfl
    | 3, h1 => rfl
    | 4, h1 => rfl
    | 5, h1 => have hk1 : k1 ≠ 0 := fun z => h1 ⟨rfl, z⟩; simp [cW, hk1]
    | 6, h1 => rfl
    | 7, h1 => rfl
    | 8, h1 => rfl
    | 9, h1 => rfl
    | 10, h1 => rfl
    | 11, h1 => rfl
    | 12, h1 => rfl
    | n + 13, h1 => rfl
theorem pM2 (v : Nat) : u2 (cW D ad S (h, τ, th) o) 5 0 (.inr (5, [.int (τ 25 0 0), .int (nI h.1), .int (nI v), .int (nI h.2.2), .int (τ 26 0 0), .ref (ad 12 0), .ref (ad 12 1), .ref (ad 12 2), .ref (ad 12 3), .ref (ad 12 4), .ref (ad 12 5), .ref (ad 12 6), .ref (ad 12 7), .ref (ad 12 8), .ref (ad 12 9), .ref (ad 12 10), .ref (ad 12 11), .ref (ad 12 12), .ref (ad 12 13), .ref (ad 12 14), .ref (ad 12 15), .ref (ad 12 16), .ref (ad 12 17), .ref (ad 12 18), .int th])) = cW D ad S ((h.1, v, h.2.2), τ, th) o := by
  funext f1 k1
  unfold u2
  split
  · rename_i h1
    obtain ⟨rfl, rfl⟩ := h1
    simp [cW, eMo, st3_n, st3_v]
  · rename_i h1
    match f1, h1 with
    | 0, h1 => rfl
    | 1, h1 => rfl
    | 2, h1 => rfl
    | 3, h1 => rfl
    | 4, h1 => rfl
    | 5, h1 => have hk1 : k1 ≠ 0 := fun z => h1 ⟨rfl, z⟩; simp [cW, hk1]
    | 6, h1 => rfl
    | 7, h1 => rfl
    | 8, h1 => rfl
    | 9, h1 => rfl
    | 10, h1 => rfl
    | 11, h1 => rfl
    | 12, h1 => rfl
    | n + 13, h1 => rfl
theorem pM3 (v : Nat) : u2 (cW D ad S (h, τ, th) o) 5 0 (.inr (5, [.int (τ 25 0 0), .int (nI h.1), .int (nI h.2.1), .int (nI v), .int (τ 26 0 0), .ref (ad 12 0), .ref (ad 12 1), .ref (ad 12 2), .ref (ad 12 3), .ref (ad 12 4), .ref (ad 12 5), .ref (ad 12 6), .ref (ad 12 7), .ref (ad 12 8), .ref (ad 12 9), .ref (ad 12 10), .ref (ad 12 11), .ref (ad 12 12), .ref (ad 12 13), .ref (ad 12 14), .ref (ad 12 15), .ref (ad 12 16), .ref (ad 12 17), .ref (ad 12 18), .int th])) = cW D ad S ((h.1, h.2.1, v), τ, th) o := by
  funext f1 k1
  unfold u2
  split
  · rename_i h1
    obtain ⟨rfl, rfl⟩ := h1
    simp [cW, eMo, st3_n, st3_v]
  · rename_i h1
    match f1, h1 with
    | 0, h1 => rfl
    | 1, h1 => rfl
    | 2, h1 => rfl
    | 3, h1 => rfl
    | 4, h1 => rfl
    | 5, h1 => have hk1 : k1 ≠ 0 := fun z => h1 ⟨rfl, z⟩; simp [cW, hk1]
    | 6, h1 => rfl
    | 7, h1 => rfl
    | 8, h1 => rfl
    | 9, h1 => rfl
    | 10, h1 => rfl
    | 11, h1 => rfl
    | 12, h1 => rfl
    | n + 13, h1 => rfl
theorem pA0 (p : Nat) (v : Int32) : u2 (cW D ad S (h, τ, th) o) 12 0 (eZ D 16 (upd (fun q => τ 1 q 0) p v)) = cW D ad S (h, st3 τ 1 p 0 v, th) o := by
  funext f1 k1
  unfold u2
  split
  · rename_i h1
    obtain ⟨rfl, rfl⟩ := h1
    show some _ = some _
    congr 4
    funext q1
    simp [upd, st3]
  · rename_i h1
    match f1, h1 with
    | 0, h1 => rfl
    | 1, h1 => rfl
    | 2, h1 => rfl
    | 3, h1 => rfl
    | 4, h1 => rfl
    | 5, h1 => simp [cW, eEn, ePt, eSc, eSu, eBP, eMo, st3_n, st3_v]
    | 6, h1 => rfl
    | 7, h1 => rfl
    | 8, h1 => rfl
    | 9, h1 => rfl
    | 10, h1 => rfl
    | 11, h1 => rfl
    | 12, h1 =>
      show mAr D _ k1 = mAr D _ k1
      match k1, h1 with
      | 0, h1 => exact absurd ⟨rfl, rfl⟩ h1
      | 1, h1 => simp [mAr, st3_n]
      | 2, h1 => simp [mAr, st3_n]
      | 3, h1 => simp [mAr, st3_n]
      | 4, h1 => simp [mAr, st3_n]
      | 5, h1 => simp [mAr, st3_n]
      | 6, h1 => simp [mAr, st3_n]
      | 7, h1 => simp [mAr, st3_n]
      | 8, h1 => simp [mAr, st3_n]
      | 9, h1 => simp [mAr, st3_n]
      | 10, h1 => simp [mAr, st3_n]
      | 11, h1 => simp [mAr, st3_n]
      | 12, h1 => simp [mAr, st3_n]
      | 13, h1 => simp [mAr, st3_n]
      | 14, h1 => simp [mAr, st3_n]
      | 15, h1 => simp [mAr, st3_n]
      | 16, h1 => simp [mAr, st3_n]
      | 17, h1 => simp [mAr, st3_n]
      | 18, h1 => simp [mAr, st3_n]
      | n + 19, h1 => rfl
    | n + 13, h1 => rfl
theorem pA1 (p : Nat) (v : Int32) : u2 (cW D ad S (h, τ, th) o) 12 1 (eI D 16 (upd (fun q => τ 2 q 0) p v)) = cW D ad S (h, st3 τ 2 p 0 v, th) o := by
  funext f1 k1
  unfold u2
  split
  · rename_i h1
    obtain ⟨rfl, rfl⟩ := h1
    show some _ = some _
    congr 4
    funext q1
    simp [upd, st3]
  · rename_i h1
    match f1, h1 with
    | 0, h1 => rfl
    | 1, h1 => rfl
    | 2, h1 => rfl
    | 3, h1 => rfl
    | 4, h1 => rfl
    | 5, h1 => simp [cW, eEn, ePt, eSc, eSu, eBP, eMo, st3_n, st3_v]
    | 6, h1 => rfl
    | 7, h1 => rfl
    | 8, h1 => rfl
    | 9, h1 => rfl
    | 10, h1 => rfl
    | 11, h1 => rfl
    | 12, h1 =>
      show mAr D _ k1 = mAr D _ k1
      match k1, h1 with
      | 0, h1 => simp [mAr, st3_n]
      | 1, h1 => exact absurd ⟨rfl, rfl⟩ h1
      | 2, h1 => simp [mAr, st3_n]
      | 3, h1 => simp [mAr, st3_n]
      | 4, h1 => simp [mAr, st3_n]
      | 5, h1 => simp [mAr, st3_n]
      | 6, h1 => simp [mAr, st3_n]
      | 7, h1 => simp [mAr, st3_n]
      | 8, h1 => simp [mAr, st3_n]
      | 9, h1 => simp [mAr, st3_n]
      | 10, h1 => simp [mAr, st3_n]
      | 11, h1 => simp [mAr, st3_n]
      | 12, h1 => simp [mAr, st3_n]
      | 13, h1 => simp [mAr, st3_n]
      | 14, h1 => simp [mAr, st3_n]
      | 15, h1 => simp [mAr, st3_n]
      | 16, h1 => simp [mAr, st3_n]
      | 17, h1 => simp [mAr, st3_n]
      | 18, h1 => simp [mAr, st3_n]
      | n + 19, h1 => rfl
    | n + 13, h1 => rfl
theorem pA2 (p : Nat) (v : Int32) : u2 (cW D ad S (h, τ, th) o) 12 2 (eI D 16 (upd (fun q => τ 3 q 0) p v)) = cW D ad S (h, st3 τ 3 p 0 v, th) o := by
  funext f1 k1
  unfold u2
  split
  · rename_i h1
    obtain ⟨rfl, rfl⟩ := h1
    show some _ = some _
    congr 4
    funext q1
    simp [upd, st3]
  · rename_i h1
    match f1, h1 with
    | 0, h1 => rfl
    | 1, h1 => rfl
    | 2, h1 => rfl
    | 3, h1 => rfl
    | 4, h1 => rfl
    | 5, h1 => simp [cW, eEn, ePt, eSc, eSu, eBP, eMo, st3_n, st3_v]
    | 6, h1 => rfl
    | 7, h1 => rfl
    | 8, h1 => rfl
    | 9, h1 => rfl
    | 10, h1 => rfl
    | 11, h1 => rfl
    | 12, h1 =>
      show mAr D _ k1 = mAr D _ k1
      match k1, h1 with
      | 0, h1 => simp [mAr, st3_n]
      | 1, h1 => simp [mAr, st3_n]
      | 2, h1 => exact absurd ⟨rfl, rfl⟩ h1
      | 3, h1 => simp [mAr, st3_n]
      | 4, h1 => simp [mAr, st3_n]
      | 5, h1 => simp [mAr, st3_n]
      | 6, h1 => simp [mAr, st3_n]
      | 7, h1 => simp [mAr, st3_n]
      | 8, h1 => simp [mAr, st3_n]
      | 9, h1 => simp [mAr, st3_n]
      | 10, h1 => simp [mAr, st3_n]
      | 11, h1 => simp [mAr, st3_n]
      | 12, h1 => simp [mAr, st3_n]
      | 13, h1 => simp [mAr, st3_n]
      | 14, h1 => simp [mAr, st3_n]
      | 15, h1 => simp [mAr, st3_n]
      | 16, h1 => simp [mAr, st3_n]
      | 17, h1 => simp [mAr, st3_n]
      | 18, h1 => simp [mAr, st3_n]
      | n + 19, h1 => rfl
    | n + 13, h1 => rfl
theorem pA3 (p : Nat) (v : Int32) : u2 (cW D ad S (h, τ, th) o) 12 3 (eI D 16 (upd (fun q => τ 4 q 0) p v)) = cW D ad S (h, st3 τ 4 p 0 v, th) o := by
  funext f1 k1
  unfold u2
  split
  · rename_i h1
    obtain ⟨rfl, rfl⟩ := h1
    show some _ = some _
    congr 4
    funext q1
    simp [upd, st3]
  · rename_i h1
    match f1, h1 with
    | 0, h1 => rfl
    | 1, h1 => rfl
    | 2, h1 => rfl
    | 3, h1 => rfl
    | 4, h1 => rfl
    | 5, h1 => simp [cW, eEn, ePt, eSc, eSu, eBP, eMo, st3_n, st3_v]
    | 6, h1 => rfl
    | 7, h1 => rfl
    | 8, h1 => rfl
    | 9, h1 => rfl
    | 10, h1 => rfl
    | 11, h1 => rfl
    | 12, h1 =>
      show mAr D _ k1 = mAr D _ k1
      match k1, h1 with
      | 0, h1 => simp [mAr, st3_n]
      | 1, h1 => simp [mAr, st3_n]
      | 2, h1 => simp [mAr, st3_n]
      | 3, h1 => exact absurd ⟨rfl, rfl⟩ h1
      | 4, h1 => simp [mAr, st3_n]
      | 5, h1 => simp [mAr, st3_n]
      | 6, h1 => simp [mAr, st3_n]
      | 7, h1 => simp [mAr, st3_n]
      | 8, h1 => simp [mAr, st3_n]
      | 9, h1 => simp [mAr, st3_n]
      | 10, h1 => simp [mAr, st3_n]
      | 11, h1 => simp [mAr, st3_n]
      | 12, h1 => simp [mAr, st3_n]
      | 13, h1 => simp [mAr, st3_n]
      | 14, h1 => simp [mAr, st3_n]
      | 15, h1 => simp [mAr, st3_n]
      | 16, h1 => simp [mAr, st3_n]
      | 17, h1 => simp [mAr, st3_n]
      | 18, h1 => simp [mAr, st3_n]
      | n + 19, h1 => rfl
    | n + 13, h1 => rfl
theorem pA4 (p : Nat) (v : Int32) : u2 (cW D ad S (h, τ, th) o) 12 4 (eI D 16 (upd (fun q => τ 5 q 0) p v)) = cW D ad S (h, st3 τ 5 p 0 v, th) o := by
  funext f1 k1
  unfold u2
  split
  · rename_i h1
    obtain ⟨rfl, rfl⟩ := h1
    show some _ = some _
    congr 4
    funext q1
    simp [upd, st3]
  · rename_i h1
    match f1, h1 with
    | 0, h1 => rfl
    | 1, h1 => rfl
    | 2, h1 => rfl
    | 3, h1 => rfl
    | 4, h1 => rfl
    | 5, h1 => simp [cW, eEn, ePt, eSc, eSu, eBP, eMo, st3_n, st3_v]
    | 6, h1 => rfl
    | 7, h1 => rfl
    | 8, h1 => rfl
    | 9, h1 => rfl
    | 10, h1 => rfl
    | 11, h1 => rfl
    | 12, h1 =>
      show mAr D _ k1 = mAr D _ k1
      match k1, h1 with
      | 0, h1 => simp [mAr, st3_n]
      | 1, h1 => simp [mAr, st3_n]
      | 2, h1 => simp [mAr, st3_n]
      | 3, h1 => simp [mAr, st3_n]
      | 4, h1 => exact absurd ⟨rfl, rfl⟩ h1
      | 5, h1 => simp [mAr, st3_n]
      | 6, h1 => simp [mAr, st3_n]
      | 7, h1 => simp [mAr, st3_n]
      | 8, h1 => simp [mAr, st3_n]
      | 9, h1 => simp [mAr, st3_n]
      | 10, h1 => simp [mAr, st3_n]
      | 11, h1 => simp [mAr, st3_n]
      | 12, h1 => simp [mAr, st3_n]
      | 13, h1 => simp [mAr, st3_n]
      | 14, h1 => simp [mAr, st3_n]
      | 15, h1 => simp [mAr, st3_n]
      | 16, h1 => simp [mAr, st3_n]
      | 17, h1 => simp [mAr, st3_n]
      | 18, h1 => simp [mAr, st3_n]
      | n + 19, h1 => rfl
    | n + 13, h1 => rfl
theorem pA5 {p j : Nat} (hj : j < 16) (v : Int32) : u2 (cW D ad S (h, τ, th) o) 12 5 (eI D 256 (upd (fun q => τ 6 (q / 16) (q % 16 + 1)) (16 * p + j) v)) = cW D ad S (h, st3 τ 6 p (j + 1) v, th) o := by
  funext f1 k1
  unfold u2
  split
  · rename_i h1
    obtain ⟨rfl, rfl⟩ := h1
    show some _ = some _
    congr 4
    funext q1
    have e : q1 = 16 * p + j ↔ (q1 / 16 = p ∧ q1 % 16 + 1 = j + 1) := by omega
    simp [upd, st3, e]
  · rename_i h1
    match f1, h1 with
    | 0, h1 => rfl
    | 1, h1 => rfl
    | 2, h1 => rfl
    | 3, h1 => rfl
    | 4, h1 => rfl
    | 5, h1 => simp [cW, eEn, ePt, eSc, eSu, eBP, eMo, st3_n, st3_v]
    | 6, h1 => rfl
    | 7, h1 => rfl
    | 8, h1 => rfl
    | 9, h1 => rfl
    | 10, h1 => rfl
    | 11, h1 => rfl
    | 12, h1 =>
      show mAr D _ k1 = mAr D _ k1
      match k1, h1 with
      | 0, h1 => simp [mAr, st3_n]
      | 1, h1 => simp [mAr, st3_n]
      | 2, h1 => simp [mAr, st3_n]
      | 3, h1 => simp [mAr, st3_n]
      | 4, h1 => simp [mAr, st3_n]
      | 5, h1 => exact absurd ⟨rfl, rfl⟩ h1
      | 6, h1 => simp [mAr, st3_n]
      | 7, h1 => simp [mAr, st3_n]
      | 8, h1 => simp [mAr, st3_n]
      | 9, h1 => simp [mAr, st3_n]
      | 10, h1 => simp [mAr, st3_n]
      | 11, h1 => simp [mAr, st3_n]
      | 12, h1 => simp [mAr, st3_n]
      | 13, h1 => simp [mAr, st3_n]
      | 14, h1 => simp [mAr, st3_n]
      | 15, h1 => simp [mAr, st3_n]
      | 16, h1 => simp [mAr, st3_n]
      | 17, h1 => simp [mAr, st3_n]
      | 18, h1 => simp [mAr, st3_n]
      | n + 19, h1 => rfl
    | n + 13, h1 => rfl
theorem pA6 (p : Nat) (v : Int32) : u2 (cW D ad S (h, τ, th) o) 12 6 (eI D 30 (upd (fun q => τ 8 q 0) p v)) = cW D ad S (h, st3 τ 8 p 0 v, th) o := by
  funext f1 k1
  unfold u2
  split
  · rename_i h1
    obtain ⟨rfl, rfl⟩ := h1
    show some _ = some _
    congr 4
    funext q1
    simp [upd, st3]
  · rename_i h1
    match f1, h1 with
    | 0, h1 => rfl
    | 1, h1 => rfl
    | 2, h1 => rfl
    | 3, h1 => rfl
    | 4, h1 => rfl
    | 5, h1 => simp [cW, eEn, ePt, eSc, eSu, eBP, eMo, st3_n, st3_v]
    | 6, h1 => rfl
    | 7, h1 => rfl
    | 8, h1 => rfl
    | 9, h1 => rfl
    | 10, h1 => rfl
    | 11, h1 => rfl
    | 12, h1 =>
      show mAr D _ k1 = mAr D _ k1
      match k1, h1 with
      | 0, h1 => simp [mAr, st3_n]
      | 1, h1 => simp [mAr, st3_n]
      | 2, h1 => simp [mAr, st3_n]
      | 3, h1 => simp [mAr, st3_n]
      | 4, h1 => simp [mAr, st3_n]
      | 5, h1 => simp [mAr, st3_n]
      | 6, h1 => exact absurd ⟨rfl, rfl⟩ h1
      | 7, h1 => simp [mAr, st3_n]
      | 8, h1 => simp [mAr, st3_n]
      | 9, h1 => simp [mAr, st3_n]
      | 10, h1 => simp [mAr, st3_n]
      | 11, h1 => simp [mAr, st3_n]
      | 12, h1 => simp [mAr, st3_n]
      | 13, h1 => simp [mAr, st3_n]
      | 14, h1 => simp [mAr, st3_n]
      | 15, h1 => simp [mAr, st3_n]
      | 16, h1 => simp [mAr, st3_n]
      | 17, h1 => simp [mAr, st3_n]
      | 18, h1 => simp [mAr, st3_n]
      | n + 19, h1 => rfl
    | n + 13, h1 => rfl
theorem pA7 (p : Nat) (v : Int32) : u2 (cW D ad S (h, τ, th) o) 12 7 (eI D 30 (upd (fun q => τ 9 q 0) p v)) = cW D ad S (h, st3 τ 9 p 0 v, th) o := by
  funext f1 k1
  unfold u2
  split
  · rename_i h1
    obtain ⟨rfl, rfl⟩ := h1
    show some _ = some _
    congr 4
    funext q1
    simp [upd, st3]
  · rename_i h1
    match f1, h1 with
    | 0, h1 => rfl
    | 1, h1 => rfl
    | 2, h1 => rfl
    | 3, h1 => rfl
    | 4, h1 => rfl
    | 5, h1 => simp [cW, eEn, ePt, eSc, eSu, eBP, eMo, st3_n, st3_v]
    | 6, h1 => rfl
    | 7, h1 => rfl
    | 8, h1 => rfl
    | 9, h1 => rfl
    | 10, h1 => rfl
    | 11, h1 => rfl
    | 12, h1 =>
      show mAr D _ k1 = mAr D _ k1
      match k1, h1 with
      | 0, h1 => simp [mAr, st3_n]
      | 1, h1 => simp [mAr, st3_n]
      | 2, h1 => simp [mAr, st3_n]
      | 3, h1 => simp [mAr, st3_n]
      | 4, h1 => simp [mAr, st3_n]
      | 5, h1 => simp [mAr, st3_n]
      | 6, h1 => simp [mAr, st3_n]
      | 7, h1 => exact absurd ⟨rfl, rfl⟩ h1
      | 8, h1 => simp [mAr, st3_n]
      | 9, h1 => simp [mAr, st3_n]
      | 10, h1 => simp [mAr, st3_n]
      | 11, h1 => simp [mAr, st3_n]
      | 12, h1 => simp [mAr, st3_n]
      | 13, h1 => simp [mAr, st3_n]
      | 14, h1 => simp [mAr, st3_n]
      | 15, h1 => simp [mAr, st3_n]
      | 16, h1 => simp [mAr, st3_n]
      | 17, h1 => simp [mAr, st3_n]
      | 18, h1 => simp [mAr, st3_n]
      | n + 19, h1 => rfl
    | n + 13, h1 => rfl
theorem pA8 (p : Nat) (v : Int32) : u2 (cW D ad S (h, τ, th) o) 12 8 (eI D 30 (upd (fun q => τ 10 q 0) p v)) = cW D ad S (h, st3 τ 10 p 0 v, th) o := by
  funext f1 k1
  unfold u2
  split
  · rename_i h1
    obtain ⟨rfl, rfl⟩ := h1
    show some _ = some _
    congr 4
    funext q1
    simp [upd, st3]
  · rename_i h1
    match f1, h1 with
    | 0, h1 => rfl
    | 1, h1 => rfl
    | 2, h1 => rfl
    | 3, h1 => rfl
    | 4, h1 => rfl
    | 5, h1 => simp [cW, eEn, ePt, eSc, eSu, eBP, eMo, st3_n, st3_v]
    | 6, h1 => rfl
    | 7, h1 => rfl
    | 8, h1 => rfl
    | 9, h1 => rfl
    | 10, h1 => rfl
    | 11, h1 => rfl
    | 12, h1 =>
      show mAr D _ k1 = mAr D _ k1
      match k1, h1 with
      | 0, h1 => simp [mAr, st3_n]
      | 1, h1 => simp [mAr, st3_n]
      | 2, h1 => simp [mAr, st3_n]
      | 3, h1 => simp [mAr, st3_n]
      | 4, h1 => simp [mAr, st3_n]
      | 5, h1 => simp [mAr, st3_n]
      | 6, h1 => simp [mAr, st3_n]
      | 7, h1 => simp [mAr, st3_n]
      | 8, h1 => exact absurd ⟨rfl, rfl⟩ h1
      | 9, h1 => simp [mAr, st3_n]
      | 10, h1 => simp [mAr, st3_n]
      | 11, h1 => simp [mAr, st3_n]
      | 12, h1 => simp [mAr, st3_n]
      | 13, h1 => simp [mAr, st3_n]
      | 14, h1 => simp [mAr, st3_n]
      | 15, h1 => simp [mAr, st3_n]
      | 16, h1 => simp [mAr, st3_n]
      | 17, h1 => simp [mAr, st3_n]
      | 18, h1 => simp [mAr, st3_n]
      | n + 19, h1 => rfl
    | n + 13, h1 => rfl
theorem pA9 (p : Nat) (v : Int32) : u2 (cW D ad S (h, τ, th) o) 12 9 (eZ D 30 (upd (fun q => τ 11 q 0) p v)) = cW D ad S (h, st3 τ 11 p 0 v, th) o := by
  funext f1 k1
  unfold u2
  split
  · rename_i h1
    obtain ⟨rfl, rfl⟩ := h1
    show some _ = some _
    congr 4
    funext q1
    simp [upd, st3]
  · rename_i h1
    match f1, h1 with
    | 0, h1 => rfl
    | 1, h1 => rfl
    | 2, h1 => rfl
    | 3, h1 => rfl
    | 4, h1 => rfl
    | 5, h1 => simp [cW, eEn, ePt, eSc, eSu, eBP, eMo, st3_n, st3_v]
    | 6, h1 => rfl
    | 7, h1 => rfl
    | 8, h1 => rfl
    | 9, h1 => rfl
    | 10, h1 => rfl
    | 11, h1 => rfl
    | 12, h1 =>
      show mAr D _ k1 = mAr D _ k1
      match k1, h1 with
      | 0, h1 => simp [mAr, st3_n]
      | 1, h1 => simp [mAr, st3_n]
      | 2, h1 => simp [mAr, st3_n]
      | 3, h1 => simp [mAr, st3_n]
      | 4, h1 => simp [mAr, st3_n]
      | 5, h1 => simp [mAr, st3_n]
      | 6, h1 => simp [mAr, st3_n]
      | 7, h1 => simp [mAr, st3_n]
      | 8, h1 => simp [mAr, st3_n]
      | 9, h1 => exact absurd ⟨rfl, rfl⟩ h1
      | 10, h1 => simp [mAr, st3_n]
      | 11, h1 => simp [mAr, st3_n]
      | 12, h1 => simp [mAr, st3_n]
      | 13, h1 => simp [mAr, st3_n]
      | 14, h1 => simp [mAr, st3_n]
      | 15, h1 => simp [mAr, st3_n]
      | 16, h1 => simp [mAr, st3_n]
      | 17, h1 => simp [mAr, st3_n]
      | 18, h1 => simp [mAr, st3_n]
      | n + 19, h1 => rfl
    | n + 13, h1 => rfl
theorem pA10 (p : Nat) (v : Int32) : u2 (cW D ad S (h, τ, th) o) 12 10 (eI D 30 (upd (fun q => τ 12 q 0) p v)) = cW D ad S (h, st3 τ 12 p 0 v, th) o := by
  funext f1 k1
  unfold u2
  split
  · rename_i h1
    obtain ⟨rfl, rfl⟩ := h1
    show some _ = some _
    congr 4
    funext q1
    simp [upd, st3]
  · rename_i h1
    match f1, h1 with
    | 0, h1 => rfl
    | 1, h1 => rfl
    | 2, h1 => rfl
    | 3, h1 => rfl
    | 4, h1 => rfl
    | 5, h1 => simp [cW, eEn, ePt, eSc, eSu, eBP, eMo, st3_n, st3_v]
    | 6, h1 => rfl
    | 7, h1 => rfl
    | 8, h1 => rfl
    | 9, h1 => rfl
    | 10, h1 => rfl
    | 11, h1 => rfl
    | 12, h1 =>
      show mAr D _ k1 = mAr D _ k1
      match k1, h1 with
      | 0, h1 => simp [mAr, st3_n]
      | 1, h1 => simp [mAr, st3_n]
      | 2, h1 => simp [mAr, st3_n]
      | 3, h1 => simp [mAr, st3_n]
      | 4, h1 => simp [mAr, st3_n]
      | 5, h1 => simp [mAr, st3_n]
      | 6, h1 => simp [mAr, st3_n]
      | 7, h1 => simp [mAr, st3_n]
      | 8, h1 => simp [mAr, st3_n]
      | 9, h1 => simp [mAr, st3_n]
      | 10, h1 => exact absurd ⟨rfl, rfl⟩ h1
      | 11, h1 => simp [mAr, st3_n]
      | 12, h1 => simp [mAr, st3_n]
      | 13, h1 => simp [mAr, st3_n]
      | 14, h1 => simp [mAr, st3_n]
      | 15, h1 => simp [mAr, st3_n]
      | 16, h1 => simp [mAr, st3_n]
      | 17, h1 => simp [mAr, st3_n]
      | 18, h1 => simp [mAr, st3_n]
      | n + 19, h1 => rfl
    | n + 13, h1 => rfl
theorem pA11 (p : Nat) (v : Int32) : u2 (cW D ad S (h, τ, th) o) 12 11 (eI D 30 (upd (fun q => τ 13 q 0) p v)) = cW D ad S (h, st3 τ 13 p 0 v, th) o := by
  funext f1 k1
  unfold u2
  split
  · rename_i h1
    obtain ⟨rfl, rfl⟩ := h1
    show some _ = some _
    congr 4
    funext q1
    simp [upd, st3]
  · rename_i h1
    match f1, h1 with
    | 0, h1 => rfl
    | 1, h1 => rfl
    | 2, h1 => rfl
    | 3, h1 => rfl
    | 4, h1 => rfl
    | 5, h1 => simp [cW, eEn, ePt, eSc, eSu, eBP, eMo, st3_n, st3_v]
    | 6, h1 => rfl
    | 7, h1 => rfl
    | 8, h1 => rfl
    | 9, h1 => rfl
    | 10, h1 => rfl
    | 11, h1 => rfl
    | 12, h1 =>
      show mAr D _ k1 = mAr D _ k1
      match k1, h1 with
      | 0, h1 => simp [mAr, st3_n]
      | 1, h1 => simp [mAr, st3_n]
      | 2, h1 => simp [mAr, st3_n]
      | 3, h1 => simp [mAr, st3_n]
      | 4, h1 => simp [mAr, st3_n]
      | 5, h1 => simp [mAr, st3_n]
      | 6, h1 => simp [mAr, st3_n]
      | 7, h1 => simp [mAr, st3_n]
      | 8, h1 => simp [mAr, st3_n]
      | 9, h1 => simp [mAr, st3_n]
      | 10, h1 => simp [mAr, st3_n]
      | 11, h1 => exact absurd ⟨rfl, rfl⟩ h1
      | 12, h1 => simp [mAr, st3_n]
      | 13, h1 => simp [mAr, st3_n]
      | 14, h1 => simp [mAr, st3_n]
      | 15, h1 => simp [mAr, st3_n]
      | 16, h1 => simp [mAr, st3_n]
      | 17, h1 => simp [mAr, st3_n]
      | 18, h1 => simp [mAr, st3_n]
      | n + 19, h1 => rfl
    | n + 13, h1 => rfl
theorem pA12 (p : Nat) (v : Int32) : u2 (cW D ad S (h, τ, th) o) 12 12 (eI D 4 (upd (fun q => τ 14 q 0) p v)) = cW D ad S (h, st3 τ 14 p 0 v, th) o := by
  funext f1 k1
  unfold u2
  split
  · rename_i h1
    obtain ⟨rfl, rfl⟩ := h1
    show some _ = some _
    congr 4
    funext q1
    simp [upd, st3]
  · rename_i h1
    match f1, h1 with
    | 0, h1 => rfl
    | 1, h1 => rfl
    | 2, h1 => rfl
    | 3, h1 => rfl
    | 4, h1 => rfl
    | 5, h1 => simp [cW, eEn, ePt, eSc, eSu, eBP, eMo, st3_n, st3_v]
    | 6, h1 => rfl
    | 7, h1 => rfl
    | 8, h1 => rfl
    | 9, h1 => rfl
    | 10, h1 => rfl
    | 11, h1 => rfl
    | 12, h1 =>
      show mAr D _ k1 = mAr D _ k1
      match k1, h1 with
      | 0, h1 => simp [mAr, st3_n]
      | 1, h1 => simp [mAr, st3_n]
      | 2, h1 => simp [mAr, st3_n]
      | 3, h1 => simp [mAr, st3_n]
      | 4, h1 => simp [mAr, st3_n]
      | 5, h1 => simp [mAr, st3_n]
      | 6, h1 => simp [mAr, st3_n]
      | 7, h1 => simp [mAr, st3_n]
      | 8, h1 => simp [mAr, st3_n]
      | 9, h1 => simp [mAr, st3_n]
      | 10, h1 => simp [mAr, st3_n]
      | 11, h1 => simp [mAr, st3_n]
      | 12, h1 => exact absurd ⟨rfl, rfl⟩ h1
      | 13, h1 => simp [mAr, st3_n]
      | 14, h1 => simp [mAr, st3_n]
      | 15, h1 => simp [mAr, st3_n]
      | 16, h1 => simp [mAr, st3_n]
      | 17, h1 => simp [mAr, st3_n]
      | 18, h1 => simp [mAr, st3_n]
      | n + 19, h1 => rfl
    | n + 13, h1 => rfl
theorem pA13 (p : Nat) (v : Int32) : u2 (cW D ad S (h, τ, th) o) 12 13 (eI D 4 (upd (fun q => τ 15 q 0) p v)) = cW D ad S (h, st3 τ 15 p 0 v, th) o := by
  funext f1 k1
  unfold u2
  split
  · rename_i h1
    obtain ⟨rfl, rfl⟩ := h1
    show some _ = some _
    congr 4
    funext q1
    simp [upd, st3]
  · rename_i h1
    match f1, h1 with
    | 0, h1 => rfl
    | 1, h1 => rfl
    | 2, h1 => rfl
    | 3, h1 => rfl
    | 4, h1 => rfl
    | 5, h1 => simp [cW, eEn, ePt, eSc, eSu, eBP, eMo, st3_n, st3_v]
    | 6, h1 => rfl
    | 7, h1 => rfl
    | 8, h1 => rfl
    | 9, h1 => rfl
    | 10, h1 => rfl
    | 11, h1 => rfl
    | 12, h1 =>
      show mAr D _ k1 = mAr D _ k1
      match k1, h1 with
      | 0, h1 => simp [mAr, st3_n]
      | 1, h1 => simp [mAr, st3_n]
      | 2, h1 => simp [mAr, st3_n]
      | 3, h1 => simp [mAr, st3_n]
      | 4, h1 => simp [mAr, st3_n]
      | 5, h1 => simp [mAr, st3_n]
      | 6, h1 => simp [mAr, st3_n]
      | 7, h1 => simp [mAr, st3_n]
      | 8, h1 => simp [mAr, st3_n]
      | 9, h1 => simp [mAr, st3_n]
      | 10, h1 => simp [mAr, st3_n]
      | 11, h1 => simp [mAr, st3_n]
      | 12, h1 => simp [mAr, st3_n]
      | 13, h1 => exact absurd ⟨rfl, rfl⟩ h1
      | 14, h1 => simp [mAr, st3_n]
      | 15, h1 => simp [mAr, st3_n]
      | 16, h1 => simp [mAr, st3_n]
      | 17, h1 => simp [mAr, st3_n]
      | 18, h1 => simp [mAr, st3_n]
      | n + 19, h1 => rfl
    | n + 13, h1 => rfl
theorem pA14 (p : Nat) (v : Int32) : u2 (cW D ad S (h, τ, th) o) 12 14 (eI D 4 (upd (fun q => τ 16 q 0) p v)) = cW D ad S (h, st3 τ 16 p 0 v, th) o := by
  funext f1 k1
  unfold u2
  split
  · rename_i h1
    obtain ⟨rfl, rfl⟩ := h1
    show some _ = some _
    congr 4
    funext q1
    simp [upd, st3]
  · rename_i h1
    match f1, h1 with
    | 0, h1 => rfl
    | 1, h1 => rfl
    | 2, h1 => rfl
    | 3, h1 => rfl
    | 4, h1 => rfl
    | 5, h1 => simp [cW, eEn, ePt, eSc, eSu, eBP, eMo, st3_n, st3_v]
    | 6, h1 => rfl
    | 7, h1 => rfl
    | 8, h1 => rfl
    | 9, h1 => rfl
    | 10, h1 => rfl
    | 11, h1 => rfl
    | 12, h1 =>
      show mAr D _ k1 = mAr D _ k1
      match k1, h1 with
      | 0, h1 => simp [mAr, st3_n]
      | 1, h1 => simp [mAr, st3_n]
      | 2, h1 => simp [mAr, st3_n]
      | 3, h1 => simp [mAr, st3_n]
      | 4, h1 => simp [mAr, st3_n]
      | 5, h1 => simp [mAr, st3_n]
      | 6, h1 => simp [mAr, st3_n]
      | 7, h1 => simp [mAr, st3_n]
      | 8, h1 => simp [mAr, st3_n]
      | 9, h1 => simp [mAr, st3_n]
      | 10, h1 => simp [mAr, st3_n]
      | 11, h1 => simp [mAr, st3_n]
      | 12, h1 => simp [mAr, st3_n]
      | 13, h1 => simp [mAr, st3_n]
      | 14, h1 => exact absurd ⟨rfl, rfl⟩ h1
      | 15, h1 => simp [mAr, st3_n]
      | 16, h1 => simp [mAr, st3_n]
      | 17, h1 => simp [mAr, st3_n]
      | 18, h1 => simp [mAr, st3_n]
      | n + 19, h1 => rfl
    | n + 13, h1 => rfl
theorem pA15 (p : Nat) (v : Int32) : u2 (cW D ad S (h, τ, th) o) 12 15 (eI D 4 (upd (fun q => τ 17 q 0) p v)) = cW D ad S (h, st3 τ 17 p 0 v, th) o := by
  funext f1 k1
  unfold u2
  split
  · rename_i h1
    obtain ⟨rfl, rfl⟩ := h1
    show some _ = some _
    congr 4
    funext q1
    simp [upd, st3]
  · rename_i h1
    match f1, h1 with
    | 0, h1 => rfl
    | 1, h1 => rfl
    | 2, h1 => rfl
    | 3, h1 => rfl
    | 4, h1 => rfl
    | 5, h1 => simp [cW, eEn, ePt, eSc, eSu, eBP, eMo, st3_n, st3_v]
    | 6, h1 => rfl
    | 7, h1 => rfl
    | 8, h1 => rfl
    | 9, h1 => rfl
    | 10, h1 => rfl
    | 11, h1 => rfl
    | 12, h1 =>
      show mAr D _ k1 = mAr D _ k1
      match k1, h1 with
      | 0, h1 => simp [mAr, st3_n]
      | 1, h1 => simp [mAr, st3_n]
      | 2, h1 => simp [mAr, st3_n]
      | 3, h1 => simp [mAr, st3_n]
      | 4, h1 => simp [mAr, st3_n]
      | 5, h1 => simp [mAr, st3_n]
      | 6, h1 => simp [mAr, st3_n]
      | 7, h1 => simp [mAr, st3_n]
      | 8, h1 => simp [mAr, st3_n]
      | 9, h1 => simp [mAr, st3_n]
      | 10, h1 => simp [mAr, st3_n]
      | 11, h1 => simp [mAr, st3_n]
      | 12, h1 => simp [mAr, st3_n]
      | 13, h1 => simp [mAr, st3_n]
      | 14, h1 => simp [mAr, st3_n]
      | 15, h1 => exact absurd ⟨rfl, rfl⟩ h1
      | 16, h1 => simp [mAr, st3_n]
      | 17, h1 => simp [mAr, st3_n]
      | 18, h1 => simp [mAr, st3_n]
      | n + 19, h1 => rfl
    | n + 13, h1 => rfl
theorem pA16 {p j : Nat} (hj : j < 20) (v : Int32) : u2 (cW D ad S (h, τ, th) o) 12 16 (eI D 80 (upd (fun q => τ 18 (q / 20) (q % 20)) (20 * p + j) v)) = cW D ad S (h, st3 τ 18 p j v, th) o := by
  funext f1 k1
  unfold u2
  split
  · rename_i h1
    obtain ⟨rfl, rfl⟩ := h1
    show some _ = some _
    congr 4
    funext q1
    have e : q1 = 20 * p + j ↔ (q1 / 20 = p ∧ q1 % 20 = j) := by omega
    simp [upd, st3, e]
  · rename_i h1
    match f1, h1 with
    | 0, h1 => rfl
    | 1, h1 => rfl
    | 2, h1 => rfl
    | 3, h1 => rfl
    | 4, h1 => rfl
    | 5, h1 => simp [cW, eEn, ePt, eSc, eSu, eBP, eMo, st3_n, st3_v]
    | 6, h1 => rfl
    | 7, h1 => rfl
    | 8, h1 => rfl
    | 9, h1 => rfl
    | 10, h1 => rfl
    | 11, h1 => rfl
    | 12, h1 =>
      show mAr D _ k1 = mAr D _ k1
      match k1, h1 with
      | 0, h1 => simp [mAr, st3_n]
      | 1, h1 => simp [mAr, st3_n]
      | 2, h1 => simp [mAr, st3_n]
      | 3, h1 => simp [mAr, st3_n]
      | 4, h1 => simp [mAr, st3_n]
      | 5, h1 => simp [mAr, st3_n]
      | 6, h1 => simp [mAr, st3_n]
      | 7, h1 => simp [mAr, st3_n]
      | 8, h1 => simp [mAr, st3_n]
      | 9, h1 => simp [mAr, st3_n]
      | 10, h1 => simp [mAr, st3_n]
      | 11, h1 => simp [mAr, st3_n]
      | 12, h1 => simp [mAr, st3_n]
      | 13, h1 => simp [mAr, st3_n]
      | 14, h1 => simp [mAr, st3_n]
      | 15, h1 => simp [mAr, st3_n]
      | 16, h1 => exact absurd ⟨rfl, rfl⟩ h1
      | 17, h1 => simp [mAr, st3_n]
      | 18, h1 => simp [mAr, st3_n]
      | n + 19, h1 => rfl
    | n + 13, h1 => rfl
theorem pA17 {p j : Nat} (hj : j < 20) (v : Int32) : u2 (cW D ad S (h, τ, th) o) 12 17 (eI D 80 (upd (fun q => τ 19 (q / 20) (q % 20)) (20 * p + j) v)) = cW D ad S (h, st3 τ 19 p j v, th) o := by
  funext f1 k1
  unfold u2
  split
  · rename_i h1
    obtain ⟨rfl, rfl⟩ := h1
    show some _ = some _
    congr 4
    funext q1
    have e : q1 = 20 * p + j ↔ (q1 / 20 = p ∧ q1 % 20 = j) := by omega
    simp [upd, st3, e]
  · rename_i h1
    match f1, h1 with
    | 0, h1 => rfl
    | 1, h1 => rfl
    | 2, h1 => rfl
    | 3, h1 => rfl
    | 4, h1 => rfl
    | 5, h1 => simp [cW, eEn, ePt, eSc, eSu, eBP, eMo, st3_n, st3_v]
    | 6, h1 => rfl
    | 7, h1 => rfl
    | 8, h1 => rfl
    | 9, h1 => rfl
    | 10, h1 => rfl
    | 11, h1 => rfl
    | 12, h1 =>
      show mAr D _ k1 = mAr D _ k1
      match k1, h1 with
      | 0, h1 => simp [mAr, st3_n]
      | 1, h1 => simp [mAr, st3_n]
      | 2, h1 => simp [mAr, st3_n]
      | 3, h1 => simp [mAr, st3_n]
      | 4, h1 => simp [mAr, st3_n]
      | 5, h1 => simp [mAr, st3_n]
      | 6, h1 => simp [mAr, st3_n]
      | 7, h1 => simp [mAr, st3_n]
      | 8, h1 => simp [mAr, st3_n]
      | 9, h1 => simp [mAr, st3_n]
      | 10, h1 => simp [mAr, st3_n]
      | 11, h1 => simp [mAr, st3_n]
      | 12, h1 => simp [mAr, st3_n]
      | 13, h1 => simp [mAr, st3_n]
      | 14, h1 => simp [mAr, st3_n]
      | 15, h1 => simp [mAr, st3_n]
      | 16, h1 => simp [mAr, st3_n]
      | 17, h1 => exact absurd ⟨rfl, rfl⟩ h1
      | 18, h1 => simp [mAr, st3_n]
      | n + 19, h1 => rfl
    | n + 13, h1 => rfl
theorem pA18 {p j : Nat} (hj : j < 20) (v : Int32) : u2 (cW D ad S (h, τ, th) o) 12 18 (eI D 80 (upd (fun q => τ 20 (q / 20) (q % 20)) (20 * p + j) v)) = cW D ad S (h, st3 τ 20 p j v, th) o := by
  funext f1 k1
  unfold u2
  split
  · rename_i h1
    obtain ⟨rfl, rfl⟩ := h1
    show some _ = some _
    congr 4
    funext q1
    have e : q1 = 20 * p + j ↔ (q1 / 20 = p ∧ q1 % 20 = j) := by omega
    simp [upd, st3, e]
  · rename_i h1
    match f1, h1 with
    | 0, h1 => rfl
    | 1, h1 => rfl
    | 2, h1 => rfl
    | 3, h1 => rfl
    | 4, h1 => rfl
    | 5, h1 => simp [cW, eEn, ePt, eSc, eSu, eBP, eMo, st3_n, st3_v]
    | 6, h1 => rfl
    | 7, h1 => rfl
    | 8, h1 => rfl
    | 9, h1 => rfl
    | 10, h1 => rfl
    | 11, h1 => rfl
    | 12, h1 =>
      show mAr D _ k1 = mAr D _ k1
      match k1, h1 with
      | 0, h1 => simp [mAr, st3_n]
      | 1, h1 => simp [mAr, st3_n]
      | 2, h1 => simp [mAr, st3_n]
      | 3, h1 => simp [mAr, st3_n]
      | 4, h1 => simp [mAr, st3_n]
      | 5, h1 => simp [mAr, st3_n]
      | 6, h1 => simp [mAr, st3_n]
      | 7, h1 => simp [mAr, st3_n]
      | 8, h1 => simp [mAr, st3_n]
      | 9, h1 => simp [mAr, st3_n]
      | 10, h1 => simp [mAr, st3_n]
      | 11, h1 => simp [mAr, st3_n]
      | 12, h1 => simp [mAr, st3_n]
      | 13, h1 => simp [mAr, st3_n]
      | 14, h1 => simp [mAr, st3_n]
      | 15, h1 => simp [mAr, st3_n]
      | 16, h1 => simp [mAr, st3_n]
      | 17, h1 => simp [mAr, st3_n]
      | 18, h1 => exact absurd ⟨rfl, rfl⟩ h1
      | n + 19, h1 => rfl
    | n + 13, h1 => rfl
theorem pO (v : Int64) : u2 (cW D ad S T o) 6 0 (eL D 1 (vp_updL (fun j => if j = 0 then o else 0) 0 v)) = cW D ad S T v := by
  funext f1 k1
  unfold u2
  split
  · rename_i h1
    obtain ⟨rfl, rfl⟩ := h1
    have e : vp_updL (fun j => if j = 0 then o else 0) 0 v = fun j => if j = 0 then v else 0 := by
      funext q1
      by_cases hq : q1 = 0 <;> simp [vp_updL, hq]
    rw [e]
    rfl
  · rename_i h1
    match f1, h1 with
    | 0, h1 => rfl
    | 1, h1 => rfl
    | 2, h1 => rfl
    | 3, h1 => rfl
    | 4, h1 => rfl
    | 5, h1 => rfl
    | 6, h1 => have hk1 : k1 ≠ 0 := fun z => h1 ⟨rfl, z⟩; simp [cW, hk1]
    | 7, h1 => rfl
    | 8, h1 => rfl
    | 9, h1 => rfl
    | 10, h1 => rfl
    | 11, h1 => rfl
    | 12, h1 => rfl
    | n + 13, h1 => rfl
end CW
