/-! p22: two objects (families 0 to 12, and 13 to 25) and the law's own arrays (family 26) -/
def sf (f : Nat) : Nat := if f < 13 then f + 13 else if f < 26 then f - 13 else f
theorem sf_lo {f : Nat} (h : f < 13) : sf f = f + 13 := if_pos h
theorem sf_mi {f : Nat} (h1 : ¬ f < 13) (h2 : f < 26) : sf f = f - 13 := by unfold sf; rw [if_neg h1, if_pos h2]
theorem sf_hi {f : Nat} (h : ¬ f < 26) : sf f = f := by unfold sf; rw [if_neg (by omega), if_neg h]
theorem sf_sf (f : Nat) : sf (sf f) = f := by
  by_cases h1 : f < 13
  · rw [sf_lo h1, sf_mi (by omega) (by omega)]; omega
  · by_cases h2 : f < 26
    · rw [sf_mi h1 h2, sf_lo (by omega)]; omega
    · rw [sf_hi h2, sf_hi h2]
def sA (ad : Ad) : Ad := fun f k => ad (sf f) k
theorem sA_sA (ad : Ad) : sA (sA ad) = ad := by
  funext f k
  show ad (sf (sf f)) k = ad f k
  rw [sf_sf]
theorem sA_4 (ad : Ad) : sA ad 4 0 = ad 17 0 := rfl
abbrev SM : Type := GC × Me
def noW : Wd := fun _ _ => none
def tW (D : va_G) (ad : Ad) (S : SM) (L : Wd) : Wd := fun f k => if f < 13 then cW D (fun a b => ad (13 + a) b) S noW 0 f k else L (f - 13) k
abbrev eW (D : va_G) (ad : Ad) (S S' : SM) (L : Wd) : Wd := cW D ad S (tW D ad S' L) 0
theorem cW_hi {D : va_G} {ad : Ad} {S : SM} {T : Wd} {o : Int64} {f k : Nat} (h : 13 ≤ f) : cW D ad S T o f k = T (f - 13) k := by
  obtain ⟨n, rfl⟩ : ∃ n, f = n + 13 := ⟨f - 13, by omega⟩
  show T n k = T (n + 13 - 13) k
  rw [Nat.add_sub_cancel]
/-- an object's cells speak of its own addresses alone -/
theorem cW_lo {D : va_G} {ad ad' : Ad} {S : SM} {T T' : Wd} {o o' : Int64} {f k : Nat} (h : f < 13) (ha : ∀ a b, a < 13 → ad' a b = ad a b) : cW D ad' S T' o' f k = cW D ad S T o f k := by
  have e : ∀ a, a < 13 → ad' a = ad a := fun a q => funext (fun b => ha a b q)
  have eP : ∀ a n, a < 13 → fP ad' a n = fP ad a n := fun a n q => by
    funext j
    show (if j < n then some (ad' a j) else none) = (if j < n then some (ad a j) else none)
    rw [e a q]
  match f, h with
  | 0, _ => simp only [cW, eEn, e 9 (by decide), e 10 (by decide), e 11 (by decide)]
  | 1, _ => simp only [cW, ePt, e 8 (by decide)]
  | 2, _ => simp only [cW, eSc, e 1 (by decide), e 0 (by decide)]
  | 3, _ => simp only [cW, eSu, e 1 (by decide)]
  | 4, _ => simp only [cW, eBP, e 7 (by decide)]
  | 5, _ => rfl
  | 6, _ => rfl
  | 7, _ => simp only [cW, eP 1 _ (by decide), eP 3 _ (by decide), eP 2 _ (by decide)]
  | 8, _ => rfl
  | 9, _ => rfl
  | 10, _ => rfl
  | 11, _ => rfl
  | 12, _ => rfl
  | n + 13, q => exact absurd q (by omega)
theorem tW_to {D : va_G} {ad ad' : Ad} {S : SM} {L : Wd} (ha : ∀ a b, 13 ≤ a → a < 26 → ad' a b = ad a b) : tW D ad' S L = tW D ad S L := by
  funext f k
  unfold tW
  by_cases h : f < 13
  · rw [if_pos h, if_pos h]
    exact cW_lo h (fun a b q => ha (13 + a) b (by omega) (by omega))
  · rw [if_neg h, if_neg h]
theorem eW_hi {D : va_G} {ad : Ad} {S S' : SM} {L : Wd} {f k : Nat} (h : 26 ≤ f) : eW D ad S S' L f k = L (f - 26) k := by
  show cW D ad S (tW D ad S' L) 0 f k = _
  rw [cW_hi (by omega)]
  unfold tW
  rw [if_neg (by omega), Nat.sub_sub]
theorem eW_lo {D : va_G} {ad : Ad} {S S' : SM} {L L' : Wd} {f k : Nat} (h : f < 26) : eW D ad S S' L f k = eW D ad S S' L' f k := by
  show cW D ad S (tW D ad S' L) 0 f k = cW D ad S (tW D ad S' L') 0 f k
  by_cases h1 : f < 13
  · exact cW_lo h1 (fun _ _ _ => rfl)
  · rw [cW_hi (by omega), cW_hi (by omega)]
    unfold tW
    rw [if_pos (by omega), if_pos (by omega)]
theorem eW_sw {D : va_G} {ad : Ad} {S S' : SM} {L : Wd} {f k : Nat} : eW D (sA ad) S' S L f k = eW D ad S S' L (sf f) k := by
  by_cases h1 : f < 13
  · rw [sf_lo h1]
    show cW D (sA ad) S' (tW D (sA ad) S L) 0 f k = cW D ad S (tW D ad S' L) 0 (f + 13) k
    rw [cW_hi (f := f + 13) (by omega), Nat.add_sub_cancel]
    unfold tW
    rw [if_pos h1]
    exact cW_lo h1 (fun a b q => by show ad (sf a) b = ad (13 + a) b; rw [sf_lo q, Nat.add_comm])
  · by_cases h2 : f < 26
    · rw [sf_mi h1 h2]
      show cW D (sA ad) S' (tW D (sA ad) S L) 0 f k = cW D ad S (tW D ad S' L) 0 (f - 13) k
      rw [cW_hi (by omega)]
      have h3 : f - 13 < 13 := by omega
      show (if f - 13 < 13 then cW D (fun a b => sA ad (13 + a) b) S noW 0 (f - 13) k else L (f - 13 - 13) k) = _
      rw [if_pos h3]
      exact cW_lo h3 (fun a b q => by show ad (sf (13 + a)) b = ad a b; rw [sf_mi (by omega) (by omega), Nat.add_sub_cancel_left])
    · rw [sf_hi h2, eW_hi (by omega), eW_hi (by omega)]
theorem hw_sw {D : va_G} {B : Nat} {ad : Ad} {S S' : SM} {L : Wd} {H : Heap} (h : hw D B ad (eW D ad S S' L) H) : hw D B (sA ad) (eW D (sA ad) S' S L) H := by
  refine ⟨fun f k e he => ?_, fun f k f' k' e e' he he' hq => ?_⟩
  · rw [eW_sw] at he
    exact h.1 (sf f) k e he
  · rw [eW_sw] at he he'
    obtain ⟨h1, h2⟩ := h.2 (sf f) k (sf f') k' e e' he he' hq
    exact ⟨by rw [← sf_sf f, h1, sf_sf], h2⟩
theorem hw_ws {D : va_G} {B : Nat} {ad : Ad} {S S' : SM} {L : Wd} {H : Heap} (h : hw D B (sA ad) (eW D (sA ad) S' S L) H) : hw D B ad (eW D ad S S' L) H := by
  have h2 := hw_sw h
  rw [sA_sA] at h2
  exact h2
/-! the law's arrays: 0 to 3 its own d, u, q, g; 4 and 5 those that 'passes' makes -/
def lenL (k : Nat) : Nat := match k with
  | 0 => 32
  | 1 => 64
  | 2 => 16
  | 3 => 3
  | _ => 16
def lW (D : va_G) (n : Nat) (m : Me) : Wd := fun f k => if f = 0 ∧ k < n then some (eI D (lenL k) (m k 0)) else none
theorem eW_L {D : va_G} {ad : Ad} {S S' : SM} {n : Nat} {m : Me} {k : Nat} (hk : k < n) : eW D ad S S' (lW D n m) 26 k = some (eI D (lenL k) (m k 0)) := by
  rw [eW_hi (by omega)]
  exact if_pos ⟨rfl, hk⟩
theorem eW_N {D : va_G} {ad : Ad} {S S' : SM} {n : Nat} {m : Me} {k : Nat} (hk : ¬ k < n) : eW D ad S S' (lW D n m) 26 k = none := by
  rw [eW_hi (by omega)]
  exact if_neg (fun z => hk z.2)
theorem eW_put {D : va_G} {ad : Ad} {S S' : SM} {n : Nat} {m : Me} {k j : Nat} (v : Int32) (hk : k < n) : u2 (eW D ad S S' (lW D n m)) 26 k (eI D (lenL k) (upd (m k 0) j v)) = eW D ad S S' (lW D n (st3 m k 0 j v)) := by
  funext f1 k1
  by_cases hf : f1 < 26
  · rw [u2_f _ _ (by omega)]
    exact eW_lo hf
  · rw [eW_hi (by omega)]
    by_cases h2 : f1 = 26 ∧ k1 = k
    · obtain ⟨rfl, rfl⟩ := h2
      rw [u2_self]
      show _ = (if 26 - 26 = 0 ∧ k1 < n then some (eI D (lenL k1) (st3 m k1 0 j v k1 0)) else none)
      rw [if_pos ⟨rfl, hk⟩, st3_s]
    · rw [u2_o h2, eW_hi (by omega)]
      unfold lW
      by_cases h3 : f1 - 26 = 0 ∧ k1 < n
      · rw [if_pos h3, if_pos h3, st3_n (fun z => h2 ⟨by omega, z⟩)]
      · rw [if_neg h3, if_neg h3]
/-- fewer arrays -/
theorem hw_less {D : va_G} {B : Nat} {ad : Ad} {S S' : SM} {n n' : Nat} {m : Me} {H : Heap} (h : hw D B ad (eW D ad S S' (lW D n m)) H) (hn : n' ≤ n) : hw D B ad (eW D ad S S' (lW D n' m)) H := by
  refine ⟨fun f k e he => h.1 f k e ?_, fun f k f' k' e e' he he' => h.2 f k f' k' e e' ?_ ?_⟩
  all_goals
    first
      | (by_cases hf : f < 26
         · rw [eW_lo (L' := lW D n' m) hf]; exact he
         · rw [eW_hi (by omega)] at he ⊢
           unfold lW at he ⊢
           split at he
           · rename_i hc; rw [if_pos ⟨hc.1, by omega⟩]; exact he
           · cases he)
      | (by_cases hf : f' < 26
         · rw [eW_lo (L' := lW D n' m) hf]; exact he'
         · rw [eW_hi (by omega)] at he' ⊢
           unfold lW at he' ⊢
           split at he'
           · rename_i hc; rw [if_pos ⟨hc.1, by omega⟩]; exact he'
           · cases he')
/-- an array more -/
theorem eW_new {D : va_G} {ad : Ad} {S S' : SM} {n q : Nat} {m : Me} (hm : m n 0 = fun _ => 0) : u2 (eW D ad S S' (lW D n m)) 26 n (eI D (lenL n) (fun _ => 0)) = eW D (a2 ad 26 n q) S S' (lW D (n + 1) m) := by
  have e : eW D (a2 ad 26 n q) S S' (lW D (n + 1) m) = eW D ad S S' (lW D (n + 1) m) := by
    have ha : ∀ a b, a < 26 → a2 ad 26 n q a b = ad a b := fun a b h => a2_o (by omega)
    show cW D (a2 ad 26 n q) S (tW D (a2 ad 26 n q) S' (lW D (n + 1) m)) 0 = cW D ad S (tW D ad S' (lW D (n + 1) m)) 0
    rw [tW_to (ad := ad) (ad' := a2 ad 26 n q) (fun a b _ h => ha a b h)]
    funext f k
    by_cases h1 : f < 13
    · exact cW_lo h1 (fun a b h => ha a b (by omega))
    · rw [cW_hi (by omega), cW_hi (by omega)]
  rw [e]
  funext f1 k1
  by_cases hf : f1 < 26
  · rw [u2_f _ _ (by omega)]
    exact eW_lo hf
  · rw [eW_hi (by omega)]
    by_cases h2 : f1 = 26 ∧ k1 = n
    · obtain ⟨rfl, rfl⟩ := h2
      rw [u2_self]
      show _ = (if 26 - 26 = 0 ∧ k1 < k1 + 1 then some (eI D (lenL k1) (m k1 0)) else none)
      rw [if_pos ⟨rfl, Nat.lt_succ_self k1⟩, hm]
    · rw [u2_o h2, eW_hi (by omega)]
      unfold lW
      by_cases h3 : f1 - 26 = 0 ∧ k1 < n
      · rw [if_pos h3, if_pos ⟨h3.1, by omega⟩]
      · rw [if_neg h3, if_neg (fun z => h3 ⟨z.1, by
          have : k1 ≠ n := fun y => h2 ⟨by omega, y⟩
          omega⟩)]
/-! contracts seen from the other object -/
theorem met_swi {l : Launch} {y : MethodName} {ws : List Cond} {rm : Room} {D : va_G} {B : Nat} {ad : Ad} {S S' : SM} {L : Wd} {av : List Value} {mc ms : Nat} {X : Int32 → SM → Prop}
    (h : Met l y ws rm (Pre D B (sA ad) (eW D (sA ad) S' S L) av) (Qi D B (fun r u => ∃ S2, u = (sA ad, eW D (sA ad) S2 S L) ∧ X r S2)) mc ms (ab B)) :
    Met l y ws rm (Pre D B ad (eW D ad S S' L) av) (Qi D B (fun r u => ∃ S2, u = (ad, eW D ad S S2 L) ∧ X r S2)) mc ms (ab B) := by
  refine Jvm.Free.MetFree.mono h (fun a s hp => ⟨hp.1, hp.2.1, hw_sw hp.2.2⟩) (fun _ _ _ _ _ z => z) (fun a s o t hp hq => ?_)
  obtain ⟨⟨⟨r, u, h1, ⟨S2, rfl, h2⟩, h3⟩, hF⟩, hL⟩ := hq
  exact ⟨⟨⟨r, (ad, eW D ad S S2 L), h1, ⟨S2, rfl, h2⟩, hw_ws h3⟩, hF⟩, hL⟩
theorem met_swa {l : Launch} {y : MethodName} {ws : List Cond} {rm : Room} {D : va_G} {B : Nat} {ad : Ad} {S S' : SM} {L : Wd} {av : List Value} {mc ms : Nat} {X : Int32 → SM → Prop}
    (h : Met l y ws rm (Pre D B (sA ad) (eW D (sA ad) S' S L) av) (Qi D B (fun r u => ∃ (ad9 : Ad) (S2 : SM), u = (ad9, cW D ad9 S2 (tW D (sA ad) S L) 0) ∧ (∀ f9 k9, f9 = 4 ∨ 13 ≤ f9 → ad9 f9 k9 = sA ad f9 k9) ∧ X r S2)) mc ms (ab B)) :
    Met l y ws rm (Pre D B ad (eW D ad S S' L) av) (Qi D B (fun r u => ∃ (ad9 : Ad) (S2 : SM), u = (ad9, eW D ad9 S S2 L) ∧ (∀ f9 k9, f9 < 13 ∨ f9 = 17 ∨ 26 ≤ f9 → ad9 f9 k9 = ad f9 k9) ∧ X r S2)) mc ms (ab B) := by
  refine Jvm.Free.MetFree.mono h (fun a s hp => ⟨hp.1, hp.2.1, hw_sw hp.2.2⟩) (fun _ _ _ _ _ z => z) (fun a s o t hp hq => ?_)
  obtain ⟨⟨⟨r, u, h1, ⟨ad9, S2, rfl, hk, h2⟩, h3⟩, hF⟩, hL⟩ := hq
  have e : tW D (sA ad) S L = tW D ad9 S L := (tW_to (fun a b q1 q2 => (hk a b (Or.inr q1)))).symm
  have h4 : hw D B ad9 (eW D ad9 S2 S L) t.heap := by
    show hw D B ad9 (cW D ad9 S2 (tW D ad9 S L) 0) t.heap
    rw [← e]
    exact h3
  refine ⟨⟨⟨r, (sA ad9, eW D (sA ad9) S S2 L), h1, ⟨sA ad9, S2, rfl, fun f k q => ?_, h2⟩, hw_sw h4⟩, hF⟩, hL⟩
  show ad9 (sf f) k = ad f k
  rcases q with q | q | q
  · rw [sf_lo q, hk _ _ (Or.inr (by omega))]
    show ad (sf (f + 13)) k = ad f k
    rw [sf_mi (by omega) (by omega), Nat.add_sub_cancel]
  · subst q
    exact hk 4 k (Or.inl rfl)
  · rw [sf_hi (by omega), hk _ _ (Or.inr (by omega))]
    show ad (sf f) k = ad f k
    rw [sf_hi (by omega)]
