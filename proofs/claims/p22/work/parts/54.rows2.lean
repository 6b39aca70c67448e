/-! p22: answers of 64 bits, the law's script, and 'low' -/
abbrev Ql (D : va_G) (B : Nat) (post : Int64 → Ad × Wd → Prop) : Array Value → State → Outcome → State → Prop := va_Ql post (fun u t => hw D B u.1 u.2 t.heap) (ab B)
theorem Ql_of {D : va_G} {B : Nat} {post : Int64 → Ad × Wd → Prop} {ad : Ad} {w : Wd} {a : Array Value} {s t : State} {H : Heap} {locs : List Loc} {r : Int64} (hp : post r (ad, w)) (hP : hw D B ad w H) (hS : va_S (ab B) s.heap H locs) (ht : t.heap = H) : Ql D B post a s (.returned (some (.long r))) t :=
  ⟨⟨r, (ad, w), rfl, hp, by show hw D B ad w t.heap; rw [ht]; exact hP⟩, hS.F ht⟩
section WL
variable {p : Program} {l : Launch} {e : Env} {R : Room} {s : State} {m : MethodId} {args : Array Value} {below : List Frame} {meth : Method} {c : Code} {H : Heap} {locs : List Loc} {cells slots : Nat} {Q : State → Prop}
variable {pc : Nat} {ls : Array Slot} {rest : List Value} {D : va_G} {B : Nat} {ad : Ad} {w : Wd} {H0 : Heap}
theorem w_calll {post : Int64 → Ad × Wd → Prop} {st0 : List Value} {a : Array Value} {mc ms : Nat} (hr : va_Run p l e R s m args below meth c H locs cells slots mc ms (F0 m pc ls st0) rest (Ql D B post a) (ab B)) (hS : va_S (ab B) H0 H locs)
    (kk : ∀ (r : Int64) (ad1 : Ad) (w1 : Wd) (H1 : Heap) (locs1 : List Loc), post r (ad1, w1) → hw D B ad1 w1 H1 → va_S (ab B) H0 H1 locs1 → W p l e R s m args below meth c H1 locs1 (cells + mc) (slots + ms) Q (F0 m (pc + 3) ls (.long r :: rest))) : W p l e R s m args below meth c H locs cells slots Q (F0 m pc ls st0) :=
  va_calll hr hS (fun _ _ h => h) (fun _ h => h) (fun r u t H1 locs1 ht _ hp hB _ _ hS1 => kk r u.1 u.2 H1 locs1 hp (ht ▸ hB) hS1)
/-- a loop whose room grows: at its head, with an invariant and a measure that falls -/
theorem w_indc (cs ss : Nat → Nat) (Inv : Nat → Heap → List Loc → Array Slot → Prop)
    (step : ∀ (n : Nat) (H : Heap) (locs : List Loc) (ls : Array Slot), Inv n H locs ls → (∀ (n' : Nat) (H' : Heap) (locs' : List Loc) (ls' : Array Slot), n' < n → Inv n' H' locs' ls' → W p l e R s m args below meth c H' locs' (cs n') (ss n') Q (F0 m pc ls' [])) → W p l e R s m args below meth c H locs (cs n) (ss n) Q (F0 m pc ls [])) :
    ∀ (n : Nat) (H : Heap) (locs : List Loc) (ls : Array Slot), Inv n H locs ls → W p l e R s m args below meth c H locs (cs n) (ss n) Q (F0 m pc ls []) := by
  have key : ∀ (k n : Nat), n < k → ∀ (H : Heap) (locs : List Loc) (ls : Array Slot), Inv n H locs ls → W p l e R s m args below meth c H locs (cs n) (ss n) Q (F0 m pc ls []) := by
    intro k
    induction k with
    | zero => intro n hn; exact absurd hn (Nat.not_lt_zero n)
    | succ k ih => intro n hn H locs ls h; exact step n H locs ls h (fun n' H' locs' ls' h1 h2 => ih n' (by omega) H' locs' ls' h2)
  exact fun n H locs ls h => key (n + 1) n (by omega) H locs ls h
end WL
/-! the script: it lies under B, and is read alone -/
def PreX (D : va_G) (B : Nat) (b L : Nat) (xs : Nat → Int32) (ad : Ad) (w : Wd) (av : List Value) : Array Value → State → Prop := va_Pc av (fun U => (cx D B U ∧ va_X b L xs U U.heap ∧ b < B) ∧ hw D B ad w U.heap)
theorem preX_blind {D : va_G} {B b L : Nat} {xs : Nat → Int32} {ad : Ad} {w : Wd} {av : List Value} : FrameBlind (PreX D B b L xs ad w av) := by
  intro a U g mk h
  obtain ⟨h0, ⟨⟨h1, h2, h3, h4, h6⟩, h7, h8⟩, h5⟩ := h
  have hvm : U.vm.Alike (U.calling g mk a).vm := Vm.Alike.refl U.vm
  exact ⟨h0, ⟨⟨va_K.moved hvm h1, h2, h3.moved hvm, h4.moved hvm, cxX_same rfl h6⟩, h7.moved hvm, h8⟩, h5⟩
theorem w_preX {D : va_G} {B b L : Nat} {xs : Nat → Int32} {s : State} {ad : Ad} {w : Wd} {H : Heap} {locs : List Loc} {As : List Value} (hC : cx D B s) (hX : va_X b L xs s s.heap) (hb : b < B) (hP : hw D B ad w H) (hS : va_S (ab B) s.heap H locs) : PreS s H (PreX D B b L xs ad w As) As :=
  ⟨preX_blind, fun U hU hW => ⟨rfl, ⟨cx_to hC hS hU hW, by rw [hU]; exact (hX.kept (hS.2.1 b (Nat.lt_of_lt_of_le hb hC.2.1) (Nat.not_le.mpr hb))).moved hW.alike, hb⟩, by rw [hU]; exact hP⟩⟩
def lowO (v n : Int32) : Int32 := remF (v &&& 2147483647) n
theorem and_pos (v : Int32) : ∃ a : Nat, a < 2 ^ 31 ∧ v &&& 2147483647 = nI a := by
  refine nI_of (fun h => ?_)
  have h1 := lt_toI.mp h
  rw [show (0 : Int32).toInt = 0 by decide] at h1
  have h2 : (v &&& 2147483647).toBitVec.msb = false := by
    rw [Int32.toBitVec_and, BitVec.msb_and, show (2147483647 : Int32).toBitVec.msb = false by decide, Bool.and_false]
  have h3 : 0 ≤ (v &&& 2147483647).toBitVec.toInt := by
    rw [BitVec.toInt_eq_msb_cond, h2]
    simp
  have h4 : (v &&& 2147483647).toInt = (v &&& 2147483647).toBitVec.toInt := rfl
  omega
theorem remN {a k : Nat} (ha : a < 2 ^ 31) (h0 : 0 < k) (hk : k < 2 ^ 31) : remF (nI a) (nI k) = nI (a % k) := by
  unfold remF
  rw [pk_div ha h0 hk, pk_mul, pk_sub (Nat.div_mul_le_self a k)]
  congr 1
  have := Nat.mod_add_div a k
  rw [Nat.mul_comm]
  omega
theorem low_lt (v : Int32) {k : Nat} (h0 : 0 < k) (hk : k < 2 ^ 31) : ∃ i, i < k ∧ lowO v (nI k) = nI i := by
  obtain ⟨a, ha, e⟩ := and_pos v
  refine ⟨a % k, Nat.mod_lt a h0, ?_⟩
  unfold lowO
  rw [e, remN ha h0 hk]
