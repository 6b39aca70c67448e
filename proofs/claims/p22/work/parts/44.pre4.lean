/-! a call of the system's constructor -/
theorem pre4_blind {D : va_G} {B : Nat} {ad : Ad} {w : Wd} {av : List Value} : FrameBlind (Pre4 D B ad w av) := by
  intro a U g mk h
  obtain ⟨h0, ⟨⟨h1, h2, h3, h4, h6⟩, h7⟩, h5⟩ := h
  have hvm : U.vm.Alike (U.calling g mk a).vm := Vm.Alike.refl U.vm
  exact ⟨h0, ⟨⟨va_K.moved hvm h1, h2, h3.moved hvm, h4.moved hvm, cxX_same rfl h6⟩, fun X hX => (h7 X hX).moved hvm⟩, h5⟩
theorem w_pre4 {D : va_G} {B : Nat} {s : State} {ad : Ad} {w : Wd} {H : Heap} {locs : List Loc} {As : List Value} (hC : cx D B s) (hov : ∀ X ∈ [RX1, RX3, RX2], va_AO X s) (hP : hw D B ad w H) (hS : va_S (ab B) s.heap H locs) : PreS s H (Pre4 D B ad w As) As :=
  ⟨pre4_blind, fun U hU hW => ⟨rfl, ⟨cx_to hC hS hU hW, fun X hX => (hov X hX).moved hW.alike⟩, by rw [hU]; exact hP⟩⟩
